/-! ===== above, and who overrides whom: pure ===== -/
theorem BelS_trans {τ : St} (hW : W0 τ) : ∀ (a : Nat), a < nT τ → ∀ b c, BelS τ a b = true → BelS τ b c = true → BelS τ a c = true := by
  intro a
  have hTl := w0_tl hW
  induction a using Nat.strongRecOn with
  | ind a ih =>
    intro ha b c h1 h2
    rw [BelS_eq hW ha, Bool.or_eq_true] at h1 ⊢
    rcases h1 with h | h
    · left
      rcases w0_pa hW ha with q | ⟨p, hp, q⟩
      · simp [upF, q] at h
      · have hn : ¬ τ 3 a = -1 := by rw [q]; exact nI_m1 (by omega)
        rw [upF, if_neg hn, q, nN, nI_clamp (by omega)] at h ⊢
        simp only [Bool.or_eq_true, decide_eq_true_eq] at h ⊢
        right
        rcases h with rfl | h
        · exact h2
        · exact ih p hp (by omega) b c h h2
    · right
      obtain ⟨k, hk, hf⟩ := anyN_iff.mp h
      have hl := w0_fcl hW ha hk
      refine anyN_iff.mpr ⟨k, hk, ?_⟩
      simp only [fcF, Bool.or_eq_true, decide_eq_true_eq] at hf ⊢
      right
      rcases hf with rfl | hf
      · exact h2
      · exact ih _ hl (by omega) b c hf h2
section OVM
variable {τ σ : St}
theorem i_kind (h : Inv τ σ) {t : Nat} (ht : t < nT τ) : τ 1 t = 0 ∨ τ 1 t = 1 ∨ τ 1 t = 2 := (h.1.2.1 t ht).1
theorem i_pk (h : Inv τ σ) {t : Nat} (ht : t < nT τ) : ∃ p, p < 4 ∧ τ 2 t = nI p := (h.1.2.1 t ht).2.1
theorem i_pcl (h : Inv τ σ) {t : Nat} (ht : t < nT τ) (hp : ¬ τ 3 t = -1) : ¬ τ 1 t = 2 ∧ ¬ τ 1 (nN (τ 3 t)) = 2 := (h.1.2.1 t ht).2.2.1 hp
theorem i_fif (h : Inv τ σ) {t k : Nat} (ht : t < nT τ) (hk : k < nF τ t) : τ 1 (Fc τ t k) = 2 := (h.1.2.1 t ht).2.2.2.1 k hk
theorem i_fne (h : Inv τ σ) {t k k' : Nat} (ht : t < nT τ) (hk : k < nF τ t) (hk' : k' < nF τ t) (e : Fc τ t k = Fc τ t k') : k = k' := (h.1.2.1 t ht).2.2.2.2 k k' hk hk' e
theorem ifc_up (h : Inv τ σ) {u : Nat} : ∀ (t : Nat), t < nT τ → τ 1 t = 2 → BelS τ t u = true → τ 1 u = 2 := by
  intro t
  have hTl := w0_tl (iW h)
  induction t using Nat.strongRecOn with
  | ind t ih =>
    intro ht hk hb
    rw [BelS_eq (iW h) ht, Bool.or_eq_true] at hb
    rcases hb with hb | hb
    · by_cases hp : τ 3 t = -1
      · simp [upF, hp] at hb
      · exact absurd hk (i_pcl h ht hp).1
    · obtain ⟨k, hkk, hf⟩ := anyN_iff.mp hb
      have hl := w0_fcl (iW h) ht hkk
      simp only [fcF, Bool.or_eq_true, decide_eq_true_eq] at hf
      rcases hf with rfl | hf
      · exact i_fif h ht hkk
      · exact ih _ hl (by omega) (i_fif h ht hkk) hf
/-- a class above a class is on the chain of parents -/
theorem cls_par (h : Inv τ σ) {t u : Nat} (ht : t < nT τ) (hu : ¬ τ 1 u = 2) (hb : BelS τ t u = true) : ∃ p, p < t ∧ τ 3 t = nI p ∧ (u = p ∨ BelS τ p u = true) := by
  have hTl := w0_tl (iW h)
  rw [BelS_eq (iW h) ht, Bool.or_eq_true] at hb
  rcases hb with hb | hb
  · rcases w0_pa (iW h) ht with q | ⟨p, hp, q⟩
    · simp [upF, q] at hb
    · have hn : ¬ τ 3 t = -1 := by rw [q]; exact nI_m1 (by omega)
      rw [upF, if_neg hn, q, nN, nI_clamp (by omega)] at hb
      simp only [Bool.or_eq_true, decide_eq_true_eq] at hb
      exact ⟨p, hp, q, hb⟩
  · obtain ⟨k, hkk, hf⟩ := anyN_iff.mp hb
    have hl := w0_fcl (iW h) ht hkk
    simp only [fcF, Bool.or_eq_true, decide_eq_true_eq] at hf
    rcases hf with rfl | hf
    · exact absurd (i_fif h ht hkk) hu
    · exact absurd (ifc_up h _ (by omega) (i_fif h ht hkk) hf) hu
theorem i_tr (h : Inv τ σ) {a b c : Nat} (ha : a < nT τ) (hb : b < nT τ) (hc : c < nT τ) (h1 : Bel τ a b = true) (h2 : Bel τ b c = true) : Bel τ a c = true := by
  have hTl := w0_tl (iW h)
  rw [i_bel h ha (by omega)] at h1 ⊢
  rw [i_bel h hb (by omega)] at h2
  exact BelS_trans (iW h) a ha b c h1 h2
theorem ovb_of {m o : Nat} (h : ovB τ m o = true) : Bel τ (Of τ m) (Of τ o) = true ∧ τ 10 m = τ 10 o ∧ Hs τ m 8 = false ∧ Hs τ o 8 = false ∧ Hs τ o 4 = false := by
  simp only [ovB, Bool.and_eq_true, decide_eq_true_eq, Bool.not_eq_true'] at h
  exact ⟨h.1.1.1.1, h.1.1.1.2, h.1.1.2, h.1.2, h.2⟩
theorem ovb_mk {m o : Nat} (h1 : Bel τ (Of τ m) (Of τ o) = true) (h2 : τ 10 m = τ 10 o) (h3 : Hs τ m 8 = false) (h4 : Hs τ o 8 = false) (h5 : Hs τ o 4 = false) : ovB τ m o = true := by
  simp [ovB, h1, h2, h3, h4, h5]
theorem ovS_ovB (h : Inv τ σ) {m o : Nat} (hm : m < nM τ) (ho : o < nM τ) (hv : OvS τ m o = true) : ovB τ m o = true := by
  rw [OvS_eq (iW h) (i_dn h) hm ho, Bool.and_eq_true] at hv
  exact hv.1
/-- one between: m overrides z, z overrides o, so m overrides o -/
theorem ovS_tr (h : Inv τ σ) {m z o : Nat} (hm : m < nM τ) (hz : z < nM τ) (ho : o < nM τ) (h1 : OvS τ m z = true) (h2 : OvS τ z o = true) : OvS τ m o = true := by
  have a := ovb_of (ovS_ovB h hm hz h1)
  have b := ovb_of (ovS_ovB h hz ho h2)
  have e1 := w0_ofl (iW h) hm
  have e2 := w0_ofl (iW h) hz
  have e3 := w0_ofl (iW h) ho
  rw [OvS_eq (iW h) (i_dn h) hm ho, ovb_mk (i_tr h e1 e2 e3 a.1 b.1) (a.2.1.trans b.2.1) a.2.2.1 b.2.2.2.1 b.2.2.2.2, Bool.true_and, Bool.or_eq_true]
  right
  refine anyN_iff.mpr ⟨z, hz, ?_⟩
  simp [ovX, ovW, a.2.1, b.1, a.1, h1, h2]
/-- a member of that name, overridden by m, in a type between, in the package of k -/
def opn (τ : St) (m : Nat) (t : Nat) (pk : Int32) : Prop := ∃ z, z < nM τ ∧ OvS τ m z = true ∧ Bel τ (Of τ z) t = true ∧ τ 2 (Of τ z) = pk
theorem reach1 (h : Inv τ σ) {m k : Nat} (hm : m < nM τ) (hk : k < nM τ) (hi : Ifc τ k = false) (hx : HX τ k 3 = false) : ∀ (d z : Nat), z < nM τ → Of τ z ≤ d → OvS τ m z = true → OvS τ z k = true → opn τ m (Of τ k) (τ 2 (Of τ k)) := by
  intro d
  have hTl := w0_tl (iW h)
  induction d with
  | zero =>
    intro z hz hd h1 h2
    have b := ovb_of (ovS_ovB h hz hk h2)
    have := i_dn h _ _ (w0_ofl (iW h) hz) (by have := w0_ofl (iW h) hk; omega) b.1
    omega
  | succ d ih =>
    intro z hz hd h1 h2
    have b := ovb_of (ovS_ovB h hz hk h2)
    have h3 := h2
    rw [OvS_eq (iW h) (i_dn h) hz hk, Bool.and_eq_true, Bool.or_eq_true] at h3
    rcases h3.2 with q | q
    · rw [ovE, hi, Bool.false_or, seen_ok b.2.2.2.2, hx, Bool.false_or, decide_eq_true_eq] at q
      exact ⟨z, hz, h1, b.1, q⟩
    · obtain ⟨w, hw, hq⟩ := anyN_iff.mp q
      simp only [ovX, Bool.and_eq_true] at hq
      have c := ovb_of (ovS_ovB h hz hw hq.1.2)
      have := i_dn h _ _ (w0_ofl (iW h) hz) (by have := w0_ofl (iW h) hw; omega) c.1
      exact ih w hw (by omega) (ovS_tr h hm hz hw h1 hq.1.2) hq.2
/-- the rule of the walk: by the member's own marks, or by a package that was opened -/
theorem reach (h : Inv τ σ) {m k : Nat} (hm : m < nM τ) (hk : k < nM τ) (hb : ovB τ m k = true) (hi : Ifc τ k = false) : OvS τ m k = true ↔ (HX τ k 3 = true ∨ τ 2 (Of τ k) = τ 2 (Of τ m) ∨ opn τ m (Of τ k) (τ 2 (Of τ k))) := by
  have a := ovb_of hb
  have hTl := w0_tl (iW h)
  constructor
  · intro hv
    cases hx : HX τ k 3 with
    | true => exact Or.inl rfl
    | false =>
      right
      rw [OvS_eq (iW h) (i_dn h) hm hk, Bool.and_eq_true, Bool.or_eq_true] at hv
      rcases hv.2 with q | q
      · rw [ovE, hi, Bool.false_or, seen_ok a.2.2.2.2, hx, Bool.false_or, decide_eq_true_eq] at q
        exact Or.inl q.symm
      · obtain ⟨w, hw, hq⟩ := anyN_iff.mp q
        simp only [ovX, Bool.and_eq_true] at hq
        exact Or.inr (reach1 h hm hk hi hx (Of τ w) w hw (Nat.le_refl _) hq.1.2 hq.2)
  · intro hv
    rw [OvS_eq (iW h) (i_dn h) hm hk, hb, Bool.true_and, Bool.or_eq_true]
    rcases hv with q | q | ⟨z, hz, h1, h2, h3⟩
    · left; rw [ovE, seen_ok a.2.2.2.2, q]; simp
    · left; rw [ovE, seen_ok a.2.2.2.2, q]; simp
    · right
      have c := ovb_of (ovS_ovB h hm hz h1)
      have e : OvS τ z k = true := by
        rw [OvS_eq (iW h) (i_dn h) hz hk, ovb_mk h2 (c.2.1.symm.trans a.2.1) c.2.2.2.1 a.2.2.2.1 a.2.2.2.2, Bool.true_and, Bool.or_eq_true]
        left; rw [ovE, seen_ok a.2.2.2.2, h3]; simp
      refine anyN_iff.mpr ⟨z, hz, ?_⟩
      simp [ovX, ovW, c.2.1, h2, c.1, h1, e]
/-- the member of a type with a name -/
def atO (τ : St) (t : Nat) (nm : Int32) : Option Nat := fstN (nM τ) (mbHas τ t nm)
def atV (τ : St) (t : Nat) (nm : Int32) : Int32 := match atO τ t nm with
  | some m => nI m
  | none => -1
theorem atO_some (h : Inv τ σ) {t k : Nat} {nm : Int32} (hk : atO τ t nm = some k) : k < nM τ ∧ Of τ k = t ∧ τ 10 k = nm := by
  obtain ⟨a, b, -⟩ := fstN_is hk
  simp only [mbHas, Bool.and_eq_true, decide_eq_true_eq] at b
  exact ⟨a, b.1, b.2⟩
theorem fstN_nn {n : Nat} {f : Nat → Bool} (h : fstN n f = none) : ∀ x, x < n → f x = false := by
  induction n with
  | zero => intro x hx; omega
  | succ n ih =>
    simp only [fstN] at h
    cases hq : fstN n f with
    | some y => rw [hq] at h; simp at h
    | none =>
      rw [hq] at h
      by_cases hf : f n = true
      · simp [hf] at h
      · intro x hx
        rcases Nat.lt_or_eq_of_le (Nat.le_of_lt_succ hx) with q | rfl
        · exact ih hq x q
        · simpa using hf
theorem atO_none {t k : Nat} {nm : Int32} (h : atO τ t nm = none) (hk : k < nM τ) : ¬ (Of τ k = t ∧ τ 10 k = nm) := by
  have := fstN_nn h k hk
  simpa [mbHas] using this
theorem atO_is (h : Inv τ σ) {k : Nat} (hk : k < nM τ) : atO τ (Of τ k) (τ 10 k) = some k := by
  cases e : atO τ (Of τ k) (τ 10 k) with
  | none => exact absurd ⟨rfl, rfl⟩ (atO_none e hk)
  | some z =>
    obtain ⟨a, b, c⟩ := atO_some h e
    rw [i_uni h a hk b c]
/-- a throw's chain and a set -/
theorem chV_any {pa : Nat → Int32} {N : Nat} (hN : N ≤ 16) (hp : ∀ x, x < N → lessOr (pa x) x) (f : Nat → Bool) : ∀ (w : Nat), w < N → (chV pa f (nI w) = true ↔ ∃ i, i < 32 ∧ chV pa (fun y => decide (y = i)) (nI w) = true ∧ f i = true) := by
  intro w
  induction w using Nat.strongRecOn with
  | ind w ih =>
    intro hw
    rw [chF_step hN hp hw, Bool.or_eq_true]
    have hs : ∀ i, chV pa (fun y => decide (y = i)) (nI w) = (decide (w = i) || chV pa (fun y => decide (y = i)) (pa w)) := fun i => chF_step hN hp hw
    simp only [hs, Bool.or_eq_true, decide_eq_true_eq]
    rcases hp w hw with q | ⟨p, hpp, q⟩
    · rw [q]
      have e : ∀ g : Nat → Bool, chV pa g (-1) = false := fun g => by simp [chV]
      simp only [e]
      constructor
      · rintro (h | h)
        · exact ⟨w, by omega, Or.inl rfl, h⟩
        · cases h
      · rintro ⟨i, hi, h1 | h1, h2⟩
        · subst h1; exact Or.inl h2
        · cases h1
    · rw [q, ih p hpp (by omega)]
      constructor
      · rintro (h | ⟨i, hi, h1, h2⟩)
        · exact ⟨w, by omega, Or.inl rfl, h⟩
        · exact ⟨i, hi, Or.inr h1, h2⟩
      · rintro ⟨i, hi, h1 | h1, h2⟩
        · subst h1; exact Or.inl h2
        · exact Or.inr ⟨i, hi, h1, h2⟩
theorem sub_all (h : Inv τ σ) {w : Nat} (hw : w < nX τ) (a : Int32) : (σ 8 w &&& a = 0) ↔ chV (τ 7) (bitB a) (nI w) = false := by
  have hXl := w0_xl (iW h)
  have key := chV_any (pa := τ 7) (N := nX τ) (by omega) (fun x hx => w0_tp (iW h) hx) (bitB a) w hw
  rw [b_zero]
  constructor
  · intro hz
    cases e : chV (τ 7) (bitB a) (nI w) with
    | false => rfl
    | true =>
      obtain ⟨i, hi, h1, h2⟩ := key.mp e
      have := hz i hi
      rw [b_and, i_st h hw hi, h1, ← bitB_bt hi, h2] at this
      cases this
  · intro hz i hi
    rw [b_and, i_st h hw hi, ← bitB_bt hi]
    cases h1 : chV (τ 7) (fun y => decide (y = i)) (nI w) with
    | false => rfl
    | true =>
      cases h2 : bitB a i with
      | false => rfl
      | true => rw [key.mpr ⟨i, hi, h1, h2⟩] at hz; cases hz
end OVM

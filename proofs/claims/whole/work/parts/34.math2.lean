/-! ===== the walk up the parents: pure ===== -/
section RCH
variable {τ σ : St}
theorem lin (h : Inv τ σ) {a c : Nat} (hac : ¬ τ 1 a = 2) (hcc : ¬ τ 1 c = 2) : ∀ (s : Nat), s < nT τ → BelS τ s a = true → BelS τ s c = true → a = c ∨ BelS τ a c = true ∨ BelS τ c a = true := by
  intro s
  induction s using Nat.strongRecOn with
  | ind s ih =>
    intro hs h1 h2
    obtain ⟨p, hp, e, q1⟩ := cls_par h hs hac h1
    obtain ⟨p', hp', e', q2⟩ := cls_par h hs hcc h2
    have hTl := w0_tl (iW h)
    have : p = p' := (nI_eq (by omega) (by omega)).mp (e.symm.trans e')
    subst this
    rcases q1 with rfl | q1
    · rcases q2 with rfl | q2
      · exact Or.inl rfl
      · exact Or.inr (Or.inl q2)
    · rcases q2 with rfl | q2
      · exact Or.inr (Or.inr q1)
      · exact ih p hp (by omega) q1 q2
def OIv (τ : St) (x t : Nat) (q : Int32) : Prop := ∀ i, i < 32 → (bt q i = true ↔ (τ 2 (Of τ x) = nI i ∨ opn τ x t (nI i)))
theorem par_bel (h : Inv τ σ) {t p : Nat} (ht : t < nT τ) (e : τ 3 t = nI p) (hp : p < t) : Bel τ t p = true := by
  have hTl := w0_tl (iW h)
  rw [i_bel h ht (by omega), BelS_eq (iW h) ht, upF, e, if_neg (nI_m1 (by omega)), nN, nI_clamp (by omega)]
  simp
theorem par_cls (h : Inv τ σ) {t p : Nat} (ht : t < nT τ) (e : τ 3 t = nI p) (hp : p < t) : ¬ τ 1 t = 2 ∧ ¬ τ 1 p = 2 := by
  have hTl := w0_tl (iW h)
  have := i_pcl h ht (by rw [e]; exact nI_m1 (by omega))
  rw [e, nN, nI_clamp (by omega)] at this
  exact this
/-- between a class and its parent there is nobody -/
theorem btw_no (h : Inv τ σ) {s p z : Nat} (hs : s < nT τ) (e : τ 3 s = nI p) (hp : p < s) (hz : z < nT τ) (h1 : Bel τ s z = true) (h2 : Bel τ z p = true) : False := by
  have hTl := w0_tl (iW h)
  have hpc := (par_cls h hs e hp).2
  have hzc : ¬ τ 1 z = 2 := fun q => hpc (ifc_up h z hz q (by rw [← i_bel h hz (by omega)]; exact h2))
  have h3 := i_dn h _ _ hz (by omega) h2
  rw [i_bel h hs (by omega)] at h1
  obtain ⟨p', hp', e', q⟩ := cls_par h hs hzc h1
  have : p = p' := (nI_eq (by omega) (by omega)).mp (e.symm.trans e')
  subst this
  rcases q with rfl | q
  · omega
  · have := BelS_lt (iW h) p (by omega) q; omega
theorem oiv_0 (h : Inv τ σ) {x p pk : Nat} (hx : x < nM τ) (e : τ 3 (Of τ x) = nI p) (hp : p < Of τ x) (hpk : pk < 4) (ep : τ 2 (Of τ x) = nI pk) : OIv τ x p (bit1 pk) := by
  have hTl := w0_tl (iW h)
  have hof := w0_ofl (iW h) hx
  intro i hi
  rw [bt_bit1 (by omega) hi, decide_eq_true_eq, ep]
  constructor
  · rintro rfl; exact Or.inl rfl
  · rintro (q | ⟨z, hz, h1, h2, h3⟩)
    · exact ((nI_eq (by omega) (by omega)).mp q).symm
    · exact absurd (btw_no h hof e hp (w0_ofl (iW h) hz) (ovb_of (ovS_ovB h hx hz h1)).1 h2) id
/-- one type further up -/
theorem opn_up (h : Inv τ σ) {x t p : Nat} {pk : Int32} (hx : x < nM τ) (ht : t < nT τ) (e : τ 3 t = nI p) (hp : p < t) (hb : Bel τ (Of τ x) t = true) : opn τ x p pk ↔ (opn τ x t pk ∨ ∃ z, z < nM τ ∧ OvS τ x z = true ∧ Of τ z = t ∧ τ 2 t = pk) := by
  have hTl := w0_tl (iW h)
  have hof := w0_ofl (iW h) hx
  have hc := par_cls h ht e hp
  have hbp := par_bel h ht e hp
  constructor
  · rintro ⟨z, hz, h1, h2, h3⟩
    have hzt := w0_ofl (iW h) hz
    have a := (ovb_of (ovS_ovB h hx hz h1)).1
    have hzc : ¬ τ 1 (Of τ z) = 2 := fun q => hc.2 (ifc_up h _ hzt q (by rw [← i_bel h hzt (by omega)]; exact h2))
    have a2 := a
    have hb2 := hb
    rw [i_bel h hof (by omega)] at a2 hb2
    rcases lin h hzc hc.1 (Of τ x) hof a2 hb2 with q | q | q
    · exact Or.inr ⟨z, hz, h1, q, by rw [← q]; exact h3⟩
    · exact Or.inl ⟨z, hz, h1, by rw [i_bel h hzt (by omega)]; exact q, h3⟩
    · rw [← i_bel h ht (by omega)] at q
      exact absurd (btw_no h ht e hp hzt q h2) id
  · rintro (⟨z, hz, h1, h2, h3⟩ | ⟨z, hz, h1, h2, h3⟩)
    · exact ⟨z, hz, h1, i_tr h (w0_ofl (iW h) hz) ht (by omega) h2 hbp, h3⟩
    · exact ⟨z, hz, h1, by rw [h2]; exact hbp, by rw [h2]; exact h3⟩
theorem oiv_skip (h : Inv τ σ) {x t p : Nat} {q : Int32} (hO : OIv τ x t q) (hx : x < nM τ) (ht : t < nT τ) (e : τ 3 t = nI p) (hp : p < t) (hb : Bel τ (Of τ x) t = true) (hn : ∀ z, z < nM τ → Of τ z = t → OvS τ x z = true → False) : OIv τ x p q := by
  intro i hi
  rw [hO i hi, opn_up h hx ht e hp hb]
  constructor
  · rintro (a | a)
    · exact Or.inl a
    · exact Or.inr (Or.inl a)
  · rintro (a | a | ⟨z, hz, h1, h2, h3⟩)
    · exact Or.inl a
    · exact Or.inr a
    · exact absurd (hn z hz h2 h1) id
theorem oiv_add (h : Inv τ σ) {x t p k pk : Nat} {q : Int32} (hO : OIv τ x t q) (hx : x < nM τ) (ht : t < nT τ) (e : τ 3 t = nI p) (hp : p < t) (hb : Bel τ (Of τ x) t = true) (hk : k < nM τ) (hkt : Of τ k = t) (hv : OvS τ x k = true) (hpk : pk < 4) (ep : τ 2 t = nI pk) : OIv τ x p (q ||| bit1 pk) := by
  intro i hi
  rw [b_or, Bool.or_eq_true, hO i hi, bt_bit1 (by omega) hi, decide_eq_true_eq, opn_up h hx ht e hp hb]
  constructor
  · rintro ((a | a) | rfl)
    · exact Or.inl a
    · exact Or.inr (Or.inl a)
    · exact Or.inr (Or.inr ⟨k, hk, hv, hkt, ep⟩)
  · rintro (a | a | ⟨z, hz, h1, h2, h3⟩)
    · exact Or.inl (Or.inl a)
    · exact Or.inl (Or.inr a)
    · right
      rw [ep] at h3
      exact ((nI_eq (by omega) (by omega)).mp h3).symm
/-- the walk's test at a type, where a plain member k of the name stands -/
theorem rch_dec (h : Inv τ σ) {x t k pk : Nat} {q : Int32} (hO : OIv τ x t q) (hx : x < nM τ) (hs : Hs τ x 8 = false) (ht : t < nT τ) (htc : ¬ τ 1 t = 2) (hb : Bel τ (Of τ x) t = true) (hk : k < nM τ) (hkt : Of τ k = t) (hkn : τ 10 x = τ 10 k) (hp : Pln τ k = true) (hpk : pk < 4) (ep : τ 2 t = nI pk) : OvS τ x k = (HX τ k 3 || bt q pk) := by
  have hp2 := hp
  simp only [Pln, Bool.and_eq_true, Bool.not_eq_true'] at hp2
  have hB : ovB τ x k = true := ovb_mk (by rw [hkt]; exact hb) hkn hs hp2.1 hp2.2
  have hi : Ifc τ k = false := by rw [Ifc, hkt]; simpa using htc
  have R := reach h hx hk hB hi
  rw [Bool.eq_iff_iff, Bool.or_eq_true, R, hO pk (by omega), hkt, ep]
  constructor
  · rintro (a | a | a)
    · exact Or.inl a
    · exact Or.inr (Or.inl a.symm)
    · exact Or.inr (Or.inr a)
  · rintro (a | a | a)
    · exact Or.inl a
    · exact Or.inr (Or.inl a.symm)
    · exact Or.inr (Or.inr a)
end RCH

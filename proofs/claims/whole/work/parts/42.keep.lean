/-! ===== what holds between calls is kept: the reference ===== -/
def Wt (τ : St) (t : Nat) : Prop := (τ 1 t = 0 ∨ τ 1 t = 1 ∨ τ 1 t = 2) ∧ (∃ p, p < 4 ∧ τ 2 t = nI p) ∧ (¬ τ 3 t = -1 → ¬ τ 1 t = 2 ∧ ¬ τ 1 (nN (τ 3 t)) = 2) ∧ (∀ k, k < nF τ t → τ 1 (Fc τ t k) = 2) ∧ ∀ k k', k < nF τ t → k' < nF τ t → Fc τ t k = Fc τ t k' → k = k'
def Wm (τ : St) (m : Nat) : Prop := (∃ n, n < 8 ∧ τ 10 m = nI n) ∧ mayB (τ 1 (Of τ m)) (τ 12 m) = true ∧ (Rs τ m < 16 → Rs τ m < nT τ)
def Wu (τ : St) : Prop := ∀ m m', m < nM τ → m' < nM τ → Of τ m = Of τ m' → τ 10 m = τ 10 m' → m = m'
theorem W1_done {τ v : St} (hW : W0 τ) (hD : Done τ v) (h1 : ∀ t, t < nT τ → Wt τ t) (h3 : ∀ m, m < nM τ → Wm τ m) (h4 : Wu τ) : W1 v := by
  obtain ⟨A1, O1, rfl, bA, bO, hA, hO⟩ := hD
  refine ⟨W0_14 (W0_6 hW bA) bO, h1, fun t u ht hu => ?_, h3, h4, fun m o hm ho => ?_⟩
  · show nz (A1 (16 * t + u)) = BelS τ t u
    rw [hA t u ht hu, nz_b2i]
  · show nz (O1 (60 * m + o)) = OvS (rwR 6 τ A1) m o
    rw [hO m o hm ho, nz_b2i]
theorem W1_done14 {τ v : St} (hW : W0 τ) (hD : Done14 τ v) (h1 : ∀ t, t < nT τ → Wt τ t) (h2 : ∀ t u, t < nT τ → u < 16 → Bel τ t u = BelS τ t u) (h3 : ∀ m, m < nM τ → Wm τ m) (h4 : Wu τ) : W1 v := by
  obtain ⟨O1, rfl, bO, hO⟩ := hD
  refine ⟨W0_14 hW bO, h1, h2, h3, h4, fun m o hm ho => ?_⟩
  show nz (O1 (60 * m + o)) = OvS τ m o
  rw [hO m o hm ho, nz_b2i]
theorem done_ex {τ : St} (hW : W0 τ) : ∃ v, Done τ v := by
  have hMl := w0_ml hW
  have b01 : ∀ q : Bool, b2i q = 0 ∨ b2i q = 1 := by intro q; cases q <;> simp [b2i]
  obtain ⟨A1, hA1⟩ : ∃ A1 : Nat → Int32, A1 = fun j => b2i (BelS τ (j / 16) (j % 16)) := ⟨_, rfl⟩
  obtain ⟨O1, hO1⟩ : ∃ O1 : Nat → Int32, O1 = fun j => b2i (OvS (rwR 6 τ A1) (j / 60) (j % 60)) := ⟨_, rfl⟩
  refine ⟨_, A1, O1, rfl, fun j => ?_, fun j => ?_, fun t u ht hu => ?_, fun m o hm ho => ?_⟩
  · rw [hA1]; exact b01 _
  · rw [hO1]; exact b01 _
  · rw [hA1]
    show b2i (BelS τ ((16 * t + u) / 16) ((16 * t + u) % 16)) = _
    rw [show (16 * t + u) / 16 = t by omega, show (16 * t + u) % 16 = u by omega]
  · rw [hO1]
    show b2i (OvS (rwR 6 τ A1) ((60 * m + o) / 60) ((60 * m + o) % 60)) = _
    rw [show (60 * m + o) / 60 = m by omega, show (60 * m + o) % 60 = o by omega]
section KP
variable {τ v : St}
theorem inB_nI {x : Int32} {M : Int32} {n : Nat} (hM : M.toInt = n) (h : inB x 0 M = true) : ∃ j, j ≤ n ∧ x = nI j := by
  simp only [inB, Bool.and_eq_true, decide_eq_true_eq] at h
  exact nI_of2 hM (Int32.not_lt.mpr h.1) h.2
theorem goT_of {k p pa : Int32} (hW : W0 τ) (hg : goT τ k p pa = true) : nT τ < 16 ∧ lessOr pa (nT τ) ∧ (k = 0 ∨ k = 1 ∨ k = 2) ∧ (∃ q, q < 4 ∧ p = nI q) ∧ (¬ pa = -1 → ¬ k = 2 ∧ ¬ τ 1 (nN pa) = 2) := by
  simp only [goT, okT, Bool.and_eq_true, Bool.or_eq_true, decide_eq_true_eq, Bool.not_eq_true', decide_eq_false_iff_not] at hg
  obtain ⟨⟨h1, ⟨h2, h3⟩, h4⟩, h5⟩ := hg
  have hTl := w0_tl hW
  refine ⟨by omega, ?_, ?_, ?_, fun q => h4.resolve_left q⟩
  · rcases h1 with h | h
    · exact Or.inl h
    · rcases isT_cases hW pa with q | ⟨t, ht, q⟩
      · rw [q] at h; cases h
      · exact Or.inr ⟨t, ht, q⟩
  · obtain ⟨j, hj, rfl⟩ := inB_nI (n := 2) (by decide) h2
    match j, hj with
    | 0, _ => exact Or.inl rfl
    | 1, _ => exact Or.inr (Or.inl rfl)
    | 2, _ => exact Or.inr (Or.inr rfl)
  · obtain ⟨j, hj, e⟩ := inB_nI (n := 3) (by decide) h3
    exact ⟨j, by omega, e⟩
theorem W1_ty {k p pa : Int32} (h : W1 τ) (hg : goT τ k p pa = true) (hD : Done (tyS τ k p pa) v) : W1 v := by
  obtain ⟨h16, hpa, hk, hp, hpk⟩ := goT_of h.1 hg
  have hn : nT (tyS τ k p pa) = nT τ + 1 := nT_ty h16
  have e1 : ∀ j, ¬ j = nT τ → tyS τ k p pa 1 j = τ 1 j := fun j hj => by
    show upd (τ 1) (nT τ) k j = _
    simp [upd, hj]
  refine W1_done (W0_ty h.1 h16 hpa) hD (fun t ht => ?_) (fun m hm => ?_) h.2.2.2.2.1
  · rw [hn] at ht
    by_cases e : t = nT τ
    · subst e
      have a1 : tyS τ k p pa 1 (nT τ) = k := by show upd (τ 1) (nT τ) k _ = _; simp [upd]
      have a2 : tyS τ k p pa 2 (nT τ) = p := by show upd (τ 2) (nT τ) p _ = _; simp [upd]
      have a3 : tyS τ k p pa 3 (nT τ) = pa := by show upd (τ 3) (nT τ) pa _ = _; simp [upd]
      have a4 : nF (tyS τ k p pa) (nT τ) = 0 := by show (upd (τ 4) (nT τ) 0 (nT τ)).toNatClampNeg = _; simp only [upd, if_true]; decide
      refine ⟨by rw [a1]; exact hk, by rw [a2]; exact hp, ?_, fun k hk => by rw [a4] at hk; omega, fun k k' hk => by rw [a4] at hk; omega⟩
      rw [a1, a3]
      intro q
      refine ⟨(hpk q).1, ?_⟩
      rw [e1]
      · exact (hpk q).2
      · rcases hpa with z | ⟨w, hw, rfl⟩
        · exact absurd z q
        · rw [nN, nI_clamp (by omega)]; omega
    · have ht2 : t < nT τ := by omega
      have a2 : tyS τ k p pa 2 t = τ 2 t := by show upd (τ 2) (nT τ) p _ = _; simp [upd, e]
      have a3 : tyS τ k p pa 3 t = τ 3 t := by show upd (τ 3) (nT τ) pa _ = _; simp [upd, e]
      have a4 : nF (tyS τ k p pa) t = nF τ t := by show (upd (τ 4) (nT τ) 0 t).toNatClampNeg = _; simp [upd, e, nF]
      obtain ⟨b1, b2, b3, b4, b5⟩ := h.2.1 t ht2
      refine ⟨by rw [e1 t e]; exact b1, by rw [a2]; exact b2, ?_, ?_, ?_⟩
      · rw [e1 t e, a3]
        intro q
        refine ⟨(b3 q).1, ?_⟩
        rw [e1]
        · exact (b3 q).2
        · rcases w0_pa h.1 ht2 with z | ⟨w, hw, z⟩
          · exact absurd z q
          · rw [z, nN, nI_clamp (by omega)]; omega
      · rw [a4]
        intro k0 hk0
        have := w0_fcl h.1 ht2 hk0
        show tyS τ k p pa 1 (Fc τ t k0) = 2
        rw [e1 _ (by omega)]
        exact b4 k0 hk0
      · rw [a4]
        exact b5
  · have hm : m < nM τ := hm
    obtain ⟨b1, b2, b3⟩ := h.2.2.2.1 m hm
    have := w0_ofl h.1 hm
    refine ⟨b1, ?_, ?_⟩
    · show mayB (tyS τ k p pa 1 (Of τ m)) (τ 12 m) = true
      rw [e1 _ (by omega)]; exact b2
    · rw [hn]
      intro q
      have : Rs τ m < nT τ := b3 q
      show Rs τ m < nT τ + 1
      omega
theorem goF_of {x y : Int32} (hW : W0 τ) (hg : goF τ x y = true) : ∃ t o, x = nI t ∧ y = nI o ∧ t < nT τ ∧ o < t ∧ τ 1 o = 2 ∧ anyN (nF τ t) (fcHas τ t o) = false ∧ nF τ t < 3 := by
  have hTl := w0_tl hW
  simp only [goF, okF, Bool.and_eq_true, decide_eq_true_eq, Bool.not_eq_true', decide_eq_false_iff_not] at hg
  obtain ⟨⟨⟨h1, h2⟩, ⟨h3, h4⟩, h5⟩, h6⟩ := hg
  rcases isT_cases hW x with q | ⟨t, ht, rfl⟩
  · rw [q] at h1; cases h1
  rcases isT_cases hW y with q | ⟨o, ho, rfl⟩
  · rw [q] at h2; cases h2
  rw [nN, nI_clamp (by omega)] at h3 h4 h5
  rw [nN, nI_clamp (by omega)] at h4 h5 h6
  have := w0_fl hW ht
  exact ⟨t, o, rfl, rfl, ht, h4, h3, h5, by omega⟩
theorem Fc_fc {t o : Nat} (hTl : nT τ ≤ 16) (ht : t < nT τ) (ho : o < t) (u k : Nat) (hf : nF τ t < 3) (hk : k < 3) : Fc (fcS τ t o) u k = if u = t ∧ k = nF τ t then o else Fc τ u k := by
  show (upd (τ 5) (3 * t + nF τ t) (nI o) (3 * u + k)).toNatClampNeg = _
  by_cases e : u = t ∧ k = nF τ t
  · rw [if_pos e, e.1, e.2]
    simp only [upd, if_true]
    exact nI_clamp (by omega)
  · rw [if_neg e]
    have : ¬ 3 * u + k = 3 * t + nF τ t := fun q => e ⟨by omega, by omega⟩
    simp only [upd, this, if_false]; rfl
theorem W1_fc {t o : Nat} (h : W1 τ) (ht : t < nT τ) (ho : o < t) (hko : τ 1 o = 2) (hfo : anyN (nF τ t) (fcHas τ t o) = false) (hf : nF τ t < 3) (hD : Done (fcS τ t o) v) : W1 v := by
  have hTl := w0_tl h.1
  refine W1_done (W0_fc h.1 ht ho hf) hD (fun u hu => ?_) h.2.2.2.1 h.2.2.2.2.1
  have hu : u < nT τ := hu
  obtain ⟨b1, b2, b3, b4, b5⟩ := h.2.1 u hu
  have hfu := w0_fl h.1 hu
  have hn := nF_fc (τ := τ) (o := o) hf u
  have no : ∀ k, k < nF τ t → ¬ Fc τ t k = o := fun k hk q => by
    have := anyN_t (f := fcHas τ t o) hk (by simp [fcHas, q])
    rw [hfo] at this; cases this
  refine ⟨b1, b2, b3, fun k hk => ?_, fun k k' hk hk' => ?_⟩
  · rw [hn] at hk
    show τ 1 (Fc (fcS τ t o) u k) = 2
    by_cases e : u = t
    · subst e
      simp only [if_true] at hk
      rw [Fc_fc hTl ht ho _ _ hf (by omega)]
      by_cases e2 : k = nF τ u
      · rw [if_pos ⟨rfl, e2⟩]; exact hko
      · rw [if_neg (fun q => e2 q.2)]; exact b4 k (by omega)
    · simp only [e, if_false] at hk
      rw [Fc_fc hTl ht ho _ _ hf (by omega), if_neg (fun q => e q.1)]
      exact b4 k hk
  · rw [hn] at hk hk'
    by_cases e : u = t
    · subst e
      simp only [if_true] at hk hk'
      rw [Fc_fc hTl ht ho _ _ hf (by omega), Fc_fc hTl ht ho _ _ hf (by omega)]
      by_cases e2 : k = nF τ u
      · rw [if_pos ⟨rfl, e2⟩]
        by_cases e3 : k' = nF τ u
        · intro _; omega
        · rw [if_neg (fun q => e3 q.2)]
          intro q
          exact absurd q.symm (no k' (by omega))
      · rw [if_neg (fun q => e2 q.2)]
        by_cases e3 : k' = nF τ u
        · rw [if_pos ⟨rfl, e3⟩]
          intro q
          exact absurd q (no k (by omega))
        · rw [if_neg (fun q => e3 q.2)]
          exact b5 k k' (by omega) (by omega)
    · simp only [e, if_false] at hk hk'
      rw [Fc_fc hTl ht ho _ _ hf (by omega), if_neg (fun q => e q.1), Fc_fc hTl ht ho _ _ hf (by omega), if_neg (fun q => e q.1)]
      exact b5 k k' hk hk'
theorem goM_of {x nm rs mk : Int32} (hW : W0 τ) (hg : goM τ x nm rs mk = true) : ∃ t n r, x = nI t ∧ nm = nI n ∧ rs = nI r ∧ t < nT τ ∧ n < 8 ∧ r < 20 ∧ (r < 16 → r < nT τ) ∧ mayB (τ 1 t) mk = true ∧ anyN (nM τ) (mbHas τ t nm) = false ∧ nM τ < 60 := by
  have hTl := w0_tl hW
  have hMl := w0_ml hW
  simp only [goM, unM, okM, Bool.and_eq_true, Bool.not_eq_true', decide_eq_false_iff_not] at hg
  obtain ⟨⟨⟨h1, h2⟩, ⟨⟨h3, h4⟩, h5⟩, h6⟩, h7⟩ := hg
  rcases isT_cases hW x with q | ⟨t, ht, rfl⟩
  · rw [q] at h1; cases h1
  rw [nN, nI_clamp (by omega)] at h5 h6
  obtain ⟨n, hn, rfl⟩ := inB_nI (n := 7) (by decide) h3
  obtain ⟨r, hr, rfl⟩ := inB_nI (n := 19) (by decide) h4
  refine ⟨t, n, r, rfl, rfl, rfl, ht, by omega, by omega, fun q => ?_, h5, h6, by omega⟩
  rw [w0_t hW, inB] at h2
  rcases Nat.lt_or_ge r (nT τ) with z | z
  · exact z
  · exfalso
    rw [show decide (nI (nT τ) ≤ nI r) = true from decide_eq_true ((nI_leI (by omega) (by omega)).mpr z), show decide (nI r ≤ 15) = true from decide_eq_true ((nI_leI (b := 15) (by omega) (by omega)).mpr (by omega))] at h2
    cases h2
theorem W1_mb {t n r : Nat} {mk : Int32} (h : W1 τ) (ht : t < nT τ) (hn : n < 8) (hr : r < 20) (hr2 : r < 16 → r < nT τ) (hmk : mayB (τ 1 t) mk = true) (hno : anyN (nM τ) (mbHas τ t (nI n)) = false) (hm60 : nM τ < 60) (hD : Done14 (mbS τ t (nI n) (nI r) mk) v) : W1 v := by
  have hTl := w0_tl h.1
  have e := nM_mb (τ := τ) (t := t) (nm := nI n) (rs := nI r) (mk := mk) hm60
  have no : ∀ m, m < nM τ → ¬ (Of τ m = t ∧ τ 10 m = nI n) := fun m hm q => by
    have := anyN_t (f := mbHas τ t (nI n)) hm (by simp [mbHas, q])
    rw [hno] at this; cases this
  have oN : Of (mbS τ t (nI n) (nI r) mk) (nM τ) = t := by
    show (upd (τ 9) (nM τ) (nI t) (nM τ)).toNatClampNeg = _
    simp only [upd, if_true]; exact nI_clamp (by omega)
  have oO : ∀ m, ¬ m = nM τ → Of (mbS τ t (nI n) (nI r) mk) m = Of τ m := fun m hm => by
    show (upd (τ 9) (nM τ) (nI t) m).toNatClampNeg = _
    simp [upd, hm, Of]
  have nN' : mbS τ t (nI n) (nI r) mk 10 (nM τ) = nI n := by show upd (τ 10) (nM τ) (nI n) _ = _; simp [upd]
  have nO : ∀ m, ¬ m = nM τ → mbS τ t (nI n) (nI r) mk 10 m = τ 10 m := fun m hm => by show upd (τ 10) (nM τ) (nI n) _ = _; simp [upd, hm]
  have rN : Rs (mbS τ t (nI n) (nI r) mk) (nM τ) = r := by
    show (upd (τ 11) (nM τ) (nI r) (nM τ)).toNatClampNeg = _
    simp only [upd, if_true]; exact nI_clamp (by omega)
  have rO : ∀ m, ¬ m = nM τ → Rs (mbS τ t (nI n) (nI r) mk) m = Rs τ m := fun m hm => by
    show (upd (τ 11) (nM τ) (nI r) m).toNatClampNeg = _
    simp [upd, hm, Rs]
  have kN : mbS τ t (nI n) (nI r) mk 12 (nM τ) = mk := by show upd (τ 12) (nM τ) mk _ = _; simp [upd]
  have kO : ∀ m, ¬ m = nM τ → mbS τ t (nI n) (nI r) mk 12 m = τ 12 m := fun m hm => by show upd (τ 12) (nM τ) mk _ = _; simp [upd, hm]
  refine W1_done14 (W0_mb h.1 ht hm60 ⟨r, hr, rfl⟩) hD h.2.1 h.2.2.1 (fun m hm => ?_) (fun m m' hm hm' => ?_)
  · rw [e] at hm
    by_cases q : m = nM τ
    · subst q
      refine ⟨⟨n, hn, nN'⟩, ?_, ?_⟩
      · rw [oN, kN]; exact hmk
      · rw [rN]; exact hr2
    · have hm2 : m < nM τ := by omega
      obtain ⟨b1, b2, b3⟩ := h.2.2.2.1 m hm2
      refine ⟨by rw [nO m q]; exact b1, ?_, ?_⟩
      · rw [oO m q, kO m q]; exact b2
      · rw [rO m q]; exact b3
  · rw [e] at hm hm'
    by_cases q : m = nM τ
    · by_cases q' : m' = nM τ
      · intro _ _; omega
      · subst q
        rw [oN, nN', oO m' q', nO m' q']
        intro a1 a2
        exact absurd ⟨a1.symm, a2.symm⟩ (no m' (by omega))
    · by_cases q' : m' = nM τ
      · subst q'
        rw [oN, nN', oO m q, nO m q]
        intro a1 a2
        exact absurd ⟨a1, a2⟩ (no m (by omega))
      · rw [oO m q, nO m q, oO m' q', nO m' q']
        exact h.2.2.2.2.1 m m' (by omega) (by omega)
theorem W1_th {pa : Int32} {q : Bool} (h : W1 τ) (h8 : nX τ < 8) (hp : lessOr pa (nX τ)) : W1 (thS τ pa q) := by
  have e : nX (thS τ pa q) = nX τ + 1 := nI_clamp (by omega)
  refine ⟨⟨h.1.1, ⟨by rw [e]; rfl, by omega⟩, h.1.2.2.1, h.1.2.2.2.1, fun x hx => ?_, h.1.2.2.2.2.2.1, h.1.2.2.2.2.2.2.1, ?_, h.1.2.2.2.2.2.2.2.2⟩, h.2⟩
  · rw [e] at hx
    show lessOr (upd (τ 7) (nX τ) pa x) x
    by_cases z : x = nX τ
    · subst z; simp only [upd, if_true]; exact hp
    · simp only [upd, z, if_false]; exact w0_tp h.1 (by omega)
  · exact bool01_upd (A := τ 8) h.1.2.2.2.2.2.2.2.1 (by cases q <;> simp [b2i])
theorem W1_to {m w : Nat} (h : W1 τ) : W1 (toS τ m w) := h
theorem W1_cl (h : W1 τ) : W1 (clS τ) := by
  have e0 : nT (clS τ) = 0 := rfl
  have e1 : nX (clS τ) = 0 := rfl
  have e2 : nM (clS τ) = 0 := rfl
  refine ⟨⟨⟨rfl, by rw [e0]; omega⟩, ⟨rfl, by rw [e1]; omega⟩, ⟨rfl, by rw [e2]; omega⟩, fun t ht => by rw [e0] at ht; omega, fun t ht => by rw [e1] at ht; omega, fun t ht => by rw [e2] at ht; omega, h.1.2.2.2.2.2.2⟩, fun t ht => by rw [e0] at ht; omega, fun t u ht => by rw [e0] at ht; omega, fun t ht => by rw [e2] at ht; omega, fun t u ht => by rw [e2] at ht; omega, fun t u ht => by rw [e2] at ht; omega⟩
theorem W1_lg {A B C : Nat → Int32} {n : Int32} (h : W1 τ) : W1 (lgS τ A B C n) := h
theorem W1_sm (h : W1 τ) (hs : Sm τ v) : W1 v := by
  obtain ⟨A, B, C, n, rfl⟩ := hs
  exact W1_lg h
theorem RX_sm {σ : St} (h : RX τ σ) (hs : Sm τ v) : RX v σ := by
  obtain ⟨A, B, C, n, rfl⟩ := hs
  exact h
end KP

/-! ===== the reference: what its public methods answer, those that change nothing but the noted faults ===== -/
theorem nI_lo {t n : Nat} (h : t < n) (hn : n ≤ 60) : inB (nI t) 0 (nI n - 1) = true := by
  have h1 : (0 : Int32) ≤ nI t := nI_pos' (by omega)
  have h2 : nI n - 1 = nI (n - 1) := by
    have := pk_sub (a := n) (b := 1) (by omega)
    exact this
  rw [inB, h2]
  simp [h1, nI_le (a := t) (b := n - 1) (by omega) (by omega)]
theorem inB_cases {x : Int32} {n : Nat} (hn : n ≤ 60) : inB x 0 (nI n - 1) = false ∨ ∃ t, t < n ∧ x = nI t := by
  by_cases h0 : x < 0
  · left
    simp [inB, Int32.not_le.mpr h0]
  · obtain ⟨j, hj, rfl⟩ := nI_of h0
    rcases Nat.lt_or_ge j n with q | q
    · exact Or.inr ⟨j, q, rfl⟩
    · left
      rcases Nat.eq_zero_or_pos n with h | h
      · subst h
        have : ¬ nI j ≤ nI 0 - 1 := by
          intro h2
          have h3 : nI 0 - 1 < (0 : Int32) := by decide
          exact absurd (Int32.lt_of_le_of_lt h2 h3) (nI_pos (n := j) hj)
        simp [inB, this]
      · have h2 : nI n - 1 = nI (n - 1) := pk_sub (a := n) (b := 1) (by omega)
        have : ¬ nI j ≤ nI (n - 1) := nI_ge (by omega) (by omega)
        simp [inB, h2, this]
theorem isT_nI {τ : St} (hW : W0 τ) {t : Nat} (h : t < nT τ) : isT τ (nI t) = true := by
  have := w0_tl hW
  rw [isT, w0_t hW]; exact nI_lo h (by omega)
theorem isM_nI {τ : St} (hW : W0 τ) {t : Nat} (h : t < nM τ) : isM τ (nI t) = true := by
  rw [isM, w0_m hW]; exact nI_lo h (w0_ml hW)
theorem isT_cases {τ : St} (hW : W0 τ) (x : Int32) : isT τ x = false ∨ ∃ t, t < nT τ ∧ x = nI t := by
  have := w0_tl hW
  rw [isT, w0_t hW]; exact inB_cases (by omega)
theorem isM_cases {τ : St} (hW : W0 τ) (x : Int32) : isM τ x = false ∨ ∃ t, t < nM τ ∧ x = nI t := by
  rw [isM, w0_m hW]; exact inB_cases (w0_ml hW)
def cntN : Nat → (Nat → Bool) → Nat
  | 0, _ => 0
  | n + 1, f => cntN n f + (bif f n then 1 else 0)
theorem cntN_le (f : Nat → Bool) : ∀ n, cntN n f ≤ n
  | 0 => Nat.le_refl 0
  | n + 1 => by have := cntN_le f n; simp only [cntN]; cases f n <;> simp <;> omega
def sumN : Nat → (Nat → Nat) → Nat
  | 0, _ => 0
  | n + 1, f => sumN n f + f n
theorem sumN_le (f : Nat → Nat) (B : Nat) (h : ∀ i, f i ≤ B) : ∀ n, sumN n f ≤ n * B
  | 0 => by simp [sumN]
  | n + 1 => by have := sumN_le f B h n; have := h n; simp only [sumN, Nat.succ_mul]; omega
abbrev nN (x : Int32) : Nat := x.toNatClampNeg
def aSub (τ : St) (x y : Int32) : Int32 := if (isT τ x && isT τ y) = true then b2i (SubB τ (nN x) (nN y)) else -2
def aOvr (τ : St) (x y : Int32) : Int32 := if (isM τ x && isM τ y) = true then b2i (Ov τ (nN x) (nN y)) else -2
def aHid (τ : St) (x y : Int32) : Int32 := if (isM τ x && isM τ y) = true then b2i (Hid τ (nN x) (nN y)) else -2
def aChs (τ : St) (x y : Int32) : Int32 := if (isT τ x && isM τ y) = true then (if (decide (τ 1 (nN x) = 2) || !Pln τ (nN y) || !SubB τ (nN x) (Of τ (nN y))) = true then -3 else Chs τ (nN x) (nN y)) else -2
def aChk (τ : St) (x : Int32) : Int32 := if isT τ x = true then nI (jdg τ (nN x)).length else -2
def fPick (w : Int32) (q : Ft) : Int32 := if w = 0 then q.1 else if w = 1 then q.2.1 else q.2.2
def aFlt (τ : St) (x i w : Int32) : Int32 := if isT τ x = true then (if inB w 0 2 = true then (if i < 0 then -1 else match (jdg τ (nN x))[nN i]? with
  | some q => fPick w q
  | none => -1) else -3) else -2
def brV (τ : St) (m v : Nat) : Nat → Bool := fun o => Ov τ m o && decide (Rs τ o = v)
def brW (τ : St) (m : Nat) : Nat → Bool := fun v => anyN (nM τ) (brV τ m v) && !decide (v = Rs τ m)
def brM (τ : St) (t : Nat) : Nat → Nat := fun m => bif decide (Of τ m = t) && !Hs τ m 8 && !Hs τ m 32 then cntN 20 (brW τ m) else 0
def aBrg (τ : St) (x : Int32) : Int32 := if isT τ x = true then nI (sumN (nM τ) (brM τ (nN x))) else -2
def fsC (τ : St) (t i : Nat) (a : Int32) : Bool := decide (Of τ i = t) && decide (a < nI (cntN (nM τ) (Ov τ i)))
def fsF (τ : St) (t : Nat) : Nat → Int32 × Int32
  | 0 => (-1, -1)
  | i + 1 => if fsC τ t i (fsF τ t i).2 = true then (nI i, nI (cntN (nM τ) (Ov τ i))) else fsF τ t i
def aFst (τ : St) (x : Int32) : Int32 := if isT τ x = true then (fsF τ (nN x) (nM τ)).1 else -2
def aTld (τ : St) (x : Int32) : Int32 := if x = 3 then nI (sumN (nT τ) (fun t => (jdg τ t).length)) else if x = 0 then τ 0 0 else if x = 1 then τ 0 1 else if x = 2 then τ 0 2 else -3
theorem brM_le {τ : St} {t : Nat} : ∀ i, brM τ t i ≤ 20 := by
  intro i
  have := cntN_le (brW τ i) 20
  simp only [brM]
  cases (decide (Of τ i = t) && !Hs τ i 8 && !Hs τ i 32) <;> simp <;> omega
set_option maxRecDepth 100000 in
set_option maxHeartbeats 4000000 in
theorem cr_X6_sub {l : Launch} {D : va_G} {cI cZ : ClassId} {b : Nat → Nat} {τ : St} (hW : W0 τ) {x y : Int32} : Cr l yX6_sub cX6_sub 3 (some .int) 2 44 D cI cZ (pM b cI cZ) [.ref (b 0), .int x, .int y] τ (aSub τ x y) := by
  have hTl := w0_tl hW
  have hMl := w0_ml hW
  have cl : ∀ {z : Nat}, z < 2400 → nN (nI z) = z := fun h => nI_clamp (by omega)
  rcases isT_cases hW x with hx | ⟨t, ht, rfl⟩
  · refine Ct.of 0 (by decide) (by simp [Value.category]) (Nat.le_of_ble_eq_true rfl) ?_
    intro p e s m below meth c C
    refine g_aload_n C dX6_sub_0 rfl ?_
    refine g_iload_n C dX6_sub_1 rfl ?_
    refine g_callVr 0 C (cr_X6_isType) mw_X6_isType ml_X6_83 rfl rfl rfl rfl (Nat.le_of_ble_eq_true rfl) dX6_sub_2 ⟨Nat.le_of_ble_eq_true rfl, Nat.le_of_ble_eq_true rfl⟩ ⟨Nat.le_of_ble_eq_true rfl, Nat.le_of_ble_eq_true rfl⟩ ?_
    refine g_ifb_eq (tgt := 16) C dX6_sub_5 (by decide) (fun h5 => ?_) (fun h5 => ?_)
    · refine g_bipush (v := -2) C dX6_sub_16 (by decide) ?_
      refine g_goto (tgt := 35) C dX6_sub_18 (by decide) ?_
      exact g_iret C dX6_sub_35 ⟨rt_i (by simp [aSub, hx]), rfl⟩
    · exact absurd h5 (by simp [hx])
  rcases isT_cases hW y with hy | ⟨u, hu, rfl⟩
  · refine Ct.of 0 (by decide) (by simp [Value.category]) (Nat.le_of_ble_eq_true rfl) ?_
    intro p e s m below meth c C
    refine g_aload_n C dX6_sub_0 rfl ?_
    refine g_iload_n C dX6_sub_1 rfl ?_
    refine g_callVr 0 C (cr_X6_isType) mw_X6_isType ml_X6_83 rfl rfl rfl rfl (Nat.le_of_ble_eq_true rfl) dX6_sub_2 ⟨Nat.le_of_ble_eq_true rfl, Nat.le_of_ble_eq_true rfl⟩ ⟨Nat.le_of_ble_eq_true rfl, Nat.le_of_ble_eq_true rfl⟩ ?_
    refine g_ifb_eq (tgt := 16) C dX6_sub_5 (by decide) (fun h5 => ?_) (fun h5 => ?_)
    · exact absurd h5 (by simp [isT_nI hW ht])
    · refine g_aload_n C dX6_sub_8 rfl ?_
      refine g_iload_n C dX6_sub_9 rfl ?_
      refine g_callVr 0 C (cr_X6_isType) mw_X6_isType ml_X6_83 rfl rfl rfl rfl (Nat.le_of_ble_eq_true rfl) dX6_sub_10 ⟨Nat.le_of_ble_eq_true rfl, Nat.le_of_ble_eq_true rfl⟩ ⟨Nat.le_of_ble_eq_true rfl, Nat.le_of_ble_eq_true rfl⟩ ?_
      refine g_ifb_ne (tgt := 21) C dX6_sub_13 (by decide) (fun h13 => ?_) (fun h13 => ?_)
      · exact absurd h13 (by simp [hy])
      · refine g_bipush (v := -2) C dX6_sub_16 (by decide) ?_
        refine g_goto (tgt := 35) C dX6_sub_18 (by decide) ?_
        exact g_iret C dX6_sub_35 ⟨rt_i (by simp [aSub, hy]), rfl⟩
  refine Ct.of 0 (by decide) (by simp [Value.category]) (Nat.le_of_ble_eq_true rfl) ?_
  intro p e s m below meth c C
  refine g_aload_n C dX6_sub_0 rfl ?_
  refine g_iload_n C dX6_sub_1 rfl ?_
  refine g_callVr 0 C (cr_X6_isType) mw_X6_isType ml_X6_83 rfl rfl rfl rfl (Nat.le_of_ble_eq_true rfl) dX6_sub_2 ⟨Nat.le_of_ble_eq_true rfl, Nat.le_of_ble_eq_true rfl⟩ ⟨Nat.le_of_ble_eq_true rfl, Nat.le_of_ble_eq_true rfl⟩ ?_
  refine g_ifb_eq (tgt := 16) C dX6_sub_5 (by decide) (fun h5 => ?_) (fun h5 => ?_)
  · exact absurd h5 (by simp [isT_nI hW ht])
  · refine g_aload_n C dX6_sub_8 rfl ?_
    refine g_iload_n C dX6_sub_9 rfl ?_
    refine g_callVr 0 C (cr_X6_isType) mw_X6_isType ml_X6_83 rfl rfl rfl rfl (Nat.le_of_ble_eq_true rfl) dX6_sub_10 ⟨Nat.le_of_ble_eq_true rfl, Nat.le_of_ble_eq_true rfl⟩ ⟨Nat.le_of_ble_eq_true rfl, Nat.le_of_ble_eq_true rfl⟩ ?_
    refine g_ifb_ne (tgt := 21) C dX6_sub_13 (by decide) (fun h13 => ?_) (fun h13 => ?_)
    · refine g_aload_n C dX6_sub_21 rfl ?_
      refine g_iload_n C dX6_sub_22 rfl ?_
      refine g_iload_n C dX6_sub_23 rfl ?_
      refine g_callVr 0 C (cr_X6_isSub hW (by omega) (by omega)) mw_X6_isSub ml_X6_94 rfl rfl rfl rfl (Nat.le_of_ble_eq_true rfl) dX6_sub_24 ⟨Nat.le_of_ble_eq_true rfl, Nat.le_of_ble_eq_true rfl⟩ ⟨Nat.le_of_ble_eq_true rfl, Nat.le_of_ble_eq_true rfl⟩ ?_
      refine g_ifb_eq (tgt := 34) C dX6_sub_27 (by decide) (fun h27 => ?_) (fun h27 => ?_)
      · refine g_iconst (v := 0) C dX6_sub_34 (by decide) ?_
        exact g_iret C dX6_sub_35 ⟨rt_i (by simp [aSub, isT_nI hW ht, isT_nI hW hu, cl (show t < 2400 by omega), cl (show u < 2400 by omega), h27, b2i]), rfl⟩
      · refine g_iconst (v := 1) C dX6_sub_30 (by decide) ?_
        refine g_goto (tgt := 35) C dX6_sub_31 (by decide) ?_
        exact g_iret C dX6_sub_35 ⟨rt_i (by simp [aSub, isT_nI hW ht, isT_nI hW hu, cl (show t < 2400 by omega), cl (show u < 2400 by omega), h27, b2i]), rfl⟩
    · exact absurd h13 (by simp [isT_nI hW hu])
set_option maxRecDepth 100000 in
set_option maxHeartbeats 4000000 in
theorem cr_X6_overrides {l : Launch} {D : va_G} {cI cZ : ClassId} {b : Nat → Nat} {τ : St} (hW : W0 τ) {x y : Int32} : Cr l yX6_overrides cX6_overrides 3 (some .int) 2 43 D cI cZ (pM b cI cZ) [.ref (b 0), .int x, .int y] τ (aOvr τ x y) := by
  have hTl := w0_tl hW
  have hMl := w0_ml hW
  have cl : ∀ {z : Nat}, z < 2400 → nN (nI z) = z := fun h => nI_clamp (by omega)
  rcases isM_cases hW x with hx | ⟨t, ht, rfl⟩
  · refine Ct.of 0 (by decide) (by simp [Value.category]) (Nat.le_of_ble_eq_true rfl) ?_
    intro p e s m below meth c C
    refine g_aload_n C dX6_overrides_0 rfl ?_
    refine g_iload_n C dX6_overrides_1 rfl ?_
    refine g_callVr 0 C (cr_X6_isMember) mw_X6_isMember ml_X6_97 rfl rfl rfl rfl (Nat.le_of_ble_eq_true rfl) dX6_overrides_2 ⟨Nat.le_of_ble_eq_true rfl, Nat.le_of_ble_eq_true rfl⟩ ⟨Nat.le_of_ble_eq_true rfl, Nat.le_of_ble_eq_true rfl⟩ ?_
    refine g_ifb_eq (tgt := 16) C dX6_overrides_5 (by decide) (fun h5 => ?_) (fun h5 => ?_)
    · refine g_bipush (v := -2) C dX6_overrides_16 (by decide) ?_
      refine g_goto (tgt := 35) C dX6_overrides_18 (by decide) ?_
      exact g_iret C dX6_overrides_35 ⟨rt_i (by simp [aOvr, hx]), rfl⟩
    · exact absurd h5 (by simp [hx])
  rcases isM_cases hW y with hy | ⟨u, hu, rfl⟩
  · refine Ct.of 0 (by decide) (by simp [Value.category]) (Nat.le_of_ble_eq_true rfl) ?_
    intro p e s m below meth c C
    refine g_aload_n C dX6_overrides_0 rfl ?_
    refine g_iload_n C dX6_overrides_1 rfl ?_
    refine g_callVr 0 C (cr_X6_isMember) mw_X6_isMember ml_X6_97 rfl rfl rfl rfl (Nat.le_of_ble_eq_true rfl) dX6_overrides_2 ⟨Nat.le_of_ble_eq_true rfl, Nat.le_of_ble_eq_true rfl⟩ ⟨Nat.le_of_ble_eq_true rfl, Nat.le_of_ble_eq_true rfl⟩ ?_
    refine g_ifb_eq (tgt := 16) C dX6_overrides_5 (by decide) (fun h5 => ?_) (fun h5 => ?_)
    · exact absurd h5 (by simp [isM_nI hW ht])
    · refine g_aload_n C dX6_overrides_8 rfl ?_
      refine g_iload_n C dX6_overrides_9 rfl ?_
      refine g_callVr 0 C (cr_X6_isMember) mw_X6_isMember ml_X6_97 rfl rfl rfl rfl (Nat.le_of_ble_eq_true rfl) dX6_overrides_10 ⟨Nat.le_of_ble_eq_true rfl, Nat.le_of_ble_eq_true rfl⟩ ⟨Nat.le_of_ble_eq_true rfl, Nat.le_of_ble_eq_true rfl⟩ ?_
      refine g_ifb_ne (tgt := 21) C dX6_overrides_13 (by decide) (fun h13 => ?_) (fun h13 => ?_)
      · exact absurd h13 (by simp [hy])
      · refine g_bipush (v := -2) C dX6_overrides_16 (by decide) ?_
        refine g_goto (tgt := 35) C dX6_overrides_18 (by decide) ?_
        exact g_iret C dX6_overrides_35 ⟨rt_i (by simp [aOvr, hy]), rfl⟩
  refine Ct.of 0 (by decide) (by simp [Value.category]) (Nat.le_of_ble_eq_true rfl) ?_
  intro p e s m below meth c C
  refine g_aload_n C dX6_overrides_0 rfl ?_
  refine g_iload_n C dX6_overrides_1 rfl ?_
  refine g_callVr 0 C (cr_X6_isMember) mw_X6_isMember ml_X6_97 rfl rfl rfl rfl (Nat.le_of_ble_eq_true rfl) dX6_overrides_2 ⟨Nat.le_of_ble_eq_true rfl, Nat.le_of_ble_eq_true rfl⟩ ⟨Nat.le_of_ble_eq_true rfl, Nat.le_of_ble_eq_true rfl⟩ ?_
  refine g_ifb_eq (tgt := 16) C dX6_overrides_5 (by decide) (fun h5 => ?_) (fun h5 => ?_)
  · exact absurd h5 (by simp [isM_nI hW ht])
  · refine g_aload_n C dX6_overrides_8 rfl ?_
    refine g_iload_n C dX6_overrides_9 rfl ?_
    refine g_callVr 0 C (cr_X6_isMember) mw_X6_isMember ml_X6_97 rfl rfl rfl rfl (Nat.le_of_ble_eq_true rfl) dX6_overrides_10 ⟨Nat.le_of_ble_eq_true rfl, Nat.le_of_ble_eq_true rfl⟩ ⟨Nat.le_of_ble_eq_true rfl, Nat.le_of_ble_eq_true rfl⟩ ?_
    refine g_ifb_ne (tgt := 21) C dX6_overrides_13 (by decide) (fun h13 => ?_) (fun h13 => ?_)
    · refine g_aload_n C dX6_overrides_21 rfl ?_
      refine g_iload_n C dX6_overrides_22 rfl ?_
      refine g_iload_n C dX6_overrides_23 rfl ?_
      refine g_callVr 0 C (cr_X6_isOver hW (by omega) (by omega)) mw_X6_isOver ml_X6_129 rfl rfl rfl rfl (Nat.le_of_ble_eq_true rfl) dX6_overrides_24 ⟨Nat.le_of_ble_eq_true rfl, Nat.le_of_ble_eq_true rfl⟩ ⟨Nat.le_of_ble_eq_true rfl, Nat.le_of_ble_eq_true rfl⟩ ?_
      refine g_ifb_eq (tgt := 34) C dX6_overrides_27 (by decide) (fun h27 => ?_) (fun h27 => ?_)
      · refine g_iconst (v := 0) C dX6_overrides_34 (by decide) ?_
        exact g_iret C dX6_overrides_35 ⟨rt_i (by simp [aOvr, isM_nI hW ht, isM_nI hW hu, cl (show t < 2400 by omega), cl (show u < 2400 by omega), h27, b2i]), rfl⟩
      · refine g_iconst (v := 1) C dX6_overrides_30 (by decide) ?_
        refine g_goto (tgt := 35) C dX6_overrides_31 (by decide) ?_
        exact g_iret C dX6_overrides_35 ⟨rt_i (by simp [aOvr, isM_nI hW ht, isM_nI hW hu, cl (show t < 2400 by omega), cl (show u < 2400 by omega), h27, b2i]), rfl⟩
    · exact absurd h13 (by simp [isM_nI hW hu])
set_option maxRecDepth 100000 in
set_option maxHeartbeats 4000000 in
theorem cr_X6_hides {l : Launch} {D : va_G} {cI cZ : ClassId} {b : Nat → Nat} {τ : St} (hW : W0 τ) {x y : Int32} : Cr l yX6_hides cX6_hides 3 (some .int) 4 87 D cI cZ (pM b cI cZ) [.ref (b 0), .int x, .int y] τ (aHid τ x y) := by
  have hTl := w0_tl hW
  have hMl := w0_ml hW
  have cl : ∀ {z : Nat}, z < 2400 → nN (nI z) = z := fun h => nI_clamp (by omega)
  rcases isM_cases hW x with hx | ⟨t, ht, rfl⟩
  · refine Ct.of 0 (by decide) (by simp [Value.category]) (Nat.le_of_ble_eq_true rfl) ?_
    intro p e s m below meth c C
    refine g_aload_n C dX6_hides_0 rfl ?_
    refine g_iload_n C dX6_hides_1 rfl ?_
    refine g_callVr 0 C (cr_X6_isMember) mw_X6_isMember ml_X6_97 rfl rfl rfl rfl (Nat.le_of_ble_eq_true rfl) dX6_hides_2 ⟨Nat.le_of_ble_eq_true rfl, Nat.le_of_ble_eq_true rfl⟩ ⟨Nat.le_of_ble_eq_true rfl, Nat.le_of_ble_eq_true rfl⟩ ?_
    refine g_ifb_eq (tgt := 16) C dX6_hides_5 (by decide) (fun h5 => ?_) (fun h5 => ?_)
    · refine g_bipush (v := -2) C dX6_hides_16 (by decide) ?_
      refine g_goto (tgt := 35) C dX6_hides_18 (by decide) ?_
      exact g_iret C dX6_hides_35 ⟨rt_i (by simp [aHid, hx]), rfl⟩
    · exact absurd h5 (by simp [hx])
  rcases isM_cases hW y with hy | ⟨u, hu, rfl⟩
  · refine Ct.of 0 (by decide) (by simp [Value.category]) (Nat.le_of_ble_eq_true rfl) ?_
    intro p e s m below meth c C
    refine g_aload_n C dX6_hides_0 rfl ?_
    refine g_iload_n C dX6_hides_1 rfl ?_
    refine g_callVr 0 C (cr_X6_isMember) mw_X6_isMember ml_X6_97 rfl rfl rfl rfl (Nat.le_of_ble_eq_true rfl) dX6_hides_2 ⟨Nat.le_of_ble_eq_true rfl, Nat.le_of_ble_eq_true rfl⟩ ⟨Nat.le_of_ble_eq_true rfl, Nat.le_of_ble_eq_true rfl⟩ ?_
    refine g_ifb_eq (tgt := 16) C dX6_hides_5 (by decide) (fun h5 => ?_) (fun h5 => ?_)
    · exact absurd h5 (by simp [isM_nI hW ht])
    · refine g_aload_n C dX6_hides_8 rfl ?_
      refine g_iload_n C dX6_hides_9 rfl ?_
      refine g_callVr 0 C (cr_X6_isMember) mw_X6_isMember ml_X6_97 rfl rfl rfl rfl (Nat.le_of_ble_eq_true rfl) dX6_hides_10 ⟨Nat.le_of_ble_eq_true rfl, Nat.le_of_ble_eq_true rfl⟩ ⟨Nat.le_of_ble_eq_true rfl, Nat.le_of_ble_eq_true rfl⟩ ?_
      refine g_ifb_ne (tgt := 21) C dX6_hides_13 (by decide) (fun h13 => ?_) (fun h13 => ?_)
      · exact absurd h13 (by simp [hy])
      · refine g_bipush (v := -2) C dX6_hides_16 (by decide) ?_
        refine g_goto (tgt := 35) C dX6_hides_18 (by decide) ?_
        exact g_iret C dX6_hides_35 ⟨rt_i (by simp [aHid, hy]), rfl⟩
  refine Ct.of 0 (by decide) (by simp [Value.category]) (Nat.le_of_ble_eq_true rfl) ?_
  intro p e s m below meth c C
  refine g_aload_n C dX6_hides_0 rfl ?_
  refine g_iload_n C dX6_hides_1 rfl ?_
  refine g_callVr 0 C (cr_X6_isMember) mw_X6_isMember ml_X6_97 rfl rfl rfl rfl (Nat.le_of_ble_eq_true rfl) dX6_hides_2 ⟨Nat.le_of_ble_eq_true rfl, Nat.le_of_ble_eq_true rfl⟩ ⟨Nat.le_of_ble_eq_true rfl, Nat.le_of_ble_eq_true rfl⟩ ?_
  refine g_ifb_eq (tgt := 16) C dX6_hides_5 (by decide) (fun h5 => ?_) (fun h5 => ?_)
  · exact absurd h5 (by simp [isM_nI hW ht])
  · refine g_aload_n C dX6_hides_8 rfl ?_
    refine g_iload_n C dX6_hides_9 rfl ?_
    refine g_callVr 0 C (cr_X6_isMember) mw_X6_isMember ml_X6_97 rfl rfl rfl rfl (Nat.le_of_ble_eq_true rfl) dX6_hides_10 ⟨Nat.le_of_ble_eq_true rfl, Nat.le_of_ble_eq_true rfl⟩ ⟨Nat.le_of_ble_eq_true rfl, Nat.le_of_ble_eq_true rfl⟩ ?_
    refine g_ifb_ne (tgt := 21) C dX6_hides_13 (by decide) (fun h13 => ?_) (fun h13 => ?_)
    · refine g_aload_n C dX6_hides_21 rfl ?_
      refine g_iload_n C dX6_hides_22 rfl ?_
      refine g_iload_n C dX6_hides_23 rfl ?_
      refine g_callVr 0 C (cr_X6_hidesIt hW (by omega) (by omega)) mw_X6_hidesIt ml_X6_132 rfl rfl rfl rfl (Nat.le_of_ble_eq_true rfl) dX6_hides_24 ⟨Nat.le_of_ble_eq_true rfl, Nat.le_of_ble_eq_true rfl⟩ ⟨Nat.le_of_ble_eq_true rfl, Nat.le_of_ble_eq_true rfl⟩ ?_
      refine g_ifb_eq (tgt := 34) C dX6_hides_27 (by decide) (fun h27 => ?_) (fun h27 => ?_)
      · refine g_iconst (v := 0) C dX6_hides_34 (by decide) ?_
        exact g_iret C dX6_hides_35 ⟨rt_i (by simp [aHid, isM_nI hW ht, isM_nI hW hu, cl (show t < 2400 by omega), cl (show u < 2400 by omega), h27, b2i]), rfl⟩
      · refine g_iconst (v := 1) C dX6_hides_30 (by decide) ?_
        refine g_goto (tgt := 35) C dX6_hides_31 (by decide) ?_
        exact g_iret C dX6_hides_35 ⟨rt_i (by simp [aHid, isM_nI hW ht, isM_nI hW hu, cl (show t < 2400 by omega), cl (show u < 2400 by omega), h27, b2i]), rfl⟩
    · exact absurd h13 (by simp [isM_nI hW hu])
set_option maxRecDepth 100000 in
set_option maxHeartbeats 4000000 in
theorem cr_X6_chosen {l : Launch} {D : va_G} {cI cZ : ClassId} {b : Nat → Nat} {τ : St} (hW : W0 τ) {x y : Int32} : Cr l yX6_chosen cX6_chosen 3 (some .int) 5 113 D cI cZ (pM b cI cZ) [.ref (b 0), .int x, .int y] τ (aChs τ x y) := by
  have hTl := w0_tl hW
  have hMl := w0_ml hW
  have cl : ∀ {z : Nat}, z < 2400 → nN (nI z) = z := fun h => nI_clamp (by omega)
  rcases isT_cases hW x with hx | ⟨t, ht, rfl⟩
  · refine Ct.of 0 (by decide) (by simp [Value.category]) (Nat.le_of_ble_eq_true rfl) ?_
    intro p e s m below meth c C
    refine g_aload_n C dX6_chosen_0 rfl ?_
    refine g_iload_n C dX6_chosen_1 rfl ?_
    refine g_callVr 0 C (cr_X6_isType) mw_X6_isType ml_X6_83 rfl rfl rfl rfl (Nat.le_of_ble_eq_true rfl) dX6_chosen_2 ⟨Nat.le_of_ble_eq_true rfl, Nat.le_of_ble_eq_true rfl⟩ ⟨Nat.le_of_ble_eq_true rfl, Nat.le_of_ble_eq_true rfl⟩ ?_
    refine g_ifb_eq (tgt := 16) C dX6_chosen_5 (by decide) (fun h5 => ?_) (fun h5 => ?_)
    · refine g_bipush (v := -2) C dX6_chosen_16 (by decide) ?_
      exact g_iret C dX6_chosen_18 ⟨rt_i (by simp [aChs, hx]), rfl⟩
    · exact absurd h5 (by simp [hx])
  rcases isM_cases hW y with hy | ⟨u, hu, rfl⟩
  · refine Ct.of 0 (by decide) (by simp [Value.category]) (Nat.le_of_ble_eq_true rfl) ?_
    intro p e s m below meth c C
    refine g_aload_n C dX6_chosen_0 rfl ?_
    refine g_iload_n C dX6_chosen_1 rfl ?_
    refine g_callVr 0 C (cr_X6_isType) mw_X6_isType ml_X6_83 rfl rfl rfl rfl (Nat.le_of_ble_eq_true rfl) dX6_chosen_2 ⟨Nat.le_of_ble_eq_true rfl, Nat.le_of_ble_eq_true rfl⟩ ⟨Nat.le_of_ble_eq_true rfl, Nat.le_of_ble_eq_true rfl⟩ ?_
    refine g_ifb_eq (tgt := 16) C dX6_chosen_5 (by decide) (fun h5 => ?_) (fun h5 => ?_)
    · exact absurd h5 (by simp [isT_nI hW ht])
    · refine g_aload_n C dX6_chosen_8 rfl ?_
      refine g_iload_n C dX6_chosen_9 rfl ?_
      refine g_callVr 0 C (cr_X6_isMember) mw_X6_isMember ml_X6_97 rfl rfl rfl rfl (Nat.le_of_ble_eq_true rfl) dX6_chosen_10 ⟨Nat.le_of_ble_eq_true rfl, Nat.le_of_ble_eq_true rfl⟩ ⟨Nat.le_of_ble_eq_true rfl, Nat.le_of_ble_eq_true rfl⟩ ?_
      refine g_ifb_ne (tgt := 19) C dX6_chosen_13 (by decide) (fun h13 => ?_) (fun h13 => ?_)
      · exact absurd h13 (by simp [hy])
      · refine g_bipush (v := -2) C dX6_chosen_16 (by decide) ?_
        exact g_iret C dX6_chosen_18 ⟨rt_i (by simp [aChs, hy]), rfl⟩
  refine Ct.of 0 (by decide) (by simp [Value.category]) (Nat.le_of_ble_eq_true rfl) ?_
  intro p e s m below meth c C
  have hof_u := w0_ofl hW hu
  refine g_aload_n C dX6_chosen_0 rfl ?_
  refine g_iload_n C dX6_chosen_1 rfl ?_
  refine g_callVr 0 C (cr_X6_isType) mw_X6_isType ml_X6_83 rfl rfl rfl rfl (Nat.le_of_ble_eq_true rfl) dX6_chosen_2 ⟨Nat.le_of_ble_eq_true rfl, Nat.le_of_ble_eq_true rfl⟩ ⟨Nat.le_of_ble_eq_true rfl, Nat.le_of_ble_eq_true rfl⟩ ?_
  refine g_ifb_eq (tgt := 16) C dX6_chosen_5 (by decide) (fun h5 => ?_) (fun h5 => ?_)
  · exact absurd h5 (by simp [isT_nI hW ht])
  · refine g_aload_n C dX6_chosen_8 rfl ?_
    refine g_iload_n C dX6_chosen_9 rfl ?_
    refine g_callVr 0 C (cr_X6_isMember) mw_X6_isMember ml_X6_97 rfl rfl rfl rfl (Nat.le_of_ble_eq_true rfl) dX6_chosen_10 ⟨Nat.le_of_ble_eq_true rfl, Nat.le_of_ble_eq_true rfl⟩ ⟨Nat.le_of_ble_eq_true rfl, Nat.le_of_ble_eq_true rfl⟩ ?_
    refine g_ifb_ne (tgt := 19) C dX6_chosen_13 (by decide) (fun h13 => ?_) (fun h13 => ?_)
    · refine g_aload_n C dX6_chosen_19 rfl ?_
      refine gf_X6_7 C dX6_chosen_20 ?_
      refine g_iload_n C dX6_chosen_23 rfl ?_
      refine gM_ln1 C (by omega) dX6_chosen_24 ?_
      refine g_iconst (v := 2) C dX6_chosen_25 (by decide) ?_
      refine g_icmp_eq (tgt := 51) C dX6_chosen_26 (by decide) (fun h26 => ?_) (fun h26 => ?_)
      · refine g_bipush (v := -3) C dX6_chosen_51 (by decide) ?_
        exact g_iret C dX6_chosen_53 ⟨rt_i (by simp [aChs, isT_nI hW ht, isM_nI hW hu, cl (show t < 2400 by omega), cl (show u < 2400 by omega), *]), rfl⟩
      · refine g_aload_n C dX6_chosen_29 rfl ?_
        refine g_iload_n C dX6_chosen_30 rfl ?_
        refine g_callVr 0 C (cr_X6_isPlain (by omega)) mw_X6_isPlain ml_X6_135 rfl rfl rfl rfl (Nat.le_of_ble_eq_true rfl) dX6_chosen_31 ⟨Nat.le_of_ble_eq_true rfl, Nat.le_of_ble_eq_true rfl⟩ ⟨Nat.le_of_ble_eq_true rfl, Nat.le_of_ble_eq_true rfl⟩ ?_
        refine g_ifb_eq (tgt := 51) C dX6_chosen_34 (by decide) (fun h34 => ?_) (fun h34 => ?_)
        · refine g_bipush (v := -3) C dX6_chosen_51 (by decide) ?_
          exact g_iret C dX6_chosen_53 ⟨rt_i (by simp [aChs, isT_nI hW ht, isM_nI hW hu, cl (show t < 2400 by omega), cl (show u < 2400 by omega), *]), rfl⟩
        · refine g_aload_n C dX6_chosen_37 rfl ?_
          refine g_iload_n C dX6_chosen_38 rfl ?_
          refine g_aload_n C dX6_chosen_39 rfl ?_
          refine gf_X6_35 C dX6_chosen_40 ?_
          refine g_iload_n C dX6_chosen_43 rfl ?_
          refine gM_lv9 C (by omega) (w0_of hW (by omega)) dX6_chosen_44 ?_
          refine g_callVr 0 C (cr_X6_isSub hW (by omega) (by omega)) mw_X6_isSub ml_X6_94 rfl rfl rfl rfl (Nat.le_of_ble_eq_true rfl) dX6_chosen_45 ⟨Nat.le_of_ble_eq_true rfl, Nat.le_of_ble_eq_true rfl⟩ ⟨Nat.le_of_ble_eq_true rfl, Nat.le_of_ble_eq_true rfl⟩ ?_
          refine g_ifb_ne (tgt := 54) C dX6_chosen_48 (by decide) (fun h48 => ?_) (fun h48 => ?_)
          · refine g_aload_n C dX6_chosen_54 rfl ?_
            refine g_iload_n C dX6_chosen_55 rfl ?_
            refine g_iload_n C dX6_chosen_56 rfl ?_
            refine g_callVr 0 C (cr_X6_choose hW ht hu) mw_X6_choose ml_X6_141 rfl rfl rfl rfl (Nat.le_of_ble_eq_true rfl) dX6_chosen_57 ⟨Nat.le_of_ble_eq_true rfl, Nat.le_of_ble_eq_true rfl⟩ ⟨Nat.le_of_ble_eq_true rfl, Nat.le_of_ble_eq_true rfl⟩ ?_
            exact g_iret C dX6_chosen_60 ⟨rt_i (by simp [aChs, isT_nI hW ht, isM_nI hW hu, cl (show t < 2400 by omega), cl (show u < 2400 by omega), *]), rfl⟩
          · refine g_bipush (v := -3) C dX6_chosen_51 (by decide) ?_
            exact g_iret C dX6_chosen_53 ⟨rt_i (by simp [aChs, isT_nI hW ht, isM_nI hW hu, cl (show t < 2400 by omega), cl (show u < 2400 by omega), *]), rfl⟩
    · exact absurd h13 (by simp [isM_nI hW hu])
set_option maxRecDepth 100000 in
set_option maxHeartbeats 4000000 in
theorem cr_X6_bridges {l : Launch} {D : va_G} {cI cZ : ClassId} {b : Nat → Nat} {τ : St} (hW : W0 τ) {x : Int32} : Cr l yX6_bridges cX6_bridges 7 (some .int) 2 43 D cI cZ (pM b cI cZ) [.ref (b 0), .int x] τ (aBrg τ x) := by
  have hTl := w0_tl hW
  have hMl := w0_ml hW
  have cl : ∀ {z : Nat}, z < 2400 → nN (nI z) = z := fun h => nI_clamp (by omega)
  rcases isT_cases hW x with hx | ⟨t, ht, rfl⟩
  · refine Ct.of 5 (by decide) (by simp [Value.category]) (Nat.le_of_ble_eq_true rfl) ?_
    intro p e s m below meth c C
    refine g_aload_n C dX6_bridges_0 rfl ?_
    refine g_iload_n C dX6_bridges_1 rfl ?_
    refine g_callVr 0 C (cr_X6_isType) mw_X6_isType ml_X6_83 rfl rfl rfl rfl (Nat.le_of_ble_eq_true rfl) dX6_bridges_2 ⟨Nat.le_of_ble_eq_true rfl, Nat.le_of_ble_eq_true rfl⟩ ⟨Nat.le_of_ble_eq_true rfl, Nat.le_of_ble_eq_true rfl⟩ ?_
    refine g_ifb_ne (tgt := 11) C dX6_bridges_5 (by decide) (fun h5 => ?_) (fun h5 => ?_)
    · exact absurd h5 (by simp [hx])
    · refine g_bipush (v := -2) C dX6_bridges_8 (by decide) ?_
      exact g_iret C dX6_bridges_10 ⟨rt_i (by simp [aBrg, hx]), rfl⟩
  refine Ct.of 5 (by decide) (by simp [Value.category]) (Nat.le_of_ble_eq_true rfl) ?_
  intro p e s m below meth c C
  have loop : ∀ (n i : Nat), i ≤ nM τ → nM τ + 1 ≤ i + n → G p l e (rmo 2 43) s m ([.ref (b 0), .int (nI t)] : List Value).toArray below meth c D (va_A (pM b cI cZ τ) s.heap.size) 0 0 (Qe below ([.ref (b 0), .int (nI t)] : List Value).toArray s D (pM b cI cZ) τ (fun r u => r = some (.int (aBrg τ (nI t))) ∧ u = τ)) 7 (pM b cI cZ τ) 15 [some (.ref (b 0)), some (.int (nI t)), some (.int (nI (sumN i (brM τ t)))), some (.int (nI i)), none, none, none] [] := by
    intro n
    induction n with
    | zero => intro i h1 h2; omega
    | succ n ih =>
      intro i h1 h2
      have hsl := sumN_le (brM τ t) 20 brM_le i
      have j146 : i < nM τ → G p l e (rmo 2 43) s m ([.ref (b 0), .int (nI t)] : List Value).toArray below meth c D (va_A (pM b cI cZ τ) s.heap.size) 0 0 (Qe below ([.ref (b 0), .int (nI t)] : List Value).toArray s D (pM b cI cZ) τ (fun r u => r = some (.int (aBrg τ (nI t))) ∧ u = τ)) 7 (pM b cI cZ τ) 146 [some (.ref (b 0)), some (.int (nI t)), some (.int (nI (sumN (i + 1) (brM τ t)))), some (.int (nI i)), none, none, none] [] := by
        intro hi
        refine g_iincN C dX6_bridges_146 rfl (by decide) ?_
        refine g_goto (tgt := 15) C dX6_bridges_149 (by decide) ?_
        exact ih (i + 1) (by omega) (by omega)
      have vl : i < nM τ → (decide (Of τ i = t) && !Hs τ i 8 && !Hs τ i 32) = true → ∀ (k v : Nat), v ≤ 20 → 21 ≤ v + k → G p l e (rmo 2 43) s m ([.ref (b 0), .int (nI t)] : List Value).toArray below meth c D (va_A (pM b cI cZ τ) s.heap.size) 0 0 (Qe below ([.ref (b 0), .int (nI t)] : List Value).toArray s D (pM b cI cZ) τ (fun r u => r = some (.int (aBrg τ (nI t))) ∧ u = τ)) 7 (pM b cI cZ τ) 54 [some (.ref (b 0)), some (.int (nI t)), some (.int (nI (sumN i (brM τ t) + cntN v (brW τ i)))), some (.int (nI i)), some (.int (nI v)), none, none] [] := by
        intro hi hb k
        induction k with
        | zero => intro v h1 h2; omega
        | succ k ihk =>
          intro v hv1 hv2
          have hcl := cntN_le (brW τ i) v
          have j140 : v < 20 → G p l e (rmo 2 43) s m ([.ref (b 0), .int (nI t)] : List Value).toArray below meth c D (va_A (pM b cI cZ τ) s.heap.size) 0 0 (Qe below ([.ref (b 0), .int (nI t)] : List Value).toArray s D (pM b cI cZ) τ (fun r u => r = some (.int (aBrg τ (nI t))) ∧ u = τ)) 7 (pM b cI cZ τ) 140 [some (.ref (b 0)), some (.int (nI t)), some (.int (nI (sumN i (brM τ t) + cntN (v + 1) (brW τ i)))), some (.int (nI i)), some (.int (nI v)), none, none] [] := by
            intro hv
            refine g_iincN C dX6_bridges_140 rfl (by decide) ?_
            refine g_goto (tgt := 54) C dX6_bridges_143 (by decide) ?_
            exact ihk (v + 1) (by omega) (by omega)
          have ol : v < 20 → ∀ (q : Nat) (o : Nat) (z : Bool), o ≤ nM τ → nM τ + 1 ≤ o + q → z = anyN o (brV τ i v) → G p l e (rmo 2 43) s m ([.ref (b 0), .int (nI t)] : List Value).toArray below meth c D (va_A (pM b cI cZ τ) s.heap.size) 0 0 (Qe below ([.ref (b 0), .int (nI t)] : List Value).toArray s D (pM b cI cZ) τ (fun r u => r = some (.int (aBrg τ (nI t))) ∧ u = τ)) 7 (pM b cI cZ τ) 67 [some (.ref (b 0)), some (.int (nI t)), some (.int (nI (sumN i (brM τ t) + cntN v (brW τ i)))), some (.int (nI i)), some (.int (nI v)), some (.int (b2i z)), some (.int (nI o))] [] := by
            intro hv q
            induction q with
            | zero => intro o z h1 h2; omega
            | succ q ihq =>
              intro o z ho1 ho2 hz
              have j110 : o < nM τ → ∀ (z : Bool), z = anyN (o + 1) (brV τ i v) → G p l e (rmo 2 43) s m ([.ref (b 0), .int (nI t)] : List Value).toArray below meth c D (va_A (pM b cI cZ τ) s.heap.size) 0 0 (Qe below ([.ref (b 0), .int (nI t)] : List Value).toArray s D (pM b cI cZ) τ (fun r u => r = some (.int (aBrg τ (nI t))) ∧ u = τ)) 7 (pM b cI cZ τ) 110 [some (.ref (b 0)), some (.int (nI t)), some (.int (nI (sumN i (brM τ t) + cntN v (brW τ i)))), some (.int (nI i)), some (.int (nI v)), some (.int (b2i z)), some (.int (nI o))] [] := by
                intro ho z hz
                refine g_iincN C dX6_bridges_110 rfl (by decide) ?_
                refine g_goto (tgt := 67) C dX6_bridges_113 (by decide) ?_
                exact ihq (o + 1) z (by omega) (by omega) hz
              refine g_iload C dX6_bridges_67 rfl ?_
              refine g_aload_n C dX6_bridges_69 rfl ?_
              refine gn_X6_70 C (w0_m hW) dX6_bridges_70 ?_
              refine g_icmpN_ge (tgt := 116) C (by omega) (by omega) dX6_bridges_73 (by decide) (fun h73 => ?_) (fun h73 => ?_)
              · refine g_iload_n C dX6_bridges_116 rfl ?_
                refine g_iload C dX6_bridges_117 rfl ?_
                refine g_ifb_eq (tgt := 137) C dX6_bridges_119 (by decide) (fun h119 => ?_) (fun h119 => ?_)
                · refine g_iconstN 0 C dX6_bridges_137 (by decide) ?_
                  refine g_iaddN C dX6_bridges_138 ?_
                  refine g_istore_n C dX6_bridges_139 (by decide) ?_
                  (obtain rfl : o = nM τ := (by omega)); have e1 : cntN (v + 1) (brW τ i) = cntN v (brW τ i) + 0 := (by simp [cntN, brW, ← hz, h119]); have h := j140 hv; rw [e1, ← Nat.add_assoc] at h; exact h.weak (by simp [lvle, lst])
                · refine g_iload C dX6_bridges_122 rfl ?_
                  refine g_aload_n C dX6_bridges_124 rfl ?_
                  have hri := w0_rsl hW hi
                  refine gf_X6_41 C dX6_bridges_125 ?_
                  refine g_iload_n C dX6_bridges_128 rfl ?_
                  refine gM_lv11 C (by omega) (w0_rs hW (by omega)) dX6_bridges_129 ?_
                  refine g_icmpN_eq (tgt := 137) C (by omega) (by omega) dX6_bridges_130 (by decide) (fun h130 => ?_) (fun h130 => ?_)
                  · refine g_iconstN 0 C dX6_bridges_137 (by decide) ?_
                    refine g_iaddN C dX6_bridges_138 ?_
                    refine g_istore_n C dX6_bridges_139 (by decide) ?_
                    (obtain rfl : o = nM τ := (by omega)); have e1 : cntN (v + 1) (brW τ i) = cntN v (brW τ i) + 0 := (by simp [cntN, brW, ← hz, h119, h130]); have h := j140 hv; rw [e1, ← Nat.add_assoc] at h; exact h.weak (by simp [lvle, lst])
                  · refine g_iconstN 1 C dX6_bridges_133 (by decide) ?_
                    refine g_goto (tgt := 138) C dX6_bridges_134 (by decide) ?_
                    refine g_iaddN C dX6_bridges_138 ?_
                    refine g_istore_n C dX6_bridges_139 (by decide) ?_
                    (obtain rfl : o = nM τ := (by omega)); have e1 : cntN (v + 1) (brW τ i) = cntN v (brW τ i) + 1 := (by simp [cntN, brW, ← hz, h119, h130]); have h := j140 hv; rw [e1, ← Nat.add_assoc] at h; exact h.weak (by simp [lvle, lst])
              · refine g_iload C dX6_bridges_76 rfl ?_
                refine g_ifb_ne (tgt := 103) C dX6_bridges_78 (by decide) (fun h78 => ?_) (fun h78 => ?_)
                · refine g_iconst (v := 1) C dX6_bridges_103 (by decide) ?_
                  refine g_goto (tgt := 108) C dX6_bridges_104 (by decide) ?_
                  refine g_istore C dX6_bridges_108 (by decide) ?_
                  first | exact j110 (by omega) true (by simp only [anyN, ← hz]; first | (simp [h78]; done) | simp_all [brV]) | exact j110 (by omega) false (by simp only [anyN, ← hz]; simp_all [brV])
                · refine g_aload_n C dX6_bridges_81 rfl ?_
                  refine g_iload_n C dX6_bridges_82 rfl ?_
                  refine g_iload C dX6_bridges_83 rfl ?_
                  refine g_callVr 0 C (cr_X6_isOver hW (by omega) (by omega)) mw_X6_isOver ml_X6_129 rfl rfl rfl rfl (Nat.le_of_ble_eq_true rfl) dX6_bridges_85 ⟨Nat.le_of_ble_eq_true rfl, Nat.le_of_ble_eq_true rfl⟩ ⟨Nat.le_of_ble_eq_true rfl, Nat.le_of_ble_eq_true rfl⟩ ?_
                  refine g_ifb_eq (tgt := 107) C dX6_bridges_88 (by decide) (fun h88 => ?_) (fun h88 => ?_)
                  · refine g_iconst (v := 0) C dX6_bridges_107 (by decide) ?_
                    refine g_istore C dX6_bridges_108 (by decide) ?_
                    first | exact j110 (by omega) true (by simp only [anyN, ← hz]; first | (simp [h78]; done) | simp_all [brV]) | exact j110 (by omega) false (by simp only [anyN, ← hz]; simp_all [brV])
                  · refine g_aload_n C dX6_bridges_91 rfl ?_
                    have hro := w0_rsl hW ‹o < nM τ›
                    refine gf_X6_41 C dX6_bridges_92 ?_
                    refine g_iload C dX6_bridges_95 rfl ?_
                    refine gM_lv11 C (by omega) (w0_rs hW (by omega)) dX6_bridges_97 ?_
                    refine g_iload C dX6_bridges_98 rfl ?_
                    refine g_icmpN_ne (tgt := 107) C (by omega) (by omega) dX6_bridges_100 (by decide) (fun h100 => ?_) (fun h100 => ?_)
                    · refine g_iconst (v := 0) C dX6_bridges_107 (by decide) ?_
                      refine g_istore C dX6_bridges_108 (by decide) ?_
                      first | exact j110 (by omega) true (by simp only [anyN, ← hz]; first | (simp [h78]; done) | simp_all [brV]) | exact j110 (by omega) false (by simp only [anyN, ← hz]; simp_all [brV])
                    · refine g_iconst (v := 1) C dX6_bridges_103 (by decide) ?_
                      refine g_goto (tgt := 108) C dX6_bridges_104 (by decide) ?_
                      refine g_istore C dX6_bridges_108 (by decide) ?_
                      first | exact j110 (by omega) true (by simp only [anyN, ← hz]; first | (simp [h78]; done) | simp_all [brV]) | exact j110 (by omega) false (by simp only [anyN, ← hz]; simp_all [brV])
          refine g_iload C dX6_bridges_54 rfl ?_
          refine g_bipushN 20 C dX6_bridges_56 (by decide) ?_
          refine g_icmpN_ge (tgt := 146) C (by omega) (by omega) dX6_bridges_58 (by decide) (fun h58 => ?_) (fun h58 => ?_)
          · (obtain rfl : v = 20 := (by omega)); have h := j146 hi; rw [show sumN (i + 1) (brM τ t) = sumN i (brM τ t) + cntN 20 (brW τ i) by simp only [sumN, brM, hb, cond_true]] at h; exact h.weak (by simp [lvle, lst])
          · refine g_iconst (v := 0) C dX6_bridges_61 (by decide) ?_
            refine g_istore C dX6_bridges_62 (by decide) ?_
            refine g_iconstN 0 C dX6_bridges_64 (by decide) ?_
            refine g_istore C dX6_bridges_65 (by decide) ?_
            exact ol (by omega) (nM τ + 1) 0 false (by omega) (by omega) rfl
      refine g_iload_n C dX6_bridges_15 rfl ?_
      refine g_aload_n C dX6_bridges_16 rfl ?_
      refine gn_X6_70 C (w0_m hW) dX6_bridges_17 ?_
      refine g_icmpN_ge (tgt := 152) C (by omega) (by omega) dX6_bridges_20 (by decide) (fun h20 => ?_) (fun h20 => ?_)
      · refine g_iload_n C dX6_bridges_152 rfl ?_
        exact g_iret C dX6_bridges_153 ⟨rt_i (by obtain rfl : i = nM τ := (by omega); simp [aBrg, isT_nI hW ht, cl (show t < 2400 by omega)]), rfl⟩
      · refine g_aload_n C dX6_bridges_23 rfl ?_
        have hi : i < nM τ := ‹_›
        have hof_i := w0_ofl hW hi
        refine gf_X6_35 C dX6_bridges_24 ?_
        refine g_iload_n C dX6_bridges_27 rfl ?_
        refine gM_lv9 C (by omega) (w0_of hW (by omega)) dX6_bridges_28 ?_
        refine g_iload_n C dX6_bridges_29 rfl ?_
        refine g_icmpN_ne (tgt := 146) C (by omega) (by omega) dX6_bridges_30 (by decide) (fun h30 => ?_) (fun h30 => ?_)
        · have h := j146 hi; rw [show sumN (i + 1) (brM τ t) = sumN i (brM τ t) by simp [sumN, brM, *]] at h; exact h
        · refine g_aload_n C dX6_bridges_33 rfl ?_
          refine g_iload_n C dX6_bridges_34 rfl ?_
          refine g_callVr 0 C (cr_X6_isStatic (by omega)) mw_X6_isStatic ml_X6_117 rfl rfl rfl rfl (Nat.le_of_ble_eq_true rfl) dX6_bridges_35 ⟨Nat.le_of_ble_eq_true rfl, Nat.le_of_ble_eq_true rfl⟩ ⟨Nat.le_of_ble_eq_true rfl, Nat.le_of_ble_eq_true rfl⟩ ?_
          refine g_ifb_ne (tgt := 146) C dX6_bridges_38 (by decide) (fun h38 => ?_) (fun h38 => ?_)
          · have h := j146 hi; rw [show sumN (i + 1) (brM τ t) = sumN i (brM τ t) by simp [sumN, brM, *]] at h; exact h
          · refine g_aload_n C dX6_bridges_41 rfl ?_
            refine g_iload_n C dX6_bridges_42 rfl ?_
            refine g_bipush (v := 32) C dX6_bridges_43 (by decide) ?_
            refine g_callVr 0 C (cr_X6_has (by omega)) mw_X6_has ml_X6_100 rfl rfl rfl rfl (Nat.le_of_ble_eq_true rfl) dX6_bridges_45 ⟨Nat.le_of_ble_eq_true rfl, Nat.le_of_ble_eq_true rfl⟩ ⟨Nat.le_of_ble_eq_true rfl, Nat.le_of_ble_eq_true rfl⟩ ?_
            refine g_ifb_ne (tgt := 146) C dX6_bridges_48 (by decide) (fun h48 => ?_) (fun h48 => ?_)
            · have h := j146 hi; rw [show sumN (i + 1) (brM τ t) = sumN i (brM τ t) by simp [sumN, brM, *]] at h; exact h
            · refine g_iconstN 0 C dX6_bridges_51 (by decide) ?_
              refine g_istore C dX6_bridges_52 (by decide) ?_
              exact vl hi (by simp [*]) 21 0 (by omega) (by omega)
  refine g_aload_n C dX6_bridges_0 rfl ?_
  refine g_iload_n C dX6_bridges_1 rfl ?_
  refine g_callVr 0 C (cr_X6_isType) mw_X6_isType ml_X6_83 rfl rfl rfl rfl (Nat.le_of_ble_eq_true rfl) dX6_bridges_2 ⟨Nat.le_of_ble_eq_true rfl, Nat.le_of_ble_eq_true rfl⟩ ⟨Nat.le_of_ble_eq_true rfl, Nat.le_of_ble_eq_true rfl⟩ ?_
  refine g_ifb_ne (tgt := 11) C dX6_bridges_5 (by decide) (fun h5 => ?_) (fun h5 => ?_)
  · refine g_iconstN 0 C dX6_bridges_11 (by decide) ?_
    refine g_istore_n C dX6_bridges_12 (by decide) ?_
    refine g_iconstN 0 C dX6_bridges_13 (by decide) ?_
    refine g_istore_n C dX6_bridges_14 (by decide) ?_
    exact loop (nM τ + 1) 0 (by omega) (by omega)
  · exact absurd h5 (by simp [isT_nI hW ht])
set_option maxRecDepth 100000 in
set_option maxHeartbeats 4000000 in
theorem cr_X6_first {l : Launch} {D : va_G} {cI cZ : ClassId} {b : Nat → Nat} {τ : St} (hW : W0 τ) {x : Int32} : Cr l yX6_first cX6_first 7 (some .int) 2 43 D cI cZ (pM b cI cZ) [.ref (b 0), .int x] τ (aFst τ x) := by
  have hTl := w0_tl hW
  have hMl := w0_ml hW
  have cl : ∀ {z : Nat}, z < 2400 → nN (nI z) = z := fun h => nI_clamp (by omega)
  rcases isT_cases hW x with hx | ⟨t, ht, rfl⟩
  · refine Ct.of 5 (by decide) (by simp [Value.category]) (Nat.le_of_ble_eq_true rfl) ?_
    intro p e s m below meth c C
    refine g_aload_n C dX6_first_0 rfl ?_
    refine g_iload_n C dX6_first_1 rfl ?_
    refine g_callVr 0 C (cr_X6_isType) mw_X6_isType ml_X6_83 rfl rfl rfl rfl (Nat.le_of_ble_eq_true rfl) dX6_first_2 ⟨Nat.le_of_ble_eq_true rfl, Nat.le_of_ble_eq_true rfl⟩ ⟨Nat.le_of_ble_eq_true rfl, Nat.le_of_ble_eq_true rfl⟩ ?_
    refine g_ifb_ne (tgt := 11) C dX6_first_5 (by decide) (fun h5 => ?_) (fun h5 => ?_)
    · exact absurd h5 (by simp [hx])
    · refine g_bipush (v := -2) C dX6_first_8 (by decide) ?_
      exact g_iret C dX6_first_10 ⟨rt_i (by simp [aFst, hx]), rfl⟩
  refine Ct.of 5 (by decide) (by simp [Value.category]) (Nat.le_of_ble_eq_true rfl) ?_
  intro p e s m below meth c C
  have loop : ∀ (n i : Nat), i ≤ nM τ → nM τ + 1 ≤ i + n → G p l e (rmo 2 43) s m ([.ref (b 0), .int (nI t)] : List Value).toArray below meth c D (va_A (pM b cI cZ τ) s.heap.size) 0 0 (Qe below ([.ref (b 0), .int (nI t)] : List Value).toArray s D (pM b cI cZ) τ (fun r u => r = some (.int (aFst τ (nI t))) ∧ u = τ)) 7 (pM b cI cZ τ) 18 [some (.ref (b 0)), some (.int (nI t)), some (.int ((fsF τ t i).1)), some (.int ((fsF τ t i).2)), some (.int (nI i)), none, none] [] := by
    intro n
    induction n with
    | zero => intro i h1 h2; omega
    | succ n ih =>
      intro i h1 h2
      have j92 : i < nM τ → ∀ (q : Int32 × Int32), q = fsF τ t (i + 1) → G p l e (rmo 2 43) s m ([.ref (b 0), .int (nI t)] : List Value).toArray below meth c D (va_A (pM b cI cZ τ) s.heap.size) 0 0 (Qe below ([.ref (b 0), .int (nI t)] : List Value).toArray s D (pM b cI cZ) τ (fun r u => r = some (.int (aFst τ (nI t))) ∧ u = τ)) 7 (pM b cI cZ τ) 92 [some (.ref (b 0)), some (.int (nI t)), some (.int (q.1)), some (.int (q.2)), some (.int (nI i)), none, none] [] := by
        intro hi q hq
        subst hq
        refine g_iincN C dX6_first_92 rfl (by decide) ?_
        refine g_goto (tgt := 18) C dX6_first_95 (by decide) ?_
        exact ih (i + 1) (by omega) (by omega)
      have ol : i < nM τ → ∀ (q o : Nat), o ≤ nM τ → nM τ + 1 ≤ o + q → G p l e (rmo 2 43) s m ([.ref (b 0), .int (nI t)] : List Value).toArray below meth c D (va_A (pM b cI cZ τ) s.heap.size) 0 0 (Qe below ([.ref (b 0), .int (nI t)] : List Value).toArray s D (pM b cI cZ) τ (fun r u => r = some (.int (aFst τ (nI t))) ∧ u = τ)) 7 (pM b cI cZ τ) 33 [some (.ref (b 0)), some (.int (nI t)), some (.int ((fsF τ t i).1)), some (.int ((fsF τ t i).2)), some (.int (nI i)), some (.int (nI (cntN o (Ov τ i)))), some (.int (nI o))] [] := by
        intro hi q
        have hof_i := w0_ofl hW hi
        induction q with
        | zero => intro o h1 h2; omega
        | succ q ihq =>
          intro o ho1 ho2
          have hcl := cntN_le (Ov τ i) o
          refine g_iload C dX6_first_33 rfl ?_
          refine g_aload_n C dX6_first_35 rfl ?_
          refine gn_X6_70 C (w0_m hW) dX6_first_36 ?_
          refine g_icmpN_ge (tgt := 69) C (by omega) (by omega) dX6_first_39 (by decide) (fun h39 => ?_) (fun h39 => ?_)
          · refine g_aload_n C dX6_first_69 rfl ?_
            refine gf_X6_35 C dX6_first_70 ?_
            refine g_iload C dX6_first_73 rfl ?_
            refine gM_lv9 C (by omega) (w0_of hW (by omega)) dX6_first_75 ?_
            refine g_iload_n C dX6_first_76 rfl ?_
            refine g_icmpN_ne (tgt := 92) C (by omega) (by omega) dX6_first_77 (by decide) (fun h77 => ?_) (fun h77 => ?_)
            · (obtain rfl : o = nM τ := (by omega)); exact (j92 hi (fsF τ t i) (by simp only [fsF]; rw [if_neg (by simp [fsC, h77])])).weak (by simp [lvle, lst])
            · refine g_iload C dX6_first_80 rfl ?_
              refine g_iload_n C dX6_first_82 rfl ?_
              refine g_icmp_le (tgt := 92) C dX6_first_83 (by decide) (fun h83 => ?_) (fun h83 => ?_)
              · (obtain rfl : o = nM τ := (by omega)); exact (j92 hi (fsF τ t i) (by simp only [fsF]; rw [if_neg (by simp [fsC, Int32.not_lt.mpr h83])])).weak (by simp [lvle, lst])
              · refine g_iload C dX6_first_86 rfl ?_
                refine g_istore_n C dX6_first_88 (by decide) ?_
                refine g_iload C dX6_first_89 rfl ?_
                refine g_istore_n C dX6_first_91 (by decide) ?_
                (obtain rfl : o = nM τ := (by omega)); exact (j92 hi (nI i, nI (cntN (nM τ) (Ov τ i))) (by simp only [fsF]; rw [if_pos (by simp [fsC, h77, Int32.not_le.mp h83])])).weak (by simp [lvle, lst])
          · refine g_iload C dX6_first_42 rfl ?_
            refine g_aload_n C dX6_first_44 rfl ?_
            refine g_iload C dX6_first_45 rfl ?_
            refine g_iload C dX6_first_47 rfl ?_
            refine g_callVr 0 C (cr_X6_isOver hW (by omega) (by omega)) mw_X6_isOver ml_X6_129 rfl rfl rfl rfl (Nat.le_of_ble_eq_true rfl) dX6_first_49 ⟨Nat.le_of_ble_eq_true rfl, Nat.le_of_ble_eq_true rfl⟩ ⟨Nat.le_of_ble_eq_true rfl, Nat.le_of_ble_eq_true rfl⟩ ?_
            refine g_ifb_eq (tgt := 59) C dX6_first_52 (by decide) (fun h52 => ?_) (fun h52 => ?_)
            · refine g_iconstN 0 C dX6_first_59 (by decide) ?_
              refine g_iaddN C dX6_first_60 ?_
              refine g_istore C dX6_first_61 (by decide) ?_
              refine g_iincN C dX6_first_63 rfl (by decide) ?_
              refine g_goto (tgt := 33) C dX6_first_66 (by decide) ?_
              first | (have h := ihq (o + 1) (by omega) (by omega); rw [show cntN (o + 1) (Ov τ i) = cntN o (Ov τ i) + 1 by simp [cntN, *]] at h; exact h) | (have h := ihq (o + 1) (by omega) (by omega); rw [show cntN (o + 1) (Ov τ i) = cntN o (Ov τ i) + 0 by simp [cntN, *]] at h; exact h)
            · refine g_iconstN 1 C dX6_first_55 (by decide) ?_
              refine g_goto (tgt := 60) C dX6_first_56 (by decide) ?_
              refine g_iaddN C dX6_first_60 ?_
              refine g_istore C dX6_first_61 (by decide) ?_
              refine g_iincN C dX6_first_63 rfl (by decide) ?_
              refine g_goto (tgt := 33) C dX6_first_66 (by decide) ?_
              first | (have h := ihq (o + 1) (by omega) (by omega); rw [show cntN (o + 1) (Ov τ i) = cntN o (Ov τ i) + 1 by simp [cntN, *]] at h; exact h) | (have h := ihq (o + 1) (by omega) (by omega); rw [show cntN (o + 1) (Ov τ i) = cntN o (Ov τ i) + 0 by simp [cntN, *]] at h; exact h)
      refine g_iload C dX6_first_18 rfl ?_
      refine g_aload_n C dX6_first_20 rfl ?_
      refine gn_X6_70 C (w0_m hW) dX6_first_21 ?_
      refine g_icmpN_ge (tgt := 98) C (by omega) (by omega) dX6_first_24 (by decide) (fun h24 => ?_) (fun h24 => ?_)
      · refine g_iload_n C dX6_first_98 rfl ?_
        exact g_iret C dX6_first_99 ⟨rt_i (by obtain rfl : i = nM τ := (by omega); simp [aFst, isT_nI hW ht, cl (show t < 2400 by omega)]), rfl⟩
      · refine g_iconstN 0 C dX6_first_27 (by decide) ?_
        refine g_istore C dX6_first_28 (by decide) ?_
        refine g_iconstN 0 C dX6_first_30 (by decide) ?_
        refine g_istore C dX6_first_31 (by decide) ?_
        exact ol (by omega) (nM τ + 1) 0 (by omega) (by omega)
  refine g_aload_n C dX6_first_0 rfl ?_
  refine g_iload_n C dX6_first_1 rfl ?_
  refine g_callVr 0 C (cr_X6_isType) mw_X6_isType ml_X6_83 rfl rfl rfl rfl (Nat.le_of_ble_eq_true rfl) dX6_first_2 ⟨Nat.le_of_ble_eq_true rfl, Nat.le_of_ble_eq_true rfl⟩ ⟨Nat.le_of_ble_eq_true rfl, Nat.le_of_ble_eq_true rfl⟩ ?_
  refine g_ifb_ne (tgt := 11) C dX6_first_5 (by decide) (fun h5 => ?_) (fun h5 => ?_)
  · refine g_iconst (v := -1) C dX6_first_11 (by decide) ?_
    refine g_istore_n C dX6_first_12 (by decide) ?_
    refine g_iconst (v := -1) C dX6_first_13 (by decide) ?_
    refine g_istore_n C dX6_first_14 (by decide) ?_
    refine g_iconstN 0 C dX6_first_15 (by decide) ?_
    refine g_istore C dX6_first_16 (by decide) ?_
    exact loop (nM τ + 1) 0 (by omega) (by omega)
  · exact absurd h5 (by simp [isT_nI hW ht])

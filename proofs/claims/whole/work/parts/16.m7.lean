/-! ===== the reference: check, fault, told ===== -/
def JOk (τ : St) : Prop := (∀ t, t < nT τ → τ 1 t < 2 → ∀ o, o < nM τ → inhC τ t o = true → ChOk τ t o) ∧ ∀ t, t < nT τ → (jdg τ t).length ≤ 2400
/-- the same but for the noted faults -/
def Sm (τ u : St) : Prop := ∃ A B C n, u = lgS τ A B C n
theorem Sm_refl (τ : St) : Sm τ τ := ⟨τ 15, τ 16, τ 17, τ 0 3, by
  rw [← lgS_up]
  funext k j
  by_cases h : k = 0
  · subst h
    show τ 0 j = upd (τ 0) 3 (τ 0 3) j
    by_cases hj : j = 3 <;> simp [upd, hj]
  · simp only [up2, nbeq h, cond_false]⟩
theorem Lg.sm {τ u : St} {L : List Ft} (h : Lg τ L u) : Sm τ u := by
  obtain ⟨A, B, C, e, -⟩ := h
  exact ⟨A, B, C, _, e⟩
theorem lgS_lgS {τ : St} {A B C A' B' C' : Nat → Int32} {n n' : Int32} : lgS (lgS τ A B C n) A' B' C' n' = lgS τ A' B' C' n' := by
  funext k
  by_cases h5 : k = 15
  · subst h5; rfl
  by_cases h6 : k = 16
  · subst h6; rfl
  by_cases h7 : k = 17
  · subst h7; rfl
  by_cases h : k = 0
  · subst h
    show upd (upd (τ 0) 3 n) 3 n' = upd (τ 0) 3 n'
    exact upd_upd
  simp only [lgS, nbeq h5, nbeq h6, nbeq h7, nbeq h, cond_false]
theorem innL_lg {τ : St} {A B C : Nat → Int32} {n : Int32} {m : Nat} : ∀ j, innL (lgS τ A B C n) m j = innL τ m j
  | 0 => rfl
  | j + 1 => by simp only [innL, innL_lg j]; rfl
theorem jdO_lg {τ : St} {A B C : Nat → Int32} {n : Int32} {t : Nat} : ∀ j, jdO (lgS τ A B C n) t j = jdO τ t j
  | 0 => rfl
  | j + 1 => by
    simp only [jdO, jdO_lg j, ownL, innL_lg]; rfl
theorem inhO_lg {τ : St} {A B C : Nat → Int32} {n : Int32} {t : Nat} : ∀ j, inhO (lgS τ A B C n) t j = inhO τ t j
  | 0 => rfl
  | j + 1 => by simp only [inhO, inhO_lg j]; rfl
theorem jdg_lg {τ : St} {A B C : Nat → Int32} {n : Int32} {t : Nat} : jdg (lgS τ A B C n) t = jdg τ t := by
  simp only [jdg, jdO_lg, inhO_lg]; rfl
theorem Lg_lg {τ u : St} {A B C : Nat → Int32} {n : Int32} {L : List Ft} (h : Lg (lgS τ A B C n) L u) : Lg τ L u := by
  obtain ⟨A', B', C', e, h⟩ := h
  exact ⟨A', B', C', by rw [e, lgS_lgS], h⟩
theorem JOk_lg {τ : St} {A B C : Nat → Int32} {n : Int32} (h : JOk τ) : JOk (lgS τ A B C n) := ⟨h.1, fun t ht => by rw [jdg_lg]; exact h.2 t ht⟩
theorem inB_casesL {x : Int32} {n : Nat} (hn : n ≤ 2400) : (inB x 0 (nI n - 1) = false ∧ (x < 0 ∨ n ≤ nN x)) ∨ ∃ t, t < n ∧ x = nI t ∧ inB x 0 (nI n - 1) = true := by
  by_cases h0 : x < 0
  · left
    exact ⟨by simp [inB, Int32.not_le.mpr h0], Or.inl h0⟩
  · obtain ⟨j, hj, rfl⟩ := nI_of h0
    rcases Nat.lt_or_ge j n with q | q
    · have h1 : (0 : Int32) ≤ nI j := nI_pos' (by omega)
      have h2 : nI n - 1 = nI (n - 1) := pk_sub (a := n) (b := 1) (by omega)
      exact Or.inr ⟨j, q, rfl, by rw [inB, h2]; simp [h1, nI_le (a := j) (b := n - 1) (by omega) (by omega)]⟩
    · left
      refine ⟨?_, Or.inr (by rw [nN, nI_clamp hj]; exact q)⟩
      rcases Nat.eq_zero_or_pos n with h | h
      · subst h
        have : ¬ nI j ≤ nI 0 - 1 := by
          intro h2
          have h3 : nI 0 - 1 < (0 : Int32) := by decide
          exact absurd (Int32.lt_of_le_of_lt h2 h3) (nI_pos (n := j) hj)
        simp [inB, this]
      · have h2 : nI n - 1 = nI (n - 1) := pk_sub (a := n) (b := 1) (by omega)
        have : ¬ nI j ≤ nI (n - 1) := nI_ge (by omega) (by omega)
        simp [inB, h2, this]
set_option maxRecDepth 100000 in
set_option maxHeartbeats 4000000 in
theorem ct_X6_check {l : Launch} {D : va_G} {cI cZ : ClassId} {b : Nat → Nat} {τ : St} (hW : W0 τ) (hJ : JOk τ) {x : Int32} : Ct l yX6_check cX6_check 2 (some .int) 7 160 D cI cZ (pM b cI cZ) [.ref (b 0), .int x] τ (fun r u => r = some (.int (aChk τ x)) ∧ Sm τ u) := by
  have hTl := w0_tl hW
  have hMl := w0_ml hW
  have cl : ∀ {z : Nat}, z < 2400 → nN (nI z) = z := fun h => nI_clamp (by omega)
  rcases isT_cases hW x with hx | ⟨t, ht, rfl⟩
  · refine Ct.of 0 (by decide) (by simp [Value.category]) (Nat.le_of_ble_eq_true rfl) ?_
    intro p e s m below meth c C
    refine g_aload_n C dX6_check_0 rfl ?_
    refine g_iload_n C dX6_check_1 rfl ?_
    refine g_callVr 0 C (cr_X6_isType) mw_X6_isType ml_X6_83 rfl rfl rfl rfl (Nat.le_of_ble_eq_true rfl) dX6_check_2 ⟨Nat.le_of_ble_eq_true rfl, Nat.le_of_ble_eq_true rfl⟩ ⟨Nat.le_of_ble_eq_true rfl, Nat.le_of_ble_eq_true rfl⟩ ?_
    refine g_ifb_ne (tgt := 11) C dX6_check_5 (by decide) (fun h5 => ?_) (fun h5 => ?_)
    · exact absurd h5 (by simp [hx])
    · refine g_bipush (v := -2) C dX6_check_8 (by decide) ?_
      exact g_iret C dX6_check_10 ⟨rt_i (by simp [aChk, hx]), Sm_refl τ⟩
  refine Ct.of 0 (by decide) (by simp [Value.category]) (Nat.le_of_ble_eq_true rfl) ?_
  intro p e s m below meth c C
  refine g_aload_n C dX6_check_0 rfl ?_
  refine g_iload_n C dX6_check_1 rfl ?_
  refine g_callVr 0 C (cr_X6_isType) mw_X6_isType ml_X6_83 rfl rfl rfl rfl (Nat.le_of_ble_eq_true rfl) dX6_check_2 ⟨Nat.le_of_ble_eq_true rfl, Nat.le_of_ble_eq_true rfl⟩ ⟨Nat.le_of_ble_eq_true rfl, Nat.le_of_ble_eq_true rfl⟩ ?_
  refine g_ifb_ne (tgt := 11) C dX6_check_5 (by decide) (fun h5 => ?_) (fun h5 => ?_)
  · refine g_aload_n C dX6_check_11 rfl ?_
    refine g_iload_n C dX6_check_12 rfl ?_
    refine g_callV 0 C (ct_X6_judge hW ht (hJ.1 t ht) (hJ.2 t ht)) mw_X6_judge ml_X6_166 rfl rfl rfl rfl (Nat.le_of_ble_eq_true rfl) dX6_check_13 ⟨Nat.le_of_ble_eq_true rfl, Nat.le_of_ble_eq_true rfl⟩ ⟨Nat.le_of_ble_eq_true rfl, Nat.le_of_ble_eq_true rfl⟩ ?_
    intro r v hv
    obtain ⟨rfl, hv⟩ := hv
    have hsm := hv.sm
    obtain ⟨A1, B1, C1, rfl, hA⟩ := hv
    refine g_aload_n C dX6_check_16 rfl ?_
    refine gn_X6_144 C (v := nI (jdg τ t).length) rfl dX6_check_17 ?_
    exact g_iret C dX6_check_20 ⟨rt_i (by simp [aChk, isT_nI hW ht, cl (show t < 2400 by omega)]), hsm⟩
  · exact absurd h5 (by simp [isT_nI hW ht])
set_option maxRecDepth 100000 in
set_option maxHeartbeats 4000000 in
theorem ct_X6_fault {l : Launch} {D : va_G} {cI cZ : ClassId} {b : Nat → Nat} {τ : St} (hW : W0 τ) (hJ : JOk τ) {x i w : Int32} : Ct l yX6_fault cX6_fault 4 (some .int) 7 160 D cI cZ (pM b cI cZ) [.ref (b 0), .int x, .int i, .int w] τ (fun r u => r = some (.int (aFlt τ x i w)) ∧ Sm τ u) := by
  have hTl := w0_tl hW
  have hMl := w0_ml hW
  have cl : ∀ {z : Nat}, z < 2400 → nN (nI z) = z := fun h => nI_clamp (by omega)
  rcases isT_cases hW x with hx | ⟨t, ht, rfl⟩
  · refine Ct.of 0 (by decide) (by simp [Value.category]) (Nat.le_of_ble_eq_true rfl) ?_
    intro p e s m below meth c C
    refine g_aload_n C dX6_fault_0 rfl ?_
    refine g_iload_n C dX6_fault_1 rfl ?_
    refine g_callVr 0 C (cr_X6_isType) mw_X6_isType ml_X6_83 rfl rfl rfl rfl (Nat.le_of_ble_eq_true rfl) dX6_fault_2 ⟨Nat.le_of_ble_eq_true rfl, Nat.le_of_ble_eq_true rfl⟩ ⟨Nat.le_of_ble_eq_true rfl, Nat.le_of_ble_eq_true rfl⟩ ?_
    refine g_ifb_ne (tgt := 11) C dX6_fault_5 (by decide) (fun h5 => ?_) (fun h5 => ?_)
    · exact absurd h5 (by simp [hx])
    · refine g_bipush (v := -2) C dX6_fault_8 (by decide) ?_
      exact g_iret C dX6_fault_10 ⟨rt_i (by simp [aFlt, hx]), Sm_refl τ⟩
  have hJl := hJ.2 t ht
  have hs : isT τ (nI t) = true := isT_nI hW ht
  have hc : nN (nI t) = t := cl (by omega)
  rcases inB_casesL (x := i) hJl with ⟨hi, hi2⟩ | ⟨j, hj, rfl, hi⟩
  · refine Ct.of 0 (by decide) (by simp [Value.category]) (Nat.le_of_ble_eq_true rfl) ?_
    intro p e s m below meth c C
    refine g_aload_n C dX6_fault_0 rfl ?_
    refine g_iload_n C dX6_fault_1 rfl ?_
    refine g_callVr 0 C (cr_X6_isType) mw_X6_isType ml_X6_83 rfl rfl rfl rfl (Nat.le_of_ble_eq_true rfl) dX6_fault_2 ⟨Nat.le_of_ble_eq_true rfl, Nat.le_of_ble_eq_true rfl⟩ ⟨Nat.le_of_ble_eq_true rfl, Nat.le_of_ble_eq_true rfl⟩ ?_
    refine g_ifb_ne (tgt := 11) C dX6_fault_5 (by decide) (fun h5 => ?_) (fun h5 => ?_)
    · refine g_iload_n C dX6_fault_11 rfl ?_
      refine g_iconst (v := 0) C dX6_fault_12 (by decide) ?_
      refine g_iconst (v := 2) C dX6_fault_13 (by decide) ?_
      refine g_callSr C (cr_X6_in) mw_X6_in ml_X6_66 rfl rfl (Nat.le_of_ble_eq_true rfl) dX6_fault_14 ⟨Nat.le_of_ble_eq_true rfl, Nat.le_of_ble_eq_true rfl⟩ ⟨Nat.le_of_ble_eq_true rfl, Nat.le_of_ble_eq_true rfl⟩ ?_
      refine g_ifb_ne (tgt := 23) C dX6_fault_17 (by decide) (fun h17 => ?_) (fun h17 => ?_)
      · refine g_aload_n C dX6_fault_23 rfl ?_
        refine g_iload_n C dX6_fault_24 rfl ?_
        refine g_callV 0 C (ct_X6_judge hW ht (hJ.1 t ht) (hJ.2 t ht)) mw_X6_judge ml_X6_166 rfl rfl rfl rfl (Nat.le_of_ble_eq_true rfl) dX6_fault_25 ⟨Nat.le_of_ble_eq_true rfl, Nat.le_of_ble_eq_true rfl⟩ ⟨Nat.le_of_ble_eq_true rfl, Nat.le_of_ble_eq_true rfl⟩ ?_
        intro r v hv
        obtain ⟨rfl, hv⟩ := hv
        have hsm := hv.sm
        obtain ⟨A1, B1, C1, rfl, hA⟩ := hv
        refine g_iload_n C dX6_fault_28 rfl ?_
        refine g_iconst (v := 0) C dX6_fault_29 (by decide) ?_
        refine g_aload_n C dX6_fault_30 rfl ?_
        refine gn_X6_144 C (v := nI (jdg τ t).length) rfl dX6_fault_31 ?_
        refine g_iconst (v := 1) C dX6_fault_34 (by decide) ?_
        refine g_isub C dX6_fault_35 ?_
        refine g_callSr C (cr_X6_in) mw_X6_in ml_X6_66 rfl rfl (Nat.le_of_ble_eq_true rfl) dX6_fault_36 ⟨Nat.le_of_ble_eq_true rfl, Nat.le_of_ble_eq_true rfl⟩ ⟨Nat.le_of_ble_eq_true rfl, Nat.le_of_ble_eq_true rfl⟩ ?_
        refine g_ifb_ne (tgt := 44) C dX6_fault_39 (by decide) (fun h39 => ?_) (fun h39 => ?_)
        · exact absurd h39 (by simp [hi])
        · refine g_iconst (v := -1) C dX6_fault_42 (by decide) ?_
          exact g_iret C dX6_fault_43 ⟨rt_i (by rcases hi2 with q | q <;> simp [aFlt, hs, h17, hc, q]), hsm⟩
      · refine g_bipush (v := -3) C dX6_fault_20 (by decide) ?_
        exact g_iret C dX6_fault_22 ⟨rt_i (by simp [aFlt, hs, h17]), Sm_refl τ⟩
    · exact absurd h5 (by simp [hs])
  refine Ct.of 0 (by decide) (by simp [Value.category]) (Nat.le_of_ble_eq_true rfl) ?_
  intro p e s m below meth c C
  have hjc : nN (nI j) = j := cl (by omega)
  have hjn : ¬ nI j < 0 := nI_pos (by omega)
  refine g_aload_n C dX6_fault_0 rfl ?_
  refine g_iload_n C dX6_fault_1 rfl ?_
  refine g_callVr 0 C (cr_X6_isType) mw_X6_isType ml_X6_83 rfl rfl rfl rfl (Nat.le_of_ble_eq_true rfl) dX6_fault_2 ⟨Nat.le_of_ble_eq_true rfl, Nat.le_of_ble_eq_true rfl⟩ ⟨Nat.le_of_ble_eq_true rfl, Nat.le_of_ble_eq_true rfl⟩ ?_
  refine g_ifb_ne (tgt := 11) C dX6_fault_5 (by decide) (fun h5 => ?_) (fun h5 => ?_)
  · refine g_iload_n C dX6_fault_11 rfl ?_
    refine g_iconst (v := 0) C dX6_fault_12 (by decide) ?_
    refine g_iconst (v := 2) C dX6_fault_13 (by decide) ?_
    refine g_callSr C (cr_X6_in) mw_X6_in ml_X6_66 rfl rfl (Nat.le_of_ble_eq_true rfl) dX6_fault_14 ⟨Nat.le_of_ble_eq_true rfl, Nat.le_of_ble_eq_true rfl⟩ ⟨Nat.le_of_ble_eq_true rfl, Nat.le_of_ble_eq_true rfl⟩ ?_
    refine g_ifb_ne (tgt := 23) C dX6_fault_17 (by decide) (fun h17 => ?_) (fun h17 => ?_)
    · refine g_aload_n C dX6_fault_23 rfl ?_
      refine g_iload_n C dX6_fault_24 rfl ?_
      refine g_callV 0 C (ct_X6_judge hW ht (hJ.1 t ht) (hJ.2 t ht)) mw_X6_judge ml_X6_166 rfl rfl rfl rfl (Nat.le_of_ble_eq_true rfl) dX6_fault_25 ⟨Nat.le_of_ble_eq_true rfl, Nat.le_of_ble_eq_true rfl⟩ ⟨Nat.le_of_ble_eq_true rfl, Nat.le_of_ble_eq_true rfl⟩ ?_
      intro r v hv
      obtain ⟨rfl, hv⟩ := hv
      have hsm := hv.sm
      obtain ⟨A1, B1, C1, rfl, hA⟩ := hv
      refine g_iload_n C dX6_fault_28 rfl ?_
      refine g_iconst (v := 0) C dX6_fault_29 (by decide) ?_
      refine g_aload_n C dX6_fault_30 rfl ?_
      refine gn_X6_144 C (v := nI (jdg τ t).length) rfl dX6_fault_31 ?_
      refine g_iconst (v := 1) C dX6_fault_34 (by decide) ?_
      refine g_isub C dX6_fault_35 ?_
      refine g_callSr C (cr_X6_in) mw_X6_in ml_X6_66 rfl rfl (Nat.le_of_ble_eq_true rfl) dX6_fault_36 ⟨Nat.le_of_ble_eq_true rfl, Nat.le_of_ble_eq_true rfl⟩ ⟨Nat.le_of_ble_eq_true rfl, Nat.le_of_ble_eq_true rfl⟩ ?_
      refine g_ifb_ne (tgt := 44) C dX6_fault_39 (by decide) (fun h39 => ?_) (fun h39 => ?_)
      · refine g_iload_n C dX6_fault_44 rfl ?_
        refine g_if_ne (tgt := 57) C dX6_fault_45 (by decide) (fun h45 => ?_) (fun h45 => ?_)
        · refine g_iload_n C dX6_fault_57 rfl ?_
          refine g_iconst (v := 1) C dX6_fault_58 (by decide) ?_
          refine g_icmp_ne (tgt := 71) C dX6_fault_59 (by decide) (fun h59 => ?_) (fun h59 => ?_)
          · refine g_aload_n C dX6_fault_71 rfl ?_
            refine gf_X6_59 C dX6_fault_72 ?_
            refine g_iload_n C dX6_fault_75 rfl ?_
            refine gM_ln17 C (by omega) dX6_fault_76 ?_
            exact g_iret C dX6_fault_77 ⟨rt_i (by have hq := hA j hj; simp [aFlt, hs, h17, hc, hjc, hjn, hq, fPick, h45, h59]; try rfl), hsm⟩
          · refine g_aload_n C dX6_fault_62 rfl ?_
            refine gf_X6_56 C dX6_fault_63 ?_
            refine g_iload_n C dX6_fault_66 rfl ?_
            refine gM_ln16 C (by omega) dX6_fault_67 ?_
            refine g_goto (tgt := 77) C dX6_fault_68 (by decide) ?_
            exact g_iret C dX6_fault_77 ⟨rt_i (by have hq := hA j hj; simp [aFlt, hs, h17, hc, hjc, hjn, hq, fPick, h45, h59]; try rfl), hsm⟩
        · refine g_aload_n C dX6_fault_48 rfl ?_
          refine gf_X6_53 C dX6_fault_49 ?_
          refine g_iload_n C dX6_fault_52 rfl ?_
          refine gM_ln15 C (by omega) dX6_fault_53 ?_
          refine g_goto (tgt := 77) C dX6_fault_54 (by decide) ?_
          exact g_iret C dX6_fault_77 ⟨rt_i (by have hq := hA j hj; simp [aFlt, hs, h17, hc, hjc, hjn, hq, fPick, h45]; try rfl), hsm⟩
      · exact absurd h39 (by simp [hi])
    · refine g_bipush (v := -3) C dX6_fault_20 (by decide) ?_
      exact g_iret C dX6_fault_22 ⟨rt_i (by simp [aFlt, hs, h17]), Sm_refl τ⟩
  · exact absurd h5 (by simp [hs])
set_option maxRecDepth 100000 in
set_option maxHeartbeats 4000000 in
theorem ct_X6_told {l : Launch} {D : va_G} {cI cZ : ClassId} {b : Nat → Nat} {τ : St} (hW : W0 τ) (hJ : JOk τ) {x : Int32} : Ct l yX6_told cX6_told 4 (some .int) 7 160 D cI cZ (pM b cI cZ) [.ref (b 0), .int x] τ (fun r u => r = some (.int (aTld τ x)) ∧ Sm τ u) := by
  have hTl := w0_tl hW
  have hMl := w0_ml hW
  refine Ct.of 2 (by decide) (by simp [Value.category]) (Nat.le_of_ble_eq_true rfl) ?_
  intro p e s m below meth c C
  have loop : x = 3 → ∀ (n i : Nat) (w : St), i ≤ nT τ → nT τ + 1 ≤ i + n → Sm τ w → G p l e (rmo 7 160) s m ([.ref (b 0), .int x] : List Value).toArray below meth c D (va_A (pM b cI cZ τ) s.heap.size) 0 0 (Qe below ([.ref (b 0), .int x] : List Value).toArray s D (pM b cI cZ) τ (fun r u => r = some (.int (aTld τ x)) ∧ Sm τ u)) 4 (pM b cI cZ w) 9 [some (.ref (b 0)), some (.int (x)), some (.int (nI (sumN i (fun t => (jdg τ t).length)))), some (.int (nI i))] [] := by
    intro hx n
    induction n with
    | zero => intro i w h1 h2; omega
    | succ n ih =>
      intro i w h1 h2 hw
      obtain ⟨A0, B0, C0, n0, rfl⟩ := hw
      refine g_iload_n C dX6_told_9 rfl ?_
      refine g_aload_n C dX6_told_10 rfl ?_
      refine gn_X6_62 C (v := nI (nT τ)) (w0_t hW) dX6_told_11 ?_
      refine g_icmpN_ge (tgt := 35) C (by omega) (by omega) dX6_told_14 (by decide) (fun h14 => ?_) (fun h14 => ?_)
      · refine g_iload_n C dX6_told_35 rfl ?_
        exact g_iret C dX6_told_36 ⟨rt_i (by obtain rfl : i = nT τ := (by omega); simp [aTld, hx]), A0, B0, C0, n0, rfl⟩
      · refine g_aload_n C dX6_told_17 rfl ?_
        refine g_iload_n C dX6_told_18 rfl ?_
        refine g_callV 0 C (ct_X6_judge (τ := lgS τ A0 B0 C0 n0) (t := i) hW (show i < nT τ by omega) (hJ.1 i (by omega)) (by rw [jdg_lg]; exact hJ.2 i (by omega))) mw_X6_judge ml_X6_166 rfl rfl rfl rfl (Nat.le_of_ble_eq_true rfl) dX6_told_19 ⟨Nat.le_of_ble_eq_true rfl, Nat.le_of_ble_eq_true rfl⟩ ⟨Nat.le_of_ble_eq_true rfl, Nat.le_of_ble_eq_true rfl⟩ ?_
        intro r v hv
        obtain ⟨rfl, hv⟩ := hv
        rw [jdg_lg] at hv
        have hv := Lg_lg hv
        have hsm := hv.sm
        obtain ⟨A1, B1, C1, rfl, hA⟩ := hv
        refine g_iload_n C dX6_told_22 rfl ?_
        refine g_aload_n C dX6_told_23 rfl ?_
        refine gn_X6_144 C (v := nI (jdg τ i).length) rfl dX6_told_24 ?_
        refine g_iaddN C dX6_told_27 ?_
        refine g_istore_n C dX6_told_28 (by decide) ?_
        refine g_iincN C dX6_told_29 rfl (by decide) ?_
        refine g_goto (tgt := 9) C dX6_told_32 (by decide) ?_
        exact ih (i + 1) _ (by omega) (by omega) hsm
  refine g_iload_n C dX6_told_0 rfl ?_
  refine g_iconst (v := 3) C dX6_told_1 (by decide) ?_
  refine g_icmp_ne (tgt := 37) C dX6_told_2 (by decide) (fun h2 => ?_) (fun h2 => ?_)
  · refine g_iload_n C dX6_told_37 rfl ?_
    refine g_if_ne (tgt := 48) C dX6_told_38 (by decide) (fun h38 => ?_) (fun h38 => ?_)
    · refine g_iload_n C dX6_told_48 rfl ?_
      refine g_iconst (v := 1) C dX6_told_49 (by decide) ?_
      refine g_icmp_ne (tgt := 60) C dX6_told_50 (by decide) (fun h50 => ?_) (fun h50 => ?_)
      · refine g_iload_n C dX6_told_60 rfl ?_
        refine g_iconst (v := 2) C dX6_told_61 (by decide) ?_
        refine g_icmp_ne (tgt := 72) C dX6_told_62 (by decide) (fun h62 => ?_) (fun h62 => ?_)
        · refine g_bipush (v := -3) C dX6_told_72 (by decide) ?_
          exact g_iret C dX6_told_74 ⟨rt_i (by simp [aTld, h2, h38, h50, h62]), Sm_refl τ⟩
        · refine g_aload_n C dX6_told_65 rfl ?_
          refine gf_X6_70 C dX6_told_66 ?_
          refine g_goto (tgt := 74) C dX6_told_69 (by decide) ?_
          exact g_iret C dX6_told_74 ⟨rt_i (by simp [aTld, h2, h38, h50, h62]), Sm_refl τ⟩
      · refine g_aload_n C dX6_told_53 rfl ?_
        refine gf_X6_73 C dX6_told_54 ?_
        refine g_goto (tgt := 74) C dX6_told_57 (by decide) ?_
        exact g_iret C dX6_told_74 ⟨rt_i (by simp [aTld, h2, h38, h50]), Sm_refl τ⟩
    · refine g_aload_n C dX6_told_41 rfl ?_
      refine gf_X6_62 C dX6_told_42 ?_
      refine g_goto (tgt := 74) C dX6_told_45 (by decide) ?_
      exact g_iret C dX6_told_74 ⟨rt_i (by simp [aTld, h2, h38]), Sm_refl τ⟩
  · refine g_iconstN 0 C dX6_told_5 (by decide) ?_
    refine g_istore_n C dX6_told_6 (by decide) ?_
    refine g_iconstN 0 C dX6_told_7 (by decide) ?_
    refine g_istore_n C dX6_told_8 (by decide) ?_
    exact loop h2 (nT τ + 1) 0 τ (by omega) (by omega) (Sm_refl τ)

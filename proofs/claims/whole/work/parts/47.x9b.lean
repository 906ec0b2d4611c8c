/-! ===== the class: its public methods that change it ===== -/
set_option maxRecDepth 100000 in
set_option maxHeartbeats 4000000 in
theorem ct_X5_told {l : Launch} {D : va_G} {cI cZ : ClassId} {b : Nat → Nat} {τ σ : St} (hI : Inv τ σ) {x : Int32} : Ct l yX5_told cX5_told 4 (some .int) 6 146 D cI cZ (pX b cI cZ) [.ref (b 0), .int x] σ (fun r u => r = some (.int (aTld τ x)) ∧ RX τ u) := by
  have hTl := w0_tl (iW hI)
  have hMl := w0_ml (iW hI)
  have hXl := w0_xl (iW hI)
  by_cases hx : inB x 0 3 = true
  · obtain ⟨j, hj, rfl⟩ := inB_nI (n := 3) (by decide) hx
    match j, hj with
    | 0, _ =>
      refine Ct.of 2 (by decide) (by simp [Value.category]) (Nat.le_of_ble_eq_true rfl) ?_
      intro p e s m below meth c C
      refine g_iload_n C dX5_told_0 rfl ?_
      refine g_tableIn (off := 31) (tgt := 32) C dX5_told_1 (by decide) (by decide) (by decide) (by decide) ?_
      refine g_aload_n C dX5_told_32 rfl ?_
      refine gf_X5_10 C dX5_told_33 ?_
      refine g_callVr 1 C (cr_X4_size hI) mw_X4_size ml_X5_146 rfl rfl rfl rfl (Nat.le_of_ble_eq_true rfl) dX5_told_36 ⟨Nat.le_of_ble_eq_true rfl, Nat.le_of_ble_eq_true rfl⟩ ⟨Nat.le_of_ble_eq_true rfl, Nat.le_of_ble_eq_true rfl⟩ ?_
      exact g_iret C dX5_told_39 ⟨rt_i (w0_t (iW hI)).symm, hI.2⟩
    | 1, _ =>
      refine Ct.of 2 (by decide) (by simp [Value.category]) (Nat.le_of_ble_eq_true rfl) ?_
      intro p e s m below meth c C
      refine g_iload_n C dX5_told_0 rfl ?_
      refine g_tableIn (off := 39) (tgt := 40) C dX5_told_1 (by decide) (by decide) (by decide) (by decide) ?_
      refine g_aload_n C dX5_told_40 rfl ?_
      refine gf_X5_19 C dX5_told_41 ?_
      refine g_callVr 7 C (cr_X3_size hI) mw_X3_size ml_X5_147 rfl rfl rfl rfl (Nat.le_of_ble_eq_true rfl) dX5_told_44 ⟨Nat.le_of_ble_eq_true rfl, Nat.le_of_ble_eq_true rfl⟩ ⟨Nat.le_of_ble_eq_true rfl, Nat.le_of_ble_eq_true rfl⟩ ?_
      exact g_iret C dX5_told_47 ⟨rt_i (w0_x (iW hI)).symm, hI.2⟩
    | 2, _ =>
      refine Ct.of 2 (by decide) (by simp [Value.category]) (Nat.le_of_ble_eq_true rfl) ?_
      intro p e s m below meth c C
      refine g_iload_n C dX5_told_0 rfl ?_
      refine g_tableIn (off := 47) (tgt := 48) C dX5_told_1 (by decide) (by decide) (by decide) (by decide) ?_
      refine g_aload_n C dX5_told_48 rfl ?_
      refine gf_X5_28 C dX5_told_49 ?_
      refine g_callVr 9 C (cr_X2_size hI) mw_X2_size ml_X5_50 rfl rfl rfl rfl (Nat.le_of_ble_eq_true rfl) dX5_told_52 ⟨Nat.le_of_ble_eq_true rfl, Nat.le_of_ble_eq_true rfl⟩ ⟨Nat.le_of_ble_eq_true rfl, Nat.le_of_ble_eq_true rfl⟩ ?_
      exact g_iret C dX5_told_55 ⟨rt_i (w0_m (iW hI)).symm, hI.2⟩
    | 3, _ =>
      refine Ct.of 2 (by decide) (by simp [Value.category]) (Nat.le_of_ble_eq_true rfl) ?_
      intro p e s m below meth c C
      have loop : ∀ (n i : Nat) (σ2 : St), Inv τ σ2 → i ≤ nT τ → nT τ + 1 ≤ i + n → G p l e (rmo 6 146) s m ([.ref (b 0), .int (nI 3)] : List Value).toArray below meth c D (va_A (pX b cI cZ σ) s.heap.size) 0 0 (Qe below ([.ref (b 0), .int (nI 3)] : List Value).toArray s D (pX b cI cZ) σ (fun r u => r = some (.int (aTld τ (nI 3))) ∧ RX τ u)) 4 (pX b cI cZ σ2) 60 [some (.ref (b 0)), none, some (.int (nI (sumN i (fun t => (jdg τ t).length)))), some (.int (nI i))] [] := by
        intro n
        induction n with
        | zero => intro i σ2 hI2 h1 h2; omega
        | succ n ih =>
          intro i σ2 hI2 h1 h2
          refine g_iload_n C dX5_told_60 rfl ?_
          refine g_aload_n C dX5_told_61 rfl ?_
          refine gf_X5_10 C dX5_told_62 ?_
          refine g_callVr 1 C (cr_X4_size hI2) mw_X4_size ml_X5_146 rfl rfl rfl rfl (Nat.le_of_ble_eq_true rfl) dX5_told_65 ⟨Nat.le_of_ble_eq_true rfl, Nat.le_of_ble_eq_true rfl⟩ ⟨Nat.le_of_ble_eq_true rfl, Nat.le_of_ble_eq_true rfl⟩ ?_
          refine g_icmpN_ge (tgt := 89) C (by omega) (by omega) dX5_told_68 (by decide) (fun h68 => ?_) (fun h68 => ?_)
          · refine g_iload_n C dX5_told_89 rfl ?_
            exact g_iret C dX5_told_90 ⟨rt_i (by rw [aTld, if_pos (show nI 3 = 3 from rfl), show i = nT τ by omega]), hI2.2⟩
          · refine g_iload_n C dX5_told_71 rfl ?_
            refine g_aload_n C dX5_told_72 rfl ?_
            refine gf_X5_46 C dX5_told_73 ?_
            refine g_iload_n C dX5_told_76 rfl ?_
            refine g_iconst (v := -1) C dX5_told_77 (by decide) ?_
            refine g_callV 17 C (ct_X1_walk hI2 (show i < nT τ by omega)) mw_X1_walk ml_X5_131 rfl rfl rfl rfl (Nat.le_of_ble_eq_true rfl) dX5_told_78 ⟨Nat.le_of_ble_eq_true rfl, Nat.le_of_ble_eq_true rfl⟩ ⟨Nat.le_of_ble_eq_true rfl, Nat.le_of_ble_eq_true rfl⟩ ?_
            intro r v hv
            obtain ⟨rfl, rfl⟩ := hv
            refine g_iaddN C dX5_told_81 ?_
            refine g_istore_n C dX5_told_82 (by decide) ?_
            refine g_iincN C dX5_told_83 rfl (by decide) ?_
            refine g_goto (tgt := 60) C dX5_told_86 (by decide) ?_
            exact ih (i + 1) (fL σ2 (-1) (jdg τ i)) hI2 (by omega) (by omega)
      refine g_iload_n C dX5_told_0 rfl ?_
      refine g_tableIn (off := 55) (tgt := 56) C dX5_told_1 (by decide) (by decide) (by decide) (by decide) ?_
      refine g_iconstN 0 C dX5_told_56 (by decide) ?_
      refine g_istore_n C dX5_told_57 (by decide) ?_
      refine g_iconstN 0 C dX5_told_58 (by decide) ?_
      refine g_istore_n C dX5_told_59 (by decide) ?_
      exact (loop (nT τ + 1) 0 σ hI (by omega) (by omega)).weak (by simp [lvle, lst, sumN])
  · have hn : ∀ k : Int32, inB k 0 3 = true → ¬ x = k := fun k hk q => hx (by rw [q]; exact hk)
    refine Ct.of 2 (by decide) (by simp [Value.category]) (Nat.le_of_ble_eq_true rfl) ?_
    intro p e s m below meth c C
    refine g_iload_n C dX5_told_0 rfl ?_
    refine g_tableOut (tgt := 91) C dX5_told_1 (by simp only [inB, Bool.and_eq_true, decide_eq_true_eq, Int32.le_iff_toInt_le, show (0 : Int32).toInt = 0 by decide, show (3 : Int32).toInt = 3 by decide] at hx; omega) (by decide) ?_
    refine g_bipush (v := -3) C dX5_told_91 (by decide) ?_
    exact g_iret C dX5_told_93 ⟨rt_i (by rw [aTld, if_neg (hn 3 (by decide)), if_neg (hn 0 (by decide)), if_neg (hn 1 (by decide)), if_neg (hn 2 (by decide))]), hI.2⟩
set_option maxRecDepth 100000 in
set_option maxHeartbeats 4000000 in
theorem ct_X5_clear {l : Launch} {D : va_G} {cI cZ : ClassId} {b : Nat → Nat} {τ σ : St} (hI : Inv τ σ) : Ct l yX5_clear cX5_clear 2 (some .int) 1 21 D cI cZ (pX b cI cZ) [.ref (b 0)] σ (fun r u => r = some (.int (τ 0 2)) ∧ RX (clS τ) u) := by
  refine Ct.of 1 (by decide) (by simp [Value.category]) (Nat.le_of_ble_eq_true rfl) ?_
  intro p e s m below meth c C
  refine g_aload_n C dX5_clear_0 rfl ?_
  refine gf_X5_28 C dX5_clear_1 ?_
  refine g_callVr 9 C ((cr_X2_size hI).val (w0_m (iW hI)).symm) mw_X2_size ml_X5_50 rfl rfl rfl rfl (Nat.le_of_ble_eq_true rfl) dX5_clear_4 ⟨Nat.le_of_ble_eq_true rfl, Nat.le_of_ble_eq_true rfl⟩ ⟨Nat.le_of_ble_eq_true rfl, Nat.le_of_ble_eq_true rfl⟩ ?_
  refine g_istore_n C dX5_clear_7 (by decide) ?_
  refine g_aload_n C dX5_clear_8 rfl ?_
  refine gf_X5_10 C dX5_clear_9 ?_
  refine g_callV 1 C (ct_X4_forget) mw_X4_forget ml_X5_54 rfl rfl rfl rfl (Nat.le_of_ble_eq_true rfl) dX5_clear_12 ⟨Nat.le_of_ble_eq_true rfl, Nat.le_of_ble_eq_true rfl⟩ ⟨Nat.le_of_ble_eq_true rfl, Nat.le_of_ble_eq_true rfl⟩ ?_
  intro r v hv
  obtain ⟨rfl, rfl⟩ := hv
  refine g_aload_n C dX5_clear_15 rfl ?_
  refine gf_X5_19 C dX5_clear_16 ?_
  refine g_callV 7 C (ct_X3_forget) mw_X3_forget ml_X5_57 rfl rfl rfl rfl (Nat.le_of_ble_eq_true rfl) dX5_clear_19 ⟨Nat.le_of_ble_eq_true rfl, Nat.le_of_ble_eq_true rfl⟩ ⟨Nat.le_of_ble_eq_true rfl, Nat.le_of_ble_eq_true rfl⟩ ?_
  intro r v hv
  obtain ⟨rfl, rfl⟩ := hv
  refine g_aload_n C dX5_clear_22 rfl ?_
  refine gf_X5_28 C dX5_clear_23 ?_
  refine g_callV 9 C (ct_X2_forget) mw_X2_forget ml_X5_58 rfl rfl rfl rfl (Nat.le_of_ble_eq_true rfl) dX5_clear_26 ⟨Nat.le_of_ble_eq_true rfl, Nat.le_of_ble_eq_true rfl⟩ ⟨Nat.le_of_ble_eq_true rfl, Nat.le_of_ble_eq_true rfl⟩ ?_
  intro r v hv
  obtain ⟨rfl, S, rfl, hS⟩ := hv
  refine g_iload_n C dX5_clear_29 rfl ?_
  exact g_iret C dX5_clear_30 ⟨rfl, RX_cl hS⟩
set_option maxRecDepth 100000 in
set_option maxHeartbeats 4000000 in
theorem ct_X5_type {l : Launch} {D : va_G} {cI cZ : ClassId} {b : Nat → Nat} {τ σ : St} (hI : Inv τ σ) {k p1 pa : Int32} : Ct l yX5_type cX5_type 4 (some .int) 3 69 D cI cZ (pX b cI cZ) [.ref (b 0), .int k, .int p1, .int pa] σ (fun r u => r = some (.int (aTyp τ k p1 pa)) ∧ (if goT τ k p1 pa = true then RX (tyS τ k p1 pa) u else u = σ)) := by
  have hTl := w0_tl (iW hI)
  have hMl := w0_ml (iW hI)
  have hXl := w0_xl (iW hI)
  by_cases hne : pa = -1
  · subst hne
    refine Ct.of 0 (by decide) (by simp [Value.category]) (Nat.le_of_ble_eq_true rfl) ?_
    intro p e s m below meth c C
    refine g_iload_n C dX5_type_0 rfl ?_
    refine g_iconst (v := -1) C dX5_type_1 (by decide) ?_
    refine g_icmp_eq (tgt := 19) C dX5_type_2 (by decide) (fun h2 => ?_) (fun h2 => ?_)
    · refine g_iload_n C dX5_type_19 rfl ?_
      refine g_if_lt (tgt := 37) C dX5_type_20 (by decide) (fun h20 => ?_) (fun h20 => ?_)
      · refine g_bipush (v := -3) C dX5_type_37 (by decide) ?_
        have a1 := inB_lo (z := 2) h20; exact g_iret C dX5_type_39 ⟨rt_i (by simp [aTyp, okT, a1]), by rw [if_neg (by simp [goT, okT, a1])]⟩
      · refine g_iload_n C dX5_type_23 rfl ?_
        refine g_iconst (v := 2) C dX5_type_24 (by decide) ?_
        refine g_icmp_gt (tgt := 37) C dX5_type_25 (by decide) (fun h25 => ?_) (fun h25 => ?_)
        · refine g_bipush (v := -3) C dX5_type_37 (by decide) ?_
          have a1 := inB_hi (a := 0) h25; exact g_iret C dX5_type_39 ⟨rt_i (by simp [aTyp, okT, a1]), by rw [if_neg (by simp [goT, okT, a1])]⟩
        · refine g_iload_n C dX5_type_28 rfl ?_
          refine g_if_lt (tgt := 37) C dX5_type_29 (by decide) (fun h29 => ?_) (fun h29 => ?_)
          · refine g_bipush (v := -3) C dX5_type_37 (by decide) ?_
            have a1 := inB_t (Int32.not_lt.mp h20) (Int32.not_lt.mp h25); have a2 := inB_lo (z := 3) h29; exact g_iret C dX5_type_39 ⟨rt_i (by simp [aTyp, okT, a1, a2]), by rw [if_neg (by simp [goT, okT, a1, a2])]⟩
          · refine g_iload_n C dX5_type_32 rfl ?_
            refine g_iconst (v := 4) C dX5_type_33 (by decide) ?_
            refine g_icmp_lt (tgt := 40) C dX5_type_34 (by decide) (fun h34 => ?_) (fun h34 => ?_)
            · refine g_iload_n C dX5_type_40 rfl ?_
              refine g_iconst (v := -1) C dX5_type_41 (by decide) ?_
              refine g_icmp_eq (tgt := 64) C dX5_type_42 (by decide) (fun h42 => ?_) (fun h42 => ?_)
              · refine g_aload_n C dX5_type_64 rfl ?_
                refine gf_X5_10 C dX5_type_65 ?_
                refine g_callVr 1 C (cr_X4_isFull hI) mw_X4_isFull ml_X5_66 rfl rfl rfl rfl (Nat.le_of_ble_eq_true rfl) dX5_type_68 ⟨Nat.le_of_ble_eq_true rfl, Nat.le_of_ble_eq_true rfl⟩ ⟨Nat.le_of_ble_eq_true rfl, Nat.le_of_ble_eq_true rfl⟩ ?_
                refine g_ifb_eq (tgt := 79) C dX5_type_71 (by decide) (fun h71 => ?_) (fun h71 => ?_)
                · refine g_aload_n C dX5_type_79 rfl ?_
                  refine gf_X5_10 C dX5_type_80 ?_
                  refine g_iload_n C dX5_type_83 rfl ?_
                  refine g_iload_n C dX5_type_84 rfl ?_
                  refine g_iload_n C dX5_type_85 rfl ?_
                  refine g_callV 1 C (ct_X4_add hI (show nT τ < 16 by have := of_decide_eq_false h71; omega) (Or.inl rfl)) mw_X4_add ml_X5_70 rfl rfl rfl rfl (Nat.le_of_ble_eq_true rfl) dX5_type_86 ⟨Nat.le_of_ble_eq_true rfl, Nat.le_of_ble_eq_true rfl⟩ ⟨Nat.le_of_ble_eq_true rfl, Nat.le_of_ble_eq_true rfl⟩ ?_
                  intro r v hv
                  obtain ⟨rfl, hR⟩ := hv
                  have a1 := inB_t (Int32.not_lt.mp h20) (Int32.not_lt.mp h25); have a2 := inB_t (Int32.not_lt.mp h29) (lt4.mp h34); exact g_iret C dX5_type_89 ⟨rt_i (by simp [aTyp, okT, a1, a2, show ¬ nT τ = 16 from of_decide_eq_false h71]), by rw [if_pos (by simp [goT, okT, a1, a2, show ¬ nT τ = 16 from of_decide_eq_false h71])]; exact hR⟩
                · refine g_bipush (v := -4) C dX5_type_74 (by decide) ?_
                  refine g_goto (tgt := 89) C dX5_type_76 (by decide) ?_
                  have a1 := inB_t (Int32.not_lt.mp h20) (Int32.not_lt.mp h25); have a2 := inB_t (Int32.not_lt.mp h29) (lt4.mp h34); exact g_iret C dX5_type_89 ⟨rt_i (by simp [aTyp, okT, a1, a2, show nT τ = 16 from of_decide_eq_true h71]), by rw [if_neg (by simp [goT, okT, a1, a2, show nT τ = 16 from of_decide_eq_true h71])]⟩
              · exact absurd rfl h42
            · refine g_bipush (v := -3) C dX5_type_37 (by decide) ?_
              have a1 := inB_t (Int32.not_lt.mp h20) (Int32.not_lt.mp h25); have a2 := inB_hi (a := 0) (Int32.not_le.mp (fun q => h34 (lt4.mpr q))); exact g_iret C dX5_type_39 ⟨rt_i (by simp [aTyp, okT, a1, a2]), by rw [if_neg (by simp [goT, okT, a1, a2])]⟩
    · exact absurd rfl h2
  rcases isT_cases (iW hI) pa with hT | ⟨q, hq, rfl⟩
  · refine Ct.of 0 (by decide) (by simp [Value.category]) (Nat.le_of_ble_eq_true rfl) ?_
    intro p e s m below meth c C
    refine g_iload_n C dX5_type_0 rfl ?_
    refine g_iconst (v := -1) C dX5_type_1 (by decide) ?_
    refine g_icmp_eq (tgt := 19) C dX5_type_2 (by decide) (fun h2 => ?_) (fun h2 => ?_)
    · exact absurd h2 hne
    · refine g_aload_n C dX5_type_5 rfl ?_
      refine gf_X5_10 C dX5_type_6 ?_
      refine g_iload_n C dX5_type_9 rfl ?_
      refine g_callVr 1 C (cr_X4_has hI) mw_X4_has ml_X5_59 rfl rfl rfl rfl (Nat.le_of_ble_eq_true rfl) dX5_type_10 ⟨Nat.le_of_ble_eq_true rfl, Nat.le_of_ble_eq_true rfl⟩ ⟨Nat.le_of_ble_eq_true rfl, Nat.le_of_ble_eq_true rfl⟩ ?_
      refine g_ifb_ne (tgt := 19) C dX5_type_13 (by decide) (fun h13 => ?_) (fun h13 => ?_)
      · rw [hT] at h13; cases h13
      · refine g_bipush (v := -2) C dX5_type_16 (by decide) ?_
        exact g_iret C dX5_type_18 ⟨rt_i (by simp [aTyp, hne, hT]), by rw [if_neg (by simp [goT, hne, hT])]⟩
  · have hT := isT_nI (iW hI) hq
    refine Ct.of 0 (by decide) (by simp [Value.category]) (Nat.le_of_ble_eq_true rfl) ?_
    intro p e s m below meth c C
    refine g_iload_n C dX5_type_0 rfl ?_
    refine g_iconst (v := -1) C dX5_type_1 (by decide) ?_
    refine g_icmp_eq (tgt := 19) C dX5_type_2 (by decide) (fun h2 => ?_) (fun h2 => ?_)
    · exact absurd h2 hne
    · refine g_aload_n C dX5_type_5 rfl ?_
      refine gf_X5_10 C dX5_type_6 ?_
      refine g_iload_n C dX5_type_9 rfl ?_
      refine g_callVr 1 C (cr_X4_has hI) mw_X4_has ml_X5_59 rfl rfl rfl rfl (Nat.le_of_ble_eq_true rfl) dX5_type_10 ⟨Nat.le_of_ble_eq_true rfl, Nat.le_of_ble_eq_true rfl⟩ ⟨Nat.le_of_ble_eq_true rfl, Nat.le_of_ble_eq_true rfl⟩ ?_
      refine g_ifb_ne (tgt := 19) C dX5_type_13 (by decide) (fun h13 => ?_) (fun h13 => ?_)
      · refine g_iload_n C dX5_type_19 rfl ?_
        refine g_if_lt (tgt := 37) C dX5_type_20 (by decide) (fun h20 => ?_) (fun h20 => ?_)
        · refine g_bipush (v := -3) C dX5_type_37 (by decide) ?_
          have a1 := inB_lo (z := 2) h20; exact g_iret C dX5_type_39 ⟨rt_i (by simp [aTyp, okT, a1, hne, hT]), by rw [if_neg (by simp [goT, okT, a1, hne, hT])]⟩
        · refine g_iload_n C dX5_type_23 rfl ?_
          refine g_iconst (v := 2) C dX5_type_24 (by decide) ?_
          refine g_icmp_gt (tgt := 37) C dX5_type_25 (by decide) (fun h25 => ?_) (fun h25 => ?_)
          · refine g_bipush (v := -3) C dX5_type_37 (by decide) ?_
            have a1 := inB_hi (a := 0) h25; exact g_iret C dX5_type_39 ⟨rt_i (by simp [aTyp, okT, a1, hne, hT]), by rw [if_neg (by simp [goT, okT, a1, hne, hT])]⟩
          · refine g_iload_n C dX5_type_28 rfl ?_
            refine g_if_lt (tgt := 37) C dX5_type_29 (by decide) (fun h29 => ?_) (fun h29 => ?_)
            · refine g_bipush (v := -3) C dX5_type_37 (by decide) ?_
              have a1 := inB_t (Int32.not_lt.mp h20) (Int32.not_lt.mp h25); have a2 := inB_lo (z := 3) h29; exact g_iret C dX5_type_39 ⟨rt_i (by simp [aTyp, okT, a1, a2, hne, hT]), by rw [if_neg (by simp [goT, okT, a1, a2, hne, hT])]⟩
            · refine g_iload_n C dX5_type_32 rfl ?_
              refine g_iconst (v := 4) C dX5_type_33 (by decide) ?_
              refine g_icmp_lt (tgt := 40) C dX5_type_34 (by decide) (fun h34 => ?_) (fun h34 => ?_)
              · refine g_iload_n C dX5_type_40 rfl ?_
                refine g_iconst (v := -1) C dX5_type_41 (by decide) ?_
                refine g_icmp_eq (tgt := 64) C dX5_type_42 (by decide) (fun h42 => ?_) (fun h42 => ?_)
                · exact absurd h42 hne
                · refine g_iload_n C dX5_type_45 rfl ?_
                  refine g_iconst (v := 2) C dX5_type_46 (by decide) ?_
                  refine g_icmp_eq (tgt := 61) C dX5_type_47 (by decide) (fun h47 => ?_) (fun h47 => ?_)
                  · refine g_bipush (v := -3) C dX5_type_61 (by decide) ?_
                    have a1 := inB_t (Int32.not_lt.mp h20) (Int32.not_lt.mp h25); have a2 := inB_t (Int32.not_lt.mp h29) (lt4.mp h34); exact g_iret C dX5_type_63 ⟨rt_i (by simp [aTyp, okT, a1, a2, hne, hT, h47]), by rw [if_neg (by simp [goT, okT, a1, a2, hne, hT, h47])]⟩
                  · refine g_aload_n C dX5_type_50 rfl ?_
                    refine gf_X5_10 C dX5_type_51 ?_
                    refine g_iload_n C dX5_type_54 rfl ?_
                    refine g_callVr 1 C (cr_X4_isInterface hI hq) mw_X4_isInterface ml_X5_63 rfl rfl rfl rfl (Nat.le_of_ble_eq_true rfl) dX5_type_55 ⟨Nat.le_of_ble_eq_true rfl, Nat.le_of_ble_eq_true rfl⟩ ⟨Nat.le_of_ble_eq_true rfl, Nat.le_of_ble_eq_true rfl⟩ ?_
                    refine g_ifb_eq (tgt := 64) C dX5_type_58 (by decide) (fun h58 => ?_) (fun h58 => ?_)
                    · refine g_aload_n C dX5_type_64 rfl ?_
                      refine gf_X5_10 C dX5_type_65 ?_
                      refine g_callVr 1 C (cr_X4_isFull hI) mw_X4_isFull ml_X5_66 rfl rfl rfl rfl (Nat.le_of_ble_eq_true rfl) dX5_type_68 ⟨Nat.le_of_ble_eq_true rfl, Nat.le_of_ble_eq_true rfl⟩ ⟨Nat.le_of_ble_eq_true rfl, Nat.le_of_ble_eq_true rfl⟩ ?_
                      refine g_ifb_eq (tgt := 79) C dX5_type_71 (by decide) (fun h71 => ?_) (fun h71 => ?_)
                      · refine g_aload_n C dX5_type_79 rfl ?_
                        refine gf_X5_10 C dX5_type_80 ?_
                        refine g_iload_n C dX5_type_83 rfl ?_
                        refine g_iload_n C dX5_type_84 rfl ?_
                        refine g_iload_n C dX5_type_85 rfl ?_
                        refine g_callV 1 C (ct_X4_add hI (show nT τ < 16 by have := of_decide_eq_false h71; omega) (Or.inr ⟨q, hq, rfl⟩)) mw_X4_add ml_X5_70 rfl rfl rfl rfl (Nat.le_of_ble_eq_true rfl) dX5_type_86 ⟨Nat.le_of_ble_eq_true rfl, Nat.le_of_ble_eq_true rfl⟩ ⟨Nat.le_of_ble_eq_true rfl, Nat.le_of_ble_eq_true rfl⟩ ?_
                        intro r v hv
                        obtain ⟨rfl, hR⟩ := hv
                        have a1 := inB_t (Int32.not_lt.mp h20) (Int32.not_lt.mp h25); have a2 := inB_t (Int32.not_lt.mp h29) (lt4.mp h34); have hk58 : ¬ τ 1 (nN (nI q)) = 2 := (by rw [nN, nI_clamp (show q < 2 ^ 31 by omega)]; exact of_decide_eq_false h58); exact g_iret C dX5_type_89 ⟨rt_i (by simp [aTyp, okT, a1, a2, hne, hT, h47, hk58, show ¬ nT τ = 16 from of_decide_eq_false h71]), by rw [if_pos (by simp [goT, okT, a1, a2, hne, hT, h47, hk58, show ¬ nT τ = 16 from of_decide_eq_false h71])]; exact hR⟩
                      · refine g_bipush (v := -4) C dX5_type_74 (by decide) ?_
                        refine g_goto (tgt := 89) C dX5_type_76 (by decide) ?_
                        have a1 := inB_t (Int32.not_lt.mp h20) (Int32.not_lt.mp h25); have a2 := inB_t (Int32.not_lt.mp h29) (lt4.mp h34); have hk58 : ¬ τ 1 (nN (nI q)) = 2 := (by rw [nN, nI_clamp (show q < 2 ^ 31 by omega)]; exact of_decide_eq_false h58); exact g_iret C dX5_type_89 ⟨rt_i (by simp [aTyp, okT, a1, a2, hne, hT, h47, hk58, show nT τ = 16 from of_decide_eq_true h71]), by rw [if_neg (by simp [goT, okT, a1, a2, hne, hT, h47, hk58, show nT τ = 16 from of_decide_eq_true h71])]⟩
                    · refine g_bipush (v := -3) C dX5_type_61 (by decide) ?_
                      have a1 := inB_t (Int32.not_lt.mp h20) (Int32.not_lt.mp h25); have a2 := inB_t (Int32.not_lt.mp h29) (lt4.mp h34); have hk58 : τ 1 (nN (nI q)) = 2 := (by rw [nN, nI_clamp (show q < 2 ^ 31 by omega)]; exact of_decide_eq_true h58); exact g_iret C dX5_type_63 ⟨rt_i (by simp [aTyp, okT, a1, a2, hne, hT, h47, hk58]), by rw [if_neg (by simp [goT, okT, a1, a2, hne, hT, h47, hk58])]⟩
              · refine g_bipush (v := -3) C dX5_type_37 (by decide) ?_
                have a1 := inB_t (Int32.not_lt.mp h20) (Int32.not_lt.mp h25); have a2 := inB_hi (a := 0) (Int32.not_le.mp (fun q => h34 (lt4.mpr q))); exact g_iret C dX5_type_39 ⟨rt_i (by simp [aTyp, okT, a1, a2, hne, hT]), by rw [if_neg (by simp [goT, okT, a1, a2, hne, hT])]⟩
      · rw [hT] at h13; cases h13
set_option maxRecDepth 100000 in
set_option maxHeartbeats 4000000 in
theorem ct_X5_face {l : Launch} {D : va_G} {cI cZ : ClassId} {b : Nat → Nat} {τ σ : St} (hI : Inv τ σ) {x y : Int32} : Ct l yX5_face cX5_face 3 (some .int) 3 68 D cI cZ (pX b cI cZ) [.ref (b 0), .int x, .int y] σ (fun r u => r = some (.int (aFac τ x y)) ∧ (if goF τ x y = true then RX (fcS τ (nN x) (nN y)) u else u = σ)) := by
  refine Ct.of 0 (by decide) (by simp [Value.category]) (Nat.le_of_ble_eq_true rfl) ?_
  intro p e s m below meth c C
  have hTl := w0_tl (iW hI)
  have hMl := w0_ml (iW hI)
  have hXl := w0_xl (iW hI)
  refine g_aload_n C dX5_face_0 rfl ?_
  refine gf_X5_10 C dX5_face_1 ?_
  refine g_iload_n C dX5_face_4 rfl ?_
  refine g_callVr 1 C (cr_X4_has hI) mw_X4_has ml_X5_59 rfl rfl rfl rfl (Nat.le_of_ble_eq_true rfl) dX5_face_5 ⟨Nat.le_of_ble_eq_true rfl, Nat.le_of_ble_eq_true rfl⟩ ⟨Nat.le_of_ble_eq_true rfl, Nat.le_of_ble_eq_true rfl⟩ ?_
  refine g_ifb_eq (tgt := 22) C dX5_face_8 (by decide) (fun h8 => ?_) (fun h8 => ?_)
  · refine g_bipush (v := -2) C dX5_face_22 (by decide) ?_
    exact g_iret C dX5_face_24 ⟨rt_i (by simp [aFac, h8]), by rw [if_neg (by simp [goF, h8])]⟩
  · refine g_aload_n C dX5_face_11 rfl ?_
    refine gf_X5_10 C dX5_face_12 ?_
    refine g_iload_n C dX5_face_15 rfl ?_
    refine g_callVr 1 C (cr_X4_has hI) mw_X4_has ml_X5_59 rfl rfl rfl rfl (Nat.le_of_ble_eq_true rfl) dX5_face_16 ⟨Nat.le_of_ble_eq_true rfl, Nat.le_of_ble_eq_true rfl⟩ ⟨Nat.le_of_ble_eq_true rfl, Nat.le_of_ble_eq_true rfl⟩ ?_
    refine g_ifb_ne (tgt := 25) C dX5_face_19 (by decide) (fun h19 => ?_) (fun h19 => ?_)
    · obtain ⟨t, ht, rfl⟩ := isT_get hI h8
      obtain ⟨o, ho, rfl⟩ := isT_get hI h19
      have et : nN (nI t) = t := nI_clamp (show t < 2 ^ 31 by omega)
      have eo : nN (nI o) = o := nI_clamp (show o < 2 ^ 31 by omega)
      have hfl := w0_fl (iW hI) ht
      refine g_aload_n C dX5_face_25 rfl ?_
      refine gf_X5_10 C dX5_face_26 ?_
      refine g_iload_n C dX5_face_29 rfl ?_
      refine g_callVr 1 C (cr_X4_isInterface hI ho) mw_X4_isInterface ml_X5_63 rfl rfl rfl rfl (Nat.le_of_ble_eq_true rfl) dX5_face_30 ⟨Nat.le_of_ble_eq_true rfl, Nat.le_of_ble_eq_true rfl⟩ ⟨Nat.le_of_ble_eq_true rfl, Nat.le_of_ble_eq_true rfl⟩ ?_
      refine g_ifb_eq (tgt := 53) C dX5_face_33 (by decide) (fun h33 => ?_) (fun h33 => ?_)
      · refine g_bipush (v := -3) C dX5_face_53 (by decide) ?_
        exact g_iret C dX5_face_55 ⟨rt_i (by simp [aFac, okF, h8, h19, et, eo, show ¬ τ 1 o = 2 from of_decide_eq_false h33]), by rw [if_neg (by simp [goF, okF, h8, h19, et, eo, show ¬ τ 1 o = 2 from of_decide_eq_false h33])]⟩
      · refine g_iload_n C dX5_face_36 rfl ?_
        refine g_iload_n C dX5_face_37 rfl ?_
        refine g_icmpN_ge (tgt := 53) C (by omega) (by omega) dX5_face_38 (by decide) (fun h38 => ?_) (fun h38 => ?_)
        · refine g_bipush (v := -3) C dX5_face_53 (by decide) ?_
          exact g_iret C dX5_face_55 ⟨rt_i (by simp [aFac, okF, h8, h19, et, eo, show τ 1 o = 2 from of_decide_eq_true h33, show ¬ o < t by omega]), by rw [if_neg (by simp [goF, okF, h8, h19, et, eo, show τ 1 o = 2 from of_decide_eq_true h33, show ¬ o < t by omega])]⟩
        · refine g_aload_n C dX5_face_41 rfl ?_
          refine gf_X5_10 C dX5_face_42 ?_
          refine g_iload_n C dX5_face_45 rfl ?_
          refine g_iload_n C dX5_face_46 rfl ?_
          refine g_callVr 1 C (cr_X4_hasFace hI ht (by omega)) mw_X4_hasFace ml_X5_74 rfl rfl rfl rfl (Nat.le_of_ble_eq_true rfl) dX5_face_47 ⟨Nat.le_of_ble_eq_true rfl, Nat.le_of_ble_eq_true rfl⟩ ⟨Nat.le_of_ble_eq_true rfl, Nat.le_of_ble_eq_true rfl⟩ ?_
          refine g_ifb_eq (tgt := 56) C dX5_face_50 (by decide) (fun h50 => ?_) (fun h50 => ?_)
          · refine g_aload_n C dX5_face_56 rfl ?_
            refine gf_X5_10 C dX5_face_57 ?_
            refine g_iload_n C dX5_face_60 rfl ?_
            refine g_callVr 1 C (cr_X4_countFaces hI ht) mw_X4_countFaces ml_X5_78 rfl rfl rfl rfl (Nat.le_of_ble_eq_true rfl) dX5_face_61 ⟨Nat.le_of_ble_eq_true rfl, Nat.le_of_ble_eq_true rfl⟩ ⟨Nat.le_of_ble_eq_true rfl, Nat.le_of_ble_eq_true rfl⟩ ?_
            refine g_iconstN 3 C dX5_face_64 (by decide) ?_
            refine g_icmpN_lt (tgt := 73) C (by omega) (by omega) dX5_face_65 (by decide) (fun h65 => ?_) (fun h65 => ?_)
            · refine g_aload_n C dX5_face_73 rfl ?_
              refine gf_X5_10 C dX5_face_74 ?_
              refine g_iload_n C dX5_face_77 rfl ?_
              refine g_iload_n C dX5_face_78 rfl ?_
              refine g_callV 1 C (ct_X4_addFace hI ht h38 (of_decide_eq_true h33) h50 h65) mw_X4_addFace ml_X5_82 rfl rfl rfl rfl (Nat.le_of_ble_eq_true rfl) dX5_face_79 ⟨Nat.le_of_ble_eq_true rfl, Nat.le_of_ble_eq_true rfl⟩ ⟨Nat.le_of_ble_eq_true rfl, Nat.le_of_ble_eq_true rfl⟩ ?_
              intro r v hv
              obtain ⟨rfl, hR⟩ := hv
              exact g_iret C dX5_face_82 ⟨rt_i (by simp [aFac, okF, h8, h19, et, eo, show τ 1 o = 2 from of_decide_eq_true h33, show o < t from h38, h50, show ¬ nF τ t = 3 by omega]), by rw [if_pos (by simp [goF, okF, h8, h19, et, eo, show τ 1 o = 2 from of_decide_eq_true h33, show o < t from h38, h50, show ¬ nF τ t = 3 by omega]), et, eo]; exact hR⟩
            · refine g_bipush (v := -4) C dX5_face_68 (by decide) ?_
              refine g_goto (tgt := 82) C dX5_face_70 (by decide) ?_
              have z3 : nF τ t = 3 := (by omega); have h51 := h50; rw [z3] at h51; exact g_iret C dX5_face_82 ⟨rt_i (by simp [aFac, okF, h8, h19, et, eo, show τ 1 o = 2 from of_decide_eq_true h33, show o < t from h38, h50, show nF τ t = 3 by omega, h51]), by rw [if_neg (by simp [goF, okF, h8, h19, et, eo, show τ 1 o = 2 from of_decide_eq_true h33, show o < t from h38, h50, show nF τ t = 3 by omega])]⟩
          · refine g_bipush (v := -3) C dX5_face_53 (by decide) ?_
            exact g_iret C dX5_face_55 ⟨rt_i (by simp [aFac, okF, h8, h19, et, eo, show τ 1 o = 2 from of_decide_eq_true h33, show o < t from h38, h50]), by rw [if_neg (by simp [goF, okF, h8, h19, et, eo, show τ 1 o = 2 from of_decide_eq_true h33, show o < t from h38, h50])]⟩
    · refine g_bipush (v := -2) C dX5_face_22 (by decide) ?_
      exact g_iret C dX5_face_24 ⟨rt_i (by simp [aFac, h19]), by rw [if_neg (by simp [goF, h19])]⟩
set_option maxRecDepth 100000 in
set_option maxHeartbeats 4000000 in
theorem ct_X5_thrown0 {l : Launch} {D : va_G} {cI cZ : ClassId} {b : Nat → Nat} {τ σ : St} (hI : Inv τ σ) {pa : Int32} {q : Bool} : Ct l yX5_thrown0 cX5_thrown0 3 (some .int) 1 23 D cI cZ (pX b cI cZ) [.ref (b 0), .int pa, .int (b2i q)] σ (fun r u => r = some (.int (aThr τ pa)) ∧ (if goX τ pa = true then RX (thS τ pa q) u else u = σ)) := by
  have hTl := w0_tl (iW hI)
  have hMl := w0_ml (iW hI)
  have hXl := w0_xl (iW hI)
  by_cases hne : pa = -1
  · subst hne
    refine Ct.of 0 (by decide) (by simp [Value.category]) (Nat.le_of_ble_eq_true rfl) ?_
    intro p e s m below meth c C
    refine g_iload_n C dX5_thrown0_0 rfl ?_
    refine g_iconst (v := -1) C dX5_thrown0_1 (by decide) ?_
    refine g_icmp_eq (tgt := 19) C dX5_thrown0_2 (by decide) (fun h2 => ?_) (fun h2 => ?_)
    · refine g_aload_n C dX5_thrown0_19 rfl ?_
      refine gf_X5_19 C dX5_thrown0_20 ?_
      refine g_callVr 7 C (cr_X3_isFull hI) mw_X3_isFull ml_X5_87 rfl rfl rfl rfl (Nat.le_of_ble_eq_true rfl) dX5_thrown0_23 ⟨Nat.le_of_ble_eq_true rfl, Nat.le_of_ble_eq_true rfl⟩ ⟨Nat.le_of_ble_eq_true rfl, Nat.le_of_ble_eq_true rfl⟩ ?_
      refine g_ifb_eq (tgt := 34) C dX5_thrown0_26 (by decide) (fun h26 => ?_) (fun h26 => ?_)
      · refine g_aload_n C dX5_thrown0_34 rfl ?_
        refine gf_X5_19 C dX5_thrown0_35 ?_
        refine g_iload_n C dX5_thrown0_38 rfl ?_
        refine g_iload_n C dX5_thrown0_39 rfl ?_
        refine g_callV 7 C (ct_X3_add hI (show nX τ < 8 by have := of_decide_eq_false h26; omega) (Or.inl rfl)) mw_X3_add ml_X5_88 rfl rfl rfl rfl (Nat.le_of_ble_eq_true rfl) dX5_thrown0_40 ⟨Nat.le_of_ble_eq_true rfl, Nat.le_of_ble_eq_true rfl⟩ ⟨Nat.le_of_ble_eq_true rfl, Nat.le_of_ble_eq_true rfl⟩ ?_
        intro r v hv
        obtain ⟨rfl, hR⟩ := hv
        exact g_iret C dX5_thrown0_43 ⟨rt_i (by simp [aThr, unX, show ¬ nX τ = 8 from of_decide_eq_false h26]), by rw [if_pos (by simp [goX, unX, show ¬ nX τ = 8 from of_decide_eq_false h26])]; exact hR⟩
      · refine g_bipush (v := -4) C dX5_thrown0_29 (by decide) ?_
        refine g_goto (tgt := 43) C dX5_thrown0_31 (by decide) ?_
        exact g_iret C dX5_thrown0_43 ⟨rt_i (by simp [aThr, unX, show nX τ = 8 from of_decide_eq_true h26]), by rw [if_neg (by simp [goX, unX, show nX τ = 8 from of_decide_eq_true h26])]⟩
    · exact absurd rfl h2
  rcases isX_cases (iW hI) pa with hT | ⟨w, hw, rfl⟩
  · refine Ct.of 0 (by decide) (by simp [Value.category]) (Nat.le_of_ble_eq_true rfl) ?_
    intro p e s m below meth c C
    refine g_iload_n C dX5_thrown0_0 rfl ?_
    refine g_iconst (v := -1) C dX5_thrown0_1 (by decide) ?_
    refine g_icmp_eq (tgt := 19) C dX5_thrown0_2 (by decide) (fun h2 => ?_) (fun h2 => ?_)
    · exact absurd h2 hne
    · refine g_aload_n C dX5_thrown0_5 rfl ?_
      refine gf_X5_19 C dX5_thrown0_6 ?_
      refine g_iload_n C dX5_thrown0_9 rfl ?_
      refine g_callVr 7 C (cr_X3_has hI) mw_X3_has ml_X5_86 rfl rfl rfl rfl (Nat.le_of_ble_eq_true rfl) dX5_thrown0_10 ⟨Nat.le_of_ble_eq_true rfl, Nat.le_of_ble_eq_true rfl⟩ ⟨Nat.le_of_ble_eq_true rfl, Nat.le_of_ble_eq_true rfl⟩ ?_
      refine g_ifb_ne (tgt := 19) C dX5_thrown0_13 (by decide) (fun h13 => ?_) (fun h13 => ?_)
      · rw [hT] at h13; cases h13
      · refine g_bipush (v := -2) C dX5_thrown0_16 (by decide) ?_
        exact g_iret C dX5_thrown0_18 ⟨rt_i (by simp [aThr, unX, hne, hT]), by rw [if_neg (by simp [goX, unX, hne, hT])]⟩
  · have hT := isX_nI (iW hI) hw
    refine Ct.of 0 (by decide) (by simp [Value.category]) (Nat.le_of_ble_eq_true rfl) ?_
    intro p e s m below meth c C
    refine g_iload_n C dX5_thrown0_0 rfl ?_
    refine g_iconst (v := -1) C dX5_thrown0_1 (by decide) ?_
    refine g_icmp_eq (tgt := 19) C dX5_thrown0_2 (by decide) (fun h2 => ?_) (fun h2 => ?_)
    · exact absurd h2 hne
    · refine g_aload_n C dX5_thrown0_5 rfl ?_
      refine gf_X5_19 C dX5_thrown0_6 ?_
      refine g_iload_n C dX5_thrown0_9 rfl ?_
      refine g_callVr 7 C (cr_X3_has hI) mw_X3_has ml_X5_86 rfl rfl rfl rfl (Nat.le_of_ble_eq_true rfl) dX5_thrown0_10 ⟨Nat.le_of_ble_eq_true rfl, Nat.le_of_ble_eq_true rfl⟩ ⟨Nat.le_of_ble_eq_true rfl, Nat.le_of_ble_eq_true rfl⟩ ?_
      refine g_ifb_ne (tgt := 19) C dX5_thrown0_13 (by decide) (fun h13 => ?_) (fun h13 => ?_)
      · refine g_aload_n C dX5_thrown0_19 rfl ?_
        refine gf_X5_19 C dX5_thrown0_20 ?_
        refine g_callVr 7 C (cr_X3_isFull hI) mw_X3_isFull ml_X5_87 rfl rfl rfl rfl (Nat.le_of_ble_eq_true rfl) dX5_thrown0_23 ⟨Nat.le_of_ble_eq_true rfl, Nat.le_of_ble_eq_true rfl⟩ ⟨Nat.le_of_ble_eq_true rfl, Nat.le_of_ble_eq_true rfl⟩ ?_
        refine g_ifb_eq (tgt := 34) C dX5_thrown0_26 (by decide) (fun h26 => ?_) (fun h26 => ?_)
        · refine g_aload_n C dX5_thrown0_34 rfl ?_
          refine gf_X5_19 C dX5_thrown0_35 ?_
          refine g_iload_n C dX5_thrown0_38 rfl ?_
          refine g_iload_n C dX5_thrown0_39 rfl ?_
          refine g_callV 7 C (ct_X3_add hI (show nX τ < 8 by have := of_decide_eq_false h26; omega) (Or.inr ⟨w, hw, rfl⟩)) mw_X3_add ml_X5_88 rfl rfl rfl rfl (Nat.le_of_ble_eq_true rfl) dX5_thrown0_40 ⟨Nat.le_of_ble_eq_true rfl, Nat.le_of_ble_eq_true rfl⟩ ⟨Nat.le_of_ble_eq_true rfl, Nat.le_of_ble_eq_true rfl⟩ ?_
          intro r v hv
          obtain ⟨rfl, hR⟩ := hv
          exact g_iret C dX5_thrown0_43 ⟨rt_i (by simp [aThr, unX, hne, hT, show ¬ nX τ = 8 from of_decide_eq_false h26]), by rw [if_pos (by simp [goX, unX, hne, hT, show ¬ nX τ = 8 from of_decide_eq_false h26])]; exact hR⟩
        · refine g_bipush (v := -4) C dX5_thrown0_29 (by decide) ?_
          refine g_goto (tgt := 43) C dX5_thrown0_31 (by decide) ?_
          exact g_iret C dX5_thrown0_43 ⟨rt_i (by simp [aThr, unX, hne, hT, show nX τ = 8 from of_decide_eq_true h26]), by rw [if_neg (by simp [goX, unX, hne, hT, show nX τ = 8 from of_decide_eq_true h26])]⟩
      · rw [hT] at h13; cases h13
set_option maxRecDepth 100000 in
set_option maxHeartbeats 4000000 in
theorem ct_X5_throws0 {l : Launch} {D : va_G} {cI cZ : ClassId} {b : Nat → Nat} {τ σ : St} (hI : Inv τ σ) {x y : Int32} : Ct l yX5_throws0 cX5_throws0 3 (some .int) 2 44 D cI cZ (pX b cI cZ) [.ref (b 0), .int x, .int y] σ (fun r u => r = some (.int (aTho τ x y)) ∧ (if (isM τ x && isX τ y) = true then RX (toS τ (nN x) (nN y)) u else u = σ)) := by
  refine Ct.of 0 (by decide) (by simp [Value.category]) (Nat.le_of_ble_eq_true rfl) ?_
  intro p e s m below meth c C
  have hTl := w0_tl (iW hI)
  have hMl := w0_ml (iW hI)
  have hXl := w0_xl (iW hI)
  refine g_aload_n C dX5_throws0_0 rfl ?_
  refine gf_X5_28 C dX5_throws0_1 ?_
  refine g_iload_n C dX5_throws0_4 rfl ?_
  refine g_callVr 9 C (cr_X2_has hI) mw_X2_has ml_X5_105 rfl rfl rfl rfl (Nat.le_of_ble_eq_true rfl) dX5_throws0_5 ⟨Nat.le_of_ble_eq_true rfl, Nat.le_of_ble_eq_true rfl⟩ ⟨Nat.le_of_ble_eq_true rfl, Nat.le_of_ble_eq_true rfl⟩ ?_
  refine g_ifb_eq (tgt := 22) C dX5_throws0_8 (by decide) (fun h8 => ?_) (fun h8 => ?_)
  · refine g_bipush (v := -2) C dX5_throws0_22 (by decide) ?_
    exact g_iret C dX5_throws0_24 ⟨rt_i (by simp [aTho, h8]), by rw [if_neg (by simp [h8])]⟩
  · refine g_aload_n C dX5_throws0_11 rfl ?_
    refine gf_X5_19 C dX5_throws0_12 ?_
    refine g_iload_n C dX5_throws0_15 rfl ?_
    refine g_callVr 7 C (cr_X3_has hI) mw_X3_has ml_X5_86 rfl rfl rfl rfl (Nat.le_of_ble_eq_true rfl) dX5_throws0_16 ⟨Nat.le_of_ble_eq_true rfl, Nat.le_of_ble_eq_true rfl⟩ ⟨Nat.le_of_ble_eq_true rfl, Nat.le_of_ble_eq_true rfl⟩ ?_
    refine g_ifb_ne (tgt := 25) C dX5_throws0_19 (by decide) (fun h19 => ?_) (fun h19 => ?_)
    · obtain ⟨t, ht, rfl⟩ := isM_get hI h8
      obtain ⟨w, hw, rfl⟩ := isX_get hI h19
      have et : nN (nI t) = t := nI_clamp (show t < 2 ^ 31 by omega)
      have ew : nN (nI w) = w := nI_clamp (show w < 2 ^ 31 by omega)
      refine g_aload_n C dX5_throws0_25 rfl ?_
      refine gf_X5_28 C dX5_throws0_26 ?_
      refine g_iload_n C dX5_throws0_29 rfl ?_
      refine g_iload_n C dX5_throws0_30 rfl ?_
      refine g_callV 9 C (ct_X2_addThrow hI ht hw) mw_X2_addThrow ml_X5_106 rfl rfl rfl rfl (Nat.le_of_ble_eq_true rfl) dX5_throws0_31 ⟨Nat.le_of_ble_eq_true rfl, Nat.le_of_ble_eq_true rfl⟩ ⟨Nat.le_of_ble_eq_true rfl, Nat.le_of_ble_eq_true rfl⟩ ?_
      intro r v hv
      obtain ⟨rfl, hR⟩ := hv
      refine g_callSr C (cr_X5_oneIf) mw_X5_oneIf ml_X5_109 rfl rfl (Nat.le_of_ble_eq_true rfl) dX5_throws0_34 ⟨Nat.le_of_ble_eq_true rfl, Nat.le_of_ble_eq_true rfl⟩ ⟨Nat.le_of_ble_eq_true rfl, Nat.le_of_ble_eq_true rfl⟩ ?_
      exact g_iret C dX5_throws0_37 ⟨rt_i (by rw [aTho, if_pos (by simp [h8, h19]), et, ew]; by_cases z : τ 13 t &&& bit1 w = 0 <;> simp [z] <;> rfl), by rw [if_pos (by simp [h8, h19]), et, ew]; exact hR⟩
    · refine g_bipush (v := -2) C dX5_throws0_22 (by decide) ?_
      exact g_iret C dX5_throws0_24 ⟨rt_i (by simp [aTho, h19]), by rw [if_neg (by simp [h19])]⟩
theorem at_m1 {τ : St} {t : Nat} {nm : Int32} (hM : nM τ < 2 ^ 31) (h : atV τ t nm = -1) : anyN (nM τ) (mbHas τ t nm) = false := by
  rw [atV] at h
  cases e : atO τ t nm with
  | none => exact anyN_f (fstN_nn e)
  | some m =>
    rw [e] at h
    have := (fstN_is (show fstN (nM τ) (mbHas τ t nm) = some m from e)).1
    exact absurd h (nI_m1 (by omega))
theorem at_p {τ : St} {t : Nat} {nm : Int32} (h : ¬ atV τ t nm = -1) : anyN (nM τ) (mbHas τ t nm) = true := by
  rw [atV] at h
  cases e : atO τ t nm with
  | none => rw [e] at h; exact absurd rfl h
  | some m =>
    obtain ⟨a, c, -⟩ := fstN_is (show fstN (nM τ) (mbHas τ t nm) = some m from e)
    exact anyN_t a c
set_option maxRecDepth 100000 in
set_option maxHeartbeats 4000000 in
theorem ct_X5_member {l : Launch} {D : va_G} {cI cZ : ClassId} {b : Nat → Nat} {τ σ : St} (hI : Inv τ σ) {x nm rs mk : Int32} : Ct l yX5_member cX5_member 5 (some .int) 3 62 D cI cZ (pX b cI cZ) [.ref (b 0), .int x, .int nm, .int rs, .int mk] σ (fun r u => r = some (.int (aMem τ x nm rs mk)) ∧ (if goM τ x nm rs mk = true then RX (mbS τ (nN x) nm rs mk) u else u = σ)) := by
  refine Ct.of 0 (by decide) (by simp [Value.category]) (Nat.le_of_ble_eq_true rfl) ?_
  intro p e s m below meth c C
  have hTl := w0_tl (iW hI)
  have hMl := w0_ml (iW hI)
  have hXl := w0_xl (iW hI)
  refine g_aload_n C dX5_member_0 rfl ?_
  refine gf_X5_10 C dX5_member_1 ?_
  refine g_iload_n C dX5_member_4 rfl ?_
  refine g_callVr 1 C (cr_X4_has hI) mw_X4_has ml_X5_59 rfl rfl rfl rfl (Nat.le_of_ble_eq_true rfl) dX5_member_5 ⟨Nat.le_of_ble_eq_true rfl, Nat.le_of_ble_eq_true rfl⟩ ⟨Nat.le_of_ble_eq_true rfl, Nat.le_of_ble_eq_true rfl⟩ ?_
  refine g_ifb_eq (tgt := 19) C dX5_member_8 (by decide) (fun h8 => ?_) (fun h8 => ?_)
  · refine g_bipush (v := -2) C dX5_member_19 (by decide) ?_
    exact g_iret C dX5_member_21 ⟨rt_i (by simp [aMem, unM, h8]), by rw [if_neg (by simp [goM, unM, h8])]⟩
  · refine g_aload_n C dX5_member_11 rfl ?_
    refine g_iload_n C dX5_member_12 rfl ?_
    refine g_callVr 0 C (cr_X5_isMissingType hI) mw_X5_isMissingType ml_X5_91 rfl rfl rfl rfl (Nat.le_of_ble_eq_true rfl) dX5_member_13 ⟨Nat.le_of_ble_eq_true rfl, Nat.le_of_ble_eq_true rfl⟩ ⟨Nat.le_of_ble_eq_true rfl, Nat.le_of_ble_eq_true rfl⟩ ?_
    refine g_ifb_eq (tgt := 22) C dX5_member_16 (by decide) (fun h16 => ?_) (fun h16 => ?_)
    · obtain ⟨t, ht, rfl⟩ := isT_get hI h8
      have et : nN (nI t) = t := nI_clamp (show t < 2 ^ 31 by omega)
      refine g_iload_n C dX5_member_22 rfl ?_
      refine g_if_lt (tgt := 42) C dX5_member_23 (by decide) (fun h23 => ?_) (fun h23 => ?_)
      · refine g_bipush (v := -3) C dX5_member_42 (by decide) ?_
        have a1 := inB_lo (z := 7) h23; exact g_iret C dX5_member_44 ⟨rt_i (by simp [aMem, unM, okM, h8, h16, et, a1]), by rw [if_neg (by simp [goM, unM, okM, h8, h16, et, a1])]⟩
      · refine g_iload_n C dX5_member_26 rfl ?_
        refine g_bipush (v := 8) C dX5_member_27 (by decide) ?_
        refine g_icmp_ge (tgt := 42) C dX5_member_29 (by decide) (fun h29 => ?_) (fun h29 => ?_)
        · refine g_bipush (v := -3) C dX5_member_42 (by decide) ?_
          have a1 := inB_hi (a := 0) (Int32.not_le.mp (fun q => absurd (lt8.mpr q) (Int32.not_lt.mpr h29))); exact g_iret C dX5_member_44 ⟨rt_i (by simp [aMem, unM, okM, h8, h16, et, a1]), by rw [if_neg (by simp [goM, unM, okM, h8, h16, et, a1])]⟩
        · refine g_iload_n C dX5_member_32 rfl ?_
          refine g_if_lt (tgt := 42) C dX5_member_33 (by decide) (fun h33 => ?_) (fun h33 => ?_)
          · refine g_bipush (v := -3) C dX5_member_42 (by decide) ?_
            have a2 := inB_lo (z := 19) h33; exact g_iret C dX5_member_44 ⟨rt_i (by simp [aMem, unM, okM, h8, h16, et, a2]), by rw [if_neg (by simp [goM, unM, okM, h8, h16, et, a2])]⟩
          · refine g_iload_n C dX5_member_36 rfl ?_
            refine g_bipush (v := 20) C dX5_member_37 (by decide) ?_
            refine g_icmp_lt (tgt := 45) C dX5_member_39 (by decide) (fun h39 => ?_) (fun h39 => ?_)
            · have a1 := inB_t (Int32.not_lt.mp h23) (lt8.mp (Int32.not_le.mp h29))
              have a2 := inB_t (Int32.not_lt.mp h33) (lt20.mp h39)
              obtain ⟨n, hn, rfl⟩ := inB_nI (n := 7) (by decide) a1
              obtain ⟨r0, hr0, rfl⟩ := inB_nI (n := 19) (by decide) a2
              refine g_aload_n C dX5_member_45 rfl ?_
              refine gf_X5_10 C dX5_member_46 ?_
              refine g_iload_n C dX5_member_49 rfl ?_
              refine g_callVr 1 C (cr_X4_isInterface hI ht) mw_X4_isInterface ml_X5_63 rfl rfl rfl rfl (Nat.le_of_ble_eq_true rfl) dX5_member_50 ⟨Nat.le_of_ble_eq_true rfl, Nat.le_of_ble_eq_true rfl⟩ ⟨Nat.le_of_ble_eq_true rfl, Nat.le_of_ble_eq_true rfl⟩ ?_
              refine g_iload C dX5_member_53 rfl ?_
              refine g_callSr C (cr_X5_areMarks.val (congrArg b2i (arM_ok (i_kind hI ht)))) mw_X5_areMarks ml_X5_94 rfl rfl (Nat.le_of_ble_eq_true rfl) dX5_member_55 ⟨Nat.le_of_ble_eq_true rfl, Nat.le_of_ble_eq_true rfl⟩ ⟨Nat.le_of_ble_eq_true rfl, Nat.le_of_ble_eq_true rfl⟩ ?_
              refine g_ifb_eq (tgt := 74) C dX5_member_58 (by decide) (fun h58 => ?_) (fun h58 => ?_)
              · refine g_bipush (v := -3) C dX5_member_74 (by decide) ?_
                exact g_iret C dX5_member_76 ⟨rt_i (by simp [aMem, unM, okM, h8, h16, et, a1, a2, h58]), by rw [if_neg (by simp [goM, unM, okM, h8, h16, et, a1, a2, h58])]⟩
              · refine g_aload_n C dX5_member_61 rfl ?_
                refine gf_X5_28 C dX5_member_62 ?_
                refine g_iload_n C dX5_member_65 rfl ?_
                refine g_iload_n C dX5_member_66 rfl ?_
                refine g_callVr 9 C (cr_X2_at hI (by omega) ⟨n, by omega, rfl⟩) mw_X2_at ml_X5_98 rfl rfl rfl rfl (Nat.le_of_ble_eq_true rfl) dX5_member_67 ⟨Nat.le_of_ble_eq_true rfl, Nat.le_of_ble_eq_true rfl⟩ ⟨Nat.le_of_ble_eq_true rfl, Nat.le_of_ble_eq_true rfl⟩ ?_
                refine g_iconst (v := -1) C dX5_member_70 (by decide) ?_
                refine g_icmp_eq (tgt := 77) C dX5_member_71 (by decide) (fun h71 => ?_) (fun h71 => ?_)
                · refine g_aload_n C dX5_member_77 rfl ?_
                  refine gf_X5_28 C dX5_member_78 ?_
                  refine g_callVr 9 C (cr_X2_isFull hI) mw_X2_isFull ml_X5_101 rfl rfl rfl rfl (Nat.le_of_ble_eq_true rfl) dX5_member_81 ⟨Nat.le_of_ble_eq_true rfl, Nat.le_of_ble_eq_true rfl⟩ ⟨Nat.le_of_ble_eq_true rfl, Nat.le_of_ble_eq_true rfl⟩ ?_
                  refine g_ifb_eq (tgt := 92) C dX5_member_84 (by decide) (fun h84 => ?_) (fun h84 => ?_)
                  · refine g_aload_n C dX5_member_92 rfl ?_
                    refine gf_X5_28 C dX5_member_93 ?_
                    refine g_iload_n C dX5_member_96 rfl ?_
                    refine g_iload_n C dX5_member_97 rfl ?_
                    refine g_iload_n C dX5_member_98 rfl ?_
                    refine g_iload C dX5_member_99 rfl ?_
                    refine g_callV 9 C (ct_X2_add hI ht (show n < 8 by omega) (at_m1 (by omega) h71) (show nM τ < 60 by have := of_decide_eq_false h84; omega)) mw_X2_add ml_X5_102 rfl rfl rfl rfl (Nat.le_of_ble_eq_true rfl) dX5_member_101 ⟨Nat.le_of_ble_eq_true rfl, Nat.le_of_ble_eq_true rfl⟩ ⟨Nat.le_of_ble_eq_true rfl, Nat.le_of_ble_eq_true rfl⟩ ?_
                    intro r v hv
                    obtain ⟨rfl, hR⟩ := hv
                    have a4 : anyN (nM τ) (mbHas τ t (nI n)) = false := (at_m1 (by omega) h71); exact g_iret C dX5_member_104 ⟨rt_i (by simp [aMem, unM, okM, h8, h16, et, a1, a2, h58, a4, show ¬ nM τ = 60 from of_decide_eq_false h84]), by rw [if_pos (by simp [goM, unM, okM, h8, h16, et, a1, a2, h58, a4, show ¬ nM τ = 60 from of_decide_eq_false h84]), et]; exact hR⟩
                  · refine g_bipush (v := -4) C dX5_member_87 (by decide) ?_
                    refine g_goto (tgt := 104) C dX5_member_89 (by decide) ?_
                    have a4 : anyN (nM τ) (mbHas τ t (nI n)) = false := (at_m1 (by omega) h71); have z6 := of_decide_eq_true h84; have a5 := a4; rw [z6] at a5; exact g_iret C dX5_member_104 ⟨rt_i (by simp [aMem, unM, okM, h8, h16, et, a1, a2, h58, a4, show nM τ = 60 from of_decide_eq_true h84, a5]), by rw [if_neg (by simp [goM, unM, okM, h8, h16, et, a1, a2, h58, a4, show nM τ = 60 from of_decide_eq_true h84, a5])]⟩
                · refine g_bipush (v := -3) C dX5_member_74 (by decide) ?_
                  have a4 : anyN (nM τ) (mbHas τ t (nI n)) = true := (at_p h71); exact g_iret C dX5_member_76 ⟨rt_i (by simp [aMem, unM, okM, h8, h16, et, a1, a2, h58, a4]), by rw [if_neg (by simp [goM, unM, okM, h8, h16, et, a1, a2, h58, a4])]⟩
            · refine g_bipush (v := -3) C dX5_member_42 (by decide) ?_
              have a2 := inB_hi (a := 0) (Int32.not_le.mp (fun q => h39 (lt20.mpr q))); exact g_iret C dX5_member_44 ⟨rt_i (by simp [aMem, unM, okM, h8, h16, et, a2]), by rw [if_neg (by simp [goM, unM, okM, h8, h16, et, a2])]⟩
    · refine g_bipush (v := -2) C dX5_member_19 (by decide) ?_
      exact g_iret C dX5_member_21 ⟨rt_i (by simp [aMem, unM, h16]), by rw [if_neg (by simp [goM, unM, h16])]⟩

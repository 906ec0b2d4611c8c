/-! ===== the class: Choice ===== -/
theorem bnd_skip {j i : Nat} {f : Nat → Bool} (hf : f i = false) : (decide (j < i) && f j) = (decide (j < i + 1) && f j) := by
  by_cases e : j = i
  · subst e; simp [hf]
  · have : decide (j < i + 1) = decide (j < i) := by
      by_cases q : j < i
      · simp [q, show j < i + 1 by omega]
      · simp [q, show ¬ j < i + 1 by omega]
    rw [this]
theorem bnd_put {j i : Nat} {f : Nat → Bool} (hf : f i = true) : ((decide (j < i) && f j) || decide (j = i)) = (decide (j < i + 1) && f j) := by
  by_cases e : j = i
  · subst e; simp [hf]
  · have : decide (j < i + 1) = decide (j < i) := by
      by_cases q : j < i
      · simp [q, show j < i + 1 by omega]
      · simp [q, show ¬ j < i + 1 by omega]
    rw [this]; simp [e]
set_option maxRecDepth 100000 in
set_option maxHeartbeats 4000000 in
theorem cr_X0_leastOrFight {l : Launch} {D : va_G} {cI cZ : ClassId} {b : Nat → Nat} {τ σ : St} (hI : Inv τ σ) {q nm : Int32} (hn : ∃ n, n < 8 ∧ nm = nI n) (hq : ∀ u, u < nT τ → bt q u = true → ∃ n, atO τ u nm = some n) : Cr l yX0_leastOrFight cX0_leastOrFight 7 (some .int) 1 23 D cI cZ (pX b cI cZ) [.ref (b 16), .int q, .int nm] σ (if ((lfF τ nm (fun u => bt q u) (nT τ)).2 = true ∧ 1 < pcI q) then -5 else (lfF τ nm (fun u => bt q u) (nT τ)).1) := by
  refine Ct.of 4 (by decide) (by simp [Value.category]) (Nat.le_of_ble_eq_true rfl) ?_
  intro p e s m below meth c C
  have hTl := w0_tl (iW hI)
  have hMl := w0_ml (iW hI)
  have hXl := w0_xl (iW hI)
  have loop : ∀ (n i : Nat), i ≤ nT τ → nT τ + 1 ≤ i + n → G p l e (rmo 1 23) s m ([.ref (b 16), .int q, .int nm] : List Value).toArray below meth c D (va_A (pX b cI cZ σ) s.heap.size) 0 0 (Qe below ([.ref (b 16), .int q, .int nm] : List Value).toArray s D (pX b cI cZ) σ (fun r u => r = some (.int (if ((lfF τ nm (fun u => bt q u) (nT τ)).2 = true ∧ 1 < pcI q) then -5 else (lfF τ nm (fun u => bt q u) (nT τ)).1)) ∧ u = σ)) 7 (pX b cI cZ σ) 8 [some (.ref (b 16)), some (.int (q)), some (.int (nm)), some (.int ((lfF τ nm (fun u => bt q u) i).1)), some (.int (b2i (lfF τ nm (fun u => bt q u) i).2)), some (.int (nI i)), none] [] := by
    intro n
    induction n with
    | zero => intro i h1 h2; omega
    | succ n ih =>
      intro i h1 h2
      have nxt : i < nT τ → ∀ (r : Int32 × Bool), r = (lfF τ nm (fun u => bt q u) (i + 1)) → G p l e (rmo 1 23) s m ([.ref (b 16), .int q, .int nm] : List Value).toArray below meth c D (va_A (pX b cI cZ σ) s.heap.size) 0 0 (Qe below ([.ref (b 16), .int q, .int nm] : List Value).toArray s D (pX b cI cZ) σ (fun r u => r = some (.int (if ((lfF τ nm (fun u => bt q u) (nT τ)).2 = true ∧ 1 < pcI q) then -5 else (lfF τ nm (fun u => bt q u) (nT τ)).1)) ∧ u = σ)) 7 (pX b cI cZ σ) 94 [some (.ref (b 16)), some (.int (q)), some (.int (nm)), some (.int (r.1)), some (.int (b2i r.2)), some (.int (nI i)), none] [] := by
        intro hi r hr
        subst hr
        refine g_iincN C dX0_leastOrFight_94 rfl (by decide) ?_
        refine g_goto (tgt := 8) C dX0_leastOrFight_97 (by decide) ?_
        exact ih (i + 1) (by omega) (by omega)
      by_cases hb : bt q i = true
      · by_cases hi : i < nT τ
        · obtain ⟨k, hA⟩ := hq i hi hb
          obtain ⟨hk, -, -⟩ := atO_some hI hA
          have hst : (lfF τ nm (fun u => bt q u) (i + 1)) = (minI (lfF τ nm (fun u => bt q u) i).1 (nI k), (lfF τ nm (fun u => bt q u) i).2 || HX τ k 64) := by simp only [lfF, hb, if_true, hA]
          refine g_iload C dX0_leastOrFight_8 rfl ?_
          refine g_aload_n C dX0_leastOrFight_10 rfl ?_
          refine gf_X0_9 C dX0_leastOrFight_11 ?_
          refine g_callVr 1 C (cr_X4_size hI) mw_X4_size ml_X0_60 rfl rfl rfl rfl (Nat.le_of_ble_eq_true rfl) dX0_leastOrFight_14 ⟨Nat.le_of_ble_eq_true rfl, Nat.le_of_ble_eq_true rfl⟩ ⟨Nat.le_of_ble_eq_true rfl, Nat.le_of_ble_eq_true rfl⟩ ?_
          refine g_icmpN_ge (tgt := 100) C (by omega) (by omega) dX0_leastOrFight_17 (by decide) (fun h17 => ?_) (fun h17 => ?_)
          · exact absurd h17 (by omega)
          · refine g_iload_n C dX0_leastOrFight_20 rfl ?_
            refine g_iload C dX0_leastOrFight_21 rfl ?_
            refine g_callSNr C (cr_X5_hasBit) mw_X5_hasBit mn_X0_64 rfl rfl (Nat.le_of_ble_eq_true rfl) dX0_leastOrFight_23 ⟨Nat.le_of_ble_eq_true rfl, Nat.le_of_ble_eq_true rfl⟩ ⟨Nat.le_of_ble_eq_true rfl, Nat.le_of_ble_eq_true rfl⟩ ?_
            refine g_ifb_eq (tgt := 42) C dX0_leastOrFight_26 (by decide) (fun h26 => ?_) (fun h26 => ?_)
            · exact absurd h26 (by rw [hbV_bt (by omega), hb]; decide)
            · refine g_aload_n C dX0_leastOrFight_29 rfl ?_
              refine gf_X0_15 C dX0_leastOrFight_30 ?_
              refine g_iload C dX0_leastOrFight_33 rfl ?_
              refine g_iload_n C dX0_leastOrFight_35 rfl ?_
              refine g_callVr 9 C ((cr_X2_at (t := i) hI (by omega) hn).val (show atV τ i nm = nI k by rw [atV, hA])) mw_X2_at ml_X0_34 rfl rfl rfl rfl (Nat.le_of_ble_eq_true rfl) dX0_leastOrFight_36 ⟨Nat.le_of_ble_eq_true rfl, Nat.le_of_ble_eq_true rfl⟩ ⟨Nat.le_of_ble_eq_true rfl, Nat.le_of_ble_eq_true rfl⟩ ?_
              refine g_goto (tgt := 43) C dX0_leastOrFight_39 (by decide) ?_
              refine g_istore C dX0_leastOrFight_43 (by decide) ?_
              refine g_iload C dX0_leastOrFight_45 rfl ?_
              refine g_iconst (v := -1) C dX0_leastOrFight_47 (by decide) ?_
              refine g_icmp_eq (tgt := 94) C dX0_leastOrFight_48 (by decide) (fun h48 => ?_) (fun h48 => ?_)
              · exact absurd h48 (nI_m1 (by omega))
              · refine g_iload_n C dX0_leastOrFight_51 rfl ?_
                refine g_iconst (v := -1) C dX0_leastOrFight_52 (by decide) ?_
                refine g_icmp_ne (tgt := 61) C dX0_leastOrFight_53 (by decide) (fun h53 => ?_) (fun h53 => ?_)
                · refine g_iload_n C dX0_leastOrFight_61 rfl ?_
                  refine g_iload C dX0_leastOrFight_62 rfl ?_
                  refine g_mmin C dX0_leastOrFight_64 (Nat.le_of_ble_eq_true rfl) (Nat.le_of_ble_eq_true rfl) (Nat.zero_le _) (Nat.zero_le _) ?_
                  refine g_istore_n C dX0_leastOrFight_67 (by decide) ?_
                  refine g_iload C dX0_leastOrFight_68 rfl ?_
                  refine g_ifb_ne (tgt := 87) C dX0_leastOrFight_70 (by decide) (fun h70 => ?_) (fun h70 => ?_)
                  · refine g_iconst (v := 1) C dX0_leastOrFight_87 (by decide) ?_
                    refine g_goto (tgt := 92) C dX0_leastOrFight_88 (by decide) ?_
                    refine g_istore C dX0_leastOrFight_92 (by decide) ?_
                    exact (nxt hi (if nI k < (lfF τ nm (fun u => bt q u) i).1 then nI k else (lfF τ nm (fun u => bt q u) i).1, true) (by rw [hst, ← (show (if nI k < (lfF τ nm (fun u => bt q u) i).1 then nI k else (lfF τ nm (fun u => bt q u) i).1) = minI (lfF τ nm (fun u => bt q u) i).1 (nI k) by rw [minI, if_neg h53]), h70]; rfl)).weak (by simp [lvle, lst]; rfl)
                  · refine g_aload_n C dX0_leastOrFight_73 rfl ?_
                    refine gf_X0_15 C dX0_leastOrFight_74 ?_
                    refine g_iload C dX0_leastOrFight_77 rfl ?_
                    refine g_bipush (v := 64) C dX0_leastOrFight_79 (by decide) ?_
                    refine g_callVr 9 C (cr_X2_hasMark hI hk) mw_X2_hasMark ml_X0_72 rfl rfl rfl rfl (Nat.le_of_ble_eq_true rfl) dX0_leastOrFight_81 ⟨Nat.le_of_ble_eq_true rfl, Nat.le_of_ble_eq_true rfl⟩ ⟨Nat.le_of_ble_eq_true rfl, Nat.le_of_ble_eq_true rfl⟩ ?_
                    refine g_ifb_eq (tgt := 91) C dX0_leastOrFight_84 (by decide) (fun h84 => ?_) (fun h84 => ?_)
                    · refine g_iconst (v := 0) C dX0_leastOrFight_91 (by decide) ?_
                      refine g_istore C dX0_leastOrFight_92 (by decide) ?_
                      exact (nxt hi (if nI k < (lfF τ nm (fun u => bt q u) i).1 then nI k else (lfF τ nm (fun u => bt q u) i).1, false) (by rw [hst, ← (show (if nI k < (lfF τ nm (fun u => bt q u) i).1 then nI k else (lfF τ nm (fun u => bt q u) i).1) = minI (lfF τ nm (fun u => bt q u) i).1 (nI k) by rw [minI, if_neg h53]), h70, h84]; rfl)).weak (by simp [lvle, lst]; rfl)
                    · refine g_iconst (v := 1) C dX0_leastOrFight_87 (by decide) ?_
                      refine g_goto (tgt := 92) C dX0_leastOrFight_88 (by decide) ?_
                      refine g_istore C dX0_leastOrFight_92 (by decide) ?_
                      exact (nxt hi (if nI k < (lfF τ nm (fun u => bt q u) i).1 then nI k else (lfF τ nm (fun u => bt q u) i).1, true) (by rw [hst, ← (show (if nI k < (lfF τ nm (fun u => bt q u) i).1 then nI k else (lfF τ nm (fun u => bt q u) i).1) = minI (lfF τ nm (fun u => bt q u) i).1 (nI k) by rw [minI, if_neg h53]), h70, h84]; rfl)).weak (by simp [lvle, lst]; rfl)
                · refine g_iload C dX0_leastOrFight_56 rfl ?_
                  refine g_goto (tgt := 67) C dX0_leastOrFight_58 (by decide) ?_
                  refine g_istore_n C dX0_leastOrFight_67 (by decide) ?_
                  refine g_iload C dX0_leastOrFight_68 rfl ?_
                  refine g_ifb_ne (tgt := 87) C dX0_leastOrFight_70 (by decide) (fun h70 => ?_) (fun h70 => ?_)
                  · refine g_iconst (v := 1) C dX0_leastOrFight_87 (by decide) ?_
                    refine g_goto (tgt := 92) C dX0_leastOrFight_88 (by decide) ?_
                    refine g_istore C dX0_leastOrFight_92 (by decide) ?_
                    exact (nxt hi (nI k, true) (by rw [hst, ← (show nI k = minI (lfF τ nm (fun u => bt q u) i).1 (nI k) by rw [minI, if_pos h53]), h70]; rfl)).weak (by simp [lvle, lst]; rfl)
                  · refine g_aload_n C dX0_leastOrFight_73 rfl ?_
                    refine gf_X0_15 C dX0_leastOrFight_74 ?_
                    refine g_iload C dX0_leastOrFight_77 rfl ?_
                    refine g_bipush (v := 64) C dX0_leastOrFight_79 (by decide) ?_
                    refine g_callVr 9 C (cr_X2_hasMark hI hk) mw_X2_hasMark ml_X0_72 rfl rfl rfl rfl (Nat.le_of_ble_eq_true rfl) dX0_leastOrFight_81 ⟨Nat.le_of_ble_eq_true rfl, Nat.le_of_ble_eq_true rfl⟩ ⟨Nat.le_of_ble_eq_true rfl, Nat.le_of_ble_eq_true rfl⟩ ?_
                    refine g_ifb_eq (tgt := 91) C dX0_leastOrFight_84 (by decide) (fun h84 => ?_) (fun h84 => ?_)
                    · refine g_iconst (v := 0) C dX0_leastOrFight_91 (by decide) ?_
                      refine g_istore C dX0_leastOrFight_92 (by decide) ?_
                      exact (nxt hi (nI k, false) (by rw [hst, ← (show nI k = minI (lfF τ nm (fun u => bt q u) i).1 (nI k) by rw [minI, if_pos h53]), h70, h84]; rfl)).weak (by simp [lvle, lst]; rfl)
                    · refine g_iconst (v := 1) C dX0_leastOrFight_87 (by decide) ?_
                      refine g_goto (tgt := 92) C dX0_leastOrFight_88 (by decide) ?_
                      refine g_istore C dX0_leastOrFight_92 (by decide) ?_
                      exact (nxt hi (nI k, true) (by rw [hst, ← (show nI k = minI (lfF τ nm (fun u => bt q u) i).1 (nI k) by rw [minI, if_pos h53]), h70, h84]; rfl)).weak (by simp [lvle, lst]; rfl)
        have hw : i = nT τ := by omega
        refine g_iload C dX0_leastOrFight_8 rfl ?_
        refine g_aload_n C dX0_leastOrFight_10 rfl ?_
        refine gf_X0_9 C dX0_leastOrFight_11 ?_
        refine g_callVr 1 C (cr_X4_size hI) mw_X4_size ml_X0_60 rfl rfl rfl rfl (Nat.le_of_ble_eq_true rfl) dX0_leastOrFight_14 ⟨Nat.le_of_ble_eq_true rfl, Nat.le_of_ble_eq_true rfl⟩ ⟨Nat.le_of_ble_eq_true rfl, Nat.le_of_ble_eq_true rfl⟩ ?_
        refine g_icmpN_ge (tgt := 100) C (by omega) (by omega) dX0_leastOrFight_17 (by decide) (fun h17 => ?_) (fun h17 => ?_)
        · refine g_iload C dX0_leastOrFight_100 rfl ?_
          refine g_ifb_eq (tgt := 118) C dX0_leastOrFight_102 (by decide) (fun h102 => ?_) (fun h102 => ?_)
          · refine g_iload_n C dX0_leastOrFight_118 rfl ?_
            exact g_iret C dX0_leastOrFight_119 ⟨rt_i (by obtain rfl : i = nT τ := (by omega); simp [h102]), rfl⟩
          · refine g_iload_n C dX0_leastOrFight_105 rfl ?_
            refine g_callSr C (cr_J6_bitCount) mw_J6_bitCount_0f7a4 ml_X0_75 rfl rfl (Nat.le_of_ble_eq_true rfl) dX0_leastOrFight_106 ⟨Nat.le_of_ble_eq_true rfl, Nat.le_of_ble_eq_true rfl⟩ ⟨Nat.le_of_ble_eq_true rfl, Nat.le_of_ble_eq_true rfl⟩ ?_
            refine g_iconst (v := 1) C dX0_leastOrFight_109 (by decide) ?_
            refine g_icmp_le (tgt := 118) C dX0_leastOrFight_110 (by decide) (fun h110 => ?_) (fun h110 => ?_)
            · refine g_iload_n C dX0_leastOrFight_118 rfl ?_
              exact g_iret C dX0_leastOrFight_119 ⟨rt_i (by obtain rfl : i = nT τ := (by omega); simp [h102, Int32.not_lt.mpr h110]), rfl⟩
            · refine g_bipush (v := -5) C dX0_leastOrFight_113 (by decide) ?_
              refine g_goto (tgt := 119) C dX0_leastOrFight_115 (by decide) ?_
              exact g_iret C dX0_leastOrFight_119 ⟨rt_i (by obtain rfl : i = nT τ := (by omega); simp [h102, Int32.not_le.mp h110]), rfl⟩
        · exact absurd h17 (by omega)
      refine g_iload C dX0_leastOrFight_8 rfl ?_
      refine g_aload_n C dX0_leastOrFight_10 rfl ?_
      refine gf_X0_9 C dX0_leastOrFight_11 ?_
      refine g_callVr 1 C (cr_X4_size hI) mw_X4_size ml_X0_60 rfl rfl rfl rfl (Nat.le_of_ble_eq_true rfl) dX0_leastOrFight_14 ⟨Nat.le_of_ble_eq_true rfl, Nat.le_of_ble_eq_true rfl⟩ ⟨Nat.le_of_ble_eq_true rfl, Nat.le_of_ble_eq_true rfl⟩ ?_
      refine g_icmpN_ge (tgt := 100) C (by omega) (by omega) dX0_leastOrFight_17 (by decide) (fun h17 => ?_) (fun h17 => ?_)
      · refine g_iload C dX0_leastOrFight_100 rfl ?_
        refine g_ifb_eq (tgt := 118) C dX0_leastOrFight_102 (by decide) (fun h102 => ?_) (fun h102 => ?_)
        · refine g_iload_n C dX0_leastOrFight_118 rfl ?_
          exact g_iret C dX0_leastOrFight_119 ⟨rt_i (by obtain rfl : i = nT τ := (by omega); simp [h102]), rfl⟩
        · refine g_iload_n C dX0_leastOrFight_105 rfl ?_
          refine g_callSr C (cr_J6_bitCount) mw_J6_bitCount_0f7a4 ml_X0_75 rfl rfl (Nat.le_of_ble_eq_true rfl) dX0_leastOrFight_106 ⟨Nat.le_of_ble_eq_true rfl, Nat.le_of_ble_eq_true rfl⟩ ⟨Nat.le_of_ble_eq_true rfl, Nat.le_of_ble_eq_true rfl⟩ ?_
          refine g_iconst (v := 1) C dX0_leastOrFight_109 (by decide) ?_
          refine g_icmp_le (tgt := 118) C dX0_leastOrFight_110 (by decide) (fun h110 => ?_) (fun h110 => ?_)
          · refine g_iload_n C dX0_leastOrFight_118 rfl ?_
            exact g_iret C dX0_leastOrFight_119 ⟨rt_i (by obtain rfl : i = nT τ := (by omega); simp [h102, Int32.not_lt.mpr h110]), rfl⟩
          · refine g_bipush (v := -5) C dX0_leastOrFight_113 (by decide) ?_
            refine g_goto (tgt := 119) C dX0_leastOrFight_115 (by decide) ?_
            exact g_iret C dX0_leastOrFight_119 ⟨rt_i (by obtain rfl : i = nT τ := (by omega); simp [h102, Int32.not_le.mp h110]), rfl⟩
      · refine g_iload_n C dX0_leastOrFight_20 rfl ?_
        refine g_iload C dX0_leastOrFight_21 rfl ?_
        refine g_callSNr C (cr_X5_hasBit) mw_X5_hasBit mn_X0_64 rfl rfl (Nat.le_of_ble_eq_true rfl) dX0_leastOrFight_23 ⟨Nat.le_of_ble_eq_true rfl, Nat.le_of_ble_eq_true rfl⟩ ⟨Nat.le_of_ble_eq_true rfl, Nat.le_of_ble_eq_true rfl⟩ ?_
        refine g_ifb_eq (tgt := 42) C dX0_leastOrFight_26 (by decide) (fun h26 => ?_) (fun h26 => ?_)
        · refine g_iconst (v := -1) C dX0_leastOrFight_42 (by decide) ?_
          refine g_istore C dX0_leastOrFight_43 (by decide) ?_
          refine g_iload C dX0_leastOrFight_45 rfl ?_
          refine g_iconst (v := -1) C dX0_leastOrFight_47 (by decide) ?_
          refine g_icmp_eq (tgt := 94) C dX0_leastOrFight_48 (by decide) (fun h48 => ?_) (fun h48 => ?_)
          · exact (nxt (by omega) (lfF τ nm (fun u => bt q u) i) (by simp [lfF, hb])).weak (by simp [lvle, lst])
          · exact absurd rfl h48
        · exact absurd h26 (by rw [hbV_bt (by omega)]; exact hb)
  refine g_iconst (v := -1) C dX0_leastOrFight_0 (by decide) ?_
  refine g_istore_n C dX0_leastOrFight_1 (by decide) ?_
  refine g_iconst (v := 0) C dX0_leastOrFight_2 (by decide) ?_
  refine g_istore C dX0_leastOrFight_3 (by decide) ?_
  refine g_iconstN 0 C dX0_leastOrFight_5 (by decide) ?_
  refine g_istore C dX0_leastOrFight_6 (by decide) ?_
  exact loop (nT τ + 1) 0 (by omega) (by omega)
set_option maxRecDepth 100000 in
set_option maxHeartbeats 4000000 in
theorem cr_X0_chooseOfInterfaces {l : Launch} {D : va_G} {cI cZ : ClassId} {b : Nat → Nat} {τ σ : St} (hI : Inv τ σ) {t o : Nat} (ht : t < nT τ) (ho : o < nM τ) : Cr l yX0_chooseOfInterfaces cX0_chooseOfInterfaces 6 (some .int) 2 49 D cI cZ (pX b cI cZ) [.ref (b 16), .int (nI t), .int (τ 10 o)] σ (ChsI τ t o) := by
  refine Ct.of 3 (by decide) (by simp [Value.category]) (Nat.le_of_ble_eq_true rfl) ?_
  intro p e s m below meth c C
  have hTl := w0_tl (iW hI)
  have hMl := w0_ml (iW hI)
  have hXl := w0_xl (iW hI)
  have hnm := i_name hI ho
  have loop : ∀ (n i : Nat) (hv cv : Int32), i ≤ t → t + 1 ≤ i + n → (∀ j, j < 32 → bt hv j = (decide (j < i) && hav τ t (τ 10 o) j)) → (∀ j, j < 32 → bt cv j = anyN i (fun v => hav τ t (τ 10 o) v && BelS τ v j)) → G p l e (rmo 2 49) s m ([.ref (b 16), .int (nI t), .int (τ 10 o)] : List Value).toArray below meth c D (va_A (pX b cI cZ σ) s.heap.size) 0 0 (Qe below ([.ref (b 16), .int (nI t), .int (τ 10 o)] : List Value).toArray s D (pX b cI cZ) σ (fun r u => r = some (.int (ChsI τ t o)) ∧ u = σ)) 6 (pX b cI cZ σ) 8 [some (.ref (b 16)), some (.int (nI t)), some (.int (τ 10 o)), some (.int (hv)), some (.int (cv)), some (.int (nI i))] [] := by
    intro n
    induction n with
    | zero => intro i hv cv h1 h2; omega
    | succ n ih =>
      intro i hv cv h1 h2 hH hC
      have skip : i < t → hav τ t (τ 10 o) i = false → G p l e (rmo 2 49) s m ([.ref (b 16), .int (nI t), .int (τ 10 o)] : List Value).toArray below meth c D (va_A (pX b cI cZ σ) s.heap.size) 0 0 (Qe below ([.ref (b 16), .int (nI t), .int (τ 10 o)] : List Value).toArray s D (pX b cI cZ) σ (fun r u => r = some (.int (ChsI τ t o)) ∧ u = σ)) 6 (pX b cI cZ σ) 80 [some (.ref (b 16)), some (.int (nI t)), some (.int (τ 10 o)), some (.int (hv)), some (.int (cv)), some (.int (nI i))] [] := by
        intro hi hf
        refine g_iincN C dX0_chooseOfInterfaces_80 rfl (by decide) ?_
        refine g_goto (tgt := 8) C dX0_chooseOfInterfaces_83 (by decide) ?_
        exact ih (i + 1) hv cv (by omega) (by omega) (fun j hj => by rw [hH j hj]; exact bnd_skip hf) (fun j hj => by rw [hC j hj]; simp [anyN, hf])
      have put : i < t → hav τ t (τ 10 o) i = true → G p l e (rmo 2 49) s m ([.ref (b 16), .int (nI t), .int (τ 10 o)] : List Value).toArray below meth c D (va_A (pX b cI cZ σ) s.heap.size) 0 0 (Qe below ([.ref (b 16), .int (nI t), .int (τ 10 o)] : List Value).toArray s D (pX b cI cZ) σ (fun r u => r = some (.int (ChsI τ t o)) ∧ u = σ)) 6 (pX b cI cZ σ) 80 [some (.ref (b 16)), some (.int (nI t)), some (.int (τ 10 o)), some (.int (hv ||| bit1 i)), some (.int (cv ||| σ 6 i)), some (.int (nI i))] [] := by
        intro hi hf
        refine g_iincN C dX0_chooseOfInterfaces_80 rfl (by decide) ?_
        refine g_goto (tgt := 8) C dX0_chooseOfInterfaces_83 (by decide) ?_
        exact ih (i + 1) _ _ (by omega) (by omega) (fun j hj => by rw [b_or, hH j hj, bt_bit1 (by omega) hj]; exact bnd_put hf) (fun j hj => by rw [b_or, hC j hj, i_a hI (by omega) hj]; simp [anyN, hf])
      cases hA : atO τ i (τ 10 o) with
      | none =>
        refine g_iload C dX0_chooseOfInterfaces_8 rfl ?_
        refine g_iload_n C dX0_chooseOfInterfaces_10 rfl ?_
        refine g_icmpN_ge (tgt := 86) C (by omega) (by omega) dX0_chooseOfInterfaces_11 (by decide) (fun h11 => ?_) (fun h11 => ?_)
        · have hset : ∀ u, u < 32 → bt (hv &&& (cv ^^^ -1)) u = setB τ t (τ 10 o) u := (fun u hu => by rw [b_and, b_xor, b_m1 u hu, hH u hu, hC u hu, show i = t by omega, setB, Bool.xor_true])
          refine g_aload_n C dX0_chooseOfInterfaces_86 rfl ?_
          refine g_iload_n C dX0_chooseOfInterfaces_87 rfl ?_
          refine g_iload C dX0_chooseOfInterfaces_88 rfl ?_
          refine g_iconst (v := -1) C dX0_chooseOfInterfaces_90 (by decide) ?_
          refine g_ixor C dX0_chooseOfInterfaces_91 ?_
          refine g_iand C dX0_chooseOfInterfaces_92 ?_
          refine g_iload_n C dX0_chooseOfInterfaces_93 rfl ?_
          refine g_callVr 16 C ((cr_X0_leastOrFight hI hnm (fun u hu hb => by rw [hset u (by omega)] at hb; exact (set_lt hb).2)).val (lf_ok hI ht hset)) mw_X0_leastOrFight ml_X0_57 rfl rfl rfl rfl (Nat.le_of_ble_eq_true rfl) dX0_chooseOfInterfaces_94 ⟨Nat.le_of_ble_eq_true rfl, Nat.le_of_ble_eq_true rfl⟩ ⟨Nat.le_of_ble_eq_true rfl, Nat.le_of_ble_eq_true rfl⟩ ?_
          exact g_iret C dX0_chooseOfInterfaces_97 ⟨rfl, rfl⟩
        · refine g_aload_n C dX0_chooseOfInterfaces_14 rfl ?_
          refine gf_X0_9 C dX0_chooseOfInterfaces_15 ?_
          refine g_iload C dX0_chooseOfInterfaces_18 rfl ?_
          refine g_callVr 1 C (cr_X4_isInterface hI (by omega)) mw_X4_isInterface ml_X0_28 rfl rfl rfl rfl (Nat.le_of_ble_eq_true rfl) dX0_chooseOfInterfaces_20 ⟨Nat.le_of_ble_eq_true rfl, Nat.le_of_ble_eq_true rfl⟩ ⟨Nat.le_of_ble_eq_true rfl, Nat.le_of_ble_eq_true rfl⟩ ?_
          refine g_ifb_eq (tgt := 80) C dX0_chooseOfInterfaces_23 (by decide) (fun h23 => ?_) (fun h23 => ?_)
          · exact skip (by omega) (by simp [hav, h23])
          · refine g_aload_n C dX0_chooseOfInterfaces_26 rfl ?_
            refine gf_X0_9 C dX0_chooseOfInterfaces_27 ?_
            refine g_iload_n C dX0_chooseOfInterfaces_30 rfl ?_
            refine g_iload C dX0_chooseOfInterfaces_31 rfl ?_
            refine g_callVr 1 C (cr_X4_isBelow hI (by omega) (by omega)) mw_X4_isBelow ml_X0_51 rfl rfl rfl rfl (Nat.le_of_ble_eq_true rfl) dX0_chooseOfInterfaces_33 ⟨Nat.le_of_ble_eq_true rfl, Nat.le_of_ble_eq_true rfl⟩ ⟨Nat.le_of_ble_eq_true rfl, Nat.le_of_ble_eq_true rfl⟩ ?_
            refine g_ifb_eq (tgt := 80) C dX0_chooseOfInterfaces_36 (by decide) (fun h36 => ?_) (fun h36 => ?_)
            · exact skip (by omega) (by simp [hav, h36])
            · refine g_aload_n C dX0_chooseOfInterfaces_39 rfl ?_
              refine gf_X0_15 C dX0_chooseOfInterfaces_40 ?_
              refine g_aload_n C dX0_chooseOfInterfaces_43 rfl ?_
              refine gf_X0_15 C dX0_chooseOfInterfaces_44 ?_
              refine g_iload C dX0_chooseOfInterfaces_47 rfl ?_
              refine g_iload_n C dX0_chooseOfInterfaces_49 rfl ?_
              refine g_callVr 9 C ((cr_X2_at (t := i) hI (by omega) hnm).val (show atV τ i (τ 10 o) = -1 by rw [atV, hA])) mw_X2_at ml_X0_34 rfl rfl rfl rfl (Nat.le_of_ble_eq_true rfl) dX0_chooseOfInterfaces_50 ⟨Nat.le_of_ble_eq_true rfl, Nat.le_of_ble_eq_true rfl⟩ ⟨Nat.le_of_ble_eq_true rfl, Nat.le_of_ble_eq_true rfl⟩ ?_
              refine g_callVr 9 C (cr_X2_isInheritableN) mw_X2_isInheritable ml_X0_38 rfl rfl rfl rfl (Nat.le_of_ble_eq_true rfl) dX0_chooseOfInterfaces_53 ⟨Nat.le_of_ble_eq_true rfl, Nat.le_of_ble_eq_true rfl⟩ ⟨Nat.le_of_ble_eq_true rfl, Nat.le_of_ble_eq_true rfl⟩ ?_
              refine g_ifb_eq (tgt := 80) C dX0_chooseOfInterfaces_56 (by decide) (fun h56 => ?_) (fun h56 => ?_)
              · exact skip (by omega) (by simp [hav, hA])
              · exact absurd h56 (by decide)
      | some k =>
        obtain ⟨hk, -, -⟩ := atO_some hI hA
        refine g_iload C dX0_chooseOfInterfaces_8 rfl ?_
        refine g_iload_n C dX0_chooseOfInterfaces_10 rfl ?_
        refine g_icmpN_ge (tgt := 86) C (by omega) (by omega) dX0_chooseOfInterfaces_11 (by decide) (fun h11 => ?_) (fun h11 => ?_)
        · have hset : ∀ u, u < 32 → bt (hv &&& (cv ^^^ -1)) u = setB τ t (τ 10 o) u := (fun u hu => by rw [b_and, b_xor, b_m1 u hu, hH u hu, hC u hu, show i = t by omega, setB, Bool.xor_true])
          refine g_aload_n C dX0_chooseOfInterfaces_86 rfl ?_
          refine g_iload_n C dX0_chooseOfInterfaces_87 rfl ?_
          refine g_iload C dX0_chooseOfInterfaces_88 rfl ?_
          refine g_iconst (v := -1) C dX0_chooseOfInterfaces_90 (by decide) ?_
          refine g_ixor C dX0_chooseOfInterfaces_91 ?_
          refine g_iand C dX0_chooseOfInterfaces_92 ?_
          refine g_iload_n C dX0_chooseOfInterfaces_93 rfl ?_
          refine g_callVr 16 C ((cr_X0_leastOrFight hI hnm (fun u hu hb => by rw [hset u (by omega)] at hb; exact (set_lt hb).2)).val (lf_ok hI ht hset)) mw_X0_leastOrFight ml_X0_57 rfl rfl rfl rfl (Nat.le_of_ble_eq_true rfl) dX0_chooseOfInterfaces_94 ⟨Nat.le_of_ble_eq_true rfl, Nat.le_of_ble_eq_true rfl⟩ ⟨Nat.le_of_ble_eq_true rfl, Nat.le_of_ble_eq_true rfl⟩ ?_
          exact g_iret C dX0_chooseOfInterfaces_97 ⟨rfl, rfl⟩
        · refine g_aload_n C dX0_chooseOfInterfaces_14 rfl ?_
          refine gf_X0_9 C dX0_chooseOfInterfaces_15 ?_
          refine g_iload C dX0_chooseOfInterfaces_18 rfl ?_
          refine g_callVr 1 C (cr_X4_isInterface hI (by omega)) mw_X4_isInterface ml_X0_28 rfl rfl rfl rfl (Nat.le_of_ble_eq_true rfl) dX0_chooseOfInterfaces_20 ⟨Nat.le_of_ble_eq_true rfl, Nat.le_of_ble_eq_true rfl⟩ ⟨Nat.le_of_ble_eq_true rfl, Nat.le_of_ble_eq_true rfl⟩ ?_
          refine g_ifb_eq (tgt := 80) C dX0_chooseOfInterfaces_23 (by decide) (fun h23 => ?_) (fun h23 => ?_)
          · exact skip (by omega) (by simp [hav, h23])
          · refine g_aload_n C dX0_chooseOfInterfaces_26 rfl ?_
            refine gf_X0_9 C dX0_chooseOfInterfaces_27 ?_
            refine g_iload_n C dX0_chooseOfInterfaces_30 rfl ?_
            refine g_iload C dX0_chooseOfInterfaces_31 rfl ?_
            refine g_callVr 1 C (cr_X4_isBelow hI (by omega) (by omega)) mw_X4_isBelow ml_X0_51 rfl rfl rfl rfl (Nat.le_of_ble_eq_true rfl) dX0_chooseOfInterfaces_33 ⟨Nat.le_of_ble_eq_true rfl, Nat.le_of_ble_eq_true rfl⟩ ⟨Nat.le_of_ble_eq_true rfl, Nat.le_of_ble_eq_true rfl⟩ ?_
            refine g_ifb_eq (tgt := 80) C dX0_chooseOfInterfaces_36 (by decide) (fun h36 => ?_) (fun h36 => ?_)
            · exact skip (by omega) (by simp [hav, h36])
            · refine g_aload_n C dX0_chooseOfInterfaces_39 rfl ?_
              refine gf_X0_15 C dX0_chooseOfInterfaces_40 ?_
              refine g_aload_n C dX0_chooseOfInterfaces_43 rfl ?_
              refine gf_X0_15 C dX0_chooseOfInterfaces_44 ?_
              refine g_iload C dX0_chooseOfInterfaces_47 rfl ?_
              refine g_iload_n C dX0_chooseOfInterfaces_49 rfl ?_
              refine g_callVr 9 C ((cr_X2_at (t := i) hI (by omega) hnm).val (show atV τ i (τ 10 o) = nI k by rw [atV, hA])) mw_X2_at ml_X0_34 rfl rfl rfl rfl (Nat.le_of_ble_eq_true rfl) dX0_chooseOfInterfaces_50 ⟨Nat.le_of_ble_eq_true rfl, Nat.le_of_ble_eq_true rfl⟩ ⟨Nat.le_of_ble_eq_true rfl, Nat.le_of_ble_eq_true rfl⟩ ?_
              refine g_callVr 9 C (cr_X2_isInheritable hI hk) mw_X2_isInheritable ml_X0_38 rfl rfl rfl rfl (Nat.le_of_ble_eq_true rfl) dX0_chooseOfInterfaces_53 ⟨Nat.le_of_ble_eq_true rfl, Nat.le_of_ble_eq_true rfl⟩ ⟨Nat.le_of_ble_eq_true rfl, Nat.le_of_ble_eq_true rfl⟩ ?_
              refine g_ifb_eq (tgt := 80) C dX0_chooseOfInterfaces_56 (by decide) (fun h56 => ?_) (fun h56 => ?_)
              · exact skip (by omega) (by simp [hav, hA, h56])
              · refine g_iload_n C dX0_chooseOfInterfaces_59 rfl ?_
                refine g_iconst (v := 1) C dX0_chooseOfInterfaces_60 (by decide) ?_
                refine g_iload C dX0_chooseOfInterfaces_61 rfl ?_
                refine g_ishl C dX0_chooseOfInterfaces_63 ?_
                refine g_ior C dX0_chooseOfInterfaces_64 ?_
                refine g_istore_n C dX0_chooseOfInterfaces_65 (by decide) ?_
                refine g_iload C dX0_chooseOfInterfaces_66 rfl ?_
                refine g_aload_n C dX0_chooseOfInterfaces_68 rfl ?_
                refine gf_X0_9 C dX0_chooseOfInterfaces_69 ?_
                refine g_iload C dX0_chooseOfInterfaces_72 rfl ?_
                refine g_callVr 1 C (cr_X4_allAbove hI (by omega)) mw_X4_allAbove ml_X0_54 rfl rfl rfl rfl (Nat.le_of_ble_eq_true rfl) dX0_chooseOfInterfaces_74 ⟨Nat.le_of_ble_eq_true rfl, Nat.le_of_ble_eq_true rfl⟩ ⟨Nat.le_of_ble_eq_true rfl, Nat.le_of_ble_eq_true rfl⟩ ?_
                refine g_ior C dX0_chooseOfInterfaces_77 ?_
                refine g_istore C dX0_chooseOfInterfaces_78 (by decide) ?_
                exact put (by omega) (by simp [hav, hA, h23, h36, h56])
  refine g_iconst (v := 0) C dX0_chooseOfInterfaces_0 (by decide) ?_
  refine g_istore_n C dX0_chooseOfInterfaces_1 (by decide) ?_
  refine g_iconst (v := 0) C dX0_chooseOfInterfaces_2 (by decide) ?_
  refine g_istore C dX0_chooseOfInterfaces_3 (by decide) ?_
  refine g_iconstN 0 C dX0_chooseOfInterfaces_5 (by decide) ?_
  refine g_istore C dX0_chooseOfInterfaces_6 (by decide) ?_
  exact loop (t + 1) 0 0 0 (by omega) (by omega) (fun j hj => by rw [b_0]; simp) (fun j hj => by rw [b_0]; rfl)
set_option maxRecDepth 100000 in
set_option maxHeartbeats 4000000 in
theorem cr_X0_choose {l : Launch} {D : va_G} {cI cZ : ClassId} {b : Nat → Nat} {τ σ : St} (hI : Inv τ σ) {t o : Nat} (ht : t < nT τ) (ho : o < nM τ) : Cr l yX0_choose cX0_choose 8 (some .int) 3 74 D cI cZ (pX b cI cZ) [.ref (b 16), .int (nI t), .int (nI o)] σ (Chs τ t o) := by
  refine Ct.of 5 (by decide) (by simp [Value.category]) (Nat.le_of_ble_eq_true rfl) ?_
  intro p e s m below meth c C
  have hTl := w0_tl (iW hI)
  have hMl := w0_ml (iW hI)
  have hXl := w0_xl (iW hI)
  have hof_o := w0_ofl (iW hI) ho
  have hnm := i_name hI ho
  have j113 : chO (τ 3) (fun u => fstN (nM τ) (ChX τ o u)) (nI t) = none → ∀ (y s0 : Int32), G p l e (rmo 3 74) s m ([.ref (b 16), .int (nI t), .int (nI o)] : List Value).toArray below meth c D (va_A (pX b cI cZ σ) s.heap.size) 0 0 (Qe below ([.ref (b 16), .int (nI t), .int (nI o)] : List Value).toArray s D (pX b cI cZ) σ (fun r u => r = some (.int (Chs τ t o)) ∧ u = σ)) 8 (pX b cI cZ σ) 113 [some (.ref (b 16)), some (.int (nI t)), some (.int (nI o)), some (.int (τ 10 o)), some (.int (b2i (decide (τ 1 (Of τ o) = 2)))), some (.int (y)), some (.int (s0)), none] [] := by
    intro hn y s0
    refine g_aload_n C dX0_choose_113 rfl ?_
    refine g_iload_n C dX0_choose_114 rfl ?_
    refine g_iload_n C dX0_choose_115 rfl ?_
    refine g_callVr 16 C (cr_X0_chooseOfInterfaces hI ht ho) mw_X0_chooseOfInterfaces ml_X0_48 rfl rfl rfl rfl (Nat.le_of_ble_eq_true rfl) dX0_choose_116 ⟨Nat.le_of_ble_eq_true rfl, Nat.le_of_ble_eq_true rfl⟩ ⟨Nat.le_of_ble_eq_true rfl, Nat.le_of_ble_eq_true rfl⟩ ?_
    exact g_iret C dX0_choose_119 ⟨rt_i (by simp only [Chs, hn]), rfl⟩
  have loop : ∀ (n : Nat) (y : Int32) (s0 : Nat), lessOr y n → n ≤ nT τ → n + s0 ≤ 16 → chO (τ 3) (fun u => fstN (nM τ) (ChX τ o u)) (nI t) = chO (τ 3) (fun u => fstN (nM τ) (ChX τ o u)) y → G p l e (rmo 3 74) s m ([.ref (b 16), .int (nI t), .int (nI o)] : List Value).toArray below meth c D (va_A (pX b cI cZ σ) s.heap.size) 0 0 (Qe below ([.ref (b 16), .int (nI t), .int (nI o)] : List Value).toArray s D (pX b cI cZ) σ (fun r u => r = some (.int (Chs τ t o)) ∧ u = σ)) 8 (pX b cI cZ σ) 32 [some (.ref (b 16)), some (.int (nI t)), some (.int (nI o)), some (.int (τ 10 o)), some (.int (b2i (decide (τ 1 (Of τ o) = 2)))), some (.int (y)), some (.int (nI s0)), none] [] := by
    intro n
    induction n with
    | zero =>
      intro y s0 hy hn hs he
      rcases hy with rfl | ⟨p0, hp, rfl⟩
      · refine g_iload C dX0_choose_32 rfl ?_
        refine g_bipushN 16 C dX0_choose_34 (by decide) ?_
        refine g_icmpN_ge (tgt := 113) C (by omega) (by omega) dX0_choose_36 (by decide) (fun h36 => ?_) (fun h36 => ?_)
        · exact j113 (by rw [he]; simp [chO]) (-1) (nI s0)
        · refine g_iload C dX0_choose_39 rfl ?_
          refine g_iconst (v := -1) C dX0_choose_41 (by decide) ?_
          refine g_icmp_eq (tgt := 113) C dX0_choose_42 (by decide) (fun h42 => ?_) (fun h42 => ?_)
          · exact j113 (by rw [he]; simp [chO]) (-1) (nI s0)
          · exact absurd rfl h42
      · omega
    | succ n ih =>
      intro y s0 hy hn hs he
      rcases hy with rfl | ⟨u, hu, rfl⟩
      · refine g_iload C dX0_choose_32 rfl ?_
        refine g_bipushN 16 C dX0_choose_34 (by decide) ?_
        refine g_icmpN_ge (tgt := 113) C (by omega) (by omega) dX0_choose_36 (by decide) (fun h36 => ?_) (fun h36 => ?_)
        · exact j113 (by rw [he]; simp [chO]) (-1) (nI s0)
        · refine g_iload C dX0_choose_39 rfl ?_
          refine g_iconst (v := -1) C dX0_choose_41 (by decide) ?_
          refine g_icmp_eq (tgt := 113) C dX0_choose_42 (by decide) (fun h42 => ?_) (fun h42 => ?_)
          · exact j113 (by rw [he]; simp [chO]) (-1) (nI s0)
          · exact absurd rfl h42
      rw [chC_step (N := nT τ) (by omega) (fun z hz => w0_pa (iW hI) hz) (y := u) (by omega), chx_at hI ho] at he
      have hpa := w0_pa (iW hI) (t := u) (by omega)
      have nxt : chO (τ 3) (fun u => fstN (nM τ) (ChX τ o u)) (nI t) = chO (τ 3) (fun u => fstN (nM τ) (ChX τ o u)) (τ 3 u) → G p l e (rmo 3 74) s m ([.ref (b 16), .int (nI t), .int (nI o)] : List Value).toArray below meth c D (va_A (pX b cI cZ σ) s.heap.size) 0 0 (Qe below ([.ref (b 16), .int (nI t), .int (nI o)] : List Value).toArray s D (pX b cI cZ) σ (fun r u => r = some (.int (Chs τ t o)) ∧ u = σ)) 8 (pX b cI cZ σ) 96 [some (.ref (b 16)), some (.int (nI t)), some (.int (nI o)), some (.int (τ 10 o)), some (.int (b2i (decide (τ 1 (Of τ o) = 2)))), some (.int (nI u)), some (.int (nI s0)), none] [] := by
        intro he
        refine g_aload_n C dX0_choose_96 rfl ?_
        refine gf_X0_9 C dX0_choose_97 ?_
        refine g_iload C dX0_choose_100 rfl ?_
        refine g_callVr 1 C (cr_X4_parentOf hI (by omega)) mw_X4_parentOf ml_X0_45 rfl rfl rfl rfl (Nat.le_of_ble_eq_true rfl) dX0_choose_102 ⟨Nat.le_of_ble_eq_true rfl, Nat.le_of_ble_eq_true rfl⟩ ⟨Nat.le_of_ble_eq_true rfl, Nat.le_of_ble_eq_true rfl⟩ ?_
        refine g_istore C dX0_choose_105 (by decide) ?_
        refine g_iincN C dX0_choose_107 rfl (by decide) ?_
        refine g_goto (tgt := 32) C dX0_choose_110 (by decide) ?_
        exact (ih (τ 3 u) (s0 + 1) (hpa.mono (by omega)) (by omega) (by omega) he).weak (by simp [lvle, lst])
      cases hA : atO τ u (τ 10 o) with
      | none =>
        rw [hA] at he
        refine g_iload C dX0_choose_32 rfl ?_
        refine g_bipushN 16 C dX0_choose_34 (by decide) ?_
        refine g_icmpN_ge (tgt := 113) C (by omega) (by omega) dX0_choose_36 (by decide) (fun h36 => ?_) (fun h36 => ?_)
        · exact absurd h36 (by omega)
        · refine g_iload C dX0_choose_39 rfl ?_
          refine g_iconst (v := -1) C dX0_choose_41 (by decide) ?_
          refine g_icmp_eq (tgt := 113) C dX0_choose_42 (by decide) (fun h42 => ?_) (fun h42 => ?_)
          · exact absurd h42 (nI_m1 (by omega))
          · refine g_aload_n C dX0_choose_45 rfl ?_
            refine gf_X0_15 C dX0_choose_46 ?_
            refine g_iload C dX0_choose_49 rfl ?_
            refine g_iload_n C dX0_choose_51 rfl ?_
            refine g_callVr 9 C ((cr_X2_at (t := u) hI (by omega) hnm).val (show atV τ u (τ 10 o) = -1 by rw [atV, hA])) mw_X2_at ml_X0_34 rfl rfl rfl rfl (Nat.le_of_ble_eq_true rfl) dX0_choose_52 ⟨Nat.le_of_ble_eq_true rfl, Nat.le_of_ble_eq_true rfl⟩ ⟨Nat.le_of_ble_eq_true rfl, Nat.le_of_ble_eq_true rfl⟩ ?_
            refine g_istore C dX0_choose_55 (by decide) ?_
            refine g_aload_n C dX0_choose_57 rfl ?_
            refine gf_X0_15 C dX0_choose_58 ?_
            refine g_iload C dX0_choose_61 rfl ?_
            refine g_callVr 9 C (cr_X2_isInheritableN) mw_X2_isInheritable ml_X0_38 rfl rfl rfl rfl (Nat.le_of_ble_eq_true rfl) dX0_choose_63 ⟨Nat.le_of_ble_eq_true rfl, Nat.le_of_ble_eq_true rfl⟩ ⟨Nat.le_of_ble_eq_true rfl, Nat.le_of_ble_eq_true rfl⟩ ?_
            refine g_ifb_eq (tgt := 96) C dX0_choose_66 (by decide) (fun h66 => ?_) (fun h66 => ?_)
            · exact (nxt he).weak (by simp [lvle, lst])
            · exact absurd h66 (by decide)
      | some k =>
        obtain ⟨hk, -, -⟩ := atO_some hI hA
        simp only [hA] at he
        refine g_iload C dX0_choose_32 rfl ?_
        refine g_bipushN 16 C dX0_choose_34 (by decide) ?_
        refine g_icmpN_ge (tgt := 113) C (by omega) (by omega) dX0_choose_36 (by decide) (fun h36 => ?_) (fun h36 => ?_)
        · exact absurd h36 (by omega)
        · refine g_iload C dX0_choose_39 rfl ?_
          refine g_iconst (v := -1) C dX0_choose_41 (by decide) ?_
          refine g_icmp_eq (tgt := 113) C dX0_choose_42 (by decide) (fun h42 => ?_) (fun h42 => ?_)
          · exact absurd h42 (nI_m1 (by omega))
          · refine g_aload_n C dX0_choose_45 rfl ?_
            refine gf_X0_15 C dX0_choose_46 ?_
            refine g_iload C dX0_choose_49 rfl ?_
            refine g_iload_n C dX0_choose_51 rfl ?_
            refine g_callVr 9 C ((cr_X2_at (t := u) hI (by omega) hnm).val (show atV τ u (τ 10 o) = nI k by rw [atV, hA])) mw_X2_at ml_X0_34 rfl rfl rfl rfl (Nat.le_of_ble_eq_true rfl) dX0_choose_52 ⟨Nat.le_of_ble_eq_true rfl, Nat.le_of_ble_eq_true rfl⟩ ⟨Nat.le_of_ble_eq_true rfl, Nat.le_of_ble_eq_true rfl⟩ ?_
            refine g_istore C dX0_choose_55 (by decide) ?_
            refine g_aload_n C dX0_choose_57 rfl ?_
            refine gf_X0_15 C dX0_choose_58 ?_
            refine g_iload C dX0_choose_61 rfl ?_
            refine g_callVr 9 C (cr_X2_isInheritable hI hk) mw_X2_isInheritable ml_X0_38 rfl rfl rfl rfl (Nat.le_of_ble_eq_true rfl) dX0_choose_63 ⟨Nat.le_of_ble_eq_true rfl, Nat.le_of_ble_eq_true rfl⟩ ⟨Nat.le_of_ble_eq_true rfl, Nat.le_of_ble_eq_true rfl⟩ ?_
            refine g_ifb_eq (tgt := 96) C dX0_choose_66 (by decide) (fun h66 => ?_) (fun h66 => ?_)
            · exact (nxt (by rw [if_neg (by simp [h66])] at he; exact he)).weak (by simp [lvle, lst])
            · refine g_iload C dX0_choose_69 rfl ?_
              refine g_ifb_ne (tgt := 93) C dX0_choose_71 (by decide) (fun h71 => ?_) (fun h71 => ?_)
              · refine g_iload C dX0_choose_93 rfl ?_
                exact g_iret C dX0_choose_95 ⟨rt_i (by rw [if_pos (by rw [h66, show Ifc τ o = true from h71]; simp)] at he; simp only [Chs, he]), rfl⟩
              · refine g_iload C dX0_choose_74 rfl ?_
                refine g_iload_n C dX0_choose_76 rfl ?_
                refine g_icmpN_eq (tgt := 93) C (by omega) (by omega) dX0_choose_77 (by decide) (fun h77 => ?_) (fun h77 => ?_)
                · refine g_iload C dX0_choose_93 rfl ?_
                  exact g_iret C dX0_choose_95 ⟨rt_i (by rw [if_pos (by rw [h66, show Ifc τ o = false from h71, show decide (k = o) = true from decide_eq_true h77]; simp)] at he; simp only [Chs, he]), rfl⟩
                · refine g_aload_n C dX0_choose_80 rfl ?_
                  refine gf_X0_15 C dX0_choose_81 ?_
                  refine g_iload C dX0_choose_84 rfl ?_
                  refine g_iload_n C dX0_choose_86 rfl ?_
                  refine g_callVr 9 C ((cr_X2_isOverriding hI hk ho).val (congrArg b2i (i_ov hI hk ho).symm)) mw_X2_isOverriding ml_X0_41 rfl rfl rfl rfl (Nat.le_of_ble_eq_true rfl) dX0_choose_87 ⟨Nat.le_of_ble_eq_true rfl, Nat.le_of_ble_eq_true rfl⟩ ⟨Nat.le_of_ble_eq_true rfl, Nat.le_of_ble_eq_true rfl⟩ ?_
                  refine g_ifb_eq (tgt := 96) C dX0_choose_90 (by decide) (fun h90 => ?_) (fun h90 => ?_)
                  · exact (nxt (by rw [if_neg (by simp [h66, show Ifc τ o = false from h71, show decide (k = o) = false from decide_eq_false h77, h90])] at he; exact he)).weak (by simp [lvle, lst])
                  · refine g_iload C dX0_choose_93 rfl ?_
                    exact g_iret C dX0_choose_95 ⟨rt_i (by rw [if_pos (by rw [h66, show Ifc τ o = false from h71, show decide (k = o) = false from decide_eq_false h77, h90]; simp)] at he; simp only [Chs, he]), rfl⟩
  refine g_aload_n C dX0_choose_0 rfl ?_
  refine gf_X0_15 C dX0_choose_1 ?_
  refine g_iload_n C dX0_choose_4 rfl ?_
  refine g_callVr 9 C (cr_X2_nameOf hI ho) mw_X2_nameOf ml_X0_19 rfl rfl rfl rfl (Nat.le_of_ble_eq_true rfl) dX0_choose_5 ⟨Nat.le_of_ble_eq_true rfl, Nat.le_of_ble_eq_true rfl⟩ ⟨Nat.le_of_ble_eq_true rfl, Nat.le_of_ble_eq_true rfl⟩ ?_
  refine g_istore_n C dX0_choose_8 (by decide) ?_
  refine g_aload_n C dX0_choose_9 rfl ?_
  refine gf_X0_9 C dX0_choose_10 ?_
  refine g_aload_n C dX0_choose_13 rfl ?_
  refine gf_X0_15 C dX0_choose_14 ?_
  refine g_iload_n C dX0_choose_17 rfl ?_
  refine g_callVr 9 C (cr_X2_typeOf hI ho) mw_X2_typeOf ml_X0_25 rfl rfl rfl rfl (Nat.le_of_ble_eq_true rfl) dX0_choose_18 ⟨Nat.le_of_ble_eq_true rfl, Nat.le_of_ble_eq_true rfl⟩ ⟨Nat.le_of_ble_eq_true rfl, Nat.le_of_ble_eq_true rfl⟩ ?_
  refine g_callVr 1 C (cr_X4_isInterface hI (by omega)) mw_X4_isInterface ml_X0_28 rfl rfl rfl rfl (Nat.le_of_ble_eq_true rfl) dX0_choose_21 ⟨Nat.le_of_ble_eq_true rfl, Nat.le_of_ble_eq_true rfl⟩ ⟨Nat.le_of_ble_eq_true rfl, Nat.le_of_ble_eq_true rfl⟩ ?_
  refine g_istore C dX0_choose_24 (by decide) ?_
  refine g_iload_n C dX0_choose_26 rfl ?_
  refine g_istore C dX0_choose_27 (by decide) ?_
  refine g_iconstN 0 C dX0_choose_29 (by decide) ?_
  refine g_istore C dX0_choose_30 (by decide) ?_
  exact loop (nT τ) (nI t) 0 (Or.inr ⟨t, ht, rfl⟩) (by omega) (by omega) rfl

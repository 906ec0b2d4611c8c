theorem thx_step {i : Nat} {f : Nat → Bool} (h : ∀ z, z < i → f z = false) (hi : f i = false) : ∀ z, z < i + 1 → f z = false := by
  intro z hz
  rcases Nat.lt_or_eq_of_le (Nat.le_of_lt_succ hz) with q | rfl
  · exact h z q
  · exact hi
/-! ===== the class: at, areAllowed, isReached, isOverriding and the counts ===== -/
set_option maxRecDepth 100000 in
set_option maxHeartbeats 4000000 in
theorem cr_X2_at {l : Launch} {D : va_G} {cI cZ : ClassId} {b : Nat → Nat} {τ σ : St} (hI : Inv τ σ) {t : Nat} {nm : Int32} (ht : t < 16) (hn : ∃ n, n < 8 ∧ nm = nI n) : Cr l yX2_at cX2_at 4 (some .int) 0 0 D cI cZ (pX b cI cZ) [.ref (b 9), .int (nI t), .int nm] σ (atV τ t nm) := by
  obtain ⟨n, hn, rfl⟩ := hn
  refine Ct.of 1 (by decide) (by simp [Value.category]) (Nat.le_of_ble_eq_true rfl) ?_
  intro p e s m below meth c C
  have hTl := w0_tl (iW hI)
  have hMl := w0_ml (iW hI)
  have hXl := w0_xl (iW hI)
  have hs := i_sl hI ht hn
  rw [slV] at hs
  rw [atV, atO]
  cases hA : fstN (nM τ) (mbHas τ t (nI n)) with
  | none =>
    refine g_aload_n C dX2_at_0 rfl ?_
    refine gf_X2_27 C dX2_at_1 ?_
    refine g_iload_n C dX2_at_4 rfl ?_
    refine g_bipushN 8 C dX2_at_5 (by decide) ?_
    refine g_imulN C dX2_at_7 ?_
    refine g_iload_n C dX2_at_8 rfl ?_
    refine g_iaddN C dX2_at_9 ?_
    refine gX_lv15 C (by omega) (v := 0) (by rw [hs, hA]) dX2_at_10 ?_
    refine g_istore_n C dX2_at_11 (by decide) ?_
    refine g_iload_n C dX2_at_12 rfl ?_
    refine g_if_ne (tgt := 20) C dX2_at_13 (by decide) (fun h13 => ?_) (fun h13 => ?_)
    · exact absurd rfl h13
    · refine g_iconst (v := -1) C dX2_at_16 (by decide) ?_
      refine g_goto (tgt := 23) C dX2_at_17 (by decide) ?_
      exact g_iret C dX2_at_23 ⟨rfl, rfl⟩
  | some k =>
    have hk := (fstN_is hA).1
    refine g_aload_n C dX2_at_0 rfl ?_
    refine gf_X2_27 C dX2_at_1 ?_
    refine g_iload_n C dX2_at_4 rfl ?_
    refine g_bipushN 8 C dX2_at_5 (by decide) ?_
    refine g_imulN C dX2_at_7 ?_
    refine g_iload_n C dX2_at_8 rfl ?_
    refine g_iaddN C dX2_at_9 ?_
    refine gX_lv15 C (by omega) (v := nI (k + 1)) (by rw [hs, hA]) dX2_at_10 ?_
    refine g_istore_n C dX2_at_11 (by decide) ?_
    refine g_iload_n C dX2_at_12 rfl ?_
    refine g_if_ne (tgt := 20) C dX2_at_13 (by decide) (fun h13 => ?_) (fun h13 => ?_)
    · refine g_iload_n C dX2_at_20 rfl ?_
      refine g_iconst (v := 1) C dX2_at_21 (by decide) ?_
      refine g_isub C dX2_at_22 ?_
      exact g_iret C dX2_at_23 ⟨rt_i (nI1 k), rfl⟩
    · exact absurd h13 (nI_ne0 (by omega) (by omega))
set_option maxRecDepth 100000 in
set_option maxHeartbeats 4000000 in
theorem cr_X3_areAllowed {l : Launch} {D : va_G} {cI cZ : ClassId} {b : Nat → Nat} {τ σ : St} (hI : Inv τ σ) {x o : Nat} : Cr l yX3_areAllowed cX3_areAllowed 4 (some .boolean) 1 21 D cI cZ (pX b cI cZ) [.ref (b 7), .int (τ 13 x), .int (τ 13 o)] σ (b2i (!ThB τ x o)) := by
  refine Ct.of 1 (by decide) (by simp [Value.category]) (Nat.le_of_ble_eq_true rfl) ?_
  intro p e s m below meth c C
  have hTl := w0_tl (iW hI)
  have hMl := w0_ml (iW hI)
  have hXl := w0_xl (iW hI)
  have loop : ∀ (n i : Nat), i ≤ nX τ → nX τ + 1 ≤ i + n → (∀ z, z < i → ThX τ x o z = false) → G p l e (rmo 1 21) s m ([.ref (b 7), .int (τ 13 x), .int (τ 13 o)] : List Value).toArray below meth c D (va_A (pX b cI cZ σ) s.heap.size) 0 0 (Qe below ([.ref (b 7), .int (τ 13 x), .int (τ 13 o)] : List Value).toArray s D (pX b cI cZ) σ (fun r u => r = some (.int (b2i (!ThB τ x o))) ∧ u = σ)) 4 (pX b cI cZ σ) 2 [some (.ref (b 7)), some (.int (τ 13 x)), some (.int (τ 13 o)), some (.int (nI i))] [] := by
    intro n
    induction n with
    | zero => intro i h1 h2; omega
    | succ n ih =>
      intro i h1 h2 hF
      refine g_iload_n C dX3_areAllowed_2 rfl ?_
      refine g_aload_n C dX3_areAllowed_3 rfl ?_
      refine gn_X3_19 C (i_x hI) dX3_areAllowed_4 ?_
      refine g_icmpN_ge (tgt := 42) C (by omega) (by omega) dX3_areAllowed_7 (by decide) (fun h7 => ?_) (fun h7 => ?_)
      · refine g_iconst (v := 1) C dX3_areAllowed_42 (by decide) ?_
        exact g_zret C dX3_areAllowed_43 nar_1 ⟨rt_t (by rw [ThB, anyN_f (fun z hz => hF z (by omega))]; rfl), rfl⟩
      · refine g_iload_n C dX3_areAllowed_10 rfl ?_
        refine g_aload_n C dX3_areAllowed_11 rfl ?_
        refine gf_X3_15 C dX3_areAllowed_12 ?_
        refine g_iand C dX3_areAllowed_15 ?_
        refine g_iload_n C dX3_areAllowed_16 rfl ?_
        refine g_callSNr C (cr_X5_hasBit) mw_X5_hasBit mn_X3_22 rfl rfl (Nat.le_of_ble_eq_true rfl) dX3_areAllowed_17 ⟨Nat.le_of_ble_eq_true rfl, Nat.le_of_ble_eq_true rfl⟩ ⟨Nat.le_of_ble_eq_true rfl, Nat.le_of_ble_eq_true rfl⟩ ?_
        refine g_ifb_eq (tgt := 36) C dX3_areAllowed_20 (by decide) (fun h20 => ?_) (fun h20 => ?_)
        · refine g_iincN C dX3_areAllowed_36 rfl (by decide) ?_
          refine g_goto (tgt := 2) C dX3_areAllowed_39 (by decide) ?_
          exact ih (i + 1) (by omega) (by omega) (thx_step hF (by rw [ThX]; have e1 : hbV (τ 13 x &&& σ 0 1) (nI i) = (bitB (τ 13 x) i && Ckd τ i) := (by rw [hbV_bt (by omega), b_and, i_ck hI (by omega), bitB_bt (by omega)]; simp [show i < nX τ by omega]); rw [e1] at h20; rw [h20]; rfl))
        · refine g_aload_n C dX3_areAllowed_23 rfl ?_
          refine gf_X3_9 C dX3_areAllowed_24 ?_
          refine g_iload_n C dX3_areAllowed_27 rfl ?_
          refine gX_ln8 C (by omega) dX3_areAllowed_28 ?_
          refine g_iload_n C dX3_areAllowed_29 rfl ?_
          refine g_iand C dX3_areAllowed_30 ?_
          refine g_if_ne (tgt := 36) C dX3_areAllowed_31 (by decide) (fun h31 => ?_) (fun h31 => ?_)
          · refine g_iincN C dX3_areAllowed_36 rfl (by decide) ?_
            refine g_goto (tgt := 2) C dX3_areAllowed_39 (by decide) ?_
            exact ih (i + 1) (by omega) (by omega) (thx_step hF (by rw [ThX, show chV (τ 7) (bitB (τ 13 o)) (nI i) = true from (by cases hc : chV (τ 7) (bitB (τ 13 o)) (nI i) <;> first | rfl | exact absurd ((sub_all hI (by omega) _).mpr hc) h31)]; simp))
          · refine g_iconst (v := 0) C dX3_areAllowed_34 (by decide) ?_
            exact g_zret C dX3_areAllowed_35 nar_0 ⟨rt_f (by have e1 : hbV (τ 13 x &&& σ 0 1) (nI i) = (bitB (τ 13 x) i && Ckd τ i) := (by rw [hbV_bt (by omega), b_and, i_ck hI (by omega), bitB_bt (by omega)]; simp [show i < nX τ by omega]); rw [e1] at h20; rw [ThB, anyN_t (x := i) (by omega) (by rw [ThX, h20, (sub_all hI (by omega) _).mp h31]; rfl)]; rfl), rfl⟩
  refine g_iconstN 0 C dX3_areAllowed_0 (by decide) ?_
  refine g_istore_n C dX3_areAllowed_1 (by decide) ?_
  exact loop (nX τ + 1) 0 (by omega) (by omega) (fun z hz => by omega)
set_option maxRecDepth 100000 in
set_option maxHeartbeats 4000000 in
theorem cr_X2_isReached {l : Launch} {D : va_G} {cI cZ : ClassId} {b : Nat → Nat} {τ σ : St} (hI : Inv τ σ) {x o : Nat} (hx : x < nM τ) (ho : o < nM τ) (hb : ovB τ x o = true) (hi : Ifc τ o = false) : Cr l yX2_isReached cX2_isReached 9 (some .boolean) 1 23 D cI cZ (pX b cI cZ) [.ref (b 9), .int (nI x), .int (nI o)] σ (b2i (OvS τ x o)) := by
  refine Ct.of 6 (by decide) (by simp [Value.category]) (Nat.le_of_ble_eq_true rfl) ?_
  intro p e s m below meth c C
  have hTl := w0_tl (iW hI)
  have hMl := w0_ml (iW hI)
  have hXl := w0_xl (iW hI)
  have hof_x := w0_ofl (iW hI) hx
  have hof_o := w0_ofl (iW hI) ho
  have ob := ovb_of hb
  have hoc : ¬ τ 1 (Of τ o) = 2 := by simpa [Ifc] using hi
  have hpo : Pln τ o = true := by simp [Pln, ob.2.2.2.1, ob.2.2.2.2]
  obtain ⟨nn, hnn, hnm⟩ := i_name hI hx
  have loop : ∀ (n t s0 : Nat) (q : Int32), t < n → t + s0 < 16 → t < nT τ → ¬ τ 1 t = 2 → Bel τ (Of τ x) t = true → (Of τ o = t ∨ BelS τ t (Of τ o) = true) → OIv τ x t q → G p l e (rmo 1 23) s m ([.ref (b 9), .int (nI x), .int (nI o)] : List Value).toArray below meth c D (va_A (pX b cI cZ σ) s.heap.size) 0 0 (Qe below ([.ref (b 9), .int (nI x), .int (nI o)] : List Value).toArray s D (pX b cI cZ) σ (fun r u => r = some (.int (b2i (OvS τ x o))) ∧ u = σ)) 9 (pX b cI cZ σ) 34 [some (.ref (b 9)), some (.int (nI x)), some (.int (nI o)), some (.int (q)), some (.int (nI t)), some (.int (nI s0)), none, none, none] [] := by
    intro n
    induction n with
    | zero => intro t s0 q h1; omega
    | succ n ih =>
      intro t s0 q h1 h2 ht htc hbt hot hO
      obtain ⟨pk, hpk, epk⟩ := i_pk hI ht
      have nxt : ¬ Of τ o = t → ∀ (q1 : Int32), (∀ p, τ 3 t = nI p → p < t → OIv τ x p q1) → G p l e (rmo 1 23) s m ([.ref (b 9), .int (nI x), .int (nI o)] : List Value).toArray below meth c D (va_A (pX b cI cZ σ) s.heap.size) 0 0 (Qe below ([.ref (b 9), .int (nI x), .int (nI o)] : List Value).toArray s D (pX b cI cZ) σ (fun r u => r = some (.int (b2i (OvS τ x o))) ∧ u = σ)) 9 (pX b cI cZ σ) 128 [some (.ref (b 9)), some (.int (nI x)), some (.int (nI o)), some (.int (q1)), some (.int (nI t)), some (.int (nI s0)), none, none, none] [] := by
        intro hne q1 hq
        have hbo : BelS τ t (Of τ o) = true := hot.resolve_left hne
        obtain ⟨p0, hp0, ep, hpo2⟩ := cls_par hI ht hoc hbo
        refine g_aload_n C dX2_isReached_128 rfl ?_
        refine gf_X2_34 C dX2_isReached_129 ?_
        refine g_iload C dX2_isReached_132 rfl ?_
        refine g_callVr 1 C ((cr_X4_parentOf hI ht).val ep) mw_X4_parentOf ml_X2_70 rfl rfl rfl rfl (Nat.le_of_ble_eq_true rfl) dX2_isReached_134 ⟨Nat.le_of_ble_eq_true rfl, Nat.le_of_ble_eq_true rfl⟩ ⟨Nat.le_of_ble_eq_true rfl, Nat.le_of_ble_eq_true rfl⟩ ?_
        refine g_istore C dX2_isReached_137 (by decide) ?_
        refine g_iincN C dX2_isReached_139 rfl (by decide) ?_
        refine g_goto (tgt := 34) C dX2_isReached_142 (by decide) ?_
        exact (ih p0 (s0 + 1) q1 (by omega) (by omega) (by omega) (par_cls hI ht ep hp0).2 (i_tr hI hof_x ht (by omega) hbt (par_bel hI ht ep hp0)) hpo2 (hq p0 ep hp0)).weak (by simp [lvle, lst])
      cases hA : atO τ t (τ 10 x) with
      | none =>
        have hne : ¬ Of τ o = t := fun q => atO_none hA ho ⟨q, ob.2.1.symm⟩
        refine g_iload C dX2_isReached_34 rfl ?_
        refine g_bipushN 16 C dX2_isReached_36 (by decide) ?_
        refine g_icmpN_ge (tgt := 145) C (by omega) (by omega) dX2_isReached_38 (by decide) (fun h38 => ?_) (fun h38 => ?_)
        · exact absurd h38 (by omega)
        · refine g_iload C dX2_isReached_41 rfl ?_
          refine g_iconst (v := -1) C dX2_isReached_43 (by decide) ?_
          refine g_icmp_eq (tgt := 145) C dX2_isReached_44 (by decide) (fun h44 => ?_) (fun h44 => ?_)
          · exact absurd h44 (nI_m1 (by omega))
          · refine g_aload_n C dX2_isReached_47 rfl ?_
            refine g_iload C dX2_isReached_48 rfl ?_
            refine g_aload_n C dX2_isReached_50 rfl ?_
            refine gf_X2_15 C dX2_isReached_51 ?_
            refine g_iload_n C dX2_isReached_54 rfl ?_
            refine gX_lv11 C (by omega) (v := τ 10 _) (i_nm hI (by omega)) dX2_isReached_55 ?_
            refine g_callVr 9 C ((cr_X2_at (t := t) (nm := τ 10 x) hI (by omega) ⟨nn, hnn, hnm⟩).val (show atV τ t (τ 10 x) = -1 by rw [atV, hA])) mw_X2_at ml_X2_73 rfl rfl rfl rfl (Nat.le_of_ble_eq_true rfl) dX2_isReached_56 ⟨Nat.le_of_ble_eq_true rfl, Nat.le_of_ble_eq_true rfl⟩ ⟨Nat.le_of_ble_eq_true rfl, Nat.le_of_ble_eq_true rfl⟩ ?_
            refine g_istore C dX2_isReached_59 (by decide) ?_
            refine g_aload_n C dX2_isReached_61 rfl ?_
            refine gf_X2_34 C dX2_isReached_62 ?_
            refine g_iload C dX2_isReached_65 rfl ?_
            refine g_callVr 1 C ((cr_X4_packetOf hI ht).val epk) mw_X4_packetOf ml_X2_66 rfl rfl rfl rfl (Nat.le_of_ble_eq_true rfl) dX2_isReached_67 ⟨Nat.le_of_ble_eq_true rfl, Nat.le_of_ble_eq_true rfl⟩ ⟨Nat.le_of_ble_eq_true rfl, Nat.le_of_ble_eq_true rfl⟩ ?_
            refine g_istore C dX2_isReached_70 (by decide) ?_
            refine g_aload_n C dX2_isReached_72 rfl ?_
            refine g_iload C dX2_isReached_73 rfl ?_
            refine g_callVr 9 C (cr_X2_isInheritableN) mw_X2_isInheritable ml_X2_54 rfl rfl rfl rfl (Nat.le_of_ble_eq_true rfl) dX2_isReached_75 ⟨Nat.le_of_ble_eq_true rfl, Nat.le_of_ble_eq_true rfl⟩ ⟨Nat.le_of_ble_eq_true rfl, Nat.le_of_ble_eq_true rfl⟩ ?_
            refine g_ifb_eq (tgt := 104) C dX2_isReached_78 (by decide) (fun h78 => ?_) (fun h78 => ?_)
            · refine g_iconst (v := 0) C dX2_isReached_104 (by decide) ?_
              refine g_istore C dX2_isReached_105 (by decide) ?_
              refine g_iload C dX2_isReached_107 rfl ?_
              refine g_iload_n C dX2_isReached_109 rfl ?_
              refine g_icmp_ne (tgt := 116) C dX2_isReached_110 (by decide) (fun h110 => ?_) (fun h110 => ?_)
              · refine g_iload C dX2_isReached_116 rfl ?_
                refine g_if_eq (tgt := 128) C dX2_isReached_118 (by decide) (fun h118 => ?_) (fun h118 => ?_)
                · exact (nxt hne q (fun p ep hp => oiv_skip hI hO hx ht ep hp hbt (fun z hz hzt hv => atO_none hA hz ⟨hzt, (ovb_of (ovS_ovB hI hx hz hv)).2.1.symm⟩))).weak (by simp [lvle, lst])
                · exact absurd h118 (by decide)
              · exact absurd h110.symm (nI_m1 (by omega))
            · exact absurd h78 (by decide)
      | some k =>
        obtain ⟨hk, hkt, hkn⟩ := atO_some hI hA
        have dec := fun hp => rch_dec hI hO hx ob.2.2.1 ht htc hbt hk hkt hkn.symm hp hpk epk
        have hkz : ∀ z, z < nM τ → Of τ z = t → OvS τ x z = true → z = k := fun z hz hzt hv => i_uni hI hz hk (hzt.trans hkt.symm) ((ovb_of (ovS_ovB hI hx hz hv)).2.1.symm.trans hkn.symm)
        have hne : k ≠ o → ¬ Of τ o = t := fun q e => q (i_uni hI hk ho (hkt.trans e.symm) (hkn.trans ob.2.1))
        refine g_iload C dX2_isReached_34 rfl ?_
        refine g_bipushN 16 C dX2_isReached_36 (by decide) ?_
        refine g_icmpN_ge (tgt := 145) C (by omega) (by omega) dX2_isReached_38 (by decide) (fun h38 => ?_) (fun h38 => ?_)
        · exact absurd h38 (by omega)
        · refine g_iload C dX2_isReached_41 rfl ?_
          refine g_iconst (v := -1) C dX2_isReached_43 (by decide) ?_
          refine g_icmp_eq (tgt := 145) C dX2_isReached_44 (by decide) (fun h44 => ?_) (fun h44 => ?_)
          · exact absurd h44 (nI_m1 (by omega))
          · refine g_aload_n C dX2_isReached_47 rfl ?_
            refine g_iload C dX2_isReached_48 rfl ?_
            refine g_aload_n C dX2_isReached_50 rfl ?_
            refine gf_X2_15 C dX2_isReached_51 ?_
            refine g_iload_n C dX2_isReached_54 rfl ?_
            refine gX_lv11 C (by omega) (v := τ 10 _) (i_nm hI (by omega)) dX2_isReached_55 ?_
            refine g_callVr 9 C ((cr_X2_at (t := t) (nm := τ 10 x) hI (by omega) ⟨nn, hnn, hnm⟩).val (show atV τ t (τ 10 x) = nI k by rw [atV, hA])) mw_X2_at ml_X2_73 rfl rfl rfl rfl (Nat.le_of_ble_eq_true rfl) dX2_isReached_56 ⟨Nat.le_of_ble_eq_true rfl, Nat.le_of_ble_eq_true rfl⟩ ⟨Nat.le_of_ble_eq_true rfl, Nat.le_of_ble_eq_true rfl⟩ ?_
            refine g_istore C dX2_isReached_59 (by decide) ?_
            refine g_aload_n C dX2_isReached_61 rfl ?_
            refine gf_X2_34 C dX2_isReached_62 ?_
            refine g_iload C dX2_isReached_65 rfl ?_
            refine g_callVr 1 C ((cr_X4_packetOf hI ht).val epk) mw_X4_packetOf ml_X2_66 rfl rfl rfl rfl (Nat.le_of_ble_eq_true rfl) dX2_isReached_67 ⟨Nat.le_of_ble_eq_true rfl, Nat.le_of_ble_eq_true rfl⟩ ⟨Nat.le_of_ble_eq_true rfl, Nat.le_of_ble_eq_true rfl⟩ ?_
            refine g_istore C dX2_isReached_70 (by decide) ?_
            refine g_aload_n C dX2_isReached_72 rfl ?_
            refine g_iload C dX2_isReached_73 rfl ?_
            refine g_callVr 9 C (cr_X2_isInheritable hI hk) mw_X2_isInheritable ml_X2_54 rfl rfl rfl rfl (Nat.le_of_ble_eq_true rfl) dX2_isReached_75 ⟨Nat.le_of_ble_eq_true rfl, Nat.le_of_ble_eq_true rfl⟩ ⟨Nat.le_of_ble_eq_true rfl, Nat.le_of_ble_eq_true rfl⟩ ?_
            refine g_ifb_eq (tgt := 104) C dX2_isReached_78 (by decide) (fun h78 => ?_) (fun h78 => ?_)
            · refine g_iconst (v := 0) C dX2_isReached_104 (by decide) ?_
              refine g_istore C dX2_isReached_105 (by decide) ?_
              refine g_iload C dX2_isReached_107 rfl ?_
              refine g_iload_n C dX2_isReached_109 rfl ?_
              refine g_icmpN_ne (tgt := 116) C (by omega) (by omega) dX2_isReached_110 (by decide) (fun h110 => ?_) (fun h110 => ?_)
              · refine g_iload C dX2_isReached_116 rfl ?_
                refine g_if_eq (tgt := 128) C dX2_isReached_118 (by decide) (fun h118 => ?_) (fun h118 => ?_)
                · exact (nxt (hne h110) q (fun p ep hp => oiv_skip hI hO hx ht ep hp hbt (fun z hz hzt hv => by have e := hkz z hz hzt hv; subst e; have b := ovb_of (ovS_ovB hI hx hz hv); rw [Pln, b.2.2.2.1, b.2.2.2.2] at h78; cases h78))).weak (by simp [lvle, lst])
                · exact absurd h118 (by decide)
              · refine g_iload C dX2_isReached_113 rfl ?_
                exact g_zret C dX2_isReached_115 nar_0 ⟨rt_f (by exfalso; rw [h110, hpo] at h78; cases h78), rfl⟩
            · refine g_aload_n C dX2_isReached_81 rfl ?_
              refine g_iload C dX2_isReached_82 rfl ?_
              refine g_iconst (v := 3) C dX2_isReached_84 (by decide) ?_
              refine g_callVr 9 C (cr_X2_hasMark hI hk) mw_X2_hasMark ml_X2_48 rfl rfl rfl rfl (Nat.le_of_ble_eq_true rfl) dX2_isReached_85 ⟨Nat.le_of_ble_eq_true rfl, Nat.le_of_ble_eq_true rfl⟩ ⟨Nat.le_of_ble_eq_true rfl, Nat.le_of_ble_eq_true rfl⟩ ?_
              refine g_ifb_ne (tgt := 100) C dX2_isReached_88 (by decide) (fun h88 => ?_) (fun h88 => ?_)
              · refine g_iconst (v := 1) C dX2_isReached_100 (by decide) ?_
                refine g_goto (tgt := 105) C dX2_isReached_101 (by decide) ?_
                refine g_istore C dX2_isReached_105 (by decide) ?_
                refine g_iload C dX2_isReached_107 rfl ?_
                refine g_iload_n C dX2_isReached_109 rfl ?_
                refine g_icmpN_ne (tgt := 116) C (by omega) (by omega) dX2_isReached_110 (by decide) (fun h110 => ?_) (fun h110 => ?_)
                · refine g_iload C dX2_isReached_116 rfl ?_
                  refine g_if_eq (tgt := 128) C dX2_isReached_118 (by decide) (fun h118 => ?_) (fun h118 => ?_)
                  · exact absurd h118 (by decide)
                  · refine g_iload_n C dX2_isReached_121 rfl ?_
                    refine g_iconst (v := 1) C dX2_isReached_122 (by decide) ?_
                    refine g_iload C dX2_isReached_123 rfl ?_
                    refine g_ishl C dX2_isReached_125 ?_
                    refine g_ior C dX2_isReached_126 ?_
                    refine g_istore_n C dX2_isReached_127 (by decide) ?_
                    exact (nxt (hne h110) (q ||| bit1 pk) (fun p ep hp => oiv_add hI hO hx ht ep hp hbt hk hkt (by rw [dec h78, h88]; rfl) hpk epk)).weak (by simp [lvle, lst]; rfl)
                · refine g_iload C dX2_isReached_113 rfl ?_
                  exact g_zret C dX2_isReached_115 nar_1 ⟨rt_t (by rw [← h110, dec h78, h88]; rfl), rfl⟩
              · refine g_iload_n C dX2_isReached_91 rfl ?_
                refine g_iload C dX2_isReached_92 rfl ?_
                refine g_callSNr C (cr_X5_hasBit) mw_X5_hasBit mn_X2_44 rfl rfl (Nat.le_of_ble_eq_true rfl) dX2_isReached_94 ⟨Nat.le_of_ble_eq_true rfl, Nat.le_of_ble_eq_true rfl⟩ ⟨Nat.le_of_ble_eq_true rfl, Nat.le_of_ble_eq_true rfl⟩ ?_
                refine g_ifb_eq (tgt := 104) C dX2_isReached_97 (by decide) (fun h97 => ?_) (fun h97 => ?_)
                · refine g_iconst (v := 0) C dX2_isReached_104 (by decide) ?_
                  refine g_istore C dX2_isReached_105 (by decide) ?_
                  refine g_iload C dX2_isReached_107 rfl ?_
                  refine g_iload_n C dX2_isReached_109 rfl ?_
                  refine g_icmpN_ne (tgt := 116) C (by omega) (by omega) dX2_isReached_110 (by decide) (fun h110 => ?_) (fun h110 => ?_)
                  · refine g_iload C dX2_isReached_116 rfl ?_
                    refine g_if_eq (tgt := 128) C dX2_isReached_118 (by decide) (fun h118 => ?_) (fun h118 => ?_)
                    · exact (nxt (hne h110) q (fun p ep hp => oiv_skip hI hO hx ht ep hp hbt (fun z hz hzt hv => by have e := hkz z hz hzt hv; subst e; rw [hbV_bt (by omega)] at h97; rw [dec h78, h88, h97] at hv; cases hv))).weak (by simp [lvle, lst])
                    · exact absurd h118 (by decide)
                  · refine g_iload C dX2_isReached_113 rfl ?_
                    exact g_zret C dX2_isReached_115 nar_0 ⟨rt_f (by rw [hbV_bt (by omega)] at h97; rw [← h110, dec h78, h88, h97]; rfl), rfl⟩
                · refine g_iconst (v := 1) C dX2_isReached_100 (by decide) ?_
                  refine g_goto (tgt := 105) C dX2_isReached_101 (by decide) ?_
                  refine g_istore C dX2_isReached_105 (by decide) ?_
                  refine g_iload C dX2_isReached_107 rfl ?_
                  refine g_iload_n C dX2_isReached_109 rfl ?_
                  refine g_icmpN_ne (tgt := 116) C (by omega) (by omega) dX2_isReached_110 (by decide) (fun h110 => ?_) (fun h110 => ?_)
                  · refine g_iload C dX2_isReached_116 rfl ?_
                    refine g_if_eq (tgt := 128) C dX2_isReached_118 (by decide) (fun h118 => ?_) (fun h118 => ?_)
                    · exact absurd h118 (by decide)
                    · refine g_iload_n C dX2_isReached_121 rfl ?_
                      refine g_iconst (v := 1) C dX2_isReached_122 (by decide) ?_
                      refine g_iload C dX2_isReached_123 rfl ?_
                      refine g_ishl C dX2_isReached_125 ?_
                      refine g_ior C dX2_isReached_126 ?_
                      refine g_istore_n C dX2_isReached_127 (by decide) ?_
                      exact (nxt (hne h110) (q ||| bit1 pk) (fun p ep hp => oiv_add hI hO hx ht ep hp hbt hk hkt (by rw [hbV_bt (by omega)] at h97; rw [dec h78, h88, h97]; rfl) hpk epk)).weak (by simp [lvle, lst]; rfl)
                  · refine g_iload C dX2_isReached_113 rfl ?_
                    exact g_zret C dX2_isReached_115 nar_1 ⟨rt_t (by rw [hbV_bt (by omega)] at h97; rw [← h110, dec h78, h88, h97]; rfl), rfl⟩
  have hbo : BelS τ (Of τ x) (Of τ o) = true := by rw [← i_bel hI hof_x (by omega)]; exact ob.1
  obtain ⟨p0, hp0, ep, hpo2⟩ := cls_par hI hof_x hoc hbo
  obtain ⟨pk, hpk, epk⟩ := i_pk hI hof_x
  refine g_iconst (v := 1) C dX2_isReached_0 (by decide) ?_
  refine g_aload_n C dX2_isReached_1 rfl ?_
  refine gf_X2_34 C dX2_isReached_2 ?_
  refine g_aload_n C dX2_isReached_5 rfl ?_
  refine gf_X2_9 C dX2_isReached_6 ?_
  refine g_iload_n C dX2_isReached_9 rfl ?_
  refine gX_lv10 C (by omega) (v := nI (Of τ _)) (i_of hI (by omega)) dX2_isReached_10 ?_
  refine g_callVr 1 C ((cr_X4_packetOf hI hof_x).val epk) mw_X4_packetOf ml_X2_66 rfl rfl rfl rfl (Nat.le_of_ble_eq_true rfl) dX2_isReached_11 ⟨Nat.le_of_ble_eq_true rfl, Nat.le_of_ble_eq_true rfl⟩ ⟨Nat.le_of_ble_eq_true rfl, Nat.le_of_ble_eq_true rfl⟩ ?_
  refine g_ishl C dX2_isReached_14 ?_
  refine g_istore_n C dX2_isReached_15 (by decide) ?_
  refine g_aload_n C dX2_isReached_16 rfl ?_
  refine gf_X2_34 C dX2_isReached_17 ?_
  refine g_aload_n C dX2_isReached_20 rfl ?_
  refine gf_X2_9 C dX2_isReached_21 ?_
  refine g_iload_n C dX2_isReached_24 rfl ?_
  refine gX_lv10 C (by omega) (v := nI (Of τ _)) (i_of hI (by omega)) dX2_isReached_25 ?_
  refine g_callVr 1 C ((cr_X4_parentOf hI hof_x).val ep) mw_X4_parentOf ml_X2_70 rfl rfl rfl rfl (Nat.le_of_ble_eq_true rfl) dX2_isReached_26 ⟨Nat.le_of_ble_eq_true rfl, Nat.le_of_ble_eq_true rfl⟩ ⟨Nat.le_of_ble_eq_true rfl, Nat.le_of_ble_eq_true rfl⟩ ?_
  refine g_istore C dX2_isReached_29 (by decide) ?_
  refine g_iconstN 0 C dX2_isReached_31 (by decide) ?_
  refine g_istore C dX2_isReached_32 (by decide) ?_
  exact (loop 16 p0 0 (bit1 pk) (by omega) (by omega) (by omega) (par_cls hI hof_x ep hp0).2 (par_bel hI hof_x ep hp0) hpo2 (oiv_0 hI hx ep hp0 hpk epk)).weak (by simp [lvle, lst]; rfl)
set_option maxRecDepth 100000 in
set_option maxHeartbeats 4000000 in
theorem cr_X2_isOverriding {l : Launch} {D : va_G} {cI cZ : ClassId} {b : Nat → Nat} {τ σ : St} (hI : Inv τ σ) {x o : Nat} (hx : x < nM τ) (ho : o < nM τ) : Cr l yX2_isOverriding cX2_isOverriding 3 (some .boolean) 2 51 D cI cZ (pX b cI cZ) [.ref (b 9), .int (nI x), .int (nI o)] σ (b2i (OvS τ x o)) := by
  refine Ct.of 0 (by decide) (by simp [Value.category]) (Nat.le_of_ble_eq_true rfl) ?_
  intro p e s m below meth c C
  have hTl := w0_tl (iW hI)
  have hMl := w0_ml (iW hI)
  have hXl := w0_xl (iW hI)
  have hof_x := w0_ofl (iW hI) hx
  have hof_o := w0_ofl (iW hI) ho
  have eq := OvS_eq (iW hI) (i_dn hI) hx ho
  refine g_aload_n C dX2_isOverriding_0 rfl ?_
  refine g_iload_n C dX2_isOverriding_1 rfl ?_
  refine g_iload_n C dX2_isOverriding_2 rfl ?_
  refine g_callVr 9 C (cr_X2_isOfNameBelow hI (by omega) (by omega)) mw_X2_isOfNameBelow ml_X2_51 rfl rfl rfl rfl (Nat.le_of_ble_eq_true rfl) dX2_isOverriding_3 ⟨Nat.le_of_ble_eq_true rfl, Nat.le_of_ble_eq_true rfl⟩ ⟨Nat.le_of_ble_eq_true rfl, Nat.le_of_ble_eq_true rfl⟩ ?_
  refine g_ifb_eq (tgt := 27) C dX2_isOverriding_6 (by decide) (fun h6 => ?_) (fun h6 => ?_)
  · refine g_iconst (v := 0) C dX2_isOverriding_27 (by decide) ?_
    exact g_zret C dX2_isOverriding_28 nar_0 ⟨rt_f (by rw [eq, show ovB τ x o = false from (by revert h6; simp only [ovB]; cases decide (τ 10 x = τ 10 o) <;> cases Bel τ (Of τ x) (Of τ o) <;> simp)]; rfl), rfl⟩
  · refine g_aload_n C dX2_isOverriding_9 rfl ?_
    refine g_iload_n C dX2_isOverriding_10 rfl ?_
    refine g_bipush (v := 8) C dX2_isOverriding_11 (by decide) ?_
    refine g_callVr 9 C (cr_X2_hasMark hI (by omega)) mw_X2_hasMark ml_X2_48 rfl rfl rfl rfl (Nat.le_of_ble_eq_true rfl) dX2_isOverriding_13 ⟨Nat.le_of_ble_eq_true rfl, Nat.le_of_ble_eq_true rfl⟩ ⟨Nat.le_of_ble_eq_true rfl, Nat.le_of_ble_eq_true rfl⟩ ?_
    refine g_ifb_ne (tgt := 27) C dX2_isOverriding_16 (by decide) (fun h16 => ?_) (fun h16 => ?_)
    · refine g_iconst (v := 0) C dX2_isOverriding_27 (by decide) ?_
      exact g_zret C dX2_isOverriding_28 nar_0 ⟨rt_f (by rw [HX_hi (by decide)] at h16; rw [eq, show ovB τ x o = false from (by simp [ovB, h16])]; rfl), rfl⟩
    · refine g_aload_n C dX2_isOverriding_19 rfl ?_
      refine g_iload_n C dX2_isOverriding_20 rfl ?_
      refine g_callVr 9 C (cr_X2_isInheritable hI (by omega)) mw_X2_isInheritable ml_X2_54 rfl rfl rfl rfl (Nat.le_of_ble_eq_true rfl) dX2_isOverriding_21 ⟨Nat.le_of_ble_eq_true rfl, Nat.le_of_ble_eq_true rfl⟩ ⟨Nat.le_of_ble_eq_true rfl, Nat.le_of_ble_eq_true rfl⟩ ?_
      refine g_ifb_ne (tgt := 29) C dX2_isOverriding_24 (by decide) (fun h24 => ?_) (fun h24 => ?_)
      · refine g_aload_n C dX2_isOverriding_29 rfl ?_
        refine gf_X2_34 C dX2_isOverriding_30 ?_
        refine g_aload_n C dX2_isOverriding_33 rfl ?_
        refine gf_X2_9 C dX2_isOverriding_34 ?_
        refine g_iload_n C dX2_isOverriding_37 rfl ?_
        refine gX_lv10 C (by omega) (v := nI (Of τ _)) (i_of hI (by omega)) dX2_isOverriding_38 ?_
        refine g_callVr 1 C (cr_X4_isInterface hI (by omega)) mw_X4_isInterface ml_X2_38 rfl rfl rfl rfl (Nat.le_of_ble_eq_true rfl) dX2_isOverriding_39 ⟨Nat.le_of_ble_eq_true rfl, Nat.le_of_ble_eq_true rfl⟩ ⟨Nat.le_of_ble_eq_true rfl, Nat.le_of_ble_eq_true rfl⟩ ?_
        refine g_ifb_ne (tgt := 54) C dX2_isOverriding_42 (by decide) (fun h42 => ?_) (fun h42 => ?_)
        · refine g_iconst (v := 1) C dX2_isOverriding_54 (by decide) ?_
          refine g_goto (tgt := 59) C dX2_isOverriding_55 (by decide) ?_
          exact g_zret C dX2_isOverriding_59 nar_1 ⟨rt_t (by have hB : ovB τ x o = true := (by rw [HX_hi (by decide)] at h16; simp only [Pln, Bool.and_eq_true, Bool.not_eq_true'] at h24; simp only [Bool.and_eq_true, decide_eq_true_eq] at h6; exact ovb_mk h6.2 h6.1 h16 h24.1 h24.2); rw [eq, hB, ovE, show Ifc τ o = true from h42]; rfl), rfl⟩
        · refine g_aload_n C dX2_isOverriding_45 rfl ?_
          refine g_iload_n C dX2_isOverriding_46 rfl ?_
          refine g_iload_n C dX2_isOverriding_47 rfl ?_
          refine g_callVr 9 C (cr_X2_isReached hI hx ho (by have hB : ovB τ x o = true := (by rw [HX_hi (by decide)] at h16; simp only [Pln, Bool.and_eq_true, Bool.not_eq_true'] at h24; simp only [Bool.and_eq_true, decide_eq_true_eq] at h6; exact ovb_mk h6.2 h6.1 h16 h24.1 h24.2); exact hB) (show Ifc τ o = false from h42)) mw_X2_isReached ml_X2_57 rfl rfl rfl rfl (Nat.le_of_ble_eq_true rfl) dX2_isOverriding_48 ⟨Nat.le_of_ble_eq_true rfl, Nat.le_of_ble_eq_true rfl⟩ ⟨Nat.le_of_ble_eq_true rfl, Nat.le_of_ble_eq_true rfl⟩ ?_
          refine g_ifb_eq (tgt := 58) C dX2_isOverriding_51 (by decide) (fun h51 => ?_) (fun h51 => ?_)
          · refine g_iconst (v := 0) C dX2_isOverriding_58 (by decide) ?_
            exact g_zret C dX2_isOverriding_59 nar_0 ⟨rt_f h51, rfl⟩
          · refine g_iconst (v := 1) C dX2_isOverriding_54 (by decide) ?_
            refine g_goto (tgt := 59) C dX2_isOverriding_55 (by decide) ?_
            exact g_zret C dX2_isOverriding_59 nar_1 ⟨rt_t h51, rfl⟩
      · refine g_iconst (v := 0) C dX2_isOverriding_27 (by decide) ?_
        exact g_zret C dX2_isOverriding_28 nar_0 ⟨rt_f (by rw [eq, show ovB τ x o = false from (by revert h24; simp only [ovB, Pln]; cases Hs τ o 8 <;> cases Hs τ o 4 <;> simp)]; rfl), rfl⟩
set_option maxRecDepth 100000 in
set_option maxHeartbeats 4000000 in
theorem cr_X2_countOverridden {l : Launch} {D : va_G} {cI cZ : ClassId} {b : Nat → Nat} {τ σ : St} (hI : Inv τ σ) {x : Nat} (hx : x < nM τ) : Cr l yX2_countOverridden cX2_countOverridden 4 (some .int) 3 73 D cI cZ (pX b cI cZ) [.ref (b 9), .int (nI x)] σ (nI (cntN (nM τ) (Ov τ x))) := by
  refine Ct.of 2 (by decide) (by simp [Value.category]) (Nat.le_of_ble_eq_true rfl) ?_
  intro p e s m below meth c C
  have hTl := w0_tl (iW hI)
  have hMl := w0_ml (iW hI)
  have hXl := w0_xl (iW hI)
  have loop : ∀ (n i : Nat), i ≤ nM τ → nM τ + 1 ≤ i + n → G p l e (rmo 3 73) s m ([.ref (b 9), .int (nI x)] : List Value).toArray below meth c D (va_A (pX b cI cZ σ) s.heap.size) 0 0 (Qe below ([.ref (b 9), .int (nI x)] : List Value).toArray s D (pX b cI cZ) σ (fun r u => r = some (.int (nI (cntN (nM τ) (Ov τ x)))) ∧ u = σ)) 4 (pX b cI cZ σ) 4 [some (.ref (b 9)), some (.int (nI x)), some (.int (nI (cntN i (Ov τ x)))), some (.int (nI i))] [] := by
    intro n
    induction n with
    | zero => intro i h1 h2; omega
    | succ n ih =>
      intro i h1 h2
      have hcl := cntN_le (Ov τ x) i
      refine g_iload_n C dX2_countOverridden_4 rfl ?_
      refine g_aload_n C dX2_countOverridden_5 rfl ?_
      refine gn_X2_30 C (i_m hI) dX2_countOverridden_6 ?_
      refine g_icmpN_ge (tgt := 30) C (by omega) (by omega) dX2_countOverridden_9 (by decide) (fun h9 => ?_) (fun h9 => ?_)
      · refine g_iload_n C dX2_countOverridden_30 rfl ?_
        exact g_iret C dX2_countOverridden_31 ⟨rt_i (by rw [show i = nM τ by omega]), rfl⟩
      · refine g_iload_n C dX2_countOverridden_12 rfl ?_
        refine g_aload_n C dX2_countOverridden_13 rfl ?_
        refine g_iload_n C dX2_countOverridden_14 rfl ?_
        refine g_iload_n C dX2_countOverridden_15 rfl ?_
        refine g_callVr 9 C ((cr_X2_isOverriding hI hx (show i < nM τ by omega)).val (by rw [← i_ov hI hx (show i < nM τ by omega)])) mw_X2_isOverriding ml_X2_77 rfl rfl rfl rfl (Nat.le_of_ble_eq_true rfl) dX2_countOverridden_16 ⟨Nat.le_of_ble_eq_true rfl, Nat.le_of_ble_eq_true rfl⟩ ⟨Nat.le_of_ble_eq_true rfl, Nat.le_of_ble_eq_true rfl⟩ ?_
        refine g_callSNr C (cr_X5_oneIf) mw_X5_oneIf mn_X2_80 rfl rfl (Nat.le_of_ble_eq_true rfl) dX2_countOverridden_19 ⟨Nat.le_of_ble_eq_true rfl, Nat.le_of_ble_eq_true rfl⟩ ⟨Nat.le_of_ble_eq_true rfl, Nat.le_of_ble_eq_true rfl⟩ ?_
        refine g_iaddN C dX2_countOverridden_22 ?_
        refine g_istore_n C dX2_countOverridden_23 (by decide) ?_
        refine g_iincN C dX2_countOverridden_24 rfl (by decide) ?_
        refine g_goto (tgt := 4) C dX2_countOverridden_27 (by decide) ?_
        exact ih (i + 1) (by omega) (by omega)
  refine g_iconstN 0 C dX2_countOverridden_0 (by decide) ?_
  refine g_istore_n C dX2_countOverridden_1 (by decide) ?_
  refine g_iconstN 0 C dX2_countOverridden_2 (by decide) ?_
  refine g_istore_n C dX2_countOverridden_3 (by decide) ?_
  exact loop (nM τ + 1) 0 (by omega) (by omega)

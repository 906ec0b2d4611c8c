/-! ===== the class: its reading methods, the small ones ===== -/
set_option maxRecDepth 100000 in
set_option maxHeartbeats 4000000 in
theorem cr_X5_hasBit {l : Launch} {D : va_G} {cI cZ : ClassId} {pic : St → va_W} {σ : St} {x y : Int32} : Cr l yX5_hasBit cX5_hasBit 2 (some .boolean) 0 0 D cI cZ (pic) [.int x, .int y] σ (b2i (hbV x y)) := by
  refine Ct.of 0 (by decide) (by simp [Value.category]) (Nat.le_of_ble_eq_true rfl) ?_
  intro p e s m below meth c C
  refine g_iload_n C dX5_hasBit_0 rfl ?_
  refine g_iload_n C dX5_hasBit_1 rfl ?_
  refine g_ishr C dX5_hasBit_2 ?_
  refine g_iconst (v := 1) C dX5_hasBit_3 (by decide) ?_
  refine g_iand C dX5_hasBit_4 ?_
  refine g_if_eq (tgt := 12) C dX5_hasBit_5 (by decide) (fun h5 => ?_) (fun h5 => ?_)
  · refine g_iconst (v := 0) C dX5_hasBit_12 (by decide) ?_
    exact g_zret C dX5_hasBit_13 nar_0 ⟨rt_f (by simp [hbV, *]), rfl⟩
  · refine g_iconst (v := 1) C dX5_hasBit_8 (by decide) ?_
    refine g_goto (tgt := 13) C dX5_hasBit_9 (by decide) ?_
    exact g_zret C dX5_hasBit_13 nar_1 ⟨rt_t (by simp [hbV, *]), rfl⟩
set_option maxRecDepth 100000 in
set_option maxHeartbeats 4000000 in
theorem cr_X5_oneIf {l : Launch} {D : va_G} {cI cZ : ClassId} {pic : St → va_W} {σ : St} {q : Bool} : Cr l yX5_oneIf cX5_oneIf 1 (some .int) 0 0 D cI cZ (pic) [.int (b2i q)] σ (nI (bif q then 1 else 0)) := by
  refine Ct.of 0 (by decide) (by simp [Value.category]) (Nat.le_of_ble_eq_true rfl) ?_
  intro p e s m below meth c C
  refine g_iload_n C dX5_oneIf_0 rfl ?_
  refine g_ifb_eq (tgt := 8) C dX5_oneIf_1 (by decide) (fun h1 => ?_) (fun h1 => ?_)
  · refine g_iconst (v := 0) C dX5_oneIf_8 (by decide) ?_
    exact g_iret C dX5_oneIf_9 ⟨rt_i (by rw [h1]; rfl), rfl⟩
  · refine g_iconst (v := 1) C dX5_oneIf_4 (by decide) ?_
    refine g_goto (tgt := 9) C dX5_oneIf_5 (by decide) ?_
    exact g_iret C dX5_oneIf_9 ⟨rt_i (by rw [h1]; rfl), rfl⟩
set_option maxRecDepth 100000 in
set_option maxHeartbeats 4000000 in
theorem cr_J6_bitCount {l : Launch} {D : va_G} {cI cZ : ClassId} {pic : St → va_W} {σ : St} {x : Int32} : Cr l yJ6_bitCount_0f7a4 cJ6_bitCount_0f7a4 1 (some .int) 0 0 D cI cZ (pic) [.int x] σ (pcI x) := by
  refine Ct.of 0 (by decide) (by simp [Value.category]) (Nat.le_of_ble_eq_true rfl) ?_
  intro p e s m below meth c C
  refine g_iload_n C dJ6_bitCount_0f7a4_0 rfl ?_
  refine g_iload_n C dJ6_bitCount_0f7a4_1 rfl ?_
  refine g_iconst (v := 1) C dJ6_bitCount_0f7a4_2 (by decide) ?_
  refine g_iushr C dJ6_bitCount_0f7a4_3 ?_
  refine g_ldcw C ct_J6_265 dJ6_bitCount_0f7a4_4 ?_
  refine g_iand C dJ6_bitCount_0f7a4_7 ?_
  refine g_isub C dJ6_bitCount_0f7a4_8 ?_
  refine g_istore_n C dJ6_bitCount_0f7a4_9 (by decide) ?_
  refine g_iload_n C dJ6_bitCount_0f7a4_10 rfl ?_
  refine g_ldcw C ct_J6_266 dJ6_bitCount_0f7a4_11 ?_
  refine g_iand C dJ6_bitCount_0f7a4_14 ?_
  refine g_iload_n C dJ6_bitCount_0f7a4_15 rfl ?_
  refine g_iconst (v := 2) C dJ6_bitCount_0f7a4_16 (by decide) ?_
  refine g_iushr C dJ6_bitCount_0f7a4_17 ?_
  refine g_ldcw C ct_J6_266 dJ6_bitCount_0f7a4_18 ?_
  refine g_iand C dJ6_bitCount_0f7a4_21 ?_
  refine g_iadd C dJ6_bitCount_0f7a4_22 ?_
  refine g_istore_n C dJ6_bitCount_0f7a4_23 (by decide) ?_
  refine g_iload_n C dJ6_bitCount_0f7a4_24 rfl ?_
  refine g_iload_n C dJ6_bitCount_0f7a4_25 rfl ?_
  refine g_iconst (v := 4) C dJ6_bitCount_0f7a4_26 (by decide) ?_
  refine g_iushr C dJ6_bitCount_0f7a4_27 ?_
  refine g_iadd C dJ6_bitCount_0f7a4_28 ?_
  refine g_ldcw C ct_J6_267 dJ6_bitCount_0f7a4_29 ?_
  refine g_iand C dJ6_bitCount_0f7a4_32 ?_
  refine g_istore_n C dJ6_bitCount_0f7a4_33 (by decide) ?_
  refine g_iload_n C dJ6_bitCount_0f7a4_34 rfl ?_
  refine g_iload_n C dJ6_bitCount_0f7a4_35 rfl ?_
  refine g_bipush (v := 8) C dJ6_bitCount_0f7a4_36 (by decide) ?_
  refine g_iushr C dJ6_bitCount_0f7a4_38 ?_
  refine g_iadd C dJ6_bitCount_0f7a4_39 ?_
  refine g_istore_n C dJ6_bitCount_0f7a4_40 (by decide) ?_
  refine g_iload_n C dJ6_bitCount_0f7a4_41 rfl ?_
  refine g_iload_n C dJ6_bitCount_0f7a4_42 rfl ?_
  refine g_bipush (v := 16) C dJ6_bitCount_0f7a4_43 (by decide) ?_
  refine g_iushr C dJ6_bitCount_0f7a4_45 ?_
  refine g_iadd C dJ6_bitCount_0f7a4_46 ?_
  refine g_istore_n C dJ6_bitCount_0f7a4_47 (by decide) ?_
  refine g_iload_n C dJ6_bitCount_0f7a4_48 rfl ?_
  refine g_bipush (v := 63) C dJ6_bitCount_0f7a4_49 (by decide) ?_
  refine g_iand C dJ6_bitCount_0f7a4_51 ?_
  exact g_iret C dJ6_bitCount_0f7a4_52 ⟨rt_i (by rfl), rfl⟩
set_option maxRecDepth 100000 in
set_option maxHeartbeats 4000000 in
theorem cr_X4_has {l : Launch} {D : va_G} {cI cZ : ClassId} {b : Nat → Nat} {τ σ : St} (hI : Inv τ σ) {x : Int32} : Cr l yX4_has cX4_has 2 (some .boolean) 0 0 D cI cZ (pX b cI cZ) [.ref (b 1), .int x] σ (b2i (isT τ x)) := by
  refine Ct.of 0 (by decide) (by simp [Value.category]) (Nat.le_of_ble_eq_true rfl) ?_
  intro p e s m below meth c C
  have hTl := w0_tl (iW hI)
  have hMl := w0_ml (iW hI)
  have hXl := w0_xl (iW hI)
  refine g_iload_n C dX4_has_0 rfl ?_
  refine g_if_lt (tgt := 16) C dX4_has_1 (by decide) (fun h1 => ?_) (fun h1 => ?_)
  · refine g_iconst (v := 0) C dX4_has_16 (by decide) ?_
    exact g_zret C dX4_has_17 nar_0 ⟨rt_f (by rw [isT, w0_t (iW hI), inB_lt (by omega)]; simp [Int32.not_le.mpr h1]), rfl⟩
  · refine g_iload_n C dX4_has_4 rfl ?_
    refine g_aload_n C dX4_has_5 rfl ?_
    refine gn_X4_27 C (i_t hI) dX4_has_6 ?_
    refine g_icmp_ge (tgt := 16) C dX4_has_9 (by decide) (fun h9 => ?_) (fun h9 => ?_)
    · refine g_iconst (v := 0) C dX4_has_16 (by decide) ?_
      exact g_zret C dX4_has_17 nar_0 ⟨rt_f (by rw [isT, w0_t (iW hI), inB_lt (by omega)]; simp [Int32.not_lt.mpr h9]), rfl⟩
    · refine g_iconst (v := 1) C dX4_has_12 (by decide) ?_
      refine g_goto (tgt := 17) C dX4_has_13 (by decide) ?_
      exact g_zret C dX4_has_17 nar_1 ⟨rt_t (by rw [isT, w0_t (iW hI), inB_lt (by omega)]; simp [Int32.not_lt.mp h1, Int32.not_le.mp h9]), rfl⟩
set_option maxRecDepth 100000 in
set_option maxHeartbeats 4000000 in
theorem cr_X4_size {l : Launch} {D : va_G} {cI cZ : ClassId} {b : Nat → Nat} {τ σ : St} (hI : Inv τ σ) : Cr l yX4_size cX4_size 1 (some .int) 0 0 D cI cZ (pX b cI cZ) [.ref (b 1)] σ (nI (nT τ)) := by
  refine Ct.of 0 (by decide) (by simp [Value.category]) (Nat.le_of_ble_eq_true rfl) ?_
  intro p e s m below meth c C
  have hTl := w0_tl (iW hI)
  have hMl := w0_ml (iW hI)
  have hXl := w0_xl (iW hI)
  refine g_aload_n C dX4_size_0 rfl ?_
  refine gn_X4_27 C (i_t hI) dX4_size_1 ?_
  exact g_iret C dX4_size_4 ⟨rt_i (by rfl), rfl⟩
set_option maxRecDepth 100000 in
set_option maxHeartbeats 4000000 in
theorem cr_X4_isFull {l : Launch} {D : va_G} {cI cZ : ClassId} {b : Nat → Nat} {τ σ : St} (hI : Inv τ σ) : Cr l yX4_isFull cX4_isFull 1 (some .boolean) 0 0 D cI cZ (pX b cI cZ) [.ref (b 1)] σ (b2i (decide (nT τ = 16))) := by
  refine Ct.of 0 (by decide) (by simp [Value.category]) (Nat.le_of_ble_eq_true rfl) ?_
  intro p e s m below meth c C
  have hTl := w0_tl (iW hI)
  have hMl := w0_ml (iW hI)
  have hXl := w0_xl (iW hI)
  refine g_aload_n C dX4_isFull_0 rfl ?_
  refine gn_X4_27 C (i_t hI) dX4_isFull_1 ?_
  refine g_bipushN 16 C dX4_isFull_4 (by decide) ?_
  refine g_icmpN_lt (tgt := 13) C (by omega) (by omega) dX4_isFull_6 (by decide) (fun h6 => ?_) (fun h6 => ?_)
  · refine g_iconst (v := 0) C dX4_isFull_13 (by decide) ?_
    exact g_zret C dX4_isFull_14 nar_0 ⟨rt_f (by simp; omega), rfl⟩
  · refine g_iconst (v := 1) C dX4_isFull_9 (by decide) ?_
    refine g_goto (tgt := 14) C dX4_isFull_10 (by decide) ?_
    exact g_zret C dX4_isFull_14 nar_1 ⟨rt_t (by simp; omega), rfl⟩
set_option maxRecDepth 100000 in
set_option maxHeartbeats 4000000 in
theorem cr_X4_isInterface {l : Launch} {D : va_G} {cI cZ : ClassId} {b : Nat → Nat} {τ σ : St} (hI : Inv τ σ) {t : Nat} (ht : t < nT τ) : Cr l yX4_isInterface cX4_isInterface 2 (some .boolean) 0 0 D cI cZ (pX b cI cZ) [.ref (b 1), .int (nI t)] σ (b2i (decide (τ 1 t = 2))) := by
  refine Ct.of 0 (by decide) (by simp [Value.category]) (Nat.le_of_ble_eq_true rfl) ?_
  intro p e s m below meth c C
  have hTl := w0_tl (iW hI)
  have hMl := w0_ml (iW hI)
  have hXl := w0_xl (iW hI)
  refine g_aload_n C dX4_isInterface_0 rfl ?_
  refine gf_X4_9 C dX4_isInterface_1 ?_
  refine g_iload_n C dX4_isInterface_4 rfl ?_
  refine gX_lv2 C (by omega) (v := τ 1 _) (i_k hI (by omega)) dX4_isInterface_5 ?_
  refine g_iconst (v := 2) C dX4_isInterface_6 (by decide) ?_
  refine g_icmp_ne (tgt := 14) C dX4_isInterface_7 (by decide) (fun h7 => ?_) (fun h7 => ?_)
  · refine g_iconst (v := 0) C dX4_isInterface_14 (by decide) ?_
    exact g_zret C dX4_isInterface_15 nar_0 ⟨rt_f (by simp [*]), rfl⟩
  · refine g_iconst (v := 1) C dX4_isInterface_10 (by decide) ?_
    refine g_goto (tgt := 15) C dX4_isInterface_11 (by decide) ?_
    exact g_zret C dX4_isInterface_15 nar_1 ⟨rt_t (by simp [*]), rfl⟩
set_option maxRecDepth 100000 in
set_option maxHeartbeats 4000000 in
theorem cr_X4_isPlainClass {l : Launch} {D : va_G} {cI cZ : ClassId} {b : Nat → Nat} {τ σ : St} (hI : Inv τ σ) {t : Nat} (ht : t < nT τ) : Cr l yX4_isPlainClass cX4_isPlainClass 2 (some .boolean) 0 0 D cI cZ (pX b cI cZ) [.ref (b 1), .int (nI t)] σ (b2i (decide (τ 1 t = 0))) := by
  refine Ct.of 0 (by decide) (by simp [Value.category]) (Nat.le_of_ble_eq_true rfl) ?_
  intro p e s m below meth c C
  have hTl := w0_tl (iW hI)
  have hMl := w0_ml (iW hI)
  have hXl := w0_xl (iW hI)
  refine g_aload_n C dX4_isPlainClass_0 rfl ?_
  refine gf_X4_9 C dX4_isPlainClass_1 ?_
  refine g_iload_n C dX4_isPlainClass_4 rfl ?_
  refine gX_lv2 C (by omega) (v := τ 1 _) (i_k hI (by omega)) dX4_isPlainClass_5 ?_
  refine g_if_ne (tgt := 13) C dX4_isPlainClass_6 (by decide) (fun h6 => ?_) (fun h6 => ?_)
  · refine g_iconst (v := 0) C dX4_isPlainClass_13 (by decide) ?_
    exact g_zret C dX4_isPlainClass_14 nar_0 ⟨rt_f (by simp [*]), rfl⟩
  · refine g_iconst (v := 1) C dX4_isPlainClass_9 (by decide) ?_
    refine g_goto (tgt := 14) C dX4_isPlainClass_10 (by decide) ?_
    exact g_zret C dX4_isPlainClass_14 nar_1 ⟨rt_t (by simp [*]), rfl⟩
set_option maxRecDepth 100000 in
set_option maxHeartbeats 4000000 in
theorem cr_X4_parentOf {l : Launch} {D : va_G} {cI cZ : ClassId} {b : Nat → Nat} {τ σ : St} (hI : Inv τ σ) {t : Nat} (ht : t < nT τ) : Cr l yX4_parentOf cX4_parentOf 2 (some .int) 0 0 D cI cZ (pX b cI cZ) [.ref (b 1), .int (nI t)] σ (τ 3 t) := by
  refine Ct.of 0 (by decide) (by simp [Value.category]) (Nat.le_of_ble_eq_true rfl) ?_
  intro p e s m below meth c C
  have hTl := w0_tl (iW hI)
  have hMl := w0_ml (iW hI)
  have hXl := w0_xl (iW hI)
  refine g_aload_n C dX4_parentOf_0 rfl ?_
  refine gf_X4_18 C dX4_parentOf_1 ?_
  refine g_iload_n C dX4_parentOf_4 rfl ?_
  refine gX_lv4 C (by omega) (v := τ 3 _) (i_pa hI (by omega)) dX4_parentOf_5 ?_
  exact g_iret C dX4_parentOf_6 ⟨rt_i (by rfl), rfl⟩
set_option maxRecDepth 100000 in
set_option maxHeartbeats 4000000 in
theorem cr_X4_packetOf {l : Launch} {D : va_G} {cI cZ : ClassId} {b : Nat → Nat} {τ σ : St} (hI : Inv τ σ) {t : Nat} (ht : t < nT τ) : Cr l yX4_packetOf cX4_packetOf 2 (some .int) 0 0 D cI cZ (pX b cI cZ) [.ref (b 1), .int (nI t)] σ (τ 2 t) := by
  refine Ct.of 0 (by decide) (by simp [Value.category]) (Nat.le_of_ble_eq_true rfl) ?_
  intro p e s m below meth c C
  have hTl := w0_tl (iW hI)
  have hMl := w0_ml (iW hI)
  have hXl := w0_xl (iW hI)
  refine g_aload_n C dX4_packetOf_0 rfl ?_
  refine gf_X4_15 C dX4_packetOf_1 ?_
  refine g_iload_n C dX4_packetOf_4 rfl ?_
  refine gX_lv3 C (by omega) (v := τ 2 _) (i_p hI (by omega)) dX4_packetOf_5 ?_
  exact g_iret C dX4_packetOf_6 ⟨rt_i (by rfl), rfl⟩
set_option maxRecDepth 100000 in
set_option maxHeartbeats 4000000 in
theorem cr_X4_allAbove {l : Launch} {D : va_G} {cI cZ : ClassId} {b : Nat → Nat} {τ σ : St} (hI : Inv τ σ) {t : Nat} (ht : t < nT τ) : Cr l yX4_allAbove cX4_allAbove 2 (some .int) 0 0 D cI cZ (pX b cI cZ) [.ref (b 1), .int (nI t)] σ (σ 6 t) := by
  refine Ct.of 0 (by decide) (by simp [Value.category]) (Nat.le_of_ble_eq_true rfl) ?_
  intro p e s m below meth c C
  have hTl := w0_tl (iW hI)
  have hMl := w0_ml (iW hI)
  have hXl := w0_xl (iW hI)
  refine g_aload_n C dX4_allAbove_0 rfl ?_
  refine gf_X4_24 C dX4_allAbove_1 ?_
  refine g_iload_n C dX4_allAbove_4 rfl ?_
  refine gX_ln6 C (by omega) dX4_allAbove_5 ?_
  exact g_iret C dX4_allAbove_6 ⟨rt_i (by rfl), rfl⟩
set_option maxRecDepth 100000 in
set_option maxHeartbeats 4000000 in
theorem cr_X4_isBelow {l : Launch} {D : va_G} {cI cZ : ClassId} {b : Nat → Nat} {τ σ : St} (hI : Inv τ σ) {t u : Nat} (ht : t < nT τ) (hu : u < 16) : Cr l yX4_isBelow cX4_isBelow 3 (some .boolean) 0 0 D cI cZ (pX b cI cZ) [.ref (b 1), .int (nI t), .int (nI u)] σ (b2i (Bel τ t u)) := by
  refine Ct.of 0 (by decide) (by simp [Value.category]) (Nat.le_of_ble_eq_true rfl) ?_
  intro p e s m below meth c C
  have hTl := w0_tl (iW hI)
  have hMl := w0_ml (iW hI)
  have hXl := w0_xl (iW hI)
  refine g_aload_n C dX4_isBelow_0 rfl ?_
  refine gf_X4_24 C dX4_isBelow_1 ?_
  refine g_iload_n C dX4_isBelow_4 rfl ?_
  refine gX_ln6 C (by omega) dX4_isBelow_5 ?_
  refine g_iload_n C dX4_isBelow_6 rfl ?_
  refine g_ishr C dX4_isBelow_7 ?_
  refine g_iconst (v := 1) C dX4_isBelow_8 (by decide) ?_
  refine g_iand C dX4_isBelow_9 ?_
  refine g_if_eq (tgt := 17) C dX4_isBelow_10 (by decide) (fun h10 => ?_) (fun h10 => ?_)
  · refine g_iconst (v := 0) C dX4_isBelow_17 (by decide) ?_
    exact g_zret C dX4_isBelow_18 nar_0 ⟨rt_f (by rw [← i_ab hI ht hu, ← hbV_bt (by omega)]; simp [hbV, *]), rfl⟩
  · refine g_iconst (v := 1) C dX4_isBelow_13 (by decide) ?_
    refine g_goto (tgt := 18) C dX4_isBelow_14 (by decide) ?_
    exact g_zret C dX4_isBelow_18 nar_1 ⟨rt_t (by rw [← i_ab hI ht hu, ← hbV_bt (by omega)]; simp [hbV, *]), rfl⟩
set_option maxRecDepth 100000 in
set_option maxHeartbeats 4000000 in
theorem cr_X4_isSub {l : Launch} {D : va_G} {cI cZ : ClassId} {b : Nat → Nat} {τ σ : St} (hI : Inv τ σ) {t u : Nat} (ht : t < nT τ) (hu : u < 16) : Cr l yX4_isSub cX4_isSub 3 (some .boolean) 0 0 D cI cZ (pX b cI cZ) [.ref (b 1), .int (nI t), .int (nI u)] σ (b2i (SubB τ t u)) := by
  refine Ct.of 0 (by decide) (by simp [Value.category]) (Nat.le_of_ble_eq_true rfl) ?_
  intro p e s m below meth c C
  have hTl := w0_tl (iW hI)
  have hMl := w0_ml (iW hI)
  have hXl := w0_xl (iW hI)
  refine g_iload_n C dX4_isSub_0 rfl ?_
  refine g_iload_n C dX4_isSub_1 rfl ?_
  refine g_icmpN_eq (tgt := 18) C (by omega) (by omega) dX4_isSub_2 (by decide) (fun h2 => ?_) (fun h2 => ?_)
  · refine g_iconst (v := 1) C dX4_isSub_18 (by decide) ?_
    refine g_goto (tgt := 23) C dX4_isSub_19 (by decide) ?_
    exact g_zret C dX4_isSub_23 nar_1 ⟨rt_t (by rw [SubB, ← i_ab hI ht hu, ← hbV_bt (by omega)]; simp [hbV, *]), rfl⟩
  · refine g_aload_n C dX4_isSub_5 rfl ?_
    refine gf_X4_24 C dX4_isSub_6 ?_
    refine g_iload_n C dX4_isSub_9 rfl ?_
    refine gX_ln6 C (by omega) dX4_isSub_10 ?_
    refine g_iload_n C dX4_isSub_11 rfl ?_
    refine g_ishr C dX4_isSub_12 ?_
    refine g_iconst (v := 1) C dX4_isSub_13 (by decide) ?_
    refine g_iand C dX4_isSub_14 ?_
    refine g_if_eq (tgt := 22) C dX4_isSub_15 (by decide) (fun h15 => ?_) (fun h15 => ?_)
    · refine g_iconst (v := 0) C dX4_isSub_22 (by decide) ?_
      exact g_zret C dX4_isSub_23 nar_0 ⟨rt_f (by rw [SubB, ← i_ab hI ht hu, ← hbV_bt (by omega)]; simp [hbV, *]), rfl⟩
    · refine g_iconst (v := 1) C dX4_isSub_18 (by decide) ?_
      refine g_goto (tgt := 23) C dX4_isSub_19 (by decide) ?_
      exact g_zret C dX4_isSub_23 nar_1 ⟨rt_t (by rw [SubB, ← i_ab hI ht hu, ← hbV_bt (by omega)]; simp [hbV, *]), rfl⟩
set_option maxRecDepth 100000 in
set_option maxHeartbeats 4000000 in
theorem cr_X4_hasFace {l : Launch} {D : va_G} {cI cZ : ClassId} {b : Nat → Nat} {τ σ : St} (hI : Inv τ σ) {t u : Nat} (ht : t < nT τ) (hu : u < 16) : Cr l yX4_hasFace cX4_hasFace 3 (some .boolean) 1 21 D cI cZ (pX b cI cZ) [.ref (b 1), .int (nI t), .int (nI u)] σ (b2i (anyN (nF τ t) (fcHas τ t u))) := by
  refine Ct.of 0 (by decide) (by simp [Value.category]) (Nat.le_of_ble_eq_true rfl) ?_
  intro p e s m below meth c C
  have hTl := w0_tl (iW hI)
  have hMl := w0_ml (iW hI)
  have hXl := w0_xl (iW hI)
  refine g_aload_n C dX4_hasFace_0 rfl ?_
  refine gf_X4_21 C dX4_hasFace_1 ?_
  refine g_iload_n C dX4_hasFace_4 rfl ?_
  refine gX_ln5 C (by omega) dX4_hasFace_5 ?_
  refine g_iload_n C dX4_hasFace_6 rfl ?_
  refine g_callSNr C (cr_X5_hasBit) mw_X5_hasBit mn_X4_39 rfl rfl (Nat.le_of_ble_eq_true rfl) dX4_hasFace_7 ⟨Nat.le_of_ble_eq_true rfl, Nat.le_of_ble_eq_true rfl⟩ ⟨Nat.le_of_ble_eq_true rfl, Nat.le_of_ble_eq_true rfl⟩ ?_
  exact g_zret C dX4_hasFace_10 (b2i_nar _) ⟨rt_b (by rw [← i_f hI ht (show u < 32 by omega), ← hbV_bt (by omega)]), rfl⟩
set_option maxRecDepth 100000 in
set_option maxHeartbeats 4000000 in
theorem cr_X3_has {l : Launch} {D : va_G} {cI cZ : ClassId} {b : Nat → Nat} {τ σ : St} (hI : Inv τ σ) {x : Int32} : Cr l yX3_has cX3_has 2 (some .boolean) 0 0 D cI cZ (pX b cI cZ) [.ref (b 7), .int x] σ (b2i (isX τ x)) := by
  refine Ct.of 0 (by decide) (by simp [Value.category]) (Nat.le_of_ble_eq_true rfl) ?_
  intro p e s m below meth c C
  have hTl := w0_tl (iW hI)
  have hMl := w0_ml (iW hI)
  have hXl := w0_xl (iW hI)
  refine g_iload_n C dX3_has_0 rfl ?_
  refine g_if_lt (tgt := 16) C dX3_has_1 (by decide) (fun h1 => ?_) (fun h1 => ?_)
  · refine g_iconst (v := 0) C dX3_has_16 (by decide) ?_
    exact g_zret C dX3_has_17 nar_0 ⟨rt_f (by rw [isX, w0_x (iW hI), inB_lt (by omega)]; simp [Int32.not_le.mpr h1]), rfl⟩
  · refine g_iload_n C dX3_has_4 rfl ?_
    refine g_aload_n C dX3_has_5 rfl ?_
    refine gn_X3_19 C (i_x hI) dX3_has_6 ?_
    refine g_icmp_ge (tgt := 16) C dX3_has_9 (by decide) (fun h9 => ?_) (fun h9 => ?_)
    · refine g_iconst (v := 0) C dX3_has_16 (by decide) ?_
      exact g_zret C dX3_has_17 nar_0 ⟨rt_f (by rw [isX, w0_x (iW hI), inB_lt (by omega)]; simp [Int32.not_lt.mpr h9]), rfl⟩
    · refine g_iconst (v := 1) C dX3_has_12 (by decide) ?_
      refine g_goto (tgt := 17) C dX3_has_13 (by decide) ?_
      exact g_zret C dX3_has_17 nar_1 ⟨rt_t (by rw [isX, w0_x (iW hI), inB_lt (by omega)]; simp [Int32.not_lt.mp h1, Int32.not_le.mp h9]), rfl⟩
set_option maxRecDepth 100000 in
set_option maxHeartbeats 4000000 in
theorem cr_X3_size {l : Launch} {D : va_G} {cI cZ : ClassId} {b : Nat → Nat} {τ σ : St} (hI : Inv τ σ) : Cr l yX3_size cX3_size 1 (some .int) 0 0 D cI cZ (pX b cI cZ) [.ref (b 7)] σ (nI (nX τ)) := by
  refine Ct.of 0 (by decide) (by simp [Value.category]) (Nat.le_of_ble_eq_true rfl) ?_
  intro p e s m below meth c C
  have hTl := w0_tl (iW hI)
  have hMl := w0_ml (iW hI)
  have hXl := w0_xl (iW hI)
  refine g_aload_n C dX3_size_0 rfl ?_
  refine gn_X3_19 C (i_x hI) dX3_size_1 ?_
  exact g_iret C dX3_size_4 ⟨rt_i (by rfl), rfl⟩
set_option maxRecDepth 100000 in
set_option maxHeartbeats 4000000 in
theorem cr_X3_isFull {l : Launch} {D : va_G} {cI cZ : ClassId} {b : Nat → Nat} {τ σ : St} (hI : Inv τ σ) : Cr l yX3_isFull cX3_isFull 1 (some .boolean) 0 0 D cI cZ (pX b cI cZ) [.ref (b 7)] σ (b2i (decide (nX τ = 8))) := by
  refine Ct.of 0 (by decide) (by simp [Value.category]) (Nat.le_of_ble_eq_true rfl) ?_
  intro p e s m below meth c C
  have hTl := w0_tl (iW hI)
  have hMl := w0_ml (iW hI)
  have hXl := w0_xl (iW hI)
  refine g_aload_n C dX3_isFull_0 rfl ?_
  refine gn_X3_19 C (i_x hI) dX3_isFull_1 ?_
  refine g_bipushN 8 C dX3_isFull_4 (by decide) ?_
  refine g_icmpN_lt (tgt := 13) C (by omega) (by omega) dX3_isFull_6 (by decide) (fun h6 => ?_) (fun h6 => ?_)
  · refine g_iconst (v := 0) C dX3_isFull_13 (by decide) ?_
    exact g_zret C dX3_isFull_14 nar_0 ⟨rt_f (by simp; omega), rfl⟩
  · refine g_iconst (v := 1) C dX3_isFull_9 (by decide) ?_
    refine g_goto (tgt := 14) C dX3_isFull_10 (by decide) ?_
    exact g_zret C dX3_isFull_14 nar_1 ⟨rt_t (by simp; omega), rfl⟩
set_option maxRecDepth 100000 in
set_option maxHeartbeats 4000000 in
theorem cr_X2_size {l : Launch} {D : va_G} {cI cZ : ClassId} {b : Nat → Nat} {τ σ : St} (hI : Inv τ σ) : Cr l yX2_size cX2_size 1 (some .int) 0 0 D cI cZ (pX b cI cZ) [.ref (b 9)] σ (nI (nM τ)) := by
  refine Ct.of 0 (by decide) (by simp [Value.category]) (Nat.le_of_ble_eq_true rfl) ?_
  intro p e s m below meth c C
  have hTl := w0_tl (iW hI)
  have hMl := w0_ml (iW hI)
  have hXl := w0_xl (iW hI)
  refine g_aload_n C dX2_size_0 rfl ?_
  refine gn_X2_30 C (i_m hI) dX2_size_1 ?_
  exact g_iret C dX2_size_4 ⟨rt_i (by rfl), rfl⟩
set_option maxRecDepth 100000 in
set_option maxHeartbeats 4000000 in
theorem cr_X2_has {l : Launch} {D : va_G} {cI cZ : ClassId} {b : Nat → Nat} {τ σ : St} (hI : Inv τ σ) {x : Int32} : Cr l yX2_has cX2_has 2 (some .boolean) 0 0 D cI cZ (pX b cI cZ) [.ref (b 9), .int x] σ (b2i (isM τ x)) := by
  refine Ct.of 0 (by decide) (by simp [Value.category]) (Nat.le_of_ble_eq_true rfl) ?_
  intro p e s m below meth c C
  have hTl := w0_tl (iW hI)
  have hMl := w0_ml (iW hI)
  have hXl := w0_xl (iW hI)
  refine g_iload_n C dX2_has_0 rfl ?_
  refine g_if_lt (tgt := 16) C dX2_has_1 (by decide) (fun h1 => ?_) (fun h1 => ?_)
  · refine g_iconst (v := 0) C dX2_has_16 (by decide) ?_
    exact g_zret C dX2_has_17 nar_0 ⟨rt_f (by rw [isM, w0_m (iW hI), inB_lt (by omega)]; simp [Int32.not_le.mpr h1]), rfl⟩
  · refine g_iload_n C dX2_has_4 rfl ?_
    refine g_aload_n C dX2_has_5 rfl ?_
    refine gn_X2_30 C (i_m hI) dX2_has_6 ?_
    refine g_icmp_ge (tgt := 16) C dX2_has_9 (by decide) (fun h9 => ?_) (fun h9 => ?_)
    · refine g_iconst (v := 0) C dX2_has_16 (by decide) ?_
      exact g_zret C dX2_has_17 nar_0 ⟨rt_f (by rw [isM, w0_m (iW hI), inB_lt (by omega)]; simp [Int32.not_lt.mpr h9]), rfl⟩
    · refine g_iconst (v := 1) C dX2_has_12 (by decide) ?_
      refine g_goto (tgt := 17) C dX2_has_13 (by decide) ?_
      exact g_zret C dX2_has_17 nar_1 ⟨rt_t (by rw [isM, w0_m (iW hI), inB_lt (by omega)]; simp [Int32.not_lt.mp h1, Int32.not_le.mp h9]), rfl⟩
set_option maxRecDepth 100000 in
set_option maxHeartbeats 4000000 in
theorem cr_X2_isFull {l : Launch} {D : va_G} {cI cZ : ClassId} {b : Nat → Nat} {τ σ : St} (hI : Inv τ σ) : Cr l yX2_isFull cX2_isFull 1 (some .boolean) 0 0 D cI cZ (pX b cI cZ) [.ref (b 9)] σ (b2i (decide (nM τ = 60))) := by
  refine Ct.of 0 (by decide) (by simp [Value.category]) (Nat.le_of_ble_eq_true rfl) ?_
  intro p e s m below meth c C
  have hTl := w0_tl (iW hI)
  have hMl := w0_ml (iW hI)
  have hXl := w0_xl (iW hI)
  refine g_aload_n C dX2_isFull_0 rfl ?_
  refine gn_X2_30 C (i_m hI) dX2_isFull_1 ?_
  refine g_bipushN 60 C dX2_isFull_4 (by decide) ?_
  refine g_icmpN_lt (tgt := 13) C (by omega) (by omega) dX2_isFull_6 (by decide) (fun h6 => ?_) (fun h6 => ?_)
  · refine g_iconst (v := 0) C dX2_isFull_13 (by decide) ?_
    exact g_zret C dX2_isFull_14 nar_0 ⟨rt_f (by simp; omega), rfl⟩
  · refine g_iconst (v := 1) C dX2_isFull_9 (by decide) ?_
    refine g_goto (tgt := 14) C dX2_isFull_10 (by decide) ?_
    exact g_zret C dX2_isFull_14 nar_1 ⟨rt_t (by simp; omega), rfl⟩
set_option maxRecDepth 100000 in
set_option maxHeartbeats 4000000 in
theorem cr_X2_typeOf {l : Launch} {D : va_G} {cI cZ : ClassId} {b : Nat → Nat} {τ σ : St} (hI : Inv τ σ) {x : Nat} (hx : x < nM τ) : Cr l yX2_typeOf cX2_typeOf 2 (some .int) 0 0 D cI cZ (pX b cI cZ) [.ref (b 9), .int (nI x)] σ (nI (Of τ x)) := by
  refine Ct.of 0 (by decide) (by simp [Value.category]) (Nat.le_of_ble_eq_true rfl) ?_
  intro p e s m below meth c C
  have hTl := w0_tl (iW hI)
  have hMl := w0_ml (iW hI)
  have hXl := w0_xl (iW hI)
  refine g_aload_n C dX2_typeOf_0 rfl ?_
  refine gf_X2_9 C dX2_typeOf_1 ?_
  refine g_iload_n C dX2_typeOf_4 rfl ?_
  refine gX_lv10 C (by omega) (v := nI (Of τ _)) (i_of hI (by omega)) dX2_typeOf_5 ?_
  exact g_iret C dX2_typeOf_6 ⟨rt_i (by rfl), rfl⟩
set_option maxRecDepth 100000 in
set_option maxHeartbeats 4000000 in
theorem cr_X2_nameOf {l : Launch} {D : va_G} {cI cZ : ClassId} {b : Nat → Nat} {τ σ : St} (hI : Inv τ σ) {x : Nat} (hx : x < nM τ) : Cr l yX2_nameOf cX2_nameOf 2 (some .int) 0 0 D cI cZ (pX b cI cZ) [.ref (b 9), .int (nI x)] σ (τ 10 x) := by
  refine Ct.of 0 (by decide) (by simp [Value.category]) (Nat.le_of_ble_eq_true rfl) ?_
  intro p e s m below meth c C
  have hTl := w0_tl (iW hI)
  have hMl := w0_ml (iW hI)
  have hXl := w0_xl (iW hI)
  refine g_aload_n C dX2_nameOf_0 rfl ?_
  refine gf_X2_15 C dX2_nameOf_1 ?_
  refine g_iload_n C dX2_nameOf_4 rfl ?_
  refine gX_lv11 C (by omega) (v := τ 10 _) (i_nm hI (by omega)) dX2_nameOf_5 ?_
  exact g_iret C dX2_nameOf_6 ⟨rt_i (by rfl), rfl⟩
set_option maxRecDepth 100000 in
set_option maxHeartbeats 4000000 in
theorem cr_X2_resultOf {l : Launch} {D : va_G} {cI cZ : ClassId} {b : Nat → Nat} {τ σ : St} (hI : Inv τ σ) {x : Nat} (hx : x < nM τ) : Cr l yX2_resultOf cX2_resultOf 2 (some .int) 0 0 D cI cZ (pX b cI cZ) [.ref (b 9), .int (nI x)] σ (nI (Rs τ x)) := by
  refine Ct.of 0 (by decide) (by simp [Value.category]) (Nat.le_of_ble_eq_true rfl) ?_
  intro p e s m below meth c C
  have hTl := w0_tl (iW hI)
  have hMl := w0_ml (iW hI)
  have hXl := w0_xl (iW hI)
  refine g_aload_n C dX2_resultOf_0 rfl ?_
  refine gf_X2_18 C dX2_resultOf_1 ?_
  refine g_iload_n C dX2_resultOf_4 rfl ?_
  refine gX_lv12 C (by omega) (v := nI (Rs τ _)) (i_rs hI (by omega)) dX2_resultOf_5 ?_
  exact g_iret C dX2_resultOf_6 ⟨rt_i (by rfl), rfl⟩
set_option maxRecDepth 100000 in
set_option maxHeartbeats 4000000 in
theorem cr_X2_thrownBy {l : Launch} {D : va_G} {cI cZ : ClassId} {b : Nat → Nat} {τ σ : St} (hI : Inv τ σ) {x : Nat} (hx : x < nM τ) : Cr l yX2_thrownBy cX2_thrownBy 2 (some .int) 0 0 D cI cZ (pX b cI cZ) [.ref (b 9), .int (nI x)] σ (τ 13 x) := by
  refine Ct.of 0 (by decide) (by simp [Value.category]) (Nat.le_of_ble_eq_true rfl) ?_
  intro p e s m below meth c C
  have hTl := w0_tl (iW hI)
  have hMl := w0_ml (iW hI)
  have hXl := w0_xl (iW hI)
  refine g_aload_n C dX2_thrownBy_0 rfl ?_
  refine gf_X2_24 C dX2_thrownBy_1 ?_
  refine g_iload_n C dX2_thrownBy_4 rfl ?_
  refine gX_lv14 C (by omega) (v := τ 13 _) (i_th hI (by omega)) dX2_thrownBy_5 ?_
  exact g_iret C dX2_thrownBy_6 ⟨rt_i (by rfl), rfl⟩
set_option maxRecDepth 100000 in
set_option maxHeartbeats 4000000 in
theorem cr_X2_hasMark {l : Launch} {D : va_G} {cI cZ : ClassId} {b : Nat → Nat} {τ σ : St} (hI : Inv τ σ) {x : Nat} {k : Int32} (hx : x < nM τ) : Cr l yX2_hasMark cX2_hasMark 3 (some .boolean) 0 0 D cI cZ (pX b cI cZ) [.ref (b 9), .int (nI x), .int k] σ (b2i (HX τ x k)) := by
  refine Ct.of 0 (by decide) (by simp [Value.category]) (Nat.le_of_ble_eq_true rfl) ?_
  intro p e s m below meth c C
  have hTl := w0_tl (iW hI)
  have hMl := w0_ml (iW hI)
  have hXl := w0_xl (iW hI)
  refine g_aload_n C dX2_hasMark_0 rfl ?_
  refine gf_X2_21 C dX2_hasMark_1 ?_
  refine g_iload_n C dX2_hasMark_4 rfl ?_
  refine gX_lv13 C (by omega) (v := mkX τ _) (i_mk hI (by omega)) dX2_hasMark_5 ?_
  refine g_iload_n C dX2_hasMark_6 rfl ?_
  refine g_iand C dX2_hasMark_7 ?_
  refine g_if_eq (tgt := 15) C dX2_hasMark_8 (by decide) (fun h8 => ?_) (fun h8 => ?_)
  · refine g_iconst (v := 0) C dX2_hasMark_15 (by decide) ?_
    exact g_zret C dX2_hasMark_16 nar_0 ⟨rt_f (by simp [HX, *]), rfl⟩
  · refine g_iconst (v := 1) C dX2_hasMark_11 (by decide) ?_
    refine g_goto (tgt := 16) C dX2_hasMark_12 (by decide) ?_
    exact g_zret C dX2_hasMark_16 nar_1 ⟨rt_t (by simp [HX, *]), rfl⟩
set_option maxRecDepth 100000 in
set_option maxHeartbeats 4000000 in
theorem cr_X2_isInheritable {l : Launch} {D : va_G} {cI cZ : ClassId} {b : Nat → Nat} {τ σ : St} (hI : Inv τ σ) {x : Nat} (hx : x < nM τ) : Cr l yX2_isInheritable cX2_isInheritable 2 (some .boolean) 0 0 D cI cZ (pX b cI cZ) [.ref (b 9), .int (nI x)] σ (b2i (Pln τ x)) := by
  refine Ct.of 0 (by decide) (by simp [Value.category]) (Nat.le_of_ble_eq_true rfl) ?_
  intro p e s m below meth c C
  have hTl := w0_tl (iW hI)
  have hMl := w0_ml (iW hI)
  have hXl := w0_xl (iW hI)
  refine g_iload_n C dX2_isInheritable_0 rfl ?_
  refine g_iconst (v := -1) C dX2_isInheritable_1 (by decide) ?_
  refine g_icmp_eq (tgt := 21) C dX2_isInheritable_2 (by decide) (fun h2 => ?_) (fun h2 => ?_)
  · exact absurd h2 (nI_m1 (by omega))
  · refine g_aload_n C dX2_isInheritable_5 rfl ?_
    refine gf_X2_21 C dX2_isInheritable_6 ?_
    refine g_iload_n C dX2_isInheritable_9 rfl ?_
    refine gX_lv13 C (by omega) (v := mkX τ _) (i_mk hI (by omega)) dX2_isInheritable_10 ?_
    refine g_bipush (v := 12) C dX2_isInheritable_11 (by decide) ?_
    refine g_iand C dX2_isInheritable_13 ?_
    refine g_if_ne (tgt := 21) C dX2_isInheritable_14 (by decide) (fun h14 => ?_) (fun h14 => ?_)
    · refine g_iconst (v := 0) C dX2_isInheritable_21 (by decide) ?_
      exact g_zret C dX2_isInheritable_22 nar_0 ⟨rt_f (by rw [← HX_12]; simp [HX, *]), rfl⟩
    · refine g_iconst (v := 1) C dX2_isInheritable_17 (by decide) ?_
      refine g_goto (tgt := 22) C dX2_isInheritable_18 (by decide) ?_
      exact g_zret C dX2_isInheritable_22 nar_1 ⟨rt_t (by rw [← HX_12]; simp [HX, *]), rfl⟩
set_option maxRecDepth 100000 in
set_option maxHeartbeats 4000000 in
theorem cr_X2_isInheritableN {l : Launch} {D : va_G} {cI cZ : ClassId} {b : Nat → Nat} {σ : St} : Cr l yX2_isInheritable cX2_isInheritable 2 (some .boolean) 0 0 D cI cZ (pX b cI cZ) [.ref (b 9), .int (-1)] σ (b2i false) := by
  refine Ct.of 0 (by decide) (by simp [Value.category]) (Nat.le_of_ble_eq_true rfl) ?_
  intro p e s m below meth c C
  refine g_iload_n C dX2_isInheritable_0 rfl ?_
  refine g_iconst (v := -1) C dX2_isInheritable_1 (by decide) ?_
  refine g_icmp_eq (tgt := 21) C dX2_isInheritable_2 (by decide) (fun h2 => ?_) (fun h2 => ?_)
  · refine g_iconst (v := 0) C dX2_isInheritable_21 (by decide) ?_
    exact g_zret C dX2_isInheritable_22 nar_0 ⟨rt_f (by rfl), rfl⟩
  · exact absurd rfl h2
set_option maxRecDepth 100000 in
set_option maxHeartbeats 4000000 in
theorem cr_X2_accessOf {l : Launch} {D : va_G} {cI cZ : ClassId} {b : Nat → Nat} {τ σ : St} (hI : Inv τ σ) {x : Nat} (hx : x < nM τ) : Cr l yX2_accessOf cX2_accessOf 2 (some .int) 1 22 D cI cZ (pX b cI cZ) [.ref (b 9), .int (nI x)] σ (Acc τ x) := by
  refine Ct.of 0 (by decide) (by simp [Value.category]) (Nat.le_of_ble_eq_true rfl) ?_
  intro p e s m below meth c C
  have hTl := w0_tl (iW hI)
  have hMl := w0_ml (iW hI)
  have hXl := w0_xl (iW hI)
  refine g_aload_n C dX2_accessOf_0 rfl ?_
  refine g_iload_n C dX2_accessOf_1 rfl ?_
  refine g_iconst (v := 4) C dX2_accessOf_2 (by decide) ?_
  refine g_callVr 9 C (cr_X2_hasMark hI (by omega)) mw_X2_hasMark ml_X2_48 rfl rfl rfl rfl (Nat.le_of_ble_eq_true rfl) dX2_accessOf_3 ⟨Nat.le_of_ble_eq_true rfl, Nat.le_of_ble_eq_true rfl⟩ ⟨Nat.le_of_ble_eq_true rfl, Nat.le_of_ble_eq_true rfl⟩ ?_
  refine g_ifb_eq (tgt := 11) C dX2_accessOf_6 (by decide) (fun h6 => ?_) (fun h6 => ?_)
  · refine g_aload_n C dX2_accessOf_11 rfl ?_
    refine g_iload_n C dX2_accessOf_12 rfl ?_
    refine g_iconst (v := 2) C dX2_accessOf_13 (by decide) ?_
    refine g_callVr 9 C (cr_X2_hasMark hI (by omega)) mw_X2_hasMark ml_X2_48 rfl rfl rfl rfl (Nat.le_of_ble_eq_true rfl) dX2_accessOf_14 ⟨Nat.le_of_ble_eq_true rfl, Nat.le_of_ble_eq_true rfl⟩ ⟨Nat.le_of_ble_eq_true rfl, Nat.le_of_ble_eq_true rfl⟩ ?_
    refine g_ifb_eq (tgt := 22) C dX2_accessOf_17 (by decide) (fun h17 => ?_) (fun h17 => ?_)
    · refine g_aload_n C dX2_accessOf_22 rfl ?_
      refine g_iload_n C dX2_accessOf_23 rfl ?_
      refine g_iconst (v := 1) C dX2_accessOf_24 (by decide) ?_
      refine g_callVr 9 C (cr_X2_hasMark hI (by omega)) mw_X2_hasMark ml_X2_48 rfl rfl rfl rfl (Nat.le_of_ble_eq_true rfl) dX2_accessOf_25 ⟨Nat.le_of_ble_eq_true rfl, Nat.le_of_ble_eq_true rfl⟩ ⟨Nat.le_of_ble_eq_true rfl, Nat.le_of_ble_eq_true rfl⟩ ?_
      refine g_ifb_eq (tgt := 35) C dX2_accessOf_28 (by decide) (fun h28 => ?_) (fun h28 => ?_)
      · refine g_iconst (v := 1) C dX2_accessOf_35 (by decide) ?_
        exact g_iret C dX2_accessOf_36 ⟨rt_i (by rw [← acc_ok hI hx]; simp [accX, *]), rfl⟩
      · refine g_iconst (v := 3) C dX2_accessOf_31 (by decide) ?_
        refine g_goto (tgt := 36) C dX2_accessOf_32 (by decide) ?_
        exact g_iret C dX2_accessOf_36 ⟨rt_i (by rw [← acc_ok hI hx]; simp [accX, *]), rfl⟩
    · refine g_iconst (v := 2) C dX2_accessOf_20 (by decide) ?_
      exact g_iret C dX2_accessOf_21 ⟨rt_i (by rw [← acc_ok hI hx]; simp [accX, *]), rfl⟩
  · refine g_iconst (v := 0) C dX2_accessOf_9 (by decide) ?_
    exact g_iret C dX2_accessOf_10 ⟨rt_i (by rw [← acc_ok hI hx]; simp [accX, *]), rfl⟩
set_option maxRecDepth 100000 in
set_option maxHeartbeats 4000000 in
theorem cr_X2_isOfNameBelow {l : Launch} {D : va_G} {cI cZ : ClassId} {b : Nat → Nat} {τ σ : St} (hI : Inv τ σ) {x o : Nat} (hx : x < nM τ) (ho : o < nM τ) : Cr l yX2_isOfNameBelow cX2_isOfNameBelow 3 (some .boolean) 1 22 D cI cZ (pX b cI cZ) [.ref (b 9), .int (nI x), .int (nI o)] σ (b2i (decide (τ 10 x = τ 10 o) && Bel τ (Of τ x) (Of τ o))) := by
  refine Ct.of 0 (by decide) (by simp [Value.category]) (Nat.le_of_ble_eq_true rfl) ?_
  intro p e s m below meth c C
  have hTl := w0_tl (iW hI)
  have hMl := w0_ml (iW hI)
  have hXl := w0_xl (iW hI)
  have hof_x := w0_ofl (iW hI) hx
  have hof_o := w0_ofl (iW hI) ho
  refine g_aload_n C dX2_isOfNameBelow_0 rfl ?_
  refine gf_X2_15 C dX2_isOfNameBelow_1 ?_
  refine g_iload_n C dX2_isOfNameBelow_4 rfl ?_
  refine gX_lv11 C (by omega) (v := τ 10 _) (i_nm hI (by omega)) dX2_isOfNameBelow_5 ?_
  refine g_aload_n C dX2_isOfNameBelow_6 rfl ?_
  refine gf_X2_15 C dX2_isOfNameBelow_7 ?_
  refine g_iload_n C dX2_isOfNameBelow_10 rfl ?_
  refine gX_lv11 C (by omega) (v := τ 10 _) (i_nm hI (by omega)) dX2_isOfNameBelow_11 ?_
  refine g_icmp_ne (tgt := 41) C dX2_isOfNameBelow_12 (by decide) (fun h12 => ?_) (fun h12 => ?_)
  · refine g_iconst (v := 0) C dX2_isOfNameBelow_41 (by decide) ?_
    exact g_zret C dX2_isOfNameBelow_42 nar_0 ⟨rt_f (by simp [*]), rfl⟩
  · refine g_aload_n C dX2_isOfNameBelow_15 rfl ?_
    refine gf_X2_34 C dX2_isOfNameBelow_16 ?_
    refine g_aload_n C dX2_isOfNameBelow_19 rfl ?_
    refine gf_X2_9 C dX2_isOfNameBelow_20 ?_
    refine g_iload_n C dX2_isOfNameBelow_23 rfl ?_
    refine gX_lv10 C (by omega) (v := nI (Of τ _)) (i_of hI (by omega)) dX2_isOfNameBelow_24 ?_
    refine g_aload_n C dX2_isOfNameBelow_25 rfl ?_
    refine gf_X2_9 C dX2_isOfNameBelow_26 ?_
    refine g_iload_n C dX2_isOfNameBelow_29 rfl ?_
    refine gX_lv10 C (by omega) (v := nI (Of τ _)) (i_of hI (by omega)) dX2_isOfNameBelow_30 ?_
    refine g_callVr 1 C (cr_X4_isBelow hI (by omega) (by omega)) mw_X4_isBelow ml_X2_63 rfl rfl rfl rfl (Nat.le_of_ble_eq_true rfl) dX2_isOfNameBelow_31 ⟨Nat.le_of_ble_eq_true rfl, Nat.le_of_ble_eq_true rfl⟩ ⟨Nat.le_of_ble_eq_true rfl, Nat.le_of_ble_eq_true rfl⟩ ?_
    refine g_ifb_eq (tgt := 41) C dX2_isOfNameBelow_34 (by decide) (fun h34 => ?_) (fun h34 => ?_)
    · refine g_iconst (v := 0) C dX2_isOfNameBelow_41 (by decide) ?_
      exact g_zret C dX2_isOfNameBelow_42 nar_0 ⟨rt_f (by simp [*]), rfl⟩
    · refine g_iconst (v := 1) C dX2_isOfNameBelow_37 (by decide) ?_
      refine g_goto (tgt := 42) C dX2_isOfNameBelow_38 (by decide) ?_
      exact g_zret C dX2_isOfNameBelow_42 nar_1 ⟨rt_t (by simp [*]), rfl⟩
set_option maxRecDepth 100000 in
set_option maxHeartbeats 4000000 in
theorem cr_X2_isSeen {l : Launch} {D : va_G} {cI cZ : ClassId} {b : Nat → Nat} {τ σ : St} (hI : Inv τ σ) {x o : Nat} (hx : x < nM τ) (ho : o < nM τ) : Cr l yX2_isSeen cX2_isSeen 3 (some .boolean) 1 22 D cI cZ (pX b cI cZ) [.ref (b 9), .int (nI x), .int (nI o)] σ (b2i (!Hs τ o 4 && Seen τ x o)) := by
  refine Ct.of 0 (by decide) (by simp [Value.category]) (Nat.le_of_ble_eq_true rfl) ?_
  intro p e s m below meth c C
  have hTl := w0_tl (iW hI)
  have hMl := w0_ml (iW hI)
  have hXl := w0_xl (iW hI)
  have hof_x := w0_ofl (iW hI) hx
  have hof_o := w0_ofl (iW hI) ho
  refine g_aload_n C dX2_isSeen_0 rfl ?_
  refine g_iload_n C dX2_isSeen_1 rfl ?_
  refine g_iconst (v := 4) C dX2_isSeen_2 (by decide) ?_
  refine g_callVr 9 C (cr_X2_hasMark hI (by omega)) mw_X2_hasMark ml_X2_48 rfl rfl rfl rfl (Nat.le_of_ble_eq_true rfl) dX2_isSeen_3 ⟨Nat.le_of_ble_eq_true rfl, Nat.le_of_ble_eq_true rfl⟩ ⟨Nat.le_of_ble_eq_true rfl, Nat.le_of_ble_eq_true rfl⟩ ?_
  refine g_ifb_eq (tgt := 11) C dX2_isSeen_6 (by decide) (fun h6 => ?_) (fun h6 => ?_)
  · refine g_aload_n C dX2_isSeen_11 rfl ?_
    refine g_iload_n C dX2_isSeen_12 rfl ?_
    refine g_iconst (v := 3) C dX2_isSeen_13 (by decide) ?_
    refine g_callVr 9 C (cr_X2_hasMark hI (by omega)) mw_X2_hasMark ml_X2_48 rfl rfl rfl rfl (Nat.le_of_ble_eq_true rfl) dX2_isSeen_14 ⟨Nat.le_of_ble_eq_true rfl, Nat.le_of_ble_eq_true rfl⟩ ⟨Nat.le_of_ble_eq_true rfl, Nat.le_of_ble_eq_true rfl⟩ ?_
    refine g_ifb_ne (tgt := 49) C dX2_isSeen_17 (by decide) (fun h17 => ?_) (fun h17 => ?_)
    · refine g_iconst (v := 1) C dX2_isSeen_49 (by decide) ?_
      refine g_goto (tgt := 54) C dX2_isSeen_50 (by decide) ?_
      exact g_zret C dX2_isSeen_54 nar_1 ⟨rt_t (by rw [HX_hi (by decide)] at h6; rw [seen_ok h6]; simp [*]), rfl⟩
    · refine g_aload_n C dX2_isSeen_20 rfl ?_
      refine gf_X2_34 C dX2_isSeen_21 ?_
      refine g_aload_n C dX2_isSeen_24 rfl ?_
      refine gf_X2_9 C dX2_isSeen_25 ?_
      refine g_iload_n C dX2_isSeen_28 rfl ?_
      refine gX_lv10 C (by omega) (v := nI (Of τ _)) (i_of hI (by omega)) dX2_isSeen_29 ?_
      refine g_callVr 1 C (cr_X4_packetOf hI (by omega)) mw_X4_packetOf ml_X2_66 rfl rfl rfl rfl (Nat.le_of_ble_eq_true rfl) dX2_isSeen_30 ⟨Nat.le_of_ble_eq_true rfl, Nat.le_of_ble_eq_true rfl⟩ ⟨Nat.le_of_ble_eq_true rfl, Nat.le_of_ble_eq_true rfl⟩ ?_
      refine g_aload_n C dX2_isSeen_33 rfl ?_
      refine gf_X2_34 C dX2_isSeen_34 ?_
      refine g_aload_n C dX2_isSeen_37 rfl ?_
      refine gf_X2_9 C dX2_isSeen_38 ?_
      refine g_iload_n C dX2_isSeen_41 rfl ?_
      refine gX_lv10 C (by omega) (v := nI (Of τ _)) (i_of hI (by omega)) dX2_isSeen_42 ?_
      refine g_callVr 1 C (cr_X4_packetOf hI (by omega)) mw_X4_packetOf ml_X2_66 rfl rfl rfl rfl (Nat.le_of_ble_eq_true rfl) dX2_isSeen_43 ⟨Nat.le_of_ble_eq_true rfl, Nat.le_of_ble_eq_true rfl⟩ ⟨Nat.le_of_ble_eq_true rfl, Nat.le_of_ble_eq_true rfl⟩ ?_
      refine g_icmp_ne (tgt := 53) C dX2_isSeen_46 (by decide) (fun h46 => ?_) (fun h46 => ?_)
      · refine g_iconst (v := 0) C dX2_isSeen_53 (by decide) ?_
        exact g_zret C dX2_isSeen_54 nar_0 ⟨rt_f (by rw [HX_hi (by decide)] at h6; rw [seen_ok h6]; simp [*]), rfl⟩
      · refine g_iconst (v := 1) C dX2_isSeen_49 (by decide) ?_
        refine g_goto (tgt := 54) C dX2_isSeen_50 (by decide) ?_
        exact g_zret C dX2_isSeen_54 nar_1 ⟨rt_t (by rw [HX_hi (by decide)] at h6; rw [seen_ok h6]; simp [*]), rfl⟩
  · refine g_iconst (v := 0) C dX2_isSeen_9 (by decide) ?_
    exact g_zret C dX2_isSeen_10 nar_0 ⟨rt_f (by rw [HX_hi (by decide)] at h6; simp [h6]), rfl⟩
set_option maxRecDepth 100000 in
set_option maxHeartbeats 4000000 in
theorem cr_X2_isHiding {l : Launch} {D : va_G} {cI cZ : ClassId} {b : Nat → Nat} {τ σ : St} (hI : Inv τ σ) {x o : Nat} (hx : x < nM τ) (ho : o < nM τ) : Cr l yX2_isHiding cX2_isHiding 3 (some .boolean) 2 44 D cI cZ (pX b cI cZ) [.ref (b 9), .int (nI x), .int (nI o)] σ (b2i (Hid τ x o)) := by
  refine Ct.of 0 (by decide) (by simp [Value.category]) (Nat.le_of_ble_eq_true rfl) ?_
  intro p e s m below meth c C
  have hTl := w0_tl (iW hI)
  have hMl := w0_ml (iW hI)
  have hXl := w0_xl (iW hI)
  have hof_x := w0_ofl (iW hI) hx
  have hof_o := w0_ofl (iW hI) ho
  refine g_aload_n C dX2_isHiding_0 rfl ?_
  refine g_iload_n C dX2_isHiding_1 rfl ?_
  refine g_iload_n C dX2_isHiding_2 rfl ?_
  refine g_callVr 9 C (cr_X2_isOfNameBelow hI (by omega) (by omega)) mw_X2_isOfNameBelow ml_X2_51 rfl rfl rfl rfl (Nat.le_of_ble_eq_true rfl) dX2_isHiding_3 ⟨Nat.le_of_ble_eq_true rfl, Nat.le_of_ble_eq_true rfl⟩ ⟨Nat.le_of_ble_eq_true rfl, Nat.le_of_ble_eq_true rfl⟩ ?_
  refine g_ifb_eq (tgt := 58) C dX2_isHiding_6 (by decide) (fun h6 => ?_) (fun h6 => ?_)
  · refine g_iconst (v := 0) C dX2_isHiding_58 (by decide) ?_
    exact g_zret C dX2_isHiding_59 nar_0 ⟨rt_f (by revert h6; simp only [Hid, Ifc]; cases decide (τ 10 x = τ 10 o) <;> cases Bel τ (Of τ x) (Of τ o) <;> cases Hs τ x 8 <;> cases Hs τ o 8 <;> cases decide (τ 1 (Of τ o) = 2) <;> cases Hs τ o 4 <;> cases Seen τ x o <;> simp), rfl⟩
  · refine g_aload_n C dX2_isHiding_9 rfl ?_
    refine g_iload_n C dX2_isHiding_10 rfl ?_
    refine g_bipush (v := 8) C dX2_isHiding_11 (by decide) ?_
    refine g_callVr 9 C (cr_X2_hasMark hI (by omega)) mw_X2_hasMark ml_X2_48 rfl rfl rfl rfl (Nat.le_of_ble_eq_true rfl) dX2_isHiding_13 ⟨Nat.le_of_ble_eq_true rfl, Nat.le_of_ble_eq_true rfl⟩ ⟨Nat.le_of_ble_eq_true rfl, Nat.le_of_ble_eq_true rfl⟩ ?_
    refine g_ifb_eq (tgt := 58) C dX2_isHiding_16 (by decide) (fun h16 => ?_) (fun h16 => ?_)
    · refine g_iconst (v := 0) C dX2_isHiding_58 (by decide) ?_
      exact g_zret C dX2_isHiding_59 nar_0 ⟨rt_f (by rw [HX_hi (by decide)] at h16; revert h6 h16; simp only [Hid, Ifc]; cases decide (τ 10 x = τ 10 o) <;> cases Bel τ (Of τ x) (Of τ o) <;> cases Hs τ x 8 <;> cases Hs τ o 8 <;> cases decide (τ 1 (Of τ o) = 2) <;> cases Hs τ o 4 <;> cases Seen τ x o <;> simp), rfl⟩
    · refine g_aload_n C dX2_isHiding_19 rfl ?_
      refine g_iload_n C dX2_isHiding_20 rfl ?_
      refine g_bipush (v := 8) C dX2_isHiding_21 (by decide) ?_
      refine g_callVr 9 C (cr_X2_hasMark hI (by omega)) mw_X2_hasMark ml_X2_48 rfl rfl rfl rfl (Nat.le_of_ble_eq_true rfl) dX2_isHiding_23 ⟨Nat.le_of_ble_eq_true rfl, Nat.le_of_ble_eq_true rfl⟩ ⟨Nat.le_of_ble_eq_true rfl, Nat.le_of_ble_eq_true rfl⟩ ?_
      refine g_ifb_eq (tgt := 58) C dX2_isHiding_26 (by decide) (fun h26 => ?_) (fun h26 => ?_)
      · refine g_iconst (v := 0) C dX2_isHiding_58 (by decide) ?_
        exact g_zret C dX2_isHiding_59 nar_0 ⟨rt_f (by rw [HX_hi (by decide)] at h16; rw [HX_hi (by decide)] at h26; revert h6 h16 h26; simp only [Hid, Ifc]; cases decide (τ 10 x = τ 10 o) <;> cases Bel τ (Of τ x) (Of τ o) <;> cases Hs τ x 8 <;> cases Hs τ o 8 <;> cases decide (τ 1 (Of τ o) = 2) <;> cases Hs τ o 4 <;> cases Seen τ x o <;> simp), rfl⟩
      · refine g_aload_n C dX2_isHiding_29 rfl ?_
        refine gf_X2_34 C dX2_isHiding_30 ?_
        refine g_aload_n C dX2_isHiding_33 rfl ?_
        refine gf_X2_9 C dX2_isHiding_34 ?_
        refine g_iload_n C dX2_isHiding_37 rfl ?_
        refine gX_lv10 C (by omega) (v := nI (Of τ _)) (i_of hI (by omega)) dX2_isHiding_38 ?_
        refine g_callVr 1 C (cr_X4_isInterface hI (by omega)) mw_X4_isInterface ml_X2_38 rfl rfl rfl rfl (Nat.le_of_ble_eq_true rfl) dX2_isHiding_39 ⟨Nat.le_of_ble_eq_true rfl, Nat.le_of_ble_eq_true rfl⟩ ⟨Nat.le_of_ble_eq_true rfl, Nat.le_of_ble_eq_true rfl⟩ ?_
        refine g_ifb_ne (tgt := 58) C dX2_isHiding_42 (by decide) (fun h42 => ?_) (fun h42 => ?_)
        · refine g_iconst (v := 0) C dX2_isHiding_58 (by decide) ?_
          exact g_zret C dX2_isHiding_59 nar_0 ⟨rt_f (by rw [HX_hi (by decide)] at h16; rw [HX_hi (by decide)] at h26; revert h6 h16 h26 h42; simp only [Hid, Ifc]; cases decide (τ 10 x = τ 10 o) <;> cases Bel τ (Of τ x) (Of τ o) <;> cases Hs τ x 8 <;> cases Hs τ o 8 <;> cases decide (τ 1 (Of τ o) = 2) <;> cases Hs τ o 4 <;> cases Seen τ x o <;> simp), rfl⟩
        · refine g_aload_n C dX2_isHiding_45 rfl ?_
          refine g_iload_n C dX2_isHiding_46 rfl ?_
          refine g_iload_n C dX2_isHiding_47 rfl ?_
          refine g_callVr 9 C (cr_X2_isSeen hI (by omega) (by omega)) mw_X2_isSeen ml_X2_60 rfl rfl rfl rfl (Nat.le_of_ble_eq_true rfl) dX2_isHiding_48 ⟨Nat.le_of_ble_eq_true rfl, Nat.le_of_ble_eq_true rfl⟩ ⟨Nat.le_of_ble_eq_true rfl, Nat.le_of_ble_eq_true rfl⟩ ?_
          refine g_ifb_eq (tgt := 58) C dX2_isHiding_51 (by decide) (fun h51 => ?_) (fun h51 => ?_)
          · refine g_iconst (v := 0) C dX2_isHiding_58 (by decide) ?_
            exact g_zret C dX2_isHiding_59 nar_0 ⟨rt_f (by rw [HX_hi (by decide)] at h16; rw [HX_hi (by decide)] at h26; revert h6 h16 h26 h42 h51; simp only [Hid, Ifc]; cases decide (τ 10 x = τ 10 o) <;> cases Bel τ (Of τ x) (Of τ o) <;> cases Hs τ x 8 <;> cases Hs τ o 8 <;> cases decide (τ 1 (Of τ o) = 2) <;> cases Hs τ o 4 <;> cases Seen τ x o <;> simp), rfl⟩
          · refine g_iconst (v := 1) C dX2_isHiding_54 (by decide) ?_
            refine g_goto (tgt := 59) C dX2_isHiding_55 (by decide) ?_
            exact g_zret C dX2_isHiding_59 nar_1 ⟨rt_t (by rw [HX_hi (by decide)] at h16; rw [HX_hi (by decide)] at h26; revert h6 h16 h26 h42 h51; simp only [Hid, Ifc]; cases decide (τ 10 x = τ 10 o) <;> cases Bel τ (Of τ x) (Of τ o) <;> cases Hs τ x 8 <;> cases Hs τ o 8 <;> cases decide (τ 1 (Of τ o) = 2) <;> cases Hs τ o 4 <;> cases Seen τ x o <;> simp), rfl⟩
set_option maxRecDepth 100000 in
set_option maxHeartbeats 4000000 in
theorem cr_X2_isMixed {l : Launch} {D : va_G} {cI cZ : ClassId} {b : Nat → Nat} {τ σ : St} (hI : Inv τ σ) {x o : Nat} (hx : x < nM τ) (ho : o < nM τ) : Cr l yX2_isMixed cX2_isMixed 3 (some .boolean) 2 44 D cI cZ (pX b cI cZ) [.ref (b 9), .int (nI x), .int (nI o)] σ (b2i (Mix τ x o)) := by
  refine Ct.of 0 (by decide) (by simp [Value.category]) (Nat.le_of_ble_eq_true rfl) ?_
  intro p e s m below meth c C
  have hTl := w0_tl (iW hI)
  have hMl := w0_ml (iW hI)
  have hXl := w0_xl (iW hI)
  have hof_x := w0_ofl (iW hI) hx
  have hof_o := w0_ofl (iW hI) ho
  refine g_aload_n C dX2_isMixed_0 rfl ?_
  refine g_iload_n C dX2_isMixed_1 rfl ?_
  refine g_iload_n C dX2_isMixed_2 rfl ?_
  refine g_callVr 9 C (cr_X2_isOfNameBelow hI (by omega) (by omega)) mw_X2_isOfNameBelow ml_X2_51 rfl rfl rfl rfl (Nat.le_of_ble_eq_true rfl) dX2_isMixed_3 ⟨Nat.le_of_ble_eq_true rfl, Nat.le_of_ble_eq_true rfl⟩ ⟨Nat.le_of_ble_eq_true rfl, Nat.le_of_ble_eq_true rfl⟩ ?_
  refine g_ifb_eq (tgt := 26) C dX2_isMixed_6 (by decide) (fun h6 => ?_) (fun h6 => ?_)
  · refine g_iconst (v := 0) C dX2_isMixed_26 (by decide) ?_
    exact g_zret C dX2_isMixed_27 nar_0 ⟨rt_f (by revert h6; simp only [Mix, Ifc, Pln, b2i_inj]; cases decide (τ 10 x = τ 10 o) <;> cases Bel τ (Of τ x) (Of τ o) <;> cases Hs τ x 8 <;> cases Hs τ o 8 <;> cases decide (τ 1 (Of τ o) = 2) <;> cases Hs τ o 4 <;> cases Seen τ x o <;> simp), rfl⟩
  · refine g_aload_n C dX2_isMixed_9 rfl ?_
    refine g_iload_n C dX2_isMixed_10 rfl ?_
    refine g_bipush (v := 8) C dX2_isMixed_11 (by decide) ?_
    refine g_callVr 9 C (cr_X2_hasMark hI (by omega)) mw_X2_hasMark ml_X2_48 rfl rfl rfl rfl (Nat.le_of_ble_eq_true rfl) dX2_isMixed_13 ⟨Nat.le_of_ble_eq_true rfl, Nat.le_of_ble_eq_true rfl⟩ ⟨Nat.le_of_ble_eq_true rfl, Nat.le_of_ble_eq_true rfl⟩ ?_
    refine g_aload_n C dX2_isMixed_16 rfl ?_
    refine g_iload_n C dX2_isMixed_17 rfl ?_
    refine g_bipush (v := 8) C dX2_isMixed_18 (by decide) ?_
    refine g_callVr 9 C (cr_X2_hasMark hI (by omega)) mw_X2_hasMark ml_X2_48 rfl rfl rfl rfl (Nat.le_of_ble_eq_true rfl) dX2_isMixed_20 ⟨Nat.le_of_ble_eq_true rfl, Nat.le_of_ble_eq_true rfl⟩ ⟨Nat.le_of_ble_eq_true rfl, Nat.le_of_ble_eq_true rfl⟩ ?_
    refine g_icmp_ne (tgt := 28) C dX2_isMixed_23 (by decide) (fun h23 => ?_) (fun h23 => ?_)
    · refine g_aload_n C dX2_isMixed_28 rfl ?_
      refine gf_X2_34 C dX2_isMixed_29 ?_
      refine g_aload_n C dX2_isMixed_32 rfl ?_
      refine gf_X2_9 C dX2_isMixed_33 ?_
      refine g_iload_n C dX2_isMixed_36 rfl ?_
      refine gX_lv10 C (by omega) (v := nI (Of τ _)) (i_of hI (by omega)) dX2_isMixed_37 ?_
      refine g_callVr 1 C (cr_X4_isInterface hI (by omega)) mw_X4_isInterface ml_X2_38 rfl rfl rfl rfl (Nat.le_of_ble_eq_true rfl) dX2_isMixed_38 ⟨Nat.le_of_ble_eq_true rfl, Nat.le_of_ble_eq_true rfl⟩ ⟨Nat.le_of_ble_eq_true rfl, Nat.le_of_ble_eq_true rfl⟩ ?_
      refine g_ifb_eq (tgt := 52) C dX2_isMixed_41 (by decide) (fun h41 => ?_) (fun h41 => ?_)
      · refine g_aload_n C dX2_isMixed_52 rfl ?_
        refine g_iload_n C dX2_isMixed_53 rfl ?_
        refine g_iload_n C dX2_isMixed_54 rfl ?_
        refine g_callVr 9 C (cr_X2_isSeen hI (by omega) (by omega)) mw_X2_isSeen ml_X2_60 rfl rfl rfl rfl (Nat.le_of_ble_eq_true rfl) dX2_isMixed_55 ⟨Nat.le_of_ble_eq_true rfl, Nat.le_of_ble_eq_true rfl⟩ ⟨Nat.le_of_ble_eq_true rfl, Nat.le_of_ble_eq_true rfl⟩ ?_
        exact g_zret C dX2_isMixed_58 (b2i_nar _) ⟨rt_b (by revert h6 h23 h41; rw [HX_hi (by decide), HX_hi (by decide)]; simp only [Mix, Ifc, Pln, b2i_inj]; cases decide (τ 10 x = τ 10 o) <;> cases Bel τ (Of τ x) (Of τ o) <;> cases Hs τ x 8 <;> cases Hs τ o 8 <;> cases decide (τ 1 (Of τ o) = 2) <;> cases Hs τ o 4 <;> cases Seen τ x o <;> simp), rfl⟩
      · refine g_aload_n C dX2_isMixed_44 rfl ?_
        refine g_iload_n C dX2_isMixed_45 rfl ?_
        refine g_callVr 9 C (cr_X2_isInheritable hI (by omega)) mw_X2_isInheritable ml_X2_54 rfl rfl rfl rfl (Nat.le_of_ble_eq_true rfl) dX2_isMixed_46 ⟨Nat.le_of_ble_eq_true rfl, Nat.le_of_ble_eq_true rfl⟩ ⟨Nat.le_of_ble_eq_true rfl, Nat.le_of_ble_eq_true rfl⟩ ?_
        refine g_goto (tgt := 58) C dX2_isMixed_49 (by decide) ?_
        exact g_zret C dX2_isMixed_58 (b2i_nar _) ⟨rt_b (by revert h6 h23 h41; rw [HX_hi (by decide), HX_hi (by decide)]; simp only [Mix, Ifc, Pln, b2i_inj]; cases decide (τ 10 x = τ 10 o) <;> cases Bel τ (Of τ x) (Of τ o) <;> cases Hs τ x 8 <;> cases Hs τ o 8 <;> cases decide (τ 1 (Of τ o) = 2) <;> cases Hs τ o 4 <;> cases Seen τ x o <;> simp), rfl⟩
    · refine g_iconst (v := 0) C dX2_isMixed_26 (by decide) ?_
      exact g_zret C dX2_isMixed_27 nar_0 ⟨rt_f (by revert h6 h23; rw [HX_hi (by decide), HX_hi (by decide)]; simp only [Mix, Ifc, Pln, b2i_inj]; cases decide (τ 10 x = τ 10 o) <;> cases Bel τ (Of τ x) (Of τ o) <;> cases Hs τ x 8 <;> cases Hs τ o 8 <;> cases decide (τ 1 (Of τ o) = 2) <;> cases Hs τ o 4 <;> cases Seen τ x o <;> simp), rfl⟩

/-! ===== the reference: its reading methods ===== -/
def inB (v a z : Int32) : Bool := decide (a ≤ v) && decide (v ≤ z)
def isT (τ : St) (t : Int32) : Bool := inB t 0 (τ 0 0 - 1)
def isM (τ : St) (m : Int32) : Bool := inB m 0 (τ 0 2 - 1)
def Hs (τ : St) (m : Nat) (k : Int32) : Bool := decide (¬ (τ 12 m &&& k) = 0)
def Ifc (τ : St) (m : Nat) : Bool := decide (τ 1 (Of τ m) = 2)
def SubB (τ : St) (t u : Nat) : Bool := decide (t = u) || Bel τ t u
def Acc (τ : St) (m : Nat) : Int32 := bif Hs τ m 4 then 0 else bif Hs τ m 1 || Ifc τ m then 3 else bif Hs τ m 2 then 2 else 1
def Sts (τ : St) (a b : Nat) : Bool := decide (a = b) || (decide (a < 16) && decide (b < 16) && SubB τ a b)
def Seen (τ : St) (m o : Nat) : Bool := decide (2 ≤ Acc τ o) || decide (τ 2 (Of τ m) = τ 2 (Of τ o))
def Hid (τ : St) (m o : Nat) : Bool := decide (τ 10 m = τ 10 o) && Hs τ m 8 && Hs τ o 8 && Bel τ (Of τ m) (Of τ o) && !Ifc τ o && !Hs τ o 4 && Seen τ m o
def Mix (τ : St) (m o : Nat) : Bool := decide (τ 10 m = τ 10 o) && (Hs τ m 8 != Hs τ o 8) && Bel τ (Of τ m) (Of τ o) && !Hs τ o 4 && (bif Ifc τ o then !Hs τ o 8 else Seen τ m o)
def Pln (τ : St) (m : Nat) : Bool := !Hs τ m 8 && !Hs τ m 4
def one0 (v k : Int32) : Int32 := if (v &&& k) = 0 then 0 else 1
def mayB (kd v : Int32) : Bool := inB v 0 255 && decide (one0 v 1 + one0 v 2 + one0 v 4 ≤ 1) && (if kd < 2 then decide (one0 v 64 = 0) && (decide (one0 v 32 = 0) || decide (one0 v 4 + one0 v 8 + one0 v 16 = 0)) else decide (one0 v 2 + one0 v 16 = 0) && (decide (one0 v 4 + one0 v 8 + one0 v 32 + one0 v 64 = 1) || (decide (one0 v 4 + one0 v 8 + one0 v 32 + one0 v 64 = 2) && decide (one0 v 4 + one0 v 8 = 2))))
set_option maxRecDepth 100000 in
set_option maxHeartbeats 4000000 in
theorem cr_X6_in {l : Launch} {D : va_G} {cI cZ : ClassId} {pic : St → va_W} {τ : St} {v a z : Int32} : Cr l yX6_in cX6_in 3 (some .boolean) 0 0 D cI cZ (pic) [.int v, .int a, .int z] τ (b2i (inB v a z)) := by
  refine Ct.of 0 (by decide) (by simp [Value.category]) (Nat.le_of_ble_eq_true rfl) ?_
  intro p e s m below meth c C
  refine g_iload_n C dX6_in_0 rfl ?_
  refine g_iload_n C dX6_in_1 rfl ?_
  refine g_icmp_lt (tgt := 14) C dX6_in_2 (by decide) (fun h2 => ?_) (fun h2 => ?_)
  · refine g_iconst (v := 0) C dX6_in_14 (by decide) ?_
    exact g_zret C dX6_in_15 nar_0 ⟨rt_f (by grind [inB]), rfl⟩
  · refine g_iload_n C dX6_in_5 rfl ?_
    refine g_iload_n C dX6_in_6 rfl ?_
    refine g_icmp_gt (tgt := 14) C dX6_in_7 (by decide) (fun h7 => ?_) (fun h7 => ?_)
    · refine g_iconst (v := 0) C dX6_in_14 (by decide) ?_
      exact g_zret C dX6_in_15 nar_0 ⟨rt_f (by grind [inB]), rfl⟩
    · refine g_iconst (v := 1) C dX6_in_10 (by decide) ?_
      refine g_goto (tgt := 15) C dX6_in_11 (by decide) ?_
      exact g_zret C dX6_in_15 nar_1 ⟨rt_t (by grind [inB]), rfl⟩
set_option maxRecDepth 100000 in
set_option maxHeartbeats 4000000 in
theorem cr_X6_isType {l : Launch} {D : va_G} {cI cZ : ClassId} {b : Nat → Nat} {τ : St} {t : Int32} : Cr l yX6_isType cX6_isType 2 (some .boolean) 1 22 D cI cZ (pM b cI cZ) [.ref (b 0), .int t] τ (b2i (isT τ t)) := by
  refine Ct.of 0 (by decide) (by simp [Value.category]) (Nat.le_of_ble_eq_true rfl) ?_
  intro p e s m below meth c C
  refine g_iload_n C dX6_isType_0 rfl ?_
  refine g_iconst (v := 0) C dX6_isType_1 (by decide) ?_
  refine g_aload_n C dX6_isType_2 rfl ?_
  refine gf_X6_62 C dX6_isType_3 ?_
  refine g_iconst (v := 1) C dX6_isType_6 (by decide) ?_
  refine g_isub C dX6_isType_7 ?_
  refine g_callSr C (cr_X6_in) mw_X6_in ml_X6_66 rfl rfl (Nat.le_of_ble_eq_true rfl) dX6_isType_8 ⟨Nat.le_of_ble_eq_true rfl, Nat.le_of_ble_eq_true rfl⟩ ⟨Nat.le_of_ble_eq_true rfl, Nat.le_of_ble_eq_true rfl⟩ ?_
  exact g_zret C dX6_isType_11 (b2i_nar _) ⟨rt_b (by rfl), rfl⟩
set_option maxRecDepth 100000 in
set_option maxHeartbeats 4000000 in
theorem cr_X6_isMember {l : Launch} {D : va_G} {cI cZ : ClassId} {b : Nat → Nat} {τ : St} {t : Int32} : Cr l yX6_isMember cX6_isMember 2 (some .boolean) 1 22 D cI cZ (pM b cI cZ) [.ref (b 0), .int t] τ (b2i (isM τ t)) := by
  refine Ct.of 0 (by decide) (by simp [Value.category]) (Nat.le_of_ble_eq_true rfl) ?_
  intro p e s m below meth c C
  refine g_iload_n C dX6_isMember_0 rfl ?_
  refine g_iconst (v := 0) C dX6_isMember_1 (by decide) ?_
  refine g_aload_n C dX6_isMember_2 rfl ?_
  refine gf_X6_70 C dX6_isMember_3 ?_
  refine g_iconst (v := 1) C dX6_isMember_6 (by decide) ?_
  refine g_isub C dX6_isMember_7 ?_
  refine g_callSr C (cr_X6_in) mw_X6_in ml_X6_66 rfl rfl (Nat.le_of_ble_eq_true rfl) dX6_isMember_8 ⟨Nat.le_of_ble_eq_true rfl, Nat.le_of_ble_eq_true rfl⟩ ⟨Nat.le_of_ble_eq_true rfl, Nat.le_of_ble_eq_true rfl⟩ ?_
  exact g_zret C dX6_isMember_11 (b2i_nar _) ⟨rt_b (by rfl), rfl⟩
set_option maxRecDepth 100000 in
set_option maxHeartbeats 4000000 in
theorem cr_X6_isBelow {l : Launch} {D : va_G} {cI cZ : ClassId} {b : Nat → Nat} {τ : St} (hW : W0 τ) {t u : Nat} (ht : t < 16) (hu : u < 16) : Cr l yX6_isBelow cX6_isBelow 3 (some .boolean) 0 0 D cI cZ (pM b cI cZ) [.ref (b 0), .int (nI t), .int (nI u)] τ (b2i (Bel τ t u)) := by
  refine Ct.of 0 (by decide) (by simp [Value.category]) (Nat.le_of_ble_eq_true rfl) ?_
  intro p e s m below meth c C
  refine g_aload_n C dX6_isBelow_0 rfl ?_
  refine gf_X6_25 C dX6_isBelow_1 ?_
  refine g_bipushN 16 C dX6_isBelow_4 (by decide) ?_
  refine g_iload_n C dX6_isBelow_6 rfl ?_
  refine g_imulN C dX6_isBelow_7 ?_
  refine g_iload_n C dX6_isBelow_8 rfl ?_
  refine g_iaddN C dX6_isBelow_9 ?_
  refine gM_lv6 C (by omega) (w0_b6 hW _) dX6_isBelow_10 ?_
  exact g_zret C dX6_isBelow_11 (b2i_nar _) ⟨rt_b (by rfl), rfl⟩
set_option maxRecDepth 100000 in
set_option maxHeartbeats 4000000 in
theorem cr_X6_isSub {l : Launch} {D : va_G} {cI cZ : ClassId} {b : Nat → Nat} {τ : St} (hW : W0 τ) {t u : Nat} (ht : t < 16) (hu : u < 16) : Cr l yX6_isSub cX6_isSub 3 (some .boolean) 1 22 D cI cZ (pM b cI cZ) [.ref (b 0), .int (nI t), .int (nI u)] τ (b2i (SubB τ t u)) := by
  refine Ct.of 0 (by decide) (by simp [Value.category]) (Nat.le_of_ble_eq_true rfl) ?_
  intro p e s m below meth c C
  refine g_iload_n C dX6_isSub_0 rfl ?_
  refine g_iload_n C dX6_isSub_1 rfl ?_
  refine g_icmpN_eq (tgt := 14) C (by omega) (by omega) dX6_isSub_2 (by decide) (fun h2 => ?_) (fun h2 => ?_)
  · refine g_iconst (v := 1) C dX6_isSub_14 (by decide) ?_
    refine g_goto (tgt := 19) C dX6_isSub_15 (by decide) ?_
    exact g_zret C dX6_isSub_19 nar_1 ⟨rt_t (by simp [SubB, *]), rfl⟩
  · refine g_aload_n C dX6_isSub_5 rfl ?_
    refine g_iload_n C dX6_isSub_6 rfl ?_
    refine g_iload_n C dX6_isSub_7 rfl ?_
    refine g_callVr 0 C (cr_X6_isBelow hW (by omega) (by omega)) mw_X6_isBelow ml_X6_90 rfl rfl rfl rfl (Nat.le_of_ble_eq_true rfl) dX6_isSub_8 ⟨Nat.le_of_ble_eq_true rfl, Nat.le_of_ble_eq_true rfl⟩ ⟨Nat.le_of_ble_eq_true rfl, Nat.le_of_ble_eq_true rfl⟩ ?_
    refine g_ifb_eq (tgt := 18) C dX6_isSub_11 (by decide) (fun h11 => ?_) (fun h11 => ?_)
    · refine g_iconst (v := 0) C dX6_isSub_18 (by decide) ?_
      exact g_zret C dX6_isSub_19 nar_0 ⟨rt_f (by simp [SubB, *]), rfl⟩
    · refine g_iconst (v := 1) C dX6_isSub_14 (by decide) ?_
      refine g_goto (tgt := 19) C dX6_isSub_15 (by decide) ?_
      exact g_zret C dX6_isSub_19 nar_1 ⟨rt_t (by simp [SubB, *]), rfl⟩
set_option maxRecDepth 100000 in
set_option maxHeartbeats 4000000 in
theorem cr_X6_has {l : Launch} {D : va_G} {cI cZ : ClassId} {b : Nat → Nat} {τ : St} {m0 : Nat} {k : Int32} (hm : m0 < 60) : Cr l yX6_has cX6_has 3 (some .boolean) 0 0 D cI cZ (pM b cI cZ) [.ref (b 0), .int (nI m0), .int k] τ (b2i (Hs τ m0 k)) := by
  refine Ct.of 0 (by decide) (by simp [Value.category]) (Nat.le_of_ble_eq_true rfl) ?_
  intro p e s m below meth c C
  refine g_aload_n C dX6_has_0 rfl ?_
  refine gf_X6_44 C dX6_has_1 ?_
  refine g_iload_n C dX6_has_4 rfl ?_
  refine gM_ln12 C (by omega) dX6_has_5 ?_
  refine g_iload_n C dX6_has_6 rfl ?_
  refine g_iand C dX6_has_7 ?_
  refine g_if_eq (tgt := 15) C dX6_has_8 (by decide) (fun h8 => ?_) (fun h8 => ?_)
  · refine g_iconst (v := 0) C dX6_has_15 (by decide) ?_
    exact g_zret C dX6_has_16 nar_0 ⟨rt_f (by simp [Hs, *]), rfl⟩
  · refine g_iconst (v := 1) C dX6_has_11 (by decide) ?_
    refine g_goto (tgt := 16) C dX6_has_12 (by decide) ?_
    exact g_zret C dX6_has_16 nar_1 ⟨rt_t (by simp [Hs, *]), rfl⟩
set_option maxRecDepth 100000 in
set_option maxHeartbeats 4000000 in
theorem cr_X6_isStatic {l : Launch} {D : va_G} {cI cZ : ClassId} {b : Nat → Nat} {τ : St} {m0 : Nat} (hm : m0 < 60) : Cr l yX6_isStatic cX6_isStatic 2 (some .boolean) 1 22 D cI cZ (pM b cI cZ) [.ref (b 0), .int (nI m0)] τ (b2i (Hs τ m0 8)) := by
  refine Ct.of 0 (by decide) (by simp [Value.category]) (Nat.le_of_ble_eq_true rfl) ?_
  intro p e s m below meth c C
  refine g_aload_n C dX6_isStatic_0 rfl ?_
  refine g_iload_n C dX6_isStatic_1 rfl ?_
  refine g_bipush (v := 8) C dX6_isStatic_2 (by decide) ?_
  refine g_callVr 0 C (cr_X6_has (by omega)) mw_X6_has ml_X6_100 rfl rfl rfl rfl (Nat.le_of_ble_eq_true rfl) dX6_isStatic_4 ⟨Nat.le_of_ble_eq_true rfl, Nat.le_of_ble_eq_true rfl⟩ ⟨Nat.le_of_ble_eq_true rfl, Nat.le_of_ble_eq_true rfl⟩ ?_
  exact g_zret C dX6_isStatic_7 (b2i_nar _) ⟨rt_b (by rfl), rfl⟩
set_option maxRecDepth 100000 in
set_option maxHeartbeats 4000000 in
theorem cr_X6_isPrivate {l : Launch} {D : va_G} {cI cZ : ClassId} {b : Nat → Nat} {τ : St} {m0 : Nat} (hm : m0 < 60) : Cr l yX6_isPrivate cX6_isPrivate 2 (some .boolean) 1 22 D cI cZ (pM b cI cZ) [.ref (b 0), .int (nI m0)] τ (b2i (Hs τ m0 4)) := by
  refine Ct.of 0 (by decide) (by simp [Value.category]) (Nat.le_of_ble_eq_true rfl) ?_
  intro p e s m below meth c C
  refine g_aload_n C dX6_isPrivate_0 rfl ?_
  refine g_iload_n C dX6_isPrivate_1 rfl ?_
  refine g_iconst (v := 4) C dX6_isPrivate_2 (by decide) ?_
  refine g_callVr 0 C (cr_X6_has (by omega)) mw_X6_has ml_X6_100 rfl rfl rfl rfl (Nat.le_of_ble_eq_true rfl) dX6_isPrivate_3 ⟨Nat.le_of_ble_eq_true rfl, Nat.le_of_ble_eq_true rfl⟩ ⟨Nat.le_of_ble_eq_true rfl, Nat.le_of_ble_eq_true rfl⟩ ?_
  exact g_zret C dX6_isPrivate_6 (b2i_nar _) ⟨rt_b (by rfl), rfl⟩
set_option maxRecDepth 100000 in
set_option maxHeartbeats 4000000 in
theorem cr_X6_isInterface {l : Launch} {D : va_G} {cI cZ : ClassId} {b : Nat → Nat} {τ : St} (hW : W0 τ) {x : Nat} (hx : x < nM τ) : Cr l yX6_isInterface cX6_isInterface 2 (some .boolean) 0 0 D cI cZ (pM b cI cZ) [.ref (b 0), .int (nI x)] τ (b2i (Ifc τ x)) := by
  refine Ct.of 0 (by decide) (by simp [Value.category]) (Nat.le_of_ble_eq_true rfl) ?_
  intro p e s m below meth c C
  have hTl := w0_tl hW
  have hMl := w0_ml hW
  have hof_x := w0_ofl hW hx
  refine g_aload_n C dX6_isInterface_0 rfl ?_
  refine gf_X6_7 C dX6_isInterface_1 ?_
  refine g_aload_n C dX6_isInterface_4 rfl ?_
  refine gf_X6_35 C dX6_isInterface_5 ?_
  refine g_iload_n C dX6_isInterface_8 rfl ?_
  refine gM_lv9 C (by omega) (w0_of hW (by omega)) dX6_isInterface_9 ?_
  refine gM_ln1 C (by omega) dX6_isInterface_10 ?_
  refine g_iconst (v := 2) C dX6_isInterface_11 (by decide) ?_
  refine g_icmp_ne (tgt := 19) C dX6_isInterface_12 (by decide) (fun h12 => ?_) (fun h12 => ?_)
  · refine g_iconst (v := 0) C dX6_isInterface_19 (by decide) ?_
    exact g_zret C dX6_isInterface_20 nar_0 ⟨rt_f (by simp [Ifc, *]), rfl⟩
  · refine g_iconst (v := 1) C dX6_isInterface_15 (by decide) ?_
    refine g_goto (tgt := 20) C dX6_isInterface_16 (by decide) ?_
    exact g_zret C dX6_isInterface_20 nar_1 ⟨rt_t (by simp [Ifc, *]), rfl⟩
set_option maxRecDepth 100000 in
set_option maxHeartbeats 4000000 in
theorem cr_X6_one {l : Launch} {D : va_G} {cI cZ : ClassId} {pic : St → va_W} {τ : St} {v k : Int32} : Cr l yX6_one cX6_one 2 (some .int) 0 0 D cI cZ (pic) [.int v, .int k] τ (one0 v k) := by
  refine Ct.of 0 (by decide) (by simp [Value.category]) (Nat.le_of_ble_eq_true rfl) ?_
  intro p e s m below meth c C
  refine g_iload_n C dX6_one_0 rfl ?_
  refine g_iload_n C dX6_one_1 rfl ?_
  refine g_iand C dX6_one_2 ?_
  refine g_if_ne (tgt := 10) C dX6_one_3 (by decide) (fun h3 => ?_) (fun h3 => ?_)
  · refine g_iconst (v := 1) C dX6_one_10 (by decide) ?_
    exact g_iret C dX6_one_11 ⟨rt_i (by simp [one0, *]), rfl⟩
  · refine g_iconst (v := 0) C dX6_one_6 (by decide) ?_
    refine g_goto (tgt := 11) C dX6_one_7 (by decide) ?_
    exact g_iret C dX6_one_11 ⟨rt_i (by simp [one0, *]), rfl⟩
set_option maxRecDepth 100000 in
set_option maxHeartbeats 4000000 in
theorem cr_X6_mayBe {l : Launch} {D : va_G} {cI cZ : ClassId} {pic : St → va_W} {τ : St} {kd v : Int32} : Cr l yX6_mayBe cX6_mayBe 3 (some .boolean) 1 22 D cI cZ (pic) [.int kd, .int v] τ (b2i (mayB kd v)) := by
  refine Ct.of 1 (by decide) (by simp [Value.category]) (Nat.le_of_ble_eq_true rfl) ?_
  intro p e s m below meth c C
  refine g_iload_n C dX6_mayBe_0 rfl ?_
  refine g_iconst (v := 0) C dX6_mayBe_1 (by decide) ?_
  refine g_sipush (v := 255) C dX6_mayBe_2 (by decide) ?_
  refine g_callSr C (cr_X6_in) mw_X6_in ml_X6_66 rfl rfl (Nat.le_of_ble_eq_true rfl) dX6_mayBe_5 ⟨Nat.le_of_ble_eq_true rfl, Nat.le_of_ble_eq_true rfl⟩ ⟨Nat.le_of_ble_eq_true rfl, Nat.le_of_ble_eq_true rfl⟩ ?_
  refine g_ifb_eq (tgt := 32) C dX6_mayBe_8 (by decide) (fun h8 => ?_) (fun h8 => ?_)
  · refine g_iconst (v := 0) C dX6_mayBe_32 (by decide) ?_
    exact g_zret C dX6_mayBe_33 nar_0 ⟨rt_f (by grind [mayB]), rfl⟩
  · refine g_iload_n C dX6_mayBe_11 rfl ?_
    refine g_iconst (v := 1) C dX6_mayBe_12 (by decide) ?_
    refine g_callSr C (cr_X6_one) mw_X6_one ml_X6_103 rfl rfl (Nat.le_of_ble_eq_true rfl) dX6_mayBe_13 ⟨Nat.le_of_ble_eq_true rfl, Nat.le_of_ble_eq_true rfl⟩ ⟨Nat.le_of_ble_eq_true rfl, Nat.le_of_ble_eq_true rfl⟩ ?_
    refine g_iload_n C dX6_mayBe_16 rfl ?_
    refine g_iconst (v := 2) C dX6_mayBe_17 (by decide) ?_
    refine g_callSr C (cr_X6_one) mw_X6_one ml_X6_103 rfl rfl (Nat.le_of_ble_eq_true rfl) dX6_mayBe_18 ⟨Nat.le_of_ble_eq_true rfl, Nat.le_of_ble_eq_true rfl⟩ ⟨Nat.le_of_ble_eq_true rfl, Nat.le_of_ble_eq_true rfl⟩ ?_
    refine g_iadd C dX6_mayBe_21 ?_
    refine g_iload_n C dX6_mayBe_22 rfl ?_
    refine g_iconst (v := 4) C dX6_mayBe_23 (by decide) ?_
    refine g_callSr C (cr_X6_one) mw_X6_one ml_X6_103 rfl rfl (Nat.le_of_ble_eq_true rfl) dX6_mayBe_24 ⟨Nat.le_of_ble_eq_true rfl, Nat.le_of_ble_eq_true rfl⟩ ⟨Nat.le_of_ble_eq_true rfl, Nat.le_of_ble_eq_true rfl⟩ ?_
    refine g_iadd C dX6_mayBe_27 ?_
    refine g_iconst (v := 1) C dX6_mayBe_28 (by decide) ?_
    refine g_icmp_le (tgt := 34) C dX6_mayBe_29 (by decide) (fun h29 => ?_) (fun h29 => ?_)
    · refine g_iload_n C dX6_mayBe_34 rfl ?_
      refine g_iconst (v := 2) C dX6_mayBe_35 (by decide) ?_
      refine g_icmp_ge (tgt := 85) C dX6_mayBe_36 (by decide) (fun h36 => ?_) (fun h36 => ?_)
      · refine g_iload_n C dX6_mayBe_85 rfl ?_
        refine g_iconst (v := 4) C dX6_mayBe_86 (by decide) ?_
        refine g_callSr C (cr_X6_one) mw_X6_one ml_X6_103 rfl rfl (Nat.le_of_ble_eq_true rfl) dX6_mayBe_87 ⟨Nat.le_of_ble_eq_true rfl, Nat.le_of_ble_eq_true rfl⟩ ⟨Nat.le_of_ble_eq_true rfl, Nat.le_of_ble_eq_true rfl⟩ ?_
        refine g_iload_n C dX6_mayBe_90 rfl ?_
        refine g_bipush (v := 8) C dX6_mayBe_91 (by decide) ?_
        refine g_callSr C (cr_X6_one) mw_X6_one ml_X6_103 rfl rfl (Nat.le_of_ble_eq_true rfl) dX6_mayBe_93 ⟨Nat.le_of_ble_eq_true rfl, Nat.le_of_ble_eq_true rfl⟩ ⟨Nat.le_of_ble_eq_true rfl, Nat.le_of_ble_eq_true rfl⟩ ?_
        refine g_iadd C dX6_mayBe_96 ?_
        refine g_iload_n C dX6_mayBe_97 rfl ?_
        refine g_bipush (v := 32) C dX6_mayBe_98 (by decide) ?_
        refine g_callSr C (cr_X6_one) mw_X6_one ml_X6_103 rfl rfl (Nat.le_of_ble_eq_true rfl) dX6_mayBe_100 ⟨Nat.le_of_ble_eq_true rfl, Nat.le_of_ble_eq_true rfl⟩ ⟨Nat.le_of_ble_eq_true rfl, Nat.le_of_ble_eq_true rfl⟩ ?_
        refine g_iadd C dX6_mayBe_103 ?_
        refine g_iload_n C dX6_mayBe_104 rfl ?_
        refine g_bipush (v := 64) C dX6_mayBe_105 (by decide) ?_
        refine g_callSr C (cr_X6_one) mw_X6_one ml_X6_103 rfl rfl (Nat.le_of_ble_eq_true rfl) dX6_mayBe_107 ⟨Nat.le_of_ble_eq_true rfl, Nat.le_of_ble_eq_true rfl⟩ ⟨Nat.le_of_ble_eq_true rfl, Nat.le_of_ble_eq_true rfl⟩ ?_
        refine g_iadd C dX6_mayBe_110 ?_
        refine g_istore_n C dX6_mayBe_111 (by decide) ?_
        refine g_iload_n C dX6_mayBe_112 rfl ?_
        refine g_iconst (v := 2) C dX6_mayBe_113 (by decide) ?_
        refine g_callSr C (cr_X6_one) mw_X6_one ml_X6_103 rfl rfl (Nat.le_of_ble_eq_true rfl) dX6_mayBe_114 ⟨Nat.le_of_ble_eq_true rfl, Nat.le_of_ble_eq_true rfl⟩ ⟨Nat.le_of_ble_eq_true rfl, Nat.le_of_ble_eq_true rfl⟩ ?_
        refine g_iload_n C dX6_mayBe_117 rfl ?_
        refine g_bipush (v := 16) C dX6_mayBe_118 (by decide) ?_
        refine g_callSr C (cr_X6_one) mw_X6_one ml_X6_103 rfl rfl (Nat.le_of_ble_eq_true rfl) dX6_mayBe_120 ⟨Nat.le_of_ble_eq_true rfl, Nat.le_of_ble_eq_true rfl⟩ ⟨Nat.le_of_ble_eq_true rfl, Nat.le_of_ble_eq_true rfl⟩ ?_
        refine g_iadd C dX6_mayBe_123 ?_
        refine g_if_ne (tgt := 157) C dX6_mayBe_124 (by decide) (fun h124 => ?_) (fun h124 => ?_)
        · refine g_iconst (v := 0) C dX6_mayBe_157 (by decide) ?_
          exact g_zret C dX6_mayBe_158 nar_0 ⟨rt_f (by grind [mayB]), rfl⟩
        · refine g_iload_n C dX6_mayBe_127 rfl ?_
          refine g_iconst (v := 1) C dX6_mayBe_128 (by decide) ?_
          refine g_icmp_eq (tgt := 153) C dX6_mayBe_129 (by decide) (fun h129 => ?_) (fun h129 => ?_)
          · refine g_iconst (v := 1) C dX6_mayBe_153 (by decide) ?_
            refine g_goto (tgt := 158) C dX6_mayBe_154 (by decide) ?_
            exact g_zret C dX6_mayBe_158 nar_1 ⟨rt_t (by grind [mayB]), rfl⟩
          · refine g_iload_n C dX6_mayBe_132 rfl ?_
            refine g_iconst (v := 2) C dX6_mayBe_133 (by decide) ?_
            refine g_icmp_ne (tgt := 157) C dX6_mayBe_134 (by decide) (fun h134 => ?_) (fun h134 => ?_)
            · refine g_iconst (v := 0) C dX6_mayBe_157 (by decide) ?_
              exact g_zret C dX6_mayBe_158 nar_0 ⟨rt_f (by grind [mayB]), rfl⟩
            · refine g_iload_n C dX6_mayBe_137 rfl ?_
              refine g_iconst (v := 4) C dX6_mayBe_138 (by decide) ?_
              refine g_callSr C (cr_X6_one) mw_X6_one ml_X6_103 rfl rfl (Nat.le_of_ble_eq_true rfl) dX6_mayBe_139 ⟨Nat.le_of_ble_eq_true rfl, Nat.le_of_ble_eq_true rfl⟩ ⟨Nat.le_of_ble_eq_true rfl, Nat.le_of_ble_eq_true rfl⟩ ?_
              refine g_iload_n C dX6_mayBe_142 rfl ?_
              refine g_bipush (v := 8) C dX6_mayBe_143 (by decide) ?_
              refine g_callSr C (cr_X6_one) mw_X6_one ml_X6_103 rfl rfl (Nat.le_of_ble_eq_true rfl) dX6_mayBe_145 ⟨Nat.le_of_ble_eq_true rfl, Nat.le_of_ble_eq_true rfl⟩ ⟨Nat.le_of_ble_eq_true rfl, Nat.le_of_ble_eq_true rfl⟩ ?_
              refine g_iadd C dX6_mayBe_148 ?_
              refine g_iconst (v := 2) C dX6_mayBe_149 (by decide) ?_
              refine g_icmp_ne (tgt := 157) C dX6_mayBe_150 (by decide) (fun h150 => ?_) (fun h150 => ?_)
              · refine g_iconst (v := 0) C dX6_mayBe_157 (by decide) ?_
                exact g_zret C dX6_mayBe_158 nar_0 ⟨rt_f (by grind [mayB]), rfl⟩
              · refine g_iconst (v := 1) C dX6_mayBe_153 (by decide) ?_
                refine g_goto (tgt := 158) C dX6_mayBe_154 (by decide) ?_
                exact g_zret C dX6_mayBe_158 nar_1 ⟨rt_t (by grind [mayB]), rfl⟩
      · refine g_iload_n C dX6_mayBe_39 rfl ?_
        refine g_bipush (v := 64) C dX6_mayBe_40 (by decide) ?_
        refine g_callSr C (cr_X6_one) mw_X6_one ml_X6_103 rfl rfl (Nat.le_of_ble_eq_true rfl) dX6_mayBe_42 ⟨Nat.le_of_ble_eq_true rfl, Nat.le_of_ble_eq_true rfl⟩ ⟨Nat.le_of_ble_eq_true rfl, Nat.le_of_ble_eq_true rfl⟩ ?_
        refine g_if_ne (tgt := 83) C dX6_mayBe_45 (by decide) (fun h45 => ?_) (fun h45 => ?_)
        · refine g_iconst (v := 0) C dX6_mayBe_83 (by decide) ?_
          exact g_zret C dX6_mayBe_84 nar_0 ⟨rt_f (by grind [mayB]), rfl⟩
        · refine g_iload_n C dX6_mayBe_48 rfl ?_
          refine g_bipush (v := 32) C dX6_mayBe_49 (by decide) ?_
          refine g_callSr C (cr_X6_one) mw_X6_one ml_X6_103 rfl rfl (Nat.le_of_ble_eq_true rfl) dX6_mayBe_51 ⟨Nat.le_of_ble_eq_true rfl, Nat.le_of_ble_eq_true rfl⟩ ⟨Nat.le_of_ble_eq_true rfl, Nat.le_of_ble_eq_true rfl⟩ ?_
          refine g_if_eq (tgt := 79) C dX6_mayBe_54 (by decide) (fun h54 => ?_) (fun h54 => ?_)
          · refine g_iconst (v := 1) C dX6_mayBe_79 (by decide) ?_
            refine g_goto (tgt := 84) C dX6_mayBe_80 (by decide) ?_
            exact g_zret C dX6_mayBe_84 nar_1 ⟨rt_t (by grind [mayB]), rfl⟩
          · refine g_iload_n C dX6_mayBe_57 rfl ?_
            refine g_iconst (v := 4) C dX6_mayBe_58 (by decide) ?_
            refine g_callSr C (cr_X6_one) mw_X6_one ml_X6_103 rfl rfl (Nat.le_of_ble_eq_true rfl) dX6_mayBe_59 ⟨Nat.le_of_ble_eq_true rfl, Nat.le_of_ble_eq_true rfl⟩ ⟨Nat.le_of_ble_eq_true rfl, Nat.le_of_ble_eq_true rfl⟩ ?_
            refine g_iload_n C dX6_mayBe_62 rfl ?_
            refine g_bipush (v := 8) C dX6_mayBe_63 (by decide) ?_
            refine g_callSr C (cr_X6_one) mw_X6_one ml_X6_103 rfl rfl (Nat.le_of_ble_eq_true rfl) dX6_mayBe_65 ⟨Nat.le_of_ble_eq_true rfl, Nat.le_of_ble_eq_true rfl⟩ ⟨Nat.le_of_ble_eq_true rfl, Nat.le_of_ble_eq_true rfl⟩ ?_
            refine g_iadd C dX6_mayBe_68 ?_
            refine g_iload_n C dX6_mayBe_69 rfl ?_
            refine g_bipush (v := 16) C dX6_mayBe_70 (by decide) ?_
            refine g_callSr C (cr_X6_one) mw_X6_one ml_X6_103 rfl rfl (Nat.le_of_ble_eq_true rfl) dX6_mayBe_72 ⟨Nat.le_of_ble_eq_true rfl, Nat.le_of_ble_eq_true rfl⟩ ⟨Nat.le_of_ble_eq_true rfl, Nat.le_of_ble_eq_true rfl⟩ ?_
            refine g_iadd C dX6_mayBe_75 ?_
            refine g_if_ne (tgt := 83) C dX6_mayBe_76 (by decide) (fun h76 => ?_) (fun h76 => ?_)
            · refine g_iconst (v := 0) C dX6_mayBe_83 (by decide) ?_
              exact g_zret C dX6_mayBe_84 nar_0 ⟨rt_f (by grind [mayB]), rfl⟩
            · refine g_iconst (v := 1) C dX6_mayBe_79 (by decide) ?_
              refine g_goto (tgt := 84) C dX6_mayBe_80 (by decide) ?_
              exact g_zret C dX6_mayBe_84 nar_1 ⟨rt_t (by grind [mayB]), rfl⟩
    · refine g_iconst (v := 0) C dX6_mayBe_32 (by decide) ?_
      exact g_zret C dX6_mayBe_33 nar_0 ⟨rt_f (by grind [mayB]), rfl⟩
set_option maxRecDepth 100000 in
set_option maxHeartbeats 4000000 in
theorem cr_X6_access {l : Launch} {D : va_G} {cI cZ : ClassId} {b : Nat → Nat} {τ : St} (hW : W0 τ) {x : Nat} (hx : x < nM τ) : Cr l yX6_access cX6_access 2 (some .int) 1 22 D cI cZ (pM b cI cZ) [.ref (b 0), .int (nI x)] τ (Acc τ x) := by
  refine Ct.of 0 (by decide) (by simp [Value.category]) (Nat.le_of_ble_eq_true rfl) ?_
  intro p e s m below meth c C
  have hTl := w0_tl hW
  have hMl := w0_ml hW
  refine g_aload_n C dX6_access_0 rfl ?_
  refine g_iload_n C dX6_access_1 rfl ?_
  refine g_iconst (v := 4) C dX6_access_2 (by decide) ?_
  refine g_callVr 0 C (cr_X6_has (by omega)) mw_X6_has ml_X6_100 rfl rfl rfl rfl (Nat.le_of_ble_eq_true rfl) dX6_access_3 ⟨Nat.le_of_ble_eq_true rfl, Nat.le_of_ble_eq_true rfl⟩ ⟨Nat.le_of_ble_eq_true rfl, Nat.le_of_ble_eq_true rfl⟩ ?_
  refine g_ifb_eq (tgt := 13) C dX6_access_6 (by decide) (fun h6 => ?_) (fun h6 => ?_)
  · refine g_aload_n C dX6_access_13 rfl ?_
    refine g_iload_n C dX6_access_14 rfl ?_
    refine g_iconst (v := 1) C dX6_access_15 (by decide) ?_
    refine g_callVr 0 C (cr_X6_has (by omega)) mw_X6_has ml_X6_100 rfl rfl rfl rfl (Nat.le_of_ble_eq_true rfl) dX6_access_16 ⟨Nat.le_of_ble_eq_true rfl, Nat.le_of_ble_eq_true rfl⟩ ⟨Nat.le_of_ble_eq_true rfl, Nat.le_of_ble_eq_true rfl⟩ ?_
    refine g_ifb_ne (tgt := 30) C dX6_access_19 (by decide) (fun h19 => ?_) (fun h19 => ?_)
    · refine g_iconst (v := 3) C dX6_access_30 (by decide) ?_
      refine g_goto (tgt := 48) C dX6_access_31 (by decide) ?_
      exact g_iret C dX6_access_48 ⟨rt_i (by simp [Acc, *]), rfl⟩
    · refine g_aload_n C dX6_access_22 rfl ?_
      refine g_iload_n C dX6_access_23 rfl ?_
      refine g_callVr 0 C (cr_X6_isInterface hW (by omega)) mw_X6_isInterface ml_X6_110 rfl rfl rfl rfl (Nat.le_of_ble_eq_true rfl) dX6_access_24 ⟨Nat.le_of_ble_eq_true rfl, Nat.le_of_ble_eq_true rfl⟩ ⟨Nat.le_of_ble_eq_true rfl, Nat.le_of_ble_eq_true rfl⟩ ?_
      refine g_ifb_eq (tgt := 34) C dX6_access_27 (by decide) (fun h27 => ?_) (fun h27 => ?_)
      · refine g_aload_n C dX6_access_34 rfl ?_
        refine g_iload_n C dX6_access_35 rfl ?_
        refine g_iconst (v := 2) C dX6_access_36 (by decide) ?_
        refine g_callVr 0 C (cr_X6_has (by omega)) mw_X6_has ml_X6_100 rfl rfl rfl rfl (Nat.le_of_ble_eq_true rfl) dX6_access_37 ⟨Nat.le_of_ble_eq_true rfl, Nat.le_of_ble_eq_true rfl⟩ ⟨Nat.le_of_ble_eq_true rfl, Nat.le_of_ble_eq_true rfl⟩ ?_
        refine g_ifb_eq (tgt := 47) C dX6_access_40 (by decide) (fun h40 => ?_) (fun h40 => ?_)
        · refine g_iconst (v := 1) C dX6_access_47 (by decide) ?_
          exact g_iret C dX6_access_48 ⟨rt_i (by simp [Acc, *]), rfl⟩
        · refine g_iconst (v := 2) C dX6_access_43 (by decide) ?_
          refine g_goto (tgt := 48) C dX6_access_44 (by decide) ?_
          exact g_iret C dX6_access_48 ⟨rt_i (by simp [Acc, *]), rfl⟩
      · refine g_iconst (v := 3) C dX6_access_30 (by decide) ?_
        refine g_goto (tgt := 48) C dX6_access_31 (by decide) ?_
        exact g_iret C dX6_access_48 ⟨rt_i (by simp [Acc, *]), rfl⟩
  · refine g_iconst (v := 0) C dX6_access_9 (by decide) ?_
    refine g_goto (tgt := 48) C dX6_access_10 (by decide) ?_
    exact g_iret C dX6_access_48 ⟨rt_i (by simp [Acc, *]), rfl⟩
set_option maxRecDepth 100000 in
set_option maxHeartbeats 4000000 in
theorem cr_X6_suits {l : Launch} {D : va_G} {cI cZ : ClassId} {b : Nat → Nat} {τ : St} (hW : W0 τ) {a z : Nat} (ha : a < 20) (hz : z < 20) : Cr l yX6_suits cX6_suits 3 (some .boolean) 2 44 D cI cZ (pM b cI cZ) [.ref (b 0), .int (nI a), .int (nI z)] τ (b2i (Sts τ a z)) := by
  refine Ct.of 0 (by decide) (by simp [Value.category]) (Nat.le_of_ble_eq_true rfl) ?_
  intro p e s m below meth c C
  refine g_iload_n C dX6_suits_0 rfl ?_
  refine g_iload_n C dX6_suits_1 rfl ?_
  refine g_icmpN_eq (tgt := 26) C (by omega) (by omega) dX6_suits_2 (by decide) (fun h2 => ?_) (fun h2 => ?_)
  · refine g_iconst (v := 1) C dX6_suits_26 (by decide) ?_
    refine g_goto (tgt := 31) C dX6_suits_27 (by decide) ?_
    exact g_zret C dX6_suits_31 nar_1 ⟨rt_t (by simp [Sts, *] <;> omega), rfl⟩
  · refine g_iload_n C dX6_suits_5 rfl ?_
    refine g_bipushN 16 C dX6_suits_6 (by decide) ?_
    refine g_icmpN_ge (tgt := 30) C (by omega) (by omega) dX6_suits_8 (by decide) (fun h8 => ?_) (fun h8 => ?_)
    · refine g_iconst (v := 0) C dX6_suits_30 (by decide) ?_
      exact g_zret C dX6_suits_31 nar_0 ⟨rt_f (by simp [Sts, *] <;> omega), rfl⟩
    · refine g_iload_n C dX6_suits_11 rfl ?_
      refine g_bipushN 16 C dX6_suits_12 (by decide) ?_
      refine g_icmpN_ge (tgt := 30) C (by omega) (by omega) dX6_suits_14 (by decide) (fun h14 => ?_) (fun h14 => ?_)
      · refine g_iconst (v := 0) C dX6_suits_30 (by decide) ?_
        exact g_zret C dX6_suits_31 nar_0 ⟨rt_f (by simp [Sts, *] <;> omega), rfl⟩
      · refine g_aload_n C dX6_suits_17 rfl ?_
        refine g_iload_n C dX6_suits_18 rfl ?_
        refine g_iload_n C dX6_suits_19 rfl ?_
        refine g_callVr 0 C (cr_X6_isSub hW (by omega) (by omega)) mw_X6_isSub ml_X6_94 rfl rfl rfl rfl (Nat.le_of_ble_eq_true rfl) dX6_suits_20 ⟨Nat.le_of_ble_eq_true rfl, Nat.le_of_ble_eq_true rfl⟩ ⟨Nat.le_of_ble_eq_true rfl, Nat.le_of_ble_eq_true rfl⟩ ?_
        refine g_ifb_eq (tgt := 30) C dX6_suits_23 (by decide) (fun h23 => ?_) (fun h23 => ?_)
        · refine g_iconst (v := 0) C dX6_suits_30 (by decide) ?_
          exact g_zret C dX6_suits_31 nar_0 ⟨rt_f (by simp [Sts, *] <;> omega), rfl⟩
        · refine g_iconst (v := 1) C dX6_suits_26 (by decide) ?_
          refine g_goto (tgt := 31) C dX6_suits_27 (by decide) ?_
          exact g_zret C dX6_suits_31 nar_1 ⟨rt_t (by simp [Sts, *] <;> omega), rfl⟩
set_option maxRecDepth 100000 in
set_option maxHeartbeats 4000000 in
theorem cr_X6_isSeen {l : Launch} {D : va_G} {cI cZ : ClassId} {b : Nat → Nat} {τ : St} (hW : W0 τ) {x o : Nat} (hx : x < nM τ) (ho : o < nM τ) : Cr l yX6_isSeen cX6_isSeen 3 (some .boolean) 2 43 D cI cZ (pM b cI cZ) [.ref (b 0), .int (nI x), .int (nI o)] τ (b2i (Seen τ x o)) := by
  refine Ct.of 0 (by decide) (by simp [Value.category]) (Nat.le_of_ble_eq_true rfl) ?_
  intro p e s m below meth c C
  have hTl := w0_tl hW
  have hMl := w0_ml hW
  have hof_x := w0_ofl hW hx
  have hof_o := w0_ofl hW ho
  refine g_aload_n C dX6_isSeen_0 rfl ?_
  refine g_iload_n C dX6_isSeen_1 rfl ?_
  refine g_callVr 0 C (cr_X6_access hW (by omega)) mw_X6_access ml_X6_113 rfl rfl rfl rfl (Nat.le_of_ble_eq_true rfl) dX6_isSeen_2 ⟨Nat.le_of_ble_eq_true rfl, Nat.le_of_ble_eq_true rfl⟩ ⟨Nat.le_of_ble_eq_true rfl, Nat.le_of_ble_eq_true rfl⟩ ?_
  refine g_iconst (v := 2) C dX6_isSeen_5 (by decide) ?_
  refine g_icmp_ge (tgt := 34) C dX6_isSeen_6 (by decide) (fun h6 => ?_) (fun h6 => ?_)
  · refine g_iconst (v := 1) C dX6_isSeen_34 (by decide) ?_
    refine g_goto (tgt := 39) C dX6_isSeen_35 (by decide) ?_
    exact g_zret C dX6_isSeen_39 nar_1 ⟨rt_t (by simp [Seen, *]), rfl⟩
  · refine g_aload_n C dX6_isSeen_9 rfl ?_
    refine gf_X6_13 C dX6_isSeen_10 ?_
    refine g_aload_n C dX6_isSeen_13 rfl ?_
    refine gf_X6_35 C dX6_isSeen_14 ?_
    refine g_iload_n C dX6_isSeen_17 rfl ?_
    refine gM_lv9 C (by omega) (w0_of hW (by omega)) dX6_isSeen_18 ?_
    refine gM_ln2 C (by omega) dX6_isSeen_19 ?_
    refine g_aload_n C dX6_isSeen_20 rfl ?_
    refine gf_X6_13 C dX6_isSeen_21 ?_
    refine g_aload_n C dX6_isSeen_24 rfl ?_
    refine gf_X6_35 C dX6_isSeen_25 ?_
    refine g_iload_n C dX6_isSeen_28 rfl ?_
    refine gM_lv9 C (by omega) (w0_of hW (by omega)) dX6_isSeen_29 ?_
    refine gM_ln2 C (by omega) dX6_isSeen_30 ?_
    refine g_icmp_ne (tgt := 38) C dX6_isSeen_31 (by decide) (fun h31 => ?_) (fun h31 => ?_)
    · refine g_iconst (v := 0) C dX6_isSeen_38 (by decide) ?_
      exact g_zret C dX6_isSeen_39 nar_0 ⟨rt_f (by simp [Seen, *]), rfl⟩
    · refine g_iconst (v := 1) C dX6_isSeen_34 (by decide) ?_
      refine g_goto (tgt := 39) C dX6_isSeen_35 (by decide) ?_
      exact g_zret C dX6_isSeen_39 nar_1 ⟨rt_t (by simp [Seen, *]), rfl⟩
set_option maxRecDepth 100000 in
set_option maxHeartbeats 4000000 in
theorem cr_X6_isOver {l : Launch} {D : va_G} {cI cZ : ClassId} {b : Nat → Nat} {τ : St} (hW : W0 τ) {x o : Nat} (hx : x < 60) (ho : o < 60) : Cr l yX6_isOver cX6_isOver 3 (some .boolean) 0 0 D cI cZ (pM b cI cZ) [.ref (b 0), .int (nI x), .int (nI o)] τ (b2i (Ov τ x o)) := by
  refine Ct.of 0 (by decide) (by simp [Value.category]) (Nat.le_of_ble_eq_true rfl) ?_
  intro p e s m below meth c C
  refine g_aload_n C dX6_isOver_0 rfl ?_
  refine gf_X6_50 C dX6_isOver_1 ?_
  refine g_bipushN 60 C dX6_isOver_4 (by decide) ?_
  refine g_iload_n C dX6_isOver_6 rfl ?_
  refine g_imulN C dX6_isOver_7 ?_
  refine g_iload_n C dX6_isOver_8 rfl ?_
  refine g_iaddN C dX6_isOver_9 ?_
  refine gM_lv14 C (by omega) (w0_b14 hW _) dX6_isOver_10 ?_
  exact g_zret C dX6_isOver_11 (b2i_nar _) ⟨rt_b (by rfl), rfl⟩
set_option maxRecDepth 100000 in
set_option maxHeartbeats 4000000 in
theorem cr_X6_hidesIt {l : Launch} {D : va_G} {cI cZ : ClassId} {b : Nat → Nat} {τ : St} (hW : W0 τ) {x o : Nat} (hx : x < nM τ) (ho : o < nM τ) : Cr l yX6_hidesIt cX6_hidesIt 3 (some .boolean) 3 65 D cI cZ (pM b cI cZ) [.ref (b 0), .int (nI x), .int (nI o)] τ (b2i (Hid τ x o)) := by
  refine Ct.of 0 (by decide) (by simp [Value.category]) (Nat.le_of_ble_eq_true rfl) ?_
  intro p e s m below meth c C
  have hTl := w0_tl hW
  have hMl := w0_ml hW
  have hof_x := w0_ofl hW hx
  have hof_o := w0_ofl hW ho
  refine g_aload_n C dX6_hidesIt_0 rfl ?_
  refine gf_X6_38 C dX6_hidesIt_1 ?_
  refine g_iload_n C dX6_hidesIt_4 rfl ?_
  refine gM_ln10 C (by omega) dX6_hidesIt_5 ?_
  refine g_aload_n C dX6_hidesIt_6 rfl ?_
  refine gf_X6_38 C dX6_hidesIt_7 ?_
  refine g_iload_n C dX6_hidesIt_10 rfl ?_
  refine gM_ln10 C (by omega) dX6_hidesIt_11 ?_
  refine g_icmp_ne (tgt := 79) C dX6_hidesIt_12 (by decide) (fun h12 => ?_) (fun h12 => ?_)
  · refine g_iconst (v := 0) C dX6_hidesIt_79 (by decide) ?_
    exact g_zret C dX6_hidesIt_80 nar_0 ⟨rt_f (by simp [Hid, *]), rfl⟩
  · refine g_aload_n C dX6_hidesIt_15 rfl ?_
    refine g_iload_n C dX6_hidesIt_16 rfl ?_
    refine g_callVr 0 C (cr_X6_isStatic (by omega)) mw_X6_isStatic ml_X6_117 rfl rfl rfl rfl (Nat.le_of_ble_eq_true rfl) dX6_hidesIt_17 ⟨Nat.le_of_ble_eq_true rfl, Nat.le_of_ble_eq_true rfl⟩ ⟨Nat.le_of_ble_eq_true rfl, Nat.le_of_ble_eq_true rfl⟩ ?_
    refine g_ifb_eq (tgt := 79) C dX6_hidesIt_20 (by decide) (fun h20 => ?_) (fun h20 => ?_)
    · refine g_iconst (v := 0) C dX6_hidesIt_79 (by decide) ?_
      exact g_zret C dX6_hidesIt_80 nar_0 ⟨rt_f (by simp [Hid, *]), rfl⟩
    · refine g_aload_n C dX6_hidesIt_23 rfl ?_
      refine g_iload_n C dX6_hidesIt_24 rfl ?_
      refine g_callVr 0 C (cr_X6_isStatic (by omega)) mw_X6_isStatic ml_X6_117 rfl rfl rfl rfl (Nat.le_of_ble_eq_true rfl) dX6_hidesIt_25 ⟨Nat.le_of_ble_eq_true rfl, Nat.le_of_ble_eq_true rfl⟩ ⟨Nat.le_of_ble_eq_true rfl, Nat.le_of_ble_eq_true rfl⟩ ?_
      refine g_ifb_eq (tgt := 79) C dX6_hidesIt_28 (by decide) (fun h28 => ?_) (fun h28 => ?_)
      · refine g_iconst (v := 0) C dX6_hidesIt_79 (by decide) ?_
        exact g_zret C dX6_hidesIt_80 nar_0 ⟨rt_f (by simp [Hid, *]), rfl⟩
      · refine g_aload_n C dX6_hidesIt_31 rfl ?_
        refine g_aload_n C dX6_hidesIt_32 rfl ?_
        refine gf_X6_35 C dX6_hidesIt_33 ?_
        refine g_iload_n C dX6_hidesIt_36 rfl ?_
        refine gM_lv9 C (by omega) (w0_of hW (by omega)) dX6_hidesIt_37 ?_
        refine g_aload_n C dX6_hidesIt_38 rfl ?_
        refine gf_X6_35 C dX6_hidesIt_39 ?_
        refine g_iload_n C dX6_hidesIt_42 rfl ?_
        refine gM_lv9 C (by omega) (w0_of hW (by omega)) dX6_hidesIt_43 ?_
        refine g_callVr 0 C (cr_X6_isBelow hW (by omega) (by omega)) mw_X6_isBelow ml_X6_90 rfl rfl rfl rfl (Nat.le_of_ble_eq_true rfl) dX6_hidesIt_44 ⟨Nat.le_of_ble_eq_true rfl, Nat.le_of_ble_eq_true rfl⟩ ⟨Nat.le_of_ble_eq_true rfl, Nat.le_of_ble_eq_true rfl⟩ ?_
        refine g_ifb_eq (tgt := 79) C dX6_hidesIt_47 (by decide) (fun h47 => ?_) (fun h47 => ?_)
        · refine g_iconst (v := 0) C dX6_hidesIt_79 (by decide) ?_
          exact g_zret C dX6_hidesIt_80 nar_0 ⟨rt_f (by simp [Hid, *]), rfl⟩
        · refine g_aload_n C dX6_hidesIt_50 rfl ?_
          refine g_iload_n C dX6_hidesIt_51 rfl ?_
          refine g_callVr 0 C (cr_X6_isInterface hW (by omega)) mw_X6_isInterface ml_X6_110 rfl rfl rfl rfl (Nat.le_of_ble_eq_true rfl) dX6_hidesIt_52 ⟨Nat.le_of_ble_eq_true rfl, Nat.le_of_ble_eq_true rfl⟩ ⟨Nat.le_of_ble_eq_true rfl, Nat.le_of_ble_eq_true rfl⟩ ?_
          refine g_ifb_ne (tgt := 79) C dX6_hidesIt_55 (by decide) (fun h55 => ?_) (fun h55 => ?_)
          · refine g_iconst (v := 0) C dX6_hidesIt_79 (by decide) ?_
            exact g_zret C dX6_hidesIt_80 nar_0 ⟨rt_f (by simp [Hid, *]), rfl⟩
          · refine g_aload_n C dX6_hidesIt_58 rfl ?_
            refine g_iload_n C dX6_hidesIt_59 rfl ?_
            refine g_callVr 0 C (cr_X6_isPrivate (by omega)) mw_X6_isPrivate ml_X6_120 rfl rfl rfl rfl (Nat.le_of_ble_eq_true rfl) dX6_hidesIt_60 ⟨Nat.le_of_ble_eq_true rfl, Nat.le_of_ble_eq_true rfl⟩ ⟨Nat.le_of_ble_eq_true rfl, Nat.le_of_ble_eq_true rfl⟩ ?_
            refine g_ifb_ne (tgt := 79) C dX6_hidesIt_63 (by decide) (fun h63 => ?_) (fun h63 => ?_)
            · refine g_iconst (v := 0) C dX6_hidesIt_79 (by decide) ?_
              exact g_zret C dX6_hidesIt_80 nar_0 ⟨rt_f (by simp [Hid, *]), rfl⟩
            · refine g_aload_n C dX6_hidesIt_66 rfl ?_
              refine g_iload_n C dX6_hidesIt_67 rfl ?_
              refine g_iload_n C dX6_hidesIt_68 rfl ?_
              refine g_callVr 0 C (cr_X6_isSeen hW (by omega) (by omega)) mw_X6_isSeen ml_X6_126 rfl rfl rfl rfl (Nat.le_of_ble_eq_true rfl) dX6_hidesIt_69 ⟨Nat.le_of_ble_eq_true rfl, Nat.le_of_ble_eq_true rfl⟩ ⟨Nat.le_of_ble_eq_true rfl, Nat.le_of_ble_eq_true rfl⟩ ?_
              refine g_ifb_eq (tgt := 79) C dX6_hidesIt_72 (by decide) (fun h72 => ?_) (fun h72 => ?_)
              · refine g_iconst (v := 0) C dX6_hidesIt_79 (by decide) ?_
                exact g_zret C dX6_hidesIt_80 nar_0 ⟨rt_f (by simp [Hid, *]), rfl⟩
              · refine g_iconst (v := 1) C dX6_hidesIt_75 (by decide) ?_
                refine g_goto (tgt := 80) C dX6_hidesIt_76 (by decide) ?_
                exact g_zret C dX6_hidesIt_80 nar_1 ⟨rt_t (by simp [Hid, *]), rfl⟩
set_option maxRecDepth 100000 in
set_option maxHeartbeats 4000000 in
theorem cr_X6_isMixed {l : Launch} {D : va_G} {cI cZ : ClassId} {b : Nat → Nat} {τ : St} (hW : W0 τ) {x o : Nat} (hx : x < nM τ) (ho : o < nM τ) : Cr l yX6_isMixed cX6_isMixed 4 (some .boolean) 3 65 D cI cZ (pM b cI cZ) [.ref (b 0), .int (nI x), .int (nI o)] τ (b2i (Mix τ x o)) := by
  refine Ct.of 1 (by decide) (by simp [Value.category]) (Nat.le_of_ble_eq_true rfl) ?_
  intro p e s m below meth c C
  have hTl := w0_tl hW
  have hMl := w0_ml hW
  have hof_x := w0_ofl hW hx
  have hof_o := w0_ofl hW ho
  refine g_aload_n C dX6_isMixed_0 rfl ?_
  refine gf_X6_38 C dX6_isMixed_1 ?_
  refine g_iload_n C dX6_isMixed_4 rfl ?_
  refine gM_ln10 C (by omega) dX6_isMixed_5 ?_
  refine g_aload_n C dX6_isMixed_6 rfl ?_
  refine gf_X6_38 C dX6_isMixed_7 ?_
  refine g_iload_n C dX6_isMixed_10 rfl ?_
  refine gM_ln10 C (by omega) dX6_isMixed_11 ?_
  refine g_icmp_ne (tgt := 59) C dX6_isMixed_12 (by decide) (fun h12 => ?_) (fun h12 => ?_)
  · refine g_iconst (v := 0) C dX6_isMixed_59 (by decide) ?_
    refine g_istore_n C dX6_isMixed_60 (by decide) ?_
    refine g_iload_n C dX6_isMixed_61 rfl ?_
    refine g_if_eq (tgt := 97) C dX6_isMixed_62 (by decide) (fun h62 => ?_) (fun h62 => ?_)
    · refine g_iconst (v := 0) C dX6_isMixed_97 (by decide) ?_
      exact g_zret C dX6_isMixed_98 nar_0 ⟨rt_f (by simp_all [Mix, b2i_inj]), rfl⟩
    · exact absurd h62 (by decide)
  · refine g_aload_n C dX6_isMixed_15 rfl ?_
    refine g_iload_n C dX6_isMixed_16 rfl ?_
    refine g_callVr 0 C (cr_X6_isStatic (by omega)) mw_X6_isStatic ml_X6_117 rfl rfl rfl rfl (Nat.le_of_ble_eq_true rfl) dX6_isMixed_17 ⟨Nat.le_of_ble_eq_true rfl, Nat.le_of_ble_eq_true rfl⟩ ⟨Nat.le_of_ble_eq_true rfl, Nat.le_of_ble_eq_true rfl⟩ ?_
    refine g_aload_n C dX6_isMixed_20 rfl ?_
    refine g_iload_n C dX6_isMixed_21 rfl ?_
    refine g_callVr 0 C (cr_X6_isStatic (by omega)) mw_X6_isStatic ml_X6_117 rfl rfl rfl rfl (Nat.le_of_ble_eq_true rfl) dX6_isMixed_22 ⟨Nat.le_of_ble_eq_true rfl, Nat.le_of_ble_eq_true rfl⟩ ⟨Nat.le_of_ble_eq_true rfl, Nat.le_of_ble_eq_true rfl⟩ ?_
    refine g_icmp_eq (tgt := 59) C dX6_isMixed_25 (by decide) (fun h25 => ?_) (fun h25 => ?_)
    · refine g_iconst (v := 0) C dX6_isMixed_59 (by decide) ?_
      refine g_istore_n C dX6_isMixed_60 (by decide) ?_
      refine g_iload_n C dX6_isMixed_61 rfl ?_
      refine g_if_eq (tgt := 97) C dX6_isMixed_62 (by decide) (fun h62 => ?_) (fun h62 => ?_)
      · refine g_iconst (v := 0) C dX6_isMixed_97 (by decide) ?_
        exact g_zret C dX6_isMixed_98 nar_0 ⟨rt_f (by simp_all [Mix, b2i_inj]), rfl⟩
      · exact absurd h62 (by decide)
    · refine g_aload_n C dX6_isMixed_28 rfl ?_
      refine g_aload_n C dX6_isMixed_29 rfl ?_
      refine gf_X6_35 C dX6_isMixed_30 ?_
      refine g_iload_n C dX6_isMixed_33 rfl ?_
      refine gM_lv9 C (by omega) (w0_of hW (by omega)) dX6_isMixed_34 ?_
      refine g_aload_n C dX6_isMixed_35 rfl ?_
      refine gf_X6_35 C dX6_isMixed_36 ?_
      refine g_iload_n C dX6_isMixed_39 rfl ?_
      refine gM_lv9 C (by omega) (w0_of hW (by omega)) dX6_isMixed_40 ?_
      refine g_callVr 0 C (cr_X6_isBelow hW (by omega) (by omega)) mw_X6_isBelow ml_X6_90 rfl rfl rfl rfl (Nat.le_of_ble_eq_true rfl) dX6_isMixed_41 ⟨Nat.le_of_ble_eq_true rfl, Nat.le_of_ble_eq_true rfl⟩ ⟨Nat.le_of_ble_eq_true rfl, Nat.le_of_ble_eq_true rfl⟩ ?_
      refine g_ifb_eq (tgt := 59) C dX6_isMixed_44 (by decide) (fun h44 => ?_) (fun h44 => ?_)
      · refine g_iconst (v := 0) C dX6_isMixed_59 (by decide) ?_
        refine g_istore_n C dX6_isMixed_60 (by decide) ?_
        refine g_iload_n C dX6_isMixed_61 rfl ?_
        refine g_if_eq (tgt := 97) C dX6_isMixed_62 (by decide) (fun h62 => ?_) (fun h62 => ?_)
        · refine g_iconst (v := 0) C dX6_isMixed_97 (by decide) ?_
          exact g_zret C dX6_isMixed_98 nar_0 ⟨rt_f (by simp_all [Mix, b2i_inj]), rfl⟩
        · exact absurd h62 (by decide)
      · refine g_aload_n C dX6_isMixed_47 rfl ?_
        refine g_iload_n C dX6_isMixed_48 rfl ?_
        refine g_callVr 0 C (cr_X6_isPrivate (by omega)) mw_X6_isPrivate ml_X6_120 rfl rfl rfl rfl (Nat.le_of_ble_eq_true rfl) dX6_isMixed_49 ⟨Nat.le_of_ble_eq_true rfl, Nat.le_of_ble_eq_true rfl⟩ ⟨Nat.le_of_ble_eq_true rfl, Nat.le_of_ble_eq_true rfl⟩ ?_
        refine g_ifb_ne (tgt := 59) C dX6_isMixed_52 (by decide) (fun h52 => ?_) (fun h52 => ?_)
        · refine g_iconst (v := 0) C dX6_isMixed_59 (by decide) ?_
          refine g_istore_n C dX6_isMixed_60 (by decide) ?_
          refine g_iload_n C dX6_isMixed_61 rfl ?_
          refine g_if_eq (tgt := 97) C dX6_isMixed_62 (by decide) (fun h62 => ?_) (fun h62 => ?_)
          · refine g_iconst (v := 0) C dX6_isMixed_97 (by decide) ?_
            exact g_zret C dX6_isMixed_98 nar_0 ⟨rt_f (by simp_all [Mix, b2i_inj]), rfl⟩
          · exact absurd h62 (by decide)
        · refine g_iconst (v := 1) C dX6_isMixed_55 (by decide) ?_
          refine g_goto (tgt := 60) C dX6_isMixed_56 (by decide) ?_
          refine g_istore_n C dX6_isMixed_60 (by decide) ?_
          refine g_iload_n C dX6_isMixed_61 rfl ?_
          refine g_if_eq (tgt := 97) C dX6_isMixed_62 (by decide) (fun h62 => ?_) (fun h62 => ?_)
          · exact absurd h62 (by decide)
          · refine g_aload_n C dX6_isMixed_65 rfl ?_
            refine g_iload_n C dX6_isMixed_66 rfl ?_
            refine g_callVr 0 C (cr_X6_isInterface hW (by omega)) mw_X6_isInterface ml_X6_110 rfl rfl rfl rfl (Nat.le_of_ble_eq_true rfl) dX6_isMixed_67 ⟨Nat.le_of_ble_eq_true rfl, Nat.le_of_ble_eq_true rfl⟩ ⟨Nat.le_of_ble_eq_true rfl, Nat.le_of_ble_eq_true rfl⟩ ?_
            refine g_ifb_eq (tgt := 84) C dX6_isMixed_70 (by decide) (fun h70 => ?_) (fun h70 => ?_)
            · refine g_aload_n C dX6_isMixed_84 rfl ?_
              refine g_iload_n C dX6_isMixed_85 rfl ?_
              refine g_iload_n C dX6_isMixed_86 rfl ?_
              refine g_callVr 0 C (cr_X6_isSeen hW (by omega) (by omega)) mw_X6_isSeen ml_X6_126 rfl rfl rfl rfl (Nat.le_of_ble_eq_true rfl) dX6_isMixed_87 ⟨Nat.le_of_ble_eq_true rfl, Nat.le_of_ble_eq_true rfl⟩ ⟨Nat.le_of_ble_eq_true rfl, Nat.le_of_ble_eq_true rfl⟩ ?_
              refine g_ifb_eq (tgt := 97) C dX6_isMixed_90 (by decide) (fun h90 => ?_) (fun h90 => ?_)
              · refine g_iconst (v := 0) C dX6_isMixed_97 (by decide) ?_
                exact g_zret C dX6_isMixed_98 nar_0 ⟨rt_f (by simp_all [Mix, b2i_inj]), rfl⟩
              · refine g_iconst (v := 1) C dX6_isMixed_93 (by decide) ?_
                refine g_goto (tgt := 98) C dX6_isMixed_94 (by decide) ?_
                exact g_zret C dX6_isMixed_98 nar_1 ⟨rt_t (by simp_all [Mix, b2i_inj]), rfl⟩
            · refine g_aload_n C dX6_isMixed_73 rfl ?_
              refine g_iload_n C dX6_isMixed_74 rfl ?_
              refine g_callVr 0 C (cr_X6_isStatic (by omega)) mw_X6_isStatic ml_X6_117 rfl rfl rfl rfl (Nat.le_of_ble_eq_true rfl) dX6_isMixed_75 ⟨Nat.le_of_ble_eq_true rfl, Nat.le_of_ble_eq_true rfl⟩ ⟨Nat.le_of_ble_eq_true rfl, Nat.le_of_ble_eq_true rfl⟩ ?_
              refine g_ifb_ne (tgt := 97) C dX6_isMixed_78 (by decide) (fun h78 => ?_) (fun h78 => ?_)
              · refine g_iconst (v := 0) C dX6_isMixed_97 (by decide) ?_
                exact g_zret C dX6_isMixed_98 nar_0 ⟨rt_f (by simp_all [Mix, b2i_inj]), rfl⟩
              · refine g_goto (tgt := 93) C dX6_isMixed_81 (by decide) ?_
                refine g_iconst (v := 1) C dX6_isMixed_93 (by decide) ?_
                refine g_goto (tgt := 98) C dX6_isMixed_94 (by decide) ?_
                exact g_zret C dX6_isMixed_98 nar_1 ⟨rt_t (by simp_all [Mix, b2i_inj]), rfl⟩
set_option maxRecDepth 100000 in
set_option maxHeartbeats 4000000 in
theorem cr_X6_isPlain {l : Launch} {D : va_G} {cI cZ : ClassId} {b : Nat → Nat} {τ : St} {m0 : Nat} (hm : m0 < 60) : Cr l yX6_isPlain cX6_isPlain 2 (some .boolean) 2 43 D cI cZ (pM b cI cZ) [.ref (b 0), .int (nI m0)] τ (b2i (Pln τ m0)) := by
  refine Ct.of 0 (by decide) (by simp [Value.category]) (Nat.le_of_ble_eq_true rfl) ?_
  intro p e s m below meth c C
  refine g_aload_n C dX6_isPlain_0 rfl ?_
  refine g_iload_n C dX6_isPlain_1 rfl ?_
  refine g_callVr 0 C (cr_X6_isStatic (by omega)) mw_X6_isStatic ml_X6_117 rfl rfl rfl rfl (Nat.le_of_ble_eq_true rfl) dX6_isPlain_2 ⟨Nat.le_of_ble_eq_true rfl, Nat.le_of_ble_eq_true rfl⟩ ⟨Nat.le_of_ble_eq_true rfl, Nat.le_of_ble_eq_true rfl⟩ ?_
  refine g_ifb_ne (tgt := 20) C dX6_isPlain_5 (by decide) (fun h5 => ?_) (fun h5 => ?_)
  · refine g_iconst (v := 0) C dX6_isPlain_20 (by decide) ?_
    exact g_zret C dX6_isPlain_21 nar_0 ⟨rt_f (by simp [Pln, *]), rfl⟩
  · refine g_aload_n C dX6_isPlain_8 rfl ?_
    refine g_iload_n C dX6_isPlain_9 rfl ?_
    refine g_callVr 0 C (cr_X6_isPrivate (by omega)) mw_X6_isPrivate ml_X6_120 rfl rfl rfl rfl (Nat.le_of_ble_eq_true rfl) dX6_isPlain_10 ⟨Nat.le_of_ble_eq_true rfl, Nat.le_of_ble_eq_true rfl⟩ ⟨Nat.le_of_ble_eq_true rfl, Nat.le_of_ble_eq_true rfl⟩ ?_
    refine g_ifb_ne (tgt := 20) C dX6_isPlain_13 (by decide) (fun h13 => ?_) (fun h13 => ?_)
    · refine g_iconst (v := 0) C dX6_isPlain_20 (by decide) ?_
      exact g_zret C dX6_isPlain_21 nar_0 ⟨rt_f (by simp [Pln, *]), rfl⟩
    · refine g_iconst (v := 1) C dX6_isPlain_16 (by decide) ?_
      refine g_goto (tgt := 21) C dX6_isPlain_17 (by decide) ?_
      exact g_zret C dX6_isPlain_21 nar_1 ⟨rt_t (by simp [Pln, *]), rfl⟩

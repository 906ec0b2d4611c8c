/-! ===== the class: counts, marks ===== -/
theorem cntN_cut {f : Nat → Bool} {a : Nat} : ∀ (n : Nat), a ≤ n → (∀ x, a ≤ x → x < n → f x = false) → cntN n f = cntN a f
  | 0, h, _ => by rw [Nat.le_zero.mp h]
  | n + 1, h, hf => by
    by_cases e : a = n + 1
    · rw [e]
    · have ih := cntN_cut (f := f) (a := a) n (by omega) (fun x h1 h2 => hf x h1 (by omega))
      have h0 := hf n (by omega) (by omega)
      simp only [cntN]
      rw [ih, h0]; rfl
theorem cnt_add {g : Nat → Bool} {j : Nat} (hg : g j = false) : ∀ (N : Nat), j < N → cntN N (fun i => g i || decide (j = i)) = cntN N g + 1
  | 0, h => by omega
  | n + 1, h => by
    simp only [cntN]
    by_cases e : j = n
    · subst e
      have : cntN j (fun i => g i || decide (j = i)) = cntN j g := cntN_congr (fun x hx => by simp [show ¬ j = x by omega])
      rw [this, hg]; simp
    · have ih := cnt_add hg n (by omega)
      rw [ih]
      simp only [e, decide_false, Bool.or_false]
      omega
theorem cnt_img {fc : Nat → Nat} : ∀ (n : Nat), (∀ k, k < n → fc k < 32) → (∀ k k', k < n → k' < n → fc k = fc k' → k = k') → cntN 32 (fun i => anyN n (fun k => decide (fc k = i))) = n
  | 0, _, _ => by
    have : cntN 32 (fun i => anyN 0 (fun k => decide (fc k = i))) = cntN 0 (fun i => anyN 0 (fun k => decide (fc k = i))) := cntN_cut 32 (by omega) (fun x _ _ => rfl)
    rw [this]; rfl
  | n + 1, h1, h2 => by
    have ih := cnt_img n (fun k hk => h1 k (by omega)) (fun k k' hk hk' => h2 k k' (by omega) (by omega))
    have hg : (fun i => anyN n (fun k => decide (fc k = i))) (fc n) = false := anyN_f (fun k hk => by
      have : ¬ fc k = fc n := fun q => by have := h2 k n (by omega) (by omega) q; omega
      simp [this])
    have := cnt_add (g := fun i => anyN n (fun k => decide (fc k = i))) hg 32 (h1 n (by omega))
    rw [ih] at this
    exact this
theorem br_skip {A B : Bool} {v r x : Nat} (h : r = x) : (A && !decide (v = x)) = ((A || (B && decide (r = v))) && !decide (v = x)) := by
  subst h
  by_cases e : v = r
  · simp [e]
  · simp [e, show ¬ r = v from fun q => e q.symm]
theorem br_put {A : Bool} {v r x : Nat} (h : ¬ r = x) : ((A && !decide (v = x)) || decide (v = r)) = ((A || decide (r = v)) && !decide (v = x)) := by
  by_cases e : v = r
  · subst e; simp [h]
  · simp [e, show ¬ r = v from fun q => e q.symm]
theorem g_mmin {p : Program} {l : Launch} {e : Env} {R : Room} {s : State} {m : MethodId} {args : Array Value} {below : List Frame} {meth : Method} {c : Code} {D : va_G} {A : Nat → Prop} {kc ks : Nat} {Q : State → Prop} {nL : Nat} {ws : va_W} {pc : Nat} {lv : List (Option Value)} {st : List Value} {cc : ByteArray} {ret : Option FieldType} {cI cZ : ClassId} {x y : Int32} (C : Cx p s m args meth c cc nL RX0 ret D cI cZ A) (hd : decode cc pc = .ok (.invokestatic 67, 3)) (hf : 1 ≤ R.frames) (hl : (st.map fun v => v.category).sum + 13 ≤ R.locals) (hc : kc ≤ R.cells) (hs : ks ≤ R.slots) (kk : G p l e R s m args below meth c D A kc ks Q nL ws (pc + 3) lv (.int (if y < x then y else x) :: st)) : G p l e R s m args below meth c D A kc ks Q nL ws pc lv (.int y :: .int x :: st) :=
  fun H locs ls hP hD hS hlh => va_mmin C.1 C.2.1 (C.2.2.1.trans hlh.1.1.symm) C.2.2.2.1 (C.2.2.2.2.1 _ ml_X0_67) (C.2.2.2.2.1 _ sm_J9_min_7cf53) (C.2.2.2.2.1 _ in_J9) (C.2.2.2.2.1 _ co_J9_min_7cf53) hf hl hc hs hd (kk H locs ls hP hD hS hlh)
def clM (v : Int32) : Bool := decide (v &&& 64 = 0) && (decide (v &&& 32 = 0) || decide (v &&& 28 = 0))
def ifM (v : Int32) : Bool := decide (v &&& 18 = 0) && (decide (pcI (v &&& 108) = 1) || decide (v &&& 108 = 12))
def arM (q : Bool) (v : Int32) : Bool := decide (0 ≤ v) && decide (v ≤ 255) && decide (pcI (v &&& 7) ≤ 1) && (bif q then ifM v else clM v)
theorem may_256 : ∀ n, n < 256 → arM false (nI n) = mayB 0 (nI n) ∧ arM false (nI n) = mayB 1 (nI n) ∧ arM true (nI n) = mayB 2 (nI n) := by decide +kernel
theorem arM_ok {kd v : Int32} (hk : kd = 0 ∨ kd = 1 ∨ kd = 2) : arM (decide (kd = 2)) v = mayB kd v := by
  by_cases h : 0 ≤ v ∧ v ≤ 255
  · obtain ⟨j, hj, rfl⟩ := nI_of2 (M := 255) (n := 255) (by decide) (Int32.not_lt.mpr h.1) h.2
    obtain ⟨a, b, c⟩ := may_256 j (by omega)
    rcases hk with rfl | rfl | rfl
    · exact a
    · exact b
    · exact c
  · have e1 : arM (decide (kd = 2)) v = false := by
      by_cases h0 : 0 ≤ v
      · have : ¬ v ≤ 255 := fun q => h ⟨h0, q⟩
        simp [arM, this]
      · simp [arM, h0]
    have e2 : mayB kd v = false := by
      by_cases h0 : 0 ≤ v
      · have : ¬ v ≤ 255 := fun q => h ⟨h0, q⟩
        simp [mayB, inB, this]
      · simp [mayB, inB, h0]
    rw [e1, e2]
theorem miss_ok {τ : St} (hW : W0 τ) (r : Int32) : (decide (0 ≤ r) && decide (r < 16) && !isT τ r) = inB r (τ 0 0) 15 := by
  have hTl := w0_tl hW
  rw [w0_t hW]
  by_cases h0 : 0 ≤ r
  · obtain ⟨j, hj, rfl⟩ := nI_of (Int32.not_lt.mpr h0)
    have e15 : (15 : Int32) = nI 15 := by decide
    have e16 : (16 : Int32) = nI 16 := by decide
    rw [inB, e15, e16]
    by_cases h16 : j < 16
    · have a1 : nI j < nI 16 := nI_lt h16 (by omega)
      have a2 : nI j ≤ nI 15 := nI_le (by omega) (by omega)
      by_cases ht : j < nT τ
      · rw [isT_nI hW ht]
        have : ¬ nI (nT τ) ≤ nI j := nI_ge ht (by omega)
        simp [this]
      · have h2 : nI (nT τ) ≤ nI j := nI_le (by omega) (by omega)
        have h3 : isT τ (nI j) = false := by
          rw [isT, w0_t hW, inB_lt (by omega)]
          simp [nI_nlt (a := j) (b := nT τ) (by omega) hj]
        rw [h3]
        simp [h0, a1, a2, h2]
    · have a1 : ¬ nI j < nI 16 := nI_nlt (by omega) hj
      have a2 : ¬ nI j ≤ nI 15 := nI_ge (by omega) (by omega)
      simp [a1, a2]
  · have : ¬ nI (nT τ) ≤ r := fun q => h0 (Int32.le_trans (nI_pos' (n := nT τ) (by omega)) q)
    simp [h0, inB, this]
set_option maxRecDepth 100000 in
set_option maxHeartbeats 4000000 in
theorem cr_X5_areClassMarks {l : Launch} {D : va_G} {cI cZ : ClassId} {pic : St → va_W} {σ : St} {v : Int32} : Cr l yX5_areClassMarks cX5_areClassMarks 1 (some .boolean) 0 0 D cI cZ (pic) [.int v] σ (b2i (clM v)) := by
  refine Ct.of 0 (by decide) (by simp [Value.category]) (Nat.le_of_ble_eq_true rfl) ?_
  intro p e s m below meth c C
  refine g_iload_n C dX5_areClassMarks_0 rfl ?_
  refine g_bipush (v := 64) C dX5_areClassMarks_1 (by decide) ?_
  refine g_iand C dX5_areClassMarks_3 ?_
  refine g_if_eq (tgt := 9) C dX5_areClassMarks_4 (by decide) (fun h4 => ?_) (fun h4 => ?_)
  · refine g_iload_n C dX5_areClassMarks_9 rfl ?_
    refine g_bipush (v := 32) C dX5_areClassMarks_10 (by decide) ?_
    refine g_iand C dX5_areClassMarks_12 ?_
    refine g_if_eq (tgt := 23) C dX5_areClassMarks_13 (by decide) (fun h13 => ?_) (fun h13 => ?_)
    · refine g_iconst (v := 1) C dX5_areClassMarks_23 (by decide) ?_
      refine g_goto (tgt := 28) C dX5_areClassMarks_24 (by decide) ?_
      exact g_zret C dX5_areClassMarks_28 nar_1 ⟨rt_t (by simp [clM, *]), rfl⟩
    · refine g_iload_n C dX5_areClassMarks_16 rfl ?_
      refine g_bipush (v := 28) C dX5_areClassMarks_17 (by decide) ?_
      refine g_iand C dX5_areClassMarks_19 ?_
      refine g_if_ne (tgt := 27) C dX5_areClassMarks_20 (by decide) (fun h20 => ?_) (fun h20 => ?_)
      · refine g_iconst (v := 0) C dX5_areClassMarks_27 (by decide) ?_
        exact g_zret C dX5_areClassMarks_28 nar_0 ⟨rt_f (by simp [clM, *]), rfl⟩
      · refine g_iconst (v := 1) C dX5_areClassMarks_23 (by decide) ?_
        refine g_goto (tgt := 28) C dX5_areClassMarks_24 (by decide) ?_
        exact g_zret C dX5_areClassMarks_28 nar_1 ⟨rt_t (by simp [clM, *]), rfl⟩
  · refine g_iconst (v := 0) C dX5_areClassMarks_7 (by decide) ?_
    exact g_zret C dX5_areClassMarks_8 nar_0 ⟨rt_f (by simp [clM, *]), rfl⟩
set_option maxRecDepth 100000 in
set_option maxHeartbeats 4000000 in
theorem cr_X5_areInterfaceMarks {l : Launch} {D : va_G} {cI cZ : ClassId} {pic : St → va_W} {σ : St} {v : Int32} : Cr l yX5_areInterfaceMarks cX5_areInterfaceMarks 2 (some .boolean) 1 20 D cI cZ (pic) [.int v] σ (b2i (ifM v)) := by
  refine Ct.of 1 (by decide) (by simp [Value.category]) (Nat.le_of_ble_eq_true rfl) ?_
  intro p e s m below meth c C
  refine g_iload_n C dX5_areInterfaceMarks_0 rfl ?_
  refine g_bipush (v := 18) C dX5_areInterfaceMarks_1 (by decide) ?_
  refine g_iand C dX5_areInterfaceMarks_3 ?_
  refine g_if_eq (tgt := 9) C dX5_areInterfaceMarks_4 (by decide) (fun h4 => ?_) (fun h4 => ?_)
  · refine g_iload_n C dX5_areInterfaceMarks_9 rfl ?_
    refine g_bipush (v := 108) C dX5_areInterfaceMarks_10 (by decide) ?_
    refine g_iand C dX5_areInterfaceMarks_12 ?_
    refine g_istore_n C dX5_areInterfaceMarks_13 (by decide) ?_
    refine g_iload_n C dX5_areInterfaceMarks_14 rfl ?_
    refine g_callSr C (cr_J6_bitCount) mw_J6_bitCount_0f7a4 ml_X5_148 rfl rfl (Nat.le_of_ble_eq_true rfl) dX5_areInterfaceMarks_15 ⟨Nat.le_of_ble_eq_true rfl, Nat.le_of_ble_eq_true rfl⟩ ⟨Nat.le_of_ble_eq_true rfl, Nat.le_of_ble_eq_true rfl⟩ ?_
    refine g_iconst (v := 1) C dX5_areInterfaceMarks_18 (by decide) ?_
    refine g_icmp_eq (tgt := 28) C dX5_areInterfaceMarks_19 (by decide) (fun h19 => ?_) (fun h19 => ?_)
    · refine g_iconst (v := 1) C dX5_areInterfaceMarks_28 (by decide) ?_
      refine g_goto (tgt := 33) C dX5_areInterfaceMarks_29 (by decide) ?_
      exact g_zret C dX5_areInterfaceMarks_33 nar_1 ⟨rt_t (by simp [ifM, *]), rfl⟩
    · refine g_iload_n C dX5_areInterfaceMarks_22 rfl ?_
      refine g_bipush (v := 12) C dX5_areInterfaceMarks_23 (by decide) ?_
      refine g_icmp_ne (tgt := 32) C dX5_areInterfaceMarks_25 (by decide) (fun h25 => ?_) (fun h25 => ?_)
      · refine g_iconst (v := 0) C dX5_areInterfaceMarks_32 (by decide) ?_
        exact g_zret C dX5_areInterfaceMarks_33 nar_0 ⟨rt_f (by simp [ifM, *]), rfl⟩
      · refine g_iconst (v := 1) C dX5_areInterfaceMarks_28 (by decide) ?_
        refine g_goto (tgt := 33) C dX5_areInterfaceMarks_29 (by decide) ?_
        exact g_zret C dX5_areInterfaceMarks_33 nar_1 ⟨rt_t (by simp [ifM, *]), rfl⟩
  · refine g_iconst (v := 0) C dX5_areInterfaceMarks_7 (by decide) ?_
    exact g_zret C dX5_areInterfaceMarks_8 nar_0 ⟨rt_f (by simp [ifM, *]), rfl⟩
set_option maxRecDepth 100000 in
set_option maxHeartbeats 4000000 in
theorem cr_X5_areMarks {l : Launch} {D : va_G} {cI cZ : ClassId} {pic : St → va_W} {σ : St} {q : Bool} {v : Int32} : Cr l yX5_areMarks cX5_areMarks 2 (some .boolean) 2 41 D cI cZ (pic) [.int (b2i q), .int v] σ (b2i (arM q v)) := by
  refine Ct.of 0 (by decide) (by simp [Value.category]) (Nat.le_of_ble_eq_true rfl) ?_
  intro p e s m below meth c C
  refine g_iload_n C dX5_areMarks_0 rfl ?_
  refine g_if_lt (tgt := 11) C dX5_areMarks_1 (by decide) (fun h1 => ?_) (fun h1 => ?_)
  · refine g_iconst (v := 0) C dX5_areMarks_11 (by decide) ?_
    exact g_zret C dX5_areMarks_12 nar_0 ⟨rt_f (by simp [arM, Int32.not_le.mpr h1]), rfl⟩
  · refine g_iload_n C dX5_areMarks_4 rfl ?_
    refine g_sipush (v := 255) C dX5_areMarks_5 (by decide) ?_
    refine g_icmp_le (tgt := 13) C dX5_areMarks_8 (by decide) (fun h8 => ?_) (fun h8 => ?_)
    · refine g_iload_n C dX5_areMarks_13 rfl ?_
      refine g_bipush (v := 7) C dX5_areMarks_14 (by decide) ?_
      refine g_iand C dX5_areMarks_16 ?_
      refine g_callSr C (cr_J6_bitCount) mw_J6_bitCount_0f7a4 ml_X5_148 rfl rfl (Nat.le_of_ble_eq_true rfl) dX5_areMarks_17 ⟨Nat.le_of_ble_eq_true rfl, Nat.le_of_ble_eq_true rfl⟩ ⟨Nat.le_of_ble_eq_true rfl, Nat.le_of_ble_eq_true rfl⟩ ?_
      refine g_iconst (v := 1) C dX5_areMarks_20 (by decide) ?_
      refine g_icmp_le (tgt := 26) C dX5_areMarks_21 (by decide) (fun h21 => ?_) (fun h21 => ?_)
      · refine g_iload_n C dX5_areMarks_26 rfl ?_
        refine g_ifb_eq (tgt := 37) C dX5_areMarks_27 (by decide) (fun h27 => ?_) (fun h27 => ?_)
        · refine g_iload_n C dX5_areMarks_37 rfl ?_
          refine g_callSr C (cr_X5_areClassMarks) mw_X5_areClassMarks ml_X5_156 rfl rfl (Nat.le_of_ble_eq_true rfl) dX5_areMarks_38 ⟨Nat.le_of_ble_eq_true rfl, Nat.le_of_ble_eq_true rfl⟩ ⟨Nat.le_of_ble_eq_true rfl, Nat.le_of_ble_eq_true rfl⟩ ?_
          exact g_zret C dX5_areMarks_41 (b2i_nar _) ⟨rt_b (by simp [arM, Int32.not_lt.mp h1, h8, h21, h27]), rfl⟩
        · refine g_iload_n C dX5_areMarks_30 rfl ?_
          refine g_callSr C (cr_X5_areInterfaceMarks) mw_X5_areInterfaceMarks ml_X5_153 rfl rfl (Nat.le_of_ble_eq_true rfl) dX5_areMarks_31 ⟨Nat.le_of_ble_eq_true rfl, Nat.le_of_ble_eq_true rfl⟩ ⟨Nat.le_of_ble_eq_true rfl, Nat.le_of_ble_eq_true rfl⟩ ?_
          refine g_goto (tgt := 41) C dX5_areMarks_34 (by decide) ?_
          exact g_zret C dX5_areMarks_41 (b2i_nar _) ⟨rt_b (by simp [arM, Int32.not_lt.mp h1, h8, h21, h27]), rfl⟩
      · refine g_iconst (v := 0) C dX5_areMarks_24 (by decide) ?_
        exact g_zret C dX5_areMarks_25 nar_0 ⟨rt_f (by simp [arM, h21]), rfl⟩
    · refine g_iconst (v := 0) C dX5_areMarks_11 (by decide) ?_
      exact g_zret C dX5_areMarks_12 nar_0 ⟨rt_f (by simp [arM, h8]), rfl⟩
set_option maxRecDepth 100000 in
set_option maxHeartbeats 4000000 in
theorem cr_X5_isMissingType {l : Launch} {D : va_G} {cI cZ : ClassId} {b : Nat → Nat} {τ σ : St} (hI : Inv τ σ) {x : Int32} : Cr l yX5_isMissingType cX5_isMissingType 2 (some .boolean) 1 21 D cI cZ (pX b cI cZ) [.ref (b 0), .int x] σ (b2i (inB x (τ 0 0) 15)) := by
  refine Ct.of 0 (by decide) (by simp [Value.category]) (Nat.le_of_ble_eq_true rfl) ?_
  intro p e s m below meth c C
  have hTl := w0_tl (iW hI)
  have hMl := w0_ml (iW hI)
  have hXl := w0_xl (iW hI)
  refine g_iload_n C dX5_isMissingType_0 rfl ?_
  refine g_if_lt (tgt := 25) C dX5_isMissingType_1 (by decide) (fun h1 => ?_) (fun h1 => ?_)
  · refine g_iconst (v := 0) C dX5_isMissingType_25 (by decide) ?_
    exact g_zret C dX5_isMissingType_26 nar_0 ⟨rt_f (by rw [← miss_ok (iW hI)]; simp [Int32.not_le.mpr h1]), rfl⟩
  · refine g_iload_n C dX5_isMissingType_4 rfl ?_
    refine g_bipush (v := 16) C dX5_isMissingType_5 (by decide) ?_
    refine g_icmp_ge (tgt := 25) C dX5_isMissingType_7 (by decide) (fun h7 => ?_) (fun h7 => ?_)
    · refine g_iconst (v := 0) C dX5_isMissingType_25 (by decide) ?_
      exact g_zret C dX5_isMissingType_26 nar_0 ⟨rt_f (by rw [← miss_ok (iW hI)]; simp [Int32.not_lt.mpr h7]), rfl⟩
    · refine g_aload_n C dX5_isMissingType_10 rfl ?_
      refine gf_X5_10 C dX5_isMissingType_11 ?_
      refine g_iload_n C dX5_isMissingType_14 rfl ?_
      refine g_callVr 1 C (cr_X4_has hI) mw_X4_has ml_X5_59 rfl rfl rfl rfl (Nat.le_of_ble_eq_true rfl) dX5_isMissingType_15 ⟨Nat.le_of_ble_eq_true rfl, Nat.le_of_ble_eq_true rfl⟩ ⟨Nat.le_of_ble_eq_true rfl, Nat.le_of_ble_eq_true rfl⟩ ?_
      refine g_ifb_ne (tgt := 25) C dX5_isMissingType_18 (by decide) (fun h18 => ?_) (fun h18 => ?_)
      · refine g_iconst (v := 0) C dX5_isMissingType_25 (by decide) ?_
        exact g_zret C dX5_isMissingType_26 nar_0 ⟨rt_f (by rw [← miss_ok (iW hI)]; simp [Int32.not_lt.mp h1, Int32.not_le.mp h7, h18]), rfl⟩
      · refine g_iconst (v := 1) C dX5_isMissingType_21 (by decide) ?_
        refine g_goto (tgt := 26) C dX5_isMissingType_22 (by decide) ?_
        exact g_zret C dX5_isMissingType_26 nar_1 ⟨rt_t (by rw [← miss_ok (iW hI)]; simp [Int32.not_lt.mp h1, Int32.not_le.mp h7, h18]), rfl⟩
set_option maxRecDepth 100000 in
set_option maxHeartbeats 4000000 in
theorem cr_X4_countFaces {l : Launch} {D : va_G} {cI cZ : ClassId} {b : Nat → Nat} {τ σ : St} (hI : Inv τ σ) {t : Nat} (ht : t < nT τ) : Cr l yX4_countFaces cX4_countFaces 2 (some .int) 1 20 D cI cZ (pX b cI cZ) [.ref (b 1), .int (nI t)] σ (nI (nF τ t)) := by
  refine Ct.of 0 (by decide) (by simp [Value.category]) (Nat.le_of_ble_eq_true rfl) ?_
  intro p e s m below meth c C
  have hTl := w0_tl (iW hI)
  have hMl := w0_ml (iW hI)
  have hXl := w0_xl (iW hI)
  refine g_aload_n C dX4_countFaces_0 rfl ?_
  refine gf_X4_21 C dX4_countFaces_1 ?_
  refine g_iload_n C dX4_countFaces_4 rfl ?_
  refine gX_ln5 C (by omega) dX4_countFaces_5 ?_
  refine g_callSr C (cr_J6_bitCount) mw_J6_bitCount_0f7a4 ml_X4_43 rfl rfl (Nat.le_of_ble_eq_true rfl) dX4_countFaces_6 ⟨Nat.le_of_ble_eq_true rfl, Nat.le_of_ble_eq_true rfl⟩ ⟨Nat.le_of_ble_eq_true rfl, Nat.le_of_ble_eq_true rfl⟩ ?_
  exact g_iret C dX4_countFaces_9 ⟨rt_i (by rw [pcI_cnt, cntN_congr (fun i hi => i_f hI ht hi)]; exact congrArg nI (cnt_img (fc := Fc τ t) (nF τ t) (fun k hk => by have := w0_fcl (iW hI) ht hk; omega) (fun k k' hk hk' e => i_fne hI ht hk hk' e))), rfl⟩
set_option maxRecDepth 100000 in
set_option maxHeartbeats 4000000 in
theorem cr_X2_countBridges {l : Launch} {D : va_G} {cI cZ : ClassId} {b : Nat → Nat} {τ σ : St} (hI : Inv τ σ) {x : Nat} (hx : x < nM τ) : Cr l yX2_countBridges cX2_countBridges 4 (some .int) 3 73 D cI cZ (pX b cI cZ) [.ref (b 9), .int (nI x)] σ (nI (cntN 20 (brW τ x))) := by
  refine Ct.of 2 (by decide) (by simp [Value.category]) (Nat.le_of_ble_eq_true rfl) ?_
  intro p e s m below meth c C
  have hTl := w0_tl (iW hI)
  have hMl := w0_ml (iW hI)
  have hXl := w0_xl (iW hI)
  have hrx := w0_rsl (iW hI) hx
  have loop : ∀ (n i : Nat) (q : Int32), i ≤ nM τ → nM τ + 1 ≤ i + n → (∀ v, v < 32 → bt q v = (anyN i (brV τ x v) && !decide (v = Rs τ x))) → G p l e (rmo 3 73) s m ([.ref (b 9), .int (nI x)] : List Value).toArray below meth c D (va_A (pX b cI cZ σ) s.heap.size) 0 0 (Qe below ([.ref (b 9), .int (nI x)] : List Value).toArray s D (pX b cI cZ) σ (fun r u => r = some (.int (nI (cntN 20 (brW τ x)))) ∧ u = σ)) 4 (pX b cI cZ σ) 4 [some (.ref (b 9)), some (.int (nI x)), some (.int (q)), some (.int (nI i))] [] := by
    intro n
    induction n with
    | zero => intro i q h1 h2; omega
    | succ n ih =>
      intro i q h1 h2 hq
      refine g_iload_n C dX2_countBridges_4 rfl ?_
      refine g_aload_n C dX2_countBridges_5 rfl ?_
      refine gn_X2_30 C (i_m hI) dX2_countBridges_6 ?_
      refine g_icmpN_ge (tgt := 53) C (by omega) (by omega) dX2_countBridges_9 (by decide) (fun h9 => ?_) (fun h9 => ?_)
      · refine g_iload_n C dX2_countBridges_53 rfl ?_
        refine g_callSr C (cr_J6_bitCount) mw_J6_bitCount_0f7a4 ml_X2_84 rfl rfl (Nat.le_of_ble_eq_true rfl) dX2_countBridges_54 ⟨Nat.le_of_ble_eq_true rfl, Nat.le_of_ble_eq_true rfl⟩ ⟨Nat.le_of_ble_eq_true rfl, Nat.le_of_ble_eq_true rfl⟩ ?_
        exact g_iret C dX2_countBridges_57 ⟨rt_i (by rw [pcI_cnt, cntN_congr hq, cntN_cut (a := 20) 32 (by omega) (fun v h20 h32 => by rw [anyN_f (fun o ho => by have := w0_rsl (iW hI) (show o < nM τ by omega); simp [brV, show ¬ Rs τ o = v by omega])]; rfl), show i = nM τ by omega]; rfl), rfl⟩
      · refine g_aload_n C dX2_countBridges_12 rfl ?_
        have hri := w0_rsl (iW hI) (show i < nM τ by omega)
        refine gf_X2_18 C dX2_countBridges_13 ?_
        refine g_iload_n C dX2_countBridges_16 rfl ?_
        refine gX_lv12 C (by omega) (v := nI (Rs τ _)) (i_rs hI (by omega)) dX2_countBridges_17 ?_
        refine g_aload_n C dX2_countBridges_18 rfl ?_
        refine gf_X2_18 C dX2_countBridges_19 ?_
        refine g_iload_n C dX2_countBridges_22 rfl ?_
        refine gX_lv12 C (by omega) (v := nI (Rs τ _)) (i_rs hI (by omega)) dX2_countBridges_23 ?_
        refine g_icmpN_eq (tgt := 47) C (by omega) (by omega) dX2_countBridges_24 (by decide) (fun h24 => ?_) (fun h24 => ?_)
        · refine g_iincN C dX2_countBridges_47 rfl (by decide) ?_
          refine g_goto (tgt := 4) C dX2_countBridges_50 (by decide) ?_
          exact ih (i + 1) q (by omega) (by omega) (fun v hv => by rw [hq v hv]; exact (br_skip h24))
        · refine g_aload_n C dX2_countBridges_27 rfl ?_
          refine g_iload_n C dX2_countBridges_28 rfl ?_
          refine g_iload_n C dX2_countBridges_29 rfl ?_
          refine g_callVr 9 C ((cr_X2_isOverriding hI hx (show i < nM τ by omega)).val (congrArg b2i (i_ov hI hx (show i < nM τ by omega)).symm)) mw_X2_isOverriding ml_X2_77 rfl rfl rfl rfl (Nat.le_of_ble_eq_true rfl) dX2_countBridges_30 ⟨Nat.le_of_ble_eq_true rfl, Nat.le_of_ble_eq_true rfl⟩ ⟨Nat.le_of_ble_eq_true rfl, Nat.le_of_ble_eq_true rfl⟩ ?_
          refine g_ifb_eq (tgt := 47) C dX2_countBridges_33 (by decide) (fun h33 => ?_) (fun h33 => ?_)
          · refine g_iincN C dX2_countBridges_47 rfl (by decide) ?_
            refine g_goto (tgt := 4) C dX2_countBridges_50 (by decide) ?_
            exact ih (i + 1) q (by omega) (by omega) (fun v hv => by rw [hq v hv]; exact (by simp [anyN, brV, h33]))
          · refine g_iload_n C dX2_countBridges_36 rfl ?_
            refine g_iconst (v := 1) C dX2_countBridges_37 (by decide) ?_
            refine g_aload_n C dX2_countBridges_38 rfl ?_
            refine gf_X2_18 C dX2_countBridges_39 ?_
            refine g_iload_n C dX2_countBridges_42 rfl ?_
            refine gX_lv12 C (by omega) (v := nI (Rs τ _)) (i_rs hI (by omega)) dX2_countBridges_43 ?_
            refine g_ishl C dX2_countBridges_44 ?_
            refine g_ior C dX2_countBridges_45 ?_
            refine g_istore_n C dX2_countBridges_46 (by decide) ?_
            refine g_iincN C dX2_countBridges_47 rfl (by decide) ?_
            refine g_goto (tgt := 4) C dX2_countBridges_50 (by decide) ?_
            exact ih (i + 1) (q ||| bit1 (Rs τ i)) (by omega) (by omega) (fun v hv => by rw [b_or, hq v hv, bt_bit1 (by omega) hv]; simp only [anyN]; rw [show brV τ x v i = decide (Rs τ i = v) by simp [brV, h33]]; exact br_put h24)
  refine g_iconst (v := 0) C dX2_countBridges_0 (by decide) ?_
  refine g_istore_n C dX2_countBridges_1 (by decide) ?_
  refine g_iconstN 0 C dX2_countBridges_2 (by decide) ?_
  refine g_istore_n C dX2_countBridges_3 (by decide) ?_
  exact loop (nM τ + 1) 0 0 (by omega) (by omega) (fun v hv => by rw [b_0]; rfl)

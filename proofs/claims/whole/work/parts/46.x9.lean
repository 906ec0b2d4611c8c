/-! ===== the class: its public methods ===== -/
section TB
variable {p : Program} {l : Launch} {e : Env} {R : Room} {s : State} {m : MethodId} {args : Array Value} {below : List Frame} {meth : Method} {c : Code} {D : va_G} {A : Nat → Prop} {kc ks : Nat} {Q : State → Prop} {nL : Nat} {ws : va_W} {pc : Nat} {lv : List (Option Value)} {st : List Value} {cc : ByteArray} {own : String} {ret : Option FieldType} {cI cZ : ClassId}
theorem g_tableOut {dflt lo hi : Int} {offs : Array Int} {len : Nat} {x : Int32} {tgt : Nat} (C : Cx p s m args meth c cc nL own ret D cI cZ A) (hd : decode cc pc = .ok (.tableswitch dflt lo hi offs, len)) (h : x.toInt < lo ∨ hi < x.toInt) (ht : (pc : Int) + dflt = (tgt : Int)) (kk : G p l e R s m args below meth c D A kc ks Q nL ws tgt lv st) : G p l e R s m args below meth c D A kc ks Q nL ws pc lv (.int x :: st) :=
  fun H locs ls hP hD hS hl => lv_tableOut C.1 C.2.1 hd h ht (kk H locs ls hP hD hS hl)
theorem g_tableIn {dflt lo hi : Int} {offs : Array Int} {len : Nat} {x : Int32} {off : Int} {tgt : Nat} (C : Cx p s m args meth c cc nL own ret D cI cZ A) (hd : decode cc pc = .ok (.tableswitch dflt lo hi offs, len)) (h1 : ¬ x.toInt < lo) (h2 : ¬ hi < x.toInt) (ho : offs[(x.toInt - lo).toNat]? = some off) (ht : (pc : Int) + off = (tgt : Int)) (kk : G p l e R s m args below meth c D A kc ks Q nL ws tgt lv st) : G p l e R s m args below meth c D A kc ks Q nL ws pc lv (.int x :: st) :=
  fun H locs ls hP hD hS hl => lv_tableIn C.1 C.2.1 hd h1 h2 ho ht (kk H locs ls hP hD hS hl)
end TB
theorem one_b2i (q : Bool) : nI (bif q then 1 else 0) = b2i q := by cases q <;> rfl
theorem isT_get {τ σ : St} (hI : Inv τ σ) {x : Int32} (h : isT τ x = true) : ∃ t, t < nT τ ∧ x = nI t := (isT_cases (iW hI) x).resolve_left (by rw [h]; decide)
theorem isM_get {τ σ : St} (hI : Inv τ σ) {x : Int32} (h : isM τ x = true) : ∃ t, t < nM τ ∧ x = nI t := (isM_cases (iW hI) x).resolve_left (by rw [h]; decide)
theorem isX_get {τ σ : St} (hI : Inv τ σ) {x : Int32} (h : isX τ x = true) : ∃ t, t < nX τ ∧ x = nI t := (isX_cases (iW hI) x).resolve_left (by rw [h]; decide)
theorem lt4 {x : Int32} : x < 4 ↔ x ≤ 3 := by
  rw [Int32.lt_iff_toInt_lt, Int32.le_iff_toInt_le, show (4 : Int32).toInt = 4 by decide, show (3 : Int32).toInt = 3 by decide]; omega
theorem lt8 {x : Int32} : x < 8 ↔ x ≤ 7 := by
  rw [Int32.lt_iff_toInt_lt, Int32.le_iff_toInt_le, show (8 : Int32).toInt = 8 by decide, show (7 : Int32).toInt = 7 by decide]; omega
theorem lt20 {x : Int32} : x < 20 ↔ x ≤ 19 := by
  rw [Int32.lt_iff_toInt_lt, Int32.le_iff_toInt_le, show (20 : Int32).toInt = 20 by decide, show (19 : Int32).toInt = 19 by decide]; omega
theorem inB_t {v a z : Int32} (h1 : a ≤ v) (h2 : v ≤ z) : inB v a z = true := by simp [inB, h1, h2]
theorem inB_lo {v a z : Int32} (h1 : v < a) : inB v a z = false := by simp [inB, Int32.not_le.mpr h1]
theorem inB_hi {v a z : Int32} (h1 : z < v) : inB v a z = false := by simp [inB, Int32.not_le.mpr h1]
theorem pk_flt {w : Int32} {i : Int32} {L : List Ft} : fPick w (pk i L) = (if i < 0 then -1 else match L[nN i]? with
  | some q => fPick w q
  | none => -1) := by
  have h1 : fPick w (-1, -1, -1) = -1 := by
    simp only [fPick]
    split
    · rfl
    · split <;> rfl
  rw [pk]
  by_cases h : i < 0
  · rw [if_pos h, if_pos h, h1]
  · rw [if_neg h, if_neg h]
    cases L[nN i]? with
    | some q => rfl
    | none => exact h1
theorem fs_ge {τ : St} {t : Nat} : ∀ i, (fsF τ t i).2 = -1 ∨ ∃ n, n < 2 ^ 31 ∧ (fsF τ t i).2 = nI n
  | 0 => Or.inl rfl
  | i + 1 => by
    have := cntN_le (Ov τ i) (nM τ)
    have h2 : nM τ < 2 ^ 31 := by
      have := Int32.toInt_lt (τ 0 2)
      unfold nM
      rw [Int32.toNatClampNeg]
      omega
    simp only [fsF]
    split
    · exact Or.inr ⟨_, by omega, rfl⟩
    · exact fs_ge i
theorem fs_m1 {τ : St} {t i : Nat} : ¬ (fsF τ t i).2 < -1 := by
  rcases fs_ge (τ := τ) (t := t) i with h | ⟨n, hn, h⟩
  · rw [h]; decide
  · rw [h]
    intro q
    exact nI_pos hn (Int32.lt_trans q (by decide))
set_option maxRecDepth 100000 in
set_option maxHeartbeats 4000000 in
theorem cr_X5_sub {l : Launch} {D : va_G} {cI cZ : ClassId} {b : Nat → Nat} {τ σ : St} (hI : Inv τ σ) {x y : Int32} : Cr l yX5_sub cX5_sub 3 (some .int) 1 22 D cI cZ (pX b cI cZ) [.ref (b 0), .int x, .int y] σ (aSub τ x y) := by
  refine Ct.of 0 (by decide) (by simp [Value.category]) (Nat.le_of_ble_eq_true rfl) ?_
  intro p e s m below meth c C
  have hTl := w0_tl (iW hI)
  have hMl := w0_ml (iW hI)
  have hXl := w0_xl (iW hI)
  refine g_aload_n C dX5_sub_0 rfl ?_
  refine gf_X5_10 C dX5_sub_1 ?_
  refine g_iload_n C dX5_sub_4 rfl ?_
  refine g_callVr 1 C (cr_X4_has hI) mw_X4_has ml_X5_59 rfl rfl rfl rfl (Nat.le_of_ble_eq_true rfl) dX5_sub_5 ⟨Nat.le_of_ble_eq_true rfl, Nat.le_of_ble_eq_true rfl⟩ ⟨Nat.le_of_ble_eq_true rfl, Nat.le_of_ble_eq_true rfl⟩ ?_
  refine g_ifb_eq (tgt := 22) C dX5_sub_8 (by decide) (fun h8 => ?_) (fun h8 => ?_)
  · refine g_bipush (v := -2) C dX5_sub_22 (by decide) ?_
    exact g_iret C dX5_sub_24 ⟨rt_i (by simp [aSub, h8]), rfl⟩
  · refine g_aload_n C dX5_sub_11 rfl ?_
    refine gf_X5_10 C dX5_sub_12 ?_
    refine g_iload_n C dX5_sub_15 rfl ?_
    refine g_callVr 1 C (cr_X4_has hI) mw_X4_has ml_X5_59 rfl rfl rfl rfl (Nat.le_of_ble_eq_true rfl) dX5_sub_16 ⟨Nat.le_of_ble_eq_true rfl, Nat.le_of_ble_eq_true rfl⟩ ⟨Nat.le_of_ble_eq_true rfl, Nat.le_of_ble_eq_true rfl⟩ ?_
    refine g_ifb_ne (tgt := 25) C dX5_sub_19 (by decide) (fun h19 => ?_) (fun h19 => ?_)
    · obtain ⟨t, ht, rfl⟩ := isT_get hI h8
      obtain ⟨u, hu, rfl⟩ := isT_get hI h19
      refine g_aload_n C dX5_sub_25 rfl ?_
      refine gf_X5_10 C dX5_sub_26 ?_
      refine g_iload_n C dX5_sub_29 rfl ?_
      refine g_iload_n C dX5_sub_30 rfl ?_
      refine g_callVr 1 C (cr_X4_isSub hI ht (by omega)) mw_X4_isSub ml_X5_125 rfl rfl rfl rfl (Nat.le_of_ble_eq_true rfl) dX5_sub_31 ⟨Nat.le_of_ble_eq_true rfl, Nat.le_of_ble_eq_true rfl⟩ ⟨Nat.le_of_ble_eq_true rfl, Nat.le_of_ble_eq_true rfl⟩ ?_
      refine g_callSr C (cr_X5_oneIf) mw_X5_oneIf ml_X5_109 rfl rfl (Nat.le_of_ble_eq_true rfl) dX5_sub_34 ⟨Nat.le_of_ble_eq_true rfl, Nat.le_of_ble_eq_true rfl⟩ ⟨Nat.le_of_ble_eq_true rfl, Nat.le_of_ble_eq_true rfl⟩ ?_
      exact g_iret C dX5_sub_37 ⟨rt_i (by rw [one_b2i, aSub, h8, h19, nN, nN, nI_clamp (show t < 2 ^ 31 by omega), nI_clamp (show u < 2 ^ 31 by omega)]; rfl), rfl⟩
    · refine g_bipush (v := -2) C dX5_sub_22 (by decide) ?_
      exact g_iret C dX5_sub_24 ⟨rt_i (by simp [aSub, h19]), rfl⟩
set_option maxRecDepth 100000 in
set_option maxHeartbeats 4000000 in
theorem cr_X5_overrides {l : Launch} {D : va_G} {cI cZ : ClassId} {b : Nat → Nat} {τ σ : St} (hI : Inv τ σ) {x y : Int32} : Cr l yX5_overrides cX5_overrides 3 (some .int) 3 73 D cI cZ (pX b cI cZ) [.ref (b 0), .int x, .int y] σ (aOvr τ x y) := by
  refine Ct.of 0 (by decide) (by simp [Value.category]) (Nat.le_of_ble_eq_true rfl) ?_
  intro p e s m below meth c C
  have hTl := w0_tl (iW hI)
  have hMl := w0_ml (iW hI)
  have hXl := w0_xl (iW hI)
  refine g_aload_n C dX5_overrides_0 rfl ?_
  refine gf_X5_28 C dX5_overrides_1 ?_
  refine g_iload_n C dX5_overrides_4 rfl ?_
  refine g_callVr 9 C (cr_X2_has hI) mw_X2_has ml_X5_105 rfl rfl rfl rfl (Nat.le_of_ble_eq_true rfl) dX5_overrides_5 ⟨Nat.le_of_ble_eq_true rfl, Nat.le_of_ble_eq_true rfl⟩ ⟨Nat.le_of_ble_eq_true rfl, Nat.le_of_ble_eq_true rfl⟩ ?_
  refine g_ifb_eq (tgt := 22) C dX5_overrides_8 (by decide) (fun h8 => ?_) (fun h8 => ?_)
  · refine g_bipush (v := -2) C dX5_overrides_22 (by decide) ?_
    exact g_iret C dX5_overrides_24 ⟨rt_i (by simp [aOvr, h8]), rfl⟩
  · refine g_aload_n C dX5_overrides_11 rfl ?_
    refine gf_X5_28 C dX5_overrides_12 ?_
    refine g_iload_n C dX5_overrides_15 rfl ?_
    refine g_callVr 9 C (cr_X2_has hI) mw_X2_has ml_X5_105 rfl rfl rfl rfl (Nat.le_of_ble_eq_true rfl) dX5_overrides_16 ⟨Nat.le_of_ble_eq_true rfl, Nat.le_of_ble_eq_true rfl⟩ ⟨Nat.le_of_ble_eq_true rfl, Nat.le_of_ble_eq_true rfl⟩ ?_
    refine g_ifb_ne (tgt := 25) C dX5_overrides_19 (by decide) (fun h19 => ?_) (fun h19 => ?_)
    · obtain ⟨t, ht, rfl⟩ := isM_get hI h8
      obtain ⟨u, hu, rfl⟩ := isM_get hI h19
      have hof_t := w0_ofl (iW hI) ht
      have hof_u := w0_ofl (iW hI) hu
      refine g_aload_n C dX5_overrides_25 rfl ?_
      refine gf_X5_28 C dX5_overrides_26 ?_
      refine g_iload_n C dX5_overrides_29 rfl ?_
      refine g_iload_n C dX5_overrides_30 rfl ?_
      refine g_callVr 9 C ((cr_X2_isOverriding hI ht hu).val (congrArg b2i (i_ov hI ht hu).symm)) mw_X2_isOverriding ml_X5_113 rfl rfl rfl rfl (Nat.le_of_ble_eq_true rfl) dX5_overrides_31 ⟨Nat.le_of_ble_eq_true rfl, Nat.le_of_ble_eq_true rfl⟩ ⟨Nat.le_of_ble_eq_true rfl, Nat.le_of_ble_eq_true rfl⟩ ?_
      refine g_callSr C (cr_X5_oneIf) mw_X5_oneIf ml_X5_109 rfl rfl (Nat.le_of_ble_eq_true rfl) dX5_overrides_34 ⟨Nat.le_of_ble_eq_true rfl, Nat.le_of_ble_eq_true rfl⟩ ⟨Nat.le_of_ble_eq_true rfl, Nat.le_of_ble_eq_true rfl⟩ ?_
      exact g_iret C dX5_overrides_37 ⟨rt_i (by rw [one_b2i, aOvr, h8, h19, nN, nN, nI_clamp (show t < 2 ^ 31 by omega), nI_clamp (show u < 2 ^ 31 by omega)]; rfl), rfl⟩
    · refine g_bipush (v := -2) C dX5_overrides_22 (by decide) ?_
      exact g_iret C dX5_overrides_24 ⟨rt_i (by simp [aOvr, h19]), rfl⟩
set_option maxRecDepth 100000 in
set_option maxHeartbeats 4000000 in
theorem cr_X5_hides {l : Launch} {D : va_G} {cI cZ : ClassId} {b : Nat → Nat} {τ σ : St} (hI : Inv τ σ) {x y : Int32} : Cr l yX5_hides cX5_hides 3 (some .int) 3 66 D cI cZ (pX b cI cZ) [.ref (b 0), .int x, .int y] σ (aHid τ x y) := by
  refine Ct.of 0 (by decide) (by simp [Value.category]) (Nat.le_of_ble_eq_true rfl) ?_
  intro p e s m below meth c C
  have hTl := w0_tl (iW hI)
  have hMl := w0_ml (iW hI)
  have hXl := w0_xl (iW hI)
  refine g_aload_n C dX5_hides_0 rfl ?_
  refine gf_X5_28 C dX5_hides_1 ?_
  refine g_iload_n C dX5_hides_4 rfl ?_
  refine g_callVr 9 C (cr_X2_has hI) mw_X2_has ml_X5_105 rfl rfl rfl rfl (Nat.le_of_ble_eq_true rfl) dX5_hides_5 ⟨Nat.le_of_ble_eq_true rfl, Nat.le_of_ble_eq_true rfl⟩ ⟨Nat.le_of_ble_eq_true rfl, Nat.le_of_ble_eq_true rfl⟩ ?_
  refine g_ifb_eq (tgt := 22) C dX5_hides_8 (by decide) (fun h8 => ?_) (fun h8 => ?_)
  · refine g_bipush (v := -2) C dX5_hides_22 (by decide) ?_
    exact g_iret C dX5_hides_24 ⟨rt_i (by simp [aHid, h8]), rfl⟩
  · refine g_aload_n C dX5_hides_11 rfl ?_
    refine gf_X5_28 C dX5_hides_12 ?_
    refine g_iload_n C dX5_hides_15 rfl ?_
    refine g_callVr 9 C (cr_X2_has hI) mw_X2_has ml_X5_105 rfl rfl rfl rfl (Nat.le_of_ble_eq_true rfl) dX5_hides_16 ⟨Nat.le_of_ble_eq_true rfl, Nat.le_of_ble_eq_true rfl⟩ ⟨Nat.le_of_ble_eq_true rfl, Nat.le_of_ble_eq_true rfl⟩ ?_
    refine g_ifb_ne (tgt := 25) C dX5_hides_19 (by decide) (fun h19 => ?_) (fun h19 => ?_)
    · obtain ⟨t, ht, rfl⟩ := isM_get hI h8
      obtain ⟨u, hu, rfl⟩ := isM_get hI h19
      have hof_t := w0_ofl (iW hI) ht
      have hof_u := w0_ofl (iW hI) hu
      refine g_aload_n C dX5_hides_25 rfl ?_
      refine gf_X5_28 C dX5_hides_26 ?_
      refine g_iload_n C dX5_hides_29 rfl ?_
      refine g_iload_n C dX5_hides_30 rfl ?_
      refine g_callVr 9 C (cr_X2_isHiding hI ht hu) mw_X2_isHiding ml_X5_116 rfl rfl rfl rfl (Nat.le_of_ble_eq_true rfl) dX5_hides_31 ⟨Nat.le_of_ble_eq_true rfl, Nat.le_of_ble_eq_true rfl⟩ ⟨Nat.le_of_ble_eq_true rfl, Nat.le_of_ble_eq_true rfl⟩ ?_
      refine g_callSr C (cr_X5_oneIf) mw_X5_oneIf ml_X5_109 rfl rfl (Nat.le_of_ble_eq_true rfl) dX5_hides_34 ⟨Nat.le_of_ble_eq_true rfl, Nat.le_of_ble_eq_true rfl⟩ ⟨Nat.le_of_ble_eq_true rfl, Nat.le_of_ble_eq_true rfl⟩ ?_
      exact g_iret C dX5_hides_37 ⟨rt_i (by rw [one_b2i, aHid, h8, h19, nN, nN, nI_clamp (show t < 2 ^ 31 by omega), nI_clamp (show u < 2 ^ 31 by omega)]; rfl), rfl⟩
    · refine g_bipush (v := -2) C dX5_hides_22 (by decide) ?_
      exact g_iret C dX5_hides_24 ⟨rt_i (by simp [aHid, h19]), rfl⟩
set_option maxRecDepth 100000 in
set_option maxHeartbeats 4000000 in
theorem cr_X5_chosen {l : Launch} {D : va_G} {cI cZ : ClassId} {b : Nat → Nat} {τ σ : St} (hI : Inv τ σ) {x y : Int32} : Cr l yX5_chosen cX5_chosen 3 (some .int) 4 101 D cI cZ (pX b cI cZ) [.ref (b 0), .int x, .int y] σ (aChs τ x y) := by
  refine Ct.of 0 (by decide) (by simp [Value.category]) (Nat.le_of_ble_eq_true rfl) ?_
  intro p e s m below meth c C
  have hTl := w0_tl (iW hI)
  have hMl := w0_ml (iW hI)
  have hXl := w0_xl (iW hI)
  refine g_aload_n C dX5_chosen_0 rfl ?_
  refine gf_X5_10 C dX5_chosen_1 ?_
  refine g_iload_n C dX5_chosen_4 rfl ?_
  refine g_callVr 1 C (cr_X4_has hI) mw_X4_has ml_X5_59 rfl rfl rfl rfl (Nat.le_of_ble_eq_true rfl) dX5_chosen_5 ⟨Nat.le_of_ble_eq_true rfl, Nat.le_of_ble_eq_true rfl⟩ ⟨Nat.le_of_ble_eq_true rfl, Nat.le_of_ble_eq_true rfl⟩ ?_
  refine g_ifb_eq (tgt := 22) C dX5_chosen_8 (by decide) (fun h8 => ?_) (fun h8 => ?_)
  · refine g_bipush (v := -2) C dX5_chosen_22 (by decide) ?_
    exact g_iret C dX5_chosen_24 ⟨rt_i (by simp [aChs, h8]), rfl⟩
  · refine g_aload_n C dX5_chosen_11 rfl ?_
    refine gf_X5_28 C dX5_chosen_12 ?_
    refine g_iload_n C dX5_chosen_15 rfl ?_
    refine g_callVr 9 C (cr_X2_has hI) mw_X2_has ml_X5_105 rfl rfl rfl rfl (Nat.le_of_ble_eq_true rfl) dX5_chosen_16 ⟨Nat.le_of_ble_eq_true rfl, Nat.le_of_ble_eq_true rfl⟩ ⟨Nat.le_of_ble_eq_true rfl, Nat.le_of_ble_eq_true rfl⟩ ?_
    refine g_ifb_ne (tgt := 25) C dX5_chosen_19 (by decide) (fun h19 => ?_) (fun h19 => ?_)
    · obtain ⟨t, ht, rfl⟩ := isT_get hI h8
      obtain ⟨u, hu, rfl⟩ := isM_get hI h19
      have hof_u := w0_ofl (iW hI) hu
      refine g_aload_n C dX5_chosen_25 rfl ?_
      refine gf_X5_10 C dX5_chosen_26 ?_
      refine g_iload_n C dX5_chosen_29 rfl ?_
      refine g_callVr 1 C (cr_X4_isInterface hI ht) mw_X4_isInterface ml_X5_63 rfl rfl rfl rfl (Nat.le_of_ble_eq_true rfl) dX5_chosen_30 ⟨Nat.le_of_ble_eq_true rfl, Nat.le_of_ble_eq_true rfl⟩ ⟨Nat.le_of_ble_eq_true rfl, Nat.le_of_ble_eq_true rfl⟩ ?_
      refine g_ifb_ne (tgt := 66) C dX5_chosen_33 (by decide) (fun h33 => ?_) (fun h33 => ?_)
      · refine g_bipush (v := -3) C dX5_chosen_66 (by decide) ?_
        exact g_iret C dX5_chosen_68 ⟨rt_i (by rw [aChs, h8, h19, nN, nN, nI_clamp (show t < 2 ^ 31 by omega), nI_clamp (show u < 2 ^ 31 by omega)]; simp [show τ 1 t = 2 from of_decide_eq_true h33]), rfl⟩
      · refine g_aload_n C dX5_chosen_36 rfl ?_
        refine gf_X5_28 C dX5_chosen_37 ?_
        refine g_iload_n C dX5_chosen_40 rfl ?_
        refine g_callVr 9 C (cr_X2_isInheritable hI hu) mw_X2_isInheritable ml_X5_119 rfl rfl rfl rfl (Nat.le_of_ble_eq_true rfl) dX5_chosen_41 ⟨Nat.le_of_ble_eq_true rfl, Nat.le_of_ble_eq_true rfl⟩ ⟨Nat.le_of_ble_eq_true rfl, Nat.le_of_ble_eq_true rfl⟩ ?_
        refine g_ifb_eq (tgt := 66) C dX5_chosen_44 (by decide) (fun h44 => ?_) (fun h44 => ?_)
        · refine g_bipush (v := -3) C dX5_chosen_66 (by decide) ?_
          exact g_iret C dX5_chosen_68 ⟨rt_i (by rw [aChs, h8, h19, nN, nN, nI_clamp (show t < 2 ^ 31 by omega), nI_clamp (show u < 2 ^ 31 by omega)]; simp [show ¬ τ 1 t = 2 from of_decide_eq_false h33, h44]), rfl⟩
        · refine g_aload_n C dX5_chosen_47 rfl ?_
          refine gf_X5_10 C dX5_chosen_48 ?_
          refine g_iload_n C dX5_chosen_51 rfl ?_
          refine g_aload_n C dX5_chosen_52 rfl ?_
          refine gf_X5_28 C dX5_chosen_53 ?_
          refine g_iload_n C dX5_chosen_56 rfl ?_
          refine g_callVr 9 C (cr_X2_typeOf hI hu) mw_X2_typeOf ml_X5_122 rfl rfl rfl rfl (Nat.le_of_ble_eq_true rfl) dX5_chosen_57 ⟨Nat.le_of_ble_eq_true rfl, Nat.le_of_ble_eq_true rfl⟩ ⟨Nat.le_of_ble_eq_true rfl, Nat.le_of_ble_eq_true rfl⟩ ?_
          refine g_callVr 1 C (cr_X4_isSub hI ht (by omega)) mw_X4_isSub ml_X5_125 rfl rfl rfl rfl (Nat.le_of_ble_eq_true rfl) dX5_chosen_60 ⟨Nat.le_of_ble_eq_true rfl, Nat.le_of_ble_eq_true rfl⟩ ⟨Nat.le_of_ble_eq_true rfl, Nat.le_of_ble_eq_true rfl⟩ ?_
          refine g_ifb_ne (tgt := 69) C dX5_chosen_63 (by decide) (fun h63 => ?_) (fun h63 => ?_)
          · refine g_aload_n C dX5_chosen_69 rfl ?_
            refine gf_X5_37 C dX5_chosen_70 ?_
            refine g_iload_n C dX5_chosen_73 rfl ?_
            refine g_iload_n C dX5_chosen_74 rfl ?_
            refine g_callVr 16 C (cr_X0_choose hI ht hu) mw_X0_choose ml_X5_128 rfl rfl rfl rfl (Nat.le_of_ble_eq_true rfl) dX5_chosen_75 ⟨Nat.le_of_ble_eq_true rfl, Nat.le_of_ble_eq_true rfl⟩ ⟨Nat.le_of_ble_eq_true rfl, Nat.le_of_ble_eq_true rfl⟩ ?_
            exact g_iret C dX5_chosen_78 ⟨rt_i (by rw [aChs, h8, h19, nN, nN, nI_clamp (show t < 2 ^ 31 by omega), nI_clamp (show u < 2 ^ 31 by omega)]; simp [show ¬ τ 1 t = 2 from of_decide_eq_false h33, h44, h63]), rfl⟩
          · refine g_bipush (v := -3) C dX5_chosen_66 (by decide) ?_
            exact g_iret C dX5_chosen_68 ⟨rt_i (by rw [aChs, h8, h19, nN, nN, nI_clamp (show t < 2 ^ 31 by omega), nI_clamp (show u < 2 ^ 31 by omega)]; simp [show ¬ τ 1 t = 2 from of_decide_eq_false h33, h44, h63]), rfl⟩
    · refine g_bipush (v := -2) C dX5_chosen_22 (by decide) ?_
      exact g_iret C dX5_chosen_24 ⟨rt_i (by simp [aChs, h19]), rfl⟩
set_option maxRecDepth 100000 in
set_option maxHeartbeats 4000000 in
theorem ct_X5_check {l : Launch} {D : va_G} {cI cZ : ClassId} {b : Nat → Nat} {τ σ : St} (hI : Inv τ σ) {x : Int32} : Ct l yX5_check cX5_check 2 (some .int) 6 146 D cI cZ (pX b cI cZ) [.ref (b 0), .int x] σ (fun r u => r = some (.int (aChk τ x)) ∧ RX τ u) := by
  refine Ct.of 0 (by decide) (by simp [Value.category]) (Nat.le_of_ble_eq_true rfl) ?_
  intro p e s m below meth c C
  have hTl := w0_tl (iW hI)
  have hMl := w0_ml (iW hI)
  have hXl := w0_xl (iW hI)
  refine g_aload_n C dX5_check_0 rfl ?_
  refine gf_X5_10 C dX5_check_1 ?_
  refine g_iload_n C dX5_check_4 rfl ?_
  refine g_callVr 1 C (cr_X4_has hI) mw_X4_has ml_X5_59 rfl rfl rfl rfl (Nat.le_of_ble_eq_true rfl) dX5_check_5 ⟨Nat.le_of_ble_eq_true rfl, Nat.le_of_ble_eq_true rfl⟩ ⟨Nat.le_of_ble_eq_true rfl, Nat.le_of_ble_eq_true rfl⟩ ?_
  refine g_ifb_ne (tgt := 14) C dX5_check_8 (by decide) (fun h8 => ?_) (fun h8 => ?_)
  · obtain ⟨t, ht, rfl⟩ := isT_get hI h8
    refine g_aload_n C dX5_check_14 rfl ?_
    refine gf_X5_46 C dX5_check_15 ?_
    refine g_iload_n C dX5_check_18 rfl ?_
    refine g_iconst (v := -1) C dX5_check_19 (by decide) ?_
    refine g_callV 17 C (ct_X1_walk hI ht) mw_X1_walk ml_X5_131 rfl rfl rfl rfl (Nat.le_of_ble_eq_true rfl) dX5_check_20 ⟨Nat.le_of_ble_eq_true rfl, Nat.le_of_ble_eq_true rfl⟩ ⟨Nat.le_of_ble_eq_true rfl, Nat.le_of_ble_eq_true rfl⟩ ?_
    intro r v hv
    obtain ⟨rfl, rfl⟩ := hv
    exact g_iret C dX5_check_23 ⟨rt_i (by rw [aChk, if_pos h8, nN, nI_clamp (show t < 2 ^ 31 by omega)]), hI.2⟩
  · refine g_bipush (v := -2) C dX5_check_11 (by decide) ?_
    exact g_iret C dX5_check_13 ⟨rt_i (by simp [aChk, h8]), hI.2⟩
set_option maxRecDepth 100000 in
set_option maxHeartbeats 4000000 in
theorem ct_X5_fault {l : Launch} {D : va_G} {cI cZ : ClassId} {b : Nat → Nat} {τ σ : St} (hI : Inv τ σ) {x i w : Int32} : Ct l yX5_fault cX5_fault 4 (some .int) 6 146 D cI cZ (pX b cI cZ) [.ref (b 0), .int x, .int i, .int w] σ (fun r u => r = some (.int (aFlt τ x i w)) ∧ RX τ u) := by
  refine Ct.of 0 (by decide) (by simp [Value.category]) (Nat.le_of_ble_eq_true rfl) ?_
  intro p e s m below meth c C
  have hTl := w0_tl (iW hI)
  have hMl := w0_ml (iW hI)
  have hXl := w0_xl (iW hI)
  refine g_aload_n C dX5_fault_0 rfl ?_
  refine gf_X5_10 C dX5_fault_1 ?_
  refine g_iload_n C dX5_fault_4 rfl ?_
  refine g_callVr 1 C (cr_X4_has hI) mw_X4_has ml_X5_59 rfl rfl rfl rfl (Nat.le_of_ble_eq_true rfl) dX5_fault_5 ⟨Nat.le_of_ble_eq_true rfl, Nat.le_of_ble_eq_true rfl⟩ ⟨Nat.le_of_ble_eq_true rfl, Nat.le_of_ble_eq_true rfl⟩ ?_
  refine g_ifb_ne (tgt := 14) C dX5_fault_8 (by decide) (fun h8 => ?_) (fun h8 => ?_)
  · refine g_iload_n C dX5_fault_14 rfl ?_
    refine g_if_lt (tgt := 23) C dX5_fault_15 (by decide) (fun h15 => ?_) (fun h15 => ?_)
    · refine g_bipush (v := -3) C dX5_fault_23 (by decide) ?_
      exact g_iret C dX5_fault_25 ⟨rt_i (by rw [aFlt, if_pos h8, inB_lo h15]; simp), hI.2⟩
    · refine g_iload_n C dX5_fault_18 rfl ?_
      refine g_iconst (v := 2) C dX5_fault_19 (by decide) ?_
      refine g_icmp_le (tgt := 26) C dX5_fault_20 (by decide) (fun h20 => ?_) (fun h20 => ?_)
      · obtain ⟨t, ht, rfl⟩ := isT_get hI h8
        refine g_aload_n C dX5_fault_26 rfl ?_
        refine gf_X5_46 C dX5_fault_27 ?_
        refine g_iload_n C dX5_fault_30 rfl ?_
        refine g_iload_n C dX5_fault_31 rfl ?_
        refine g_callV 17 C (ct_X1_walk hI ht) mw_X1_walk ml_X5_131 rfl rfl rfl rfl (Nat.le_of_ble_eq_true rfl) dX5_fault_32 ⟨Nat.le_of_ble_eq_true rfl, Nat.le_of_ble_eq_true rfl⟩ ⟨Nat.le_of_ble_eq_true rfl, Nat.le_of_ble_eq_true rfl⟩ ?_
        intro r v hv
        obtain ⟨rfl, rfl⟩ := hv
        refine g_pop C dX5_fault_35 rfl ?_
        refine g_aload_n C dX5_fault_36 rfl ?_
        refine gf_X5_46 C dX5_fault_37 ?_
        refine g_iload_n C dX5_fault_40 rfl ?_
        refine g_callVr 17 C (cr_X1_pickedPart) mw_X1_pickedPart ml_X5_134 rfl rfl rfl rfl (Nat.le_of_ble_eq_true rfl) dX5_fault_41 ⟨Nat.le_of_ble_eq_true rfl, Nat.le_of_ble_eq_true rfl⟩ ⟨Nat.le_of_ble_eq_true rfl, Nat.le_of_ble_eq_true rfl⟩ ?_
        exact g_iret C dX5_fault_44 ⟨rt_i (by rw [aFlt, if_pos h8, if_pos (inB_t (Int32.not_lt.mp h15) h20), pk_flt, show nN (nI t) = t from nI_clamp (show t < 2 ^ 31 by omega)]; rfl), hI.2⟩
      · refine g_bipush (v := -3) C dX5_fault_23 (by decide) ?_
        exact g_iret C dX5_fault_25 ⟨rt_i (by rw [aFlt, if_pos h8, inB_hi (Int32.not_le.mp h20)]; simp), hI.2⟩
  · refine g_bipush (v := -2) C dX5_fault_11 (by decide) ?_
    exact g_iret C dX5_fault_13 ⟨rt_i (by simp [aFlt, h8]), hI.2⟩
set_option maxRecDepth 100000 in
set_option maxHeartbeats 4000000 in
theorem cr_X5_bridges {l : Launch} {D : va_G} {cI cZ : ClassId} {b : Nat → Nat} {τ σ : St} (hI : Inv τ σ) {x : Int32} : Cr l yX5_bridges cX5_bridges 4 (some .int) 4 96 D cI cZ (pX b cI cZ) [.ref (b 0), .int x] σ (aBrg τ x) := by
  refine Ct.of 2 (by decide) (by simp [Value.category]) (Nat.le_of_ble_eq_true rfl) ?_
  intro p e s m below meth c C
  have hTl := w0_tl (iW hI)
  have hMl := w0_ml (iW hI)
  have hXl := w0_xl (iW hI)
  refine g_aload_n C dX5_bridges_0 rfl ?_
  refine gf_X5_10 C dX5_bridges_1 ?_
  refine g_iload_n C dX5_bridges_4 rfl ?_
  refine g_callVr 1 C (cr_X4_has hI) mw_X4_has ml_X5_59 rfl rfl rfl rfl (Nat.le_of_ble_eq_true rfl) dX5_bridges_5 ⟨Nat.le_of_ble_eq_true rfl, Nat.le_of_ble_eq_true rfl⟩ ⟨Nat.le_of_ble_eq_true rfl, Nat.le_of_ble_eq_true rfl⟩ ?_
  refine g_ifb_ne (tgt := 14) C dX5_bridges_8 (by decide) (fun h8 => ?_) (fun h8 => ?_)
  · obtain ⟨t, ht, rfl⟩ := isT_get hI h8
    refine g_iconstN 0 C dX5_bridges_14 (by decide) ?_
    refine g_istore_n C dX5_bridges_15 (by decide) ?_
    refine g_iconstN 0 C dX5_bridges_16 (by decide) ?_
    refine g_istore_n C dX5_bridges_17 (by decide) ?_
    have loop : ∀ (n i : Nat), i ≤ nM τ → nM τ + 1 ≤ i + n → G p l e (rmo 4 96) s m ([.ref (b 0), .int (nI t)] : List Value).toArray below meth c D (va_A (pX b cI cZ σ) s.heap.size) 0 0 (Qe below ([.ref (b 0), .int (nI t)] : List Value).toArray s D (pX b cI cZ) σ (fun r u => r = some (.int (aBrg τ (nI t))) ∧ u = σ)) 4 (pX b cI cZ σ) 18 [some (.ref (b 0)), some (.int (nI t)), some (.int (nI (sumN i (brM τ t)))), some (.int (nI i))] [] := by
      intro n
      induction n with
      | zero => intro i h1 h2; omega
      | succ n ih =>
        intro i h1 h2
        refine g_iload_n C dX5_bridges_18 rfl ?_
        refine g_aload_n C dX5_bridges_19 rfl ?_
        refine gf_X5_28 C dX5_bridges_20 ?_
        refine g_callVr 9 C (cr_X2_size hI) mw_X2_size ml_X5_50 rfl rfl rfl rfl (Nat.le_of_ble_eq_true rfl) dX5_bridges_23 ⟨Nat.le_of_ble_eq_true rfl, Nat.le_of_ble_eq_true rfl⟩ ⟨Nat.le_of_ble_eq_true rfl, Nat.le_of_ble_eq_true rfl⟩ ?_
        refine g_icmpN_ge (tgt := 71) C (by omega) (by omega) dX5_bridges_26 (by decide) (fun h26 => ?_) (fun h26 => ?_)
        · refine g_iload_n C dX5_bridges_71 rfl ?_
          exact g_iret C dX5_bridges_72 ⟨rt_i (by rw [aBrg, if_pos h8, nN, nI_clamp (show t < 2 ^ 31 by omega), show i = nM τ by omega]), rfl⟩
        · have hof_i := w0_ofl (iW hI) (show i < nM τ by omega)
          refine g_aload_n C dX5_bridges_29 rfl ?_
          refine gf_X5_28 C dX5_bridges_30 ?_
          refine g_iload_n C dX5_bridges_33 rfl ?_
          refine g_callVr 9 C (cr_X2_typeOf hI (show i < nM τ by omega)) mw_X2_typeOf ml_X5_122 rfl rfl rfl rfl (Nat.le_of_ble_eq_true rfl) dX5_bridges_34 ⟨Nat.le_of_ble_eq_true rfl, Nat.le_of_ble_eq_true rfl⟩ ⟨Nat.le_of_ble_eq_true rfl, Nat.le_of_ble_eq_true rfl⟩ ?_
          refine g_iload_n C dX5_bridges_37 rfl ?_
          refine g_icmpN_ne (tgt := 65) C (by omega) (by omega) dX5_bridges_38 (by decide) (fun h38 => ?_) (fun h38 => ?_)
          · refine g_iincN C dX5_bridges_65 rfl (by decide) ?_
            refine g_goto (tgt := 18) C dX5_bridges_68 (by decide) ?_
            have hh := ih (i + 1) (by omega) (by omega); rw [show sumN (i + 1) (brM τ t) = sumN i (brM τ t) from (by simp [sumN, brM, h38])] at hh; exact hh
          · refine g_aload_n C dX5_bridges_41 rfl ?_
            refine gf_X5_28 C dX5_bridges_42 ?_
            refine g_iload_n C dX5_bridges_45 rfl ?_
            refine g_bipush (v := 40) C dX5_bridges_46 (by decide) ?_
            refine g_callVr 9 C (cr_X2_hasMark hI (show i < nM τ by omega)) mw_X2_hasMark ml_X5_137 rfl rfl rfl rfl (Nat.le_of_ble_eq_true rfl) dX5_bridges_48 ⟨Nat.le_of_ble_eq_true rfl, Nat.le_of_ble_eq_true rfl⟩ ⟨Nat.le_of_ble_eq_true rfl, Nat.le_of_ble_eq_true rfl⟩ ?_
            refine g_ifb_ne (tgt := 65) C dX5_bridges_51 (by decide) (fun h51 => ?_) (fun h51 => ?_)
            · refine g_iincN C dX5_bridges_65 rfl (by decide) ?_
              refine g_goto (tgt := 18) C dX5_bridges_68 (by decide) ?_
              have hh := ih (i + 1) (by omega) (by omega); rw [show sumN (i + 1) (brM τ t) = sumN i (brM τ t) from (by rw [HX_40] at h51; simp only [sumN, brM]; revert h51; cases Hs τ i 8 <;> cases Hs τ i 32 <;> simp)] at hh; exact hh
            · refine g_iload_n C dX5_bridges_54 rfl ?_
              refine g_aload_n C dX5_bridges_55 rfl ?_
              refine gf_X5_28 C dX5_bridges_56 ?_
              refine g_iload_n C dX5_bridges_59 rfl ?_
              refine g_callVr 9 C (cr_X2_countBridges hI (show i < nM τ by omega)) mw_X2_countBridges ml_X5_140 rfl rfl rfl rfl (Nat.le_of_ble_eq_true rfl) dX5_bridges_60 ⟨Nat.le_of_ble_eq_true rfl, Nat.le_of_ble_eq_true rfl⟩ ⟨Nat.le_of_ble_eq_true rfl, Nat.le_of_ble_eq_true rfl⟩ ?_
              refine g_iaddN C dX5_bridges_63 ?_
              refine g_istore_n C dX5_bridges_64 (by decide) ?_
              refine g_iincN C dX5_bridges_65 rfl (by decide) ?_
              refine g_goto (tgt := 18) C dX5_bridges_68 (by decide) ?_
              have hh := ih (i + 1) (by omega) (by omega); rw [show sumN (i + 1) (brM τ t) = sumN i (brM τ t) + cntN 20 (brW τ i) from (by rw [HX_40] at h51; simp only [sumN, brM, h38]; revert h51; cases Hs τ i 8 <;> cases Hs τ i 32 <;> simp)] at hh; exact hh
    exact loop (nM τ + 1) 0 (by omega) (by omega)
  · refine g_bipush (v := -2) C dX5_bridges_11 (by decide) ?_
    exact g_iret C dX5_bridges_13 ⟨rt_i (by simp [aBrg, h8]), rfl⟩
set_option maxRecDepth 100000 in
set_option maxHeartbeats 4000000 in
theorem cr_X5_first {l : Launch} {D : va_G} {cI cZ : ClassId} {b : Nat → Nat} {τ σ : St} (hI : Inv τ σ) {x : Int32} : Cr l yX5_first cX5_first 6 (some .int) 4 96 D cI cZ (pX b cI cZ) [.ref (b 0), .int x] σ (aFst τ x) := by
  refine Ct.of 4 (by decide) (by simp [Value.category]) (Nat.le_of_ble_eq_true rfl) ?_
  intro p e s m below meth c C
  have hTl := w0_tl (iW hI)
  have hMl := w0_ml (iW hI)
  have hXl := w0_xl (iW hI)
  refine g_aload_n C dX5_first_0 rfl ?_
  refine gf_X5_10 C dX5_first_1 ?_
  refine g_iload_n C dX5_first_4 rfl ?_
  refine g_callVr 1 C (cr_X4_has hI) mw_X4_has ml_X5_59 rfl rfl rfl rfl (Nat.le_of_ble_eq_true rfl) dX5_first_5 ⟨Nat.le_of_ble_eq_true rfl, Nat.le_of_ble_eq_true rfl⟩ ⟨Nat.le_of_ble_eq_true rfl, Nat.le_of_ble_eq_true rfl⟩ ?_
  refine g_ifb_ne (tgt := 14) C dX5_first_8 (by decide) (fun h8 => ?_) (fun h8 => ?_)
  · obtain ⟨t, ht, rfl⟩ := isT_get hI h8
    refine g_iconst (v := -1) C dX5_first_14 (by decide) ?_
    refine g_istore_n C dX5_first_15 (by decide) ?_
    refine g_iconst (v := -1) C dX5_first_16 (by decide) ?_
    refine g_istore_n C dX5_first_17 (by decide) ?_
    refine g_iconstN 0 C dX5_first_18 (by decide) ?_
    refine g_istore C dX5_first_19 (by decide) ?_
    have loop : ∀ (n i : Nat), i ≤ nM τ → nM τ + 1 ≤ i + n → G p l e (rmo 4 96) s m ([.ref (b 0), .int (nI t)] : List Value).toArray below meth c D (va_A (pX b cI cZ σ) s.heap.size) 0 0 (Qe below ([.ref (b 0), .int (nI t)] : List Value).toArray s D (pX b cI cZ) σ (fun r u => r = some (.int (aFst τ (nI t))) ∧ u = σ)) 6 (pX b cI cZ σ) 21 [some (.ref (b 0)), some (.int (nI t)), some (.int ((fsF τ t i).1)), some (.int ((fsF τ t i).2)), some (.int (nI i)), none] [] := by
      intro n
      induction n with
      | zero => intro i h1 h2; omega
      | succ n ih =>
        intro i h1 h2
        refine g_iload C dX5_first_21 rfl ?_
        refine g_aload_n C dX5_first_23 rfl ?_
        refine gf_X5_28 C dX5_first_24 ?_
        refine g_callVr 9 C (cr_X2_size hI) mw_X2_size ml_X5_50 rfl rfl rfl rfl (Nat.le_of_ble_eq_true rfl) dX5_first_27 ⟨Nat.le_of_ble_eq_true rfl, Nat.le_of_ble_eq_true rfl⟩ ⟨Nat.le_of_ble_eq_true rfl, Nat.le_of_ble_eq_true rfl⟩ ?_
        refine g_icmpN_ge (tgt := 79) C (by omega) (by omega) dX5_first_30 (by decide) (fun h30 => ?_) (fun h30 => ?_)
        · refine g_iload_n C dX5_first_79 rfl ?_
          exact g_iret C dX5_first_80 ⟨rt_i (by rw [aFst, if_pos h8, nN, nI_clamp (show t < 2 ^ 31 by omega), show i = nM τ by omega]), rfl⟩
        · have hof_i := w0_ofl (iW hI) (show i < nM τ by omega)
          refine g_aload_n C dX5_first_33 rfl ?_
          refine gf_X5_28 C dX5_first_34 ?_
          refine g_iload C dX5_first_37 rfl ?_
          refine g_callVr 9 C (cr_X2_typeOf hI (show i < nM τ by omega)) mw_X2_typeOf ml_X5_122 rfl rfl rfl rfl (Nat.le_of_ble_eq_true rfl) dX5_first_39 ⟨Nat.le_of_ble_eq_true rfl, Nat.le_of_ble_eq_true rfl⟩ ⟨Nat.le_of_ble_eq_true rfl, Nat.le_of_ble_eq_true rfl⟩ ?_
          refine g_iload_n C dX5_first_42 rfl ?_
          refine g_icmpN_ne (tgt := 58) C (by omega) (by omega) dX5_first_43 (by decide) (fun h43 => ?_) (fun h43 => ?_)
          · refine g_iconst (v := -1) C dX5_first_58 (by decide) ?_
            refine g_istore C dX5_first_59 (by decide) ?_
            refine g_iload C dX5_first_61 rfl ?_
            refine g_iload_n C dX5_first_63 rfl ?_
            refine g_icmp_le (tgt := 73) C dX5_first_64 (by decide) (fun h64 => ?_) (fun h64 => ?_)
            · refine g_iincN C dX5_first_73 rfl (by decide) ?_
              refine g_goto (tgt := 21) C dX5_first_76 (by decide) ?_
              have hh := ih (i + 1) (by omega) (by omega); rw [show fsF τ t (i + 1) = fsF τ t i from (by simp [fsF, fsC, h43])] at hh; exact hh.weak (by simp [lvle, lst])
            · refine g_iload C dX5_first_67 rfl ?_
              refine g_istore_n C dX5_first_69 (by decide) ?_
              refine g_iload C dX5_first_70 rfl ?_
              refine g_istore_n C dX5_first_72 (by decide) ?_
              refine g_iincN C dX5_first_73 rfl (by decide) ?_
              refine g_goto (tgt := 21) C dX5_first_76 (by decide) ?_
              exact absurd (Int32.not_le.mp h64) fs_m1
          · refine g_aload_n C dX5_first_46 rfl ?_
            refine gf_X5_28 C dX5_first_47 ?_
            refine g_iload C dX5_first_50 rfl ?_
            refine g_callVr 9 C (cr_X2_countOverridden hI (show i < nM τ by omega)) mw_X2_countOverridden ml_X5_143 rfl rfl rfl rfl (Nat.le_of_ble_eq_true rfl) dX5_first_52 ⟨Nat.le_of_ble_eq_true rfl, Nat.le_of_ble_eq_true rfl⟩ ⟨Nat.le_of_ble_eq_true rfl, Nat.le_of_ble_eq_true rfl⟩ ?_
            refine g_goto (tgt := 59) C dX5_first_55 (by decide) ?_
            refine g_istore C dX5_first_59 (by decide) ?_
            refine g_iload C dX5_first_61 rfl ?_
            refine g_iload_n C dX5_first_63 rfl ?_
            refine g_icmp_le (tgt := 73) C dX5_first_64 (by decide) (fun h64 => ?_) (fun h64 => ?_)
            · refine g_iincN C dX5_first_73 rfl (by decide) ?_
              refine g_goto (tgt := 21) C dX5_first_76 (by decide) ?_
              have hh := ih (i + 1) (by omega) (by omega); rw [show fsF τ t (i + 1) = fsF τ t i from (by simp [fsF, fsC, h43, Int32.not_lt.mpr h64])] at hh; exact hh.weak (by simp [lvle, lst])
            · refine g_iload C dX5_first_67 rfl ?_
              refine g_istore_n C dX5_first_69 (by decide) ?_
              refine g_iload C dX5_first_70 rfl ?_
              refine g_istore_n C dX5_first_72 (by decide) ?_
              refine g_iincN C dX5_first_73 rfl (by decide) ?_
              refine g_goto (tgt := 21) C dX5_first_76 (by decide) ?_
              have hh := ih (i + 1) (by omega) (by omega); rw [show fsF τ t (i + 1) = (nI i, nI (cntN (nM τ) (Ov τ i))) from (by simp [fsF, fsC, h43, Int32.not_le.mp h64])] at hh; exact hh.weak (by simp [lvle, lst])
    exact (loop (nM τ + 1) 0 (by omega) (by omega)).weak (by simp [lvle, lst, fsF])
  · refine g_bipush (v := -2) C dX5_first_11 (by decide) ?_
    exact g_iret C dX5_first_13 ⟨rt_i (by simp [aFst, h8]), rfl⟩

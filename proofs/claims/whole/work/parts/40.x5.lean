/-! ===== the class: Faults ===== -/
/-- the class's state with other numbers in Faults -/
def fS (σ : St) (w c a m o : Int32) : St := fun k => bif Nat.beq k 0 then (fun j => bif Nat.beq j 4 then w else bif Nat.beq j 5 then c else bif Nat.beq j 6 then a else bif Nat.beq j 7 then m else bif Nat.beq j 8 then o else σ 0 j) else σ k
theorem Inv_f {τ σ : St} {w c a m o : Int32} (h : Inv τ σ) : Inv τ (fS σ w c a m o) := h
theorem fS_up {σ : St} {w c a m o x : Int32} : up2 (fS σ w c a m o) 0 4 x = fS σ x c a m o ∧ up2 (fS σ w c a m o) 0 5 x = fS σ w x a m o ∧ up2 (fS σ w c a m o) 0 6 x = fS σ w c x m o ∧ up2 (fS σ w c a m o) 0 7 x = fS σ w c a x o ∧ up2 (fS σ w c a m o) 0 8 x = fS σ w c a m x := by
  have key : ∀ (j : Nat) (g : Nat → Int32), (∀ i, upd (fS σ w c a m o 0) j x i = g i) → up2 (fS σ w c a m o) 0 j x = fun k => bif Nat.beq k 0 then g else σ k := by
    intro j g hg
    funext k
    by_cases h : k = 0
    · subst h
      show upd (fS σ w c a m o 0) j x = g
      exact funext hg
    · simp only [up2, fS, nbeq h, cond_false]
  have nb : ∀ {i n : Nat}, ¬ i = n → Nat.beq i n = false := fun h => nbeq h
  refine ⟨key 4 _ fun i => ?_, key 5 _ fun i => ?_, key 6 _ fun i => ?_, key 7 _ fun i => ?_, key 8 _ fun i => ?_⟩
  all_goals
    simp only [upd, fS, show Nat.beq 0 0 = true from rfl, cond_true]
    by_cases h4 : i = 4
    · subst h4; rfl
    by_cases h5 : i = 5
    · subst h5; rfl
    by_cases h6 : i = 6
    · subst h6; rfl
    by_cases h7 : i = 7
    · subst h7; rfl
    by_cases h8 : i = 8
    · subst h8; rfl
    simp only [nb h4, nb h5, nb h6, nb h7, nb h8, h4, h5, h6, h7, h8, if_false, cond_false]
theorem fS_of (σ : St) : σ = fS σ (σ 0 4) (σ 0 5) (σ 0 6) (σ 0 7) (σ 0 8) := by
  funext k j
  by_cases h : k = 0
  · subst h
    simp only [fS, show Nat.beq 0 0 = true from rfl, cond_true]
    by_cases h4 : j = 4
    · subst h4; rfl
    by_cases h5 : j = 5
    · subst h5; rfl
    by_cases h6 : j = 6
    · subst h6; rfl
    by_cases h7 : j = 7
    · subst h7; rfl
    by_cases h8 : j = 8
    · subst h8; rfl
    simp only [nbeq h4, nbeq h5, nbeq h6, nbeq h7, nbeq h8, cond_false]
  · simp only [fS, nbeq h, cond_false]
/-- the wanted fault of a list -/
def pk (w : Int32) (L : List Ft) : Ft := if w < 0 then (-1, -1, -1) else (L[nN w]?).getD (-1, -1, -1)
theorem pk_new {w : Int32} {L : List Ft} {x : Ft} (hL : L.length < 2 ^ 31) (h : nI L.length = w) : pk w (L ++ [x]) = x := by
  subst h
  rw [pk, if_neg (nI_pos hL), nN, nI_clamp hL]
  simp
theorem pk_old {w : Int32} {L : List Ft} {x : Ft} (hL : L.length < 2 ^ 31) (h : ¬ nI L.length = w) : pk w (L ++ [x]) = pk w L := by
  rw [pk, pk]
  by_cases h0 : w < 0
  · rw [if_pos h0, if_pos h0]
  · rw [if_neg h0, if_neg h0]
    obtain ⟨j, hj, rfl⟩ := nI_of h0
    rw [nN, nI_clamp hj]
    have : ¬ L.length = j := fun e => h (by rw [e])
    rcases Nat.lt_or_ge j L.length with q | q
    · rw [List.getElem?_append_left q]
    · rw [List.getElem?_eq_none (by simp; omega), List.getElem?_eq_none (by omega)]
/-- the state when the faults L have been walked, w being wanted -/
def fL (σ : St) (w : Int32) (L : List Ft) : St := fS σ w (nI L.length) (pk w L).1 (pk w L).2.1 (pk w L).2.2
theorem fL_new {σ : St} {w : Int32} {L : List Ft} {x : Ft} (hL : L.length < 2 ^ 31) (h : nI L.length = w) : fS σ w (nI (L.length + 1)) x.1 x.2.1 x.2.2 = fL σ w (L ++ [x]) := by
  unfold fL
  rw [pk_new hL h, List.length_append]; rfl
theorem fL_old {σ : St} {w : Int32} {L : List Ft} {x : Ft} (hL : L.length < 2 ^ 31) (h : ¬ nI L.length = w) : fS σ w (nI (L.length + 1)) (pk w L).1 (pk w L).2.1 (pk w L).2.2 = fL σ w (L ++ [x]) := by
  unfold fL
  rw [pk_old hL h, List.length_append]; rfl
theorem Inv_L {τ σ : St} {w : Int32} {L : List Ft} (h : Inv τ σ) : Inv τ (fL σ w L) := h
set_option maxRecDepth 100000 in
set_option maxHeartbeats 4000000 in
theorem ct_X1_note {l : Launch} {D : va_G} {cI cZ : ClassId} {b : Nat → Nat} {σ : St} {w : Int32} {L : List Ft} (hL : L.length < 100000) {x1 x2 x3 : Int32} : Ct l yX1_note cX1_note 4 none 0 0 D cI cZ (pX b cI cZ) [.ref (b 17), .int x1, .int x2, .int x3] (fL σ w L) (fun r v => r = none ∧ v = fL σ w (L ++ [(x1, x2, x3)])) := by
  refine Ct.of 0 (by decide) (by simp [Value.category]) (Nat.le_of_ble_eq_true rfl) ?_
  intro p e s m below meth c C
  refine g_aload_n C dX1_note_0 rfl ?_
  refine gn_X1_15 C (v := nI L.length) rfl dX1_note_1 ?_
  refine g_aload_n C dX1_note_4 rfl ?_
  refine gn_X1_9 C (v := w) rfl dX1_note_5 ?_
  refine g_icmp_ne (tgt := 26) C dX1_note_8 (by decide) (fun h8 => ?_) (fun h8 => ?_)
  · refine g_aload_n C dX1_note_26 rfl ?_
    refine g_dup C dX1_note_27 rfl ?_
    refine gn_X1_15 C (v := nI L.length) rfl dX1_note_28 ?_
    refine g_iconstN 1 C dX1_note_31 (by decide) ?_
    refine g_iaddN C dX1_note_32 ?_
    refine gp_X1_15 C dX1_note_33 ?_
    try rw [fL]
    rw [fS_up.2.1]
    exact g_vret C dX1_note_36 ⟨rfl, fL_old (by omega) h8⟩
  · refine g_aload_n C dX1_note_11 rfl ?_
    refine g_iload_n C dX1_note_12 rfl ?_
    refine gp_X1_18 C dX1_note_13 ?_
    try rw [fL]
    rw [fS_up.2.2.1]
    refine g_aload_n C dX1_note_16 rfl ?_
    refine g_iload_n C dX1_note_17 rfl ?_
    refine gp_X1_21 C dX1_note_18 ?_
    try rw [fL]
    rw [fS_up.2.2.2.1]
    refine g_aload_n C dX1_note_21 rfl ?_
    refine g_iload_n C dX1_note_22 rfl ?_
    refine gp_X1_24 C dX1_note_23 ?_
    try rw [fL]
    rw [fS_up.2.2.2.2]
    refine g_aload_n C dX1_note_26 rfl ?_
    refine g_dup C dX1_note_27 rfl ?_
    refine gn_X1_15 C (v := nI L.length) rfl dX1_note_28 ?_
    refine g_iconstN 1 C dX1_note_31 (by decide) ?_
    refine g_iaddN C dX1_note_32 ?_
    refine gp_X1_15 C dX1_note_33 ?_
    try rw [fL]
    rw [fS_up.2.1]
    exact g_vret C dX1_note_36 ⟨rfl, fL_new (x := (x1, x2, x3)) (by omega) h8⟩
set_option maxRecDepth 100000 in
set_option maxHeartbeats 4000000 in
theorem ct_X1_noteIf {l : Launch} {D : va_G} {cI cZ : ClassId} {b : Nat → Nat} {σ : St} {w : Int32} {L : List Ft} (hL : L.length < 100000) {q : Bool} {x1 x2 x3 : Int32} : Ct l yX1_noteIf cX1_noteIf 5 none 1 23 D cI cZ (pX b cI cZ) [.ref (b 17), .int (b2i q), .int x1, .int x2, .int x3] (fL σ w L) (fun r v => r = none ∧ v = fL σ w (L ++ (bif q then [(x1, x2, x3)] else []))) := by
  refine Ct.of 0 (by decide) (by simp [Value.category]) (Nat.le_of_ble_eq_true rfl) ?_
  intro p e s m below meth c C
  refine g_iload_n C dX1_noteIf_0 rfl ?_
  refine g_ifb_eq (tgt := 12) C dX1_noteIf_1 (by decide) (fun h1 => ?_) (fun h1 => ?_)
  · exact g_vret C dX1_noteIf_12 ⟨rfl, by rw [h1]; simp⟩
  · refine g_aload_n C dX1_noteIf_4 rfl ?_
    refine g_iload_n C dX1_noteIf_5 rfl ?_
    refine g_iload_n C dX1_noteIf_6 rfl ?_
    refine g_iload C dX1_noteIf_7 rfl ?_
    refine g_callV 17 C (ct_X1_note hL) mw_X1_note ml_X1_66 rfl rfl rfl rfl (Nat.le_of_ble_eq_true rfl) dX1_noteIf_9 ⟨Nat.le_of_ble_eq_true rfl, Nat.le_of_ble_eq_true rfl⟩ ⟨Nat.le_of_ble_eq_true rfl, Nat.le_of_ble_eq_true rfl⟩ ?_
    intro r v hv
    obtain ⟨rfl, rfl⟩ := hv
    exact g_vret C dX1_noteIf_12 ⟨rfl, by rw [h1]; simp⟩
set_option maxRecDepth 100000 in
set_option maxHeartbeats 4000000 in
theorem cr_X1_suits {l : Launch} {D : va_G} {cI cZ : ClassId} {b : Nat → Nat} {τ σ : St} (hI : Inv τ σ) {a1 a2 : Nat} (h1 : a1 < 20) (h2 : a2 < 20) (g1 : a1 < 16 → a1 < nT τ) (g2 : a2 < 16 → a2 < nT τ) : Cr l yX1_suits cX1_suits 3 (some .boolean) 1 22 D cI cZ (pX b cI cZ) [.ref (b 17), .int (nI a1), .int (nI a2)] σ (b2i (Sts τ a1 a2)) := by
  refine Ct.of 0 (by decide) (by simp [Value.category]) (Nat.le_of_ble_eq_true rfl) ?_
  intro p e s m below meth c C
  have hTl := w0_tl (iW hI)
  have hMl := w0_ml (iW hI)
  have hXl := w0_xl (iW hI)
  have t1 : isT τ (nI a1) = decide (a1 < 16) := by
    by_cases q : a1 < 16
    · rw [isT_nI (iW hI) (g1 q)]; simp [q]
    · rw [isT, w0_t (iW hI), inB_lt (by omega)]; simp [q, nI_nlt (a := a1) (b := nT τ) (by omega) (by omega)]
  have t2 : isT τ (nI a2) = decide (a2 < 16) := by
    by_cases q : a2 < 16
    · rw [isT_nI (iW hI) (g2 q)]; simp [q]
    · rw [isT, w0_t (iW hI), inB_lt (by omega)]; simp [q, nI_nlt (a := a2) (b := nT τ) (by omega) (by omega)]
  refine g_iload_n C dX1_suits_0 rfl ?_
  refine g_iload_n C dX1_suits_1 rfl ?_
  refine g_icmpN_ne (tgt := 7) C (by omega) (by omega) dX1_suits_2 (by decide) (fun hh => ?_) (fun hh => ?_)
  · refine g_aload_n C dX1_suits_7 rfl ?_
    refine gf_X1_27 C dX1_suits_8 ?_
    refine g_iload_n C dX1_suits_11 rfl ?_
    refine g_callVr 1 C (cr_X4_has hI) mw_X4_has ml_X1_111 rfl rfl rfl rfl (Nat.le_of_ble_eq_true rfl) dX1_suits_12 ⟨Nat.le_of_ble_eq_true rfl, Nat.le_of_ble_eq_true rfl⟩ ⟨Nat.le_of_ble_eq_true rfl, Nat.le_of_ble_eq_true rfl⟩ ?_
    refine g_ifb_eq (tgt := 45) C dX1_suits_15 (by decide) (fun h15 => ?_) (fun h15 => ?_)
    · refine g_iconst (v := 0) C dX1_suits_45 (by decide) ?_
      exact g_zret C dX1_suits_46 nar_0 ⟨rt_f (by rw [t1] at h15; rw [Sts, decide_eq_false hh, h15]; rfl), rfl⟩
    · refine g_aload_n C dX1_suits_18 rfl ?_
      refine gf_X1_27 C dX1_suits_19 ?_
      refine g_iload_n C dX1_suits_22 rfl ?_
      refine g_callVr 1 C (cr_X4_has hI) mw_X4_has ml_X1_111 rfl rfl rfl rfl (Nat.le_of_ble_eq_true rfl) dX1_suits_23 ⟨Nat.le_of_ble_eq_true rfl, Nat.le_of_ble_eq_true rfl⟩ ⟨Nat.le_of_ble_eq_true rfl, Nat.le_of_ble_eq_true rfl⟩ ?_
      refine g_ifb_eq (tgt := 45) C dX1_suits_26 (by decide) (fun h26 => ?_) (fun h26 => ?_)
      · refine g_iconst (v := 0) C dX1_suits_45 (by decide) ?_
        exact g_zret C dX1_suits_46 nar_0 ⟨rt_f (by rw [t1] at h15; rw [t2] at h26; rw [Sts, decide_eq_false hh, h15, h26]; rfl), rfl⟩
      · refine g_aload_n C dX1_suits_29 rfl ?_
        refine gf_X1_27 C dX1_suits_30 ?_
        refine g_iload_n C dX1_suits_33 rfl ?_
        refine g_iload_n C dX1_suits_34 rfl ?_
        refine g_callVr 1 C (cr_X4_isSub hI (g1 (by rw [t1] at h15; simpa using h15)) (by rw [t2] at h26; simpa using h26)) mw_X4_isSub ml_X1_114 rfl rfl rfl rfl (Nat.le_of_ble_eq_true rfl) dX1_suits_35 ⟨Nat.le_of_ble_eq_true rfl, Nat.le_of_ble_eq_true rfl⟩ ⟨Nat.le_of_ble_eq_true rfl, Nat.le_of_ble_eq_true rfl⟩ ?_
        refine g_ifb_eq (tgt := 45) C dX1_suits_38 (by decide) (fun h38 => ?_) (fun h38 => ?_)
        · refine g_iconst (v := 0) C dX1_suits_45 (by decide) ?_
          exact g_zret C dX1_suits_46 nar_0 ⟨rt_f (by rw [t1] at h15; rw [t2] at h26; rw [Sts, decide_eq_false hh, h15, h26, h38]; rfl), rfl⟩
        · refine g_iconst (v := 1) C dX1_suits_41 (by decide) ?_
          refine g_goto (tgt := 46) C dX1_suits_42 (by decide) ?_
          exact g_zret C dX1_suits_46 nar_1 ⟨rt_t (by rw [t1] at h15; rw [t2] at h26; rw [Sts, decide_eq_false hh, h15, h26, h38]; rfl), rfl⟩
  · refine g_iconst (v := 1) C dX1_suits_5 (by decide) ?_
    exact g_zret C dX1_suits_6 nar_1 ⟨rt_t (by subst hh; simp [Sts]), rfl⟩
set_option maxRecDepth 100000 in
set_option maxHeartbeats 4000000 in
theorem ct_X1_compare {l : Launch} {D : va_G} {cI cZ : ClassId} {b : Nat → Nat} {τ σ : St} (hI : Inv τ σ) {w : Int32} {L : List Ft} (hL : L.length + 5 < 100000) {x o : Nat} (hx : x < nM τ) (ho : o < nM τ) : Ct l yX1_compare cX1_compare 3 none 2 47 D cI cZ (pX b cI cZ) [.ref (b 17), .int (nI x), .int (nI o)] (fL σ w L) (fun r v => r = none ∧ v = fL σ w (L ++ thrL τ x o)) := by
  refine Ct.of 0 (by decide) (by simp [Value.category]) (Nat.le_of_ble_eq_true rfl) ?_
  intro p e s m below meth c C
  have hTl := w0_tl (iW hI)
  have hMl := w0_ml (iW hI)
  have hXl := w0_xl (iW hI)
  have hI1 : ∀ {L2 : List Ft}, Inv τ (fL σ w L2) := hI
  have hrx := w0_rsl (iW hI) hx
  have hro := w0_rsl (iW hI) ho
  refine g_aload_n C dX1_compare_0 rfl ?_
  refine g_aload_n C dX1_compare_1 rfl ?_
  refine gf_X1_35 C dX1_compare_2 ?_
  refine g_iload_n C dX1_compare_5 rfl ?_
  refine g_callVr 9 C (cr_X2_accessOf hI1 (by assumption)) mw_X2_accessOf ml_X1_94 rfl rfl rfl rfl (Nat.le_of_ble_eq_true rfl) dX1_compare_6 ⟨Nat.le_of_ble_eq_true rfl, Nat.le_of_ble_eq_true rfl⟩ ⟨Nat.le_of_ble_eq_true rfl, Nat.le_of_ble_eq_true rfl⟩ ?_
  refine g_aload_n C dX1_compare_9 rfl ?_
  refine gf_X1_35 C dX1_compare_10 ?_
  refine g_iload_n C dX1_compare_13 rfl ?_
  refine g_callVr 9 C (cr_X2_accessOf hI1 (by assumption)) mw_X2_accessOf ml_X1_94 rfl rfl rfl rfl (Nat.le_of_ble_eq_true rfl) dX1_compare_14 ⟨Nat.le_of_ble_eq_true rfl, Nat.le_of_ble_eq_true rfl⟩ ⟨Nat.le_of_ble_eq_true rfl, Nat.le_of_ble_eq_true rfl⟩ ?_
  refine g_icmp_ge (tgt := 24) C dX1_compare_17 (by decide) (fun h17 => ?_) (fun h17 => ?_)
  · refine g_iconst (v := 0) C dX1_compare_24 (by decide) ?_
    refine g_iconst (v := 3) C dX1_compare_25 (by decide) ?_
    refine g_iload_n C dX1_compare_26 rfl ?_
    refine g_iload_n C dX1_compare_27 rfl ?_
    refine g_callV 17 C (ct_X1_noteIf (q := false) (by first | omega | (simp only [List.length_append, cond_true, cond_false, List.length_cons, List.length_nil]; omega))) mw_X1_noteIf ml_X1_77 rfl rfl rfl rfl (Nat.le_of_ble_eq_true rfl) dX1_compare_28 ⟨Nat.le_of_ble_eq_true rfl, Nat.le_of_ble_eq_true rfl⟩ ⟨Nat.le_of_ble_eq_true rfl, Nat.le_of_ble_eq_true rfl⟩ ?_
    intro r v hv
    obtain ⟨rfl, rfl⟩ := hv
    refine g_aload_n C dX1_compare_31 rfl ?_
    refine g_aload_n C dX1_compare_32 rfl ?_
    refine g_aload_n C dX1_compare_33 rfl ?_
    refine gf_X1_35 C dX1_compare_34 ?_
    refine g_iload_n C dX1_compare_37 rfl ?_
    refine g_callVr 9 C (cr_X2_resultOf hI1 (by assumption)) mw_X2_resultOf ml_X1_97 rfl rfl rfl rfl (Nat.le_of_ble_eq_true rfl) dX1_compare_38 ⟨Nat.le_of_ble_eq_true rfl, Nat.le_of_ble_eq_true rfl⟩ ⟨Nat.le_of_ble_eq_true rfl, Nat.le_of_ble_eq_true rfl⟩ ?_
    refine g_aload_n C dX1_compare_41 rfl ?_
    refine gf_X1_35 C dX1_compare_42 ?_
    refine g_iload_n C dX1_compare_45 rfl ?_
    refine g_callVr 9 C (cr_X2_resultOf hI1 (by assumption)) mw_X2_resultOf ml_X1_97 rfl rfl rfl rfl (Nat.le_of_ble_eq_true rfl) dX1_compare_46 ⟨Nat.le_of_ble_eq_true rfl, Nat.le_of_ble_eq_true rfl⟩ ⟨Nat.le_of_ble_eq_true rfl, Nat.le_of_ble_eq_true rfl⟩ ?_
    refine g_callVr 17 C (cr_X1_suits hI1 hrx hro (i_res hI hx) (i_res hI ho)) mw_X1_suits ml_X1_100 rfl rfl rfl rfl (Nat.le_of_ble_eq_true rfl) dX1_compare_49 ⟨Nat.le_of_ble_eq_true rfl, Nat.le_of_ble_eq_true rfl⟩ ⟨Nat.le_of_ble_eq_true rfl, Nat.le_of_ble_eq_true rfl⟩ ?_
    refine g_ifb_ne (tgt := 59) C dX1_compare_52 (by decide) (fun h52 => ?_) (fun h52 => ?_)
    · refine g_iconst (v := 0) C dX1_compare_59 (by decide) ?_
      refine g_iconst (v := 4) C dX1_compare_60 (by decide) ?_
      refine g_iload_n C dX1_compare_61 rfl ?_
      refine g_iload_n C dX1_compare_62 rfl ?_
      refine g_callV 17 C (ct_X1_noteIf (q := false) (by first | omega | (simp only [List.length_append, cond_true, cond_false, List.length_cons, List.length_nil]; omega))) mw_X1_noteIf ml_X1_77 rfl rfl rfl rfl (Nat.le_of_ble_eq_true rfl) dX1_compare_63 ⟨Nat.le_of_ble_eq_true rfl, Nat.le_of_ble_eq_true rfl⟩ ⟨Nat.le_of_ble_eq_true rfl, Nat.le_of_ble_eq_true rfl⟩ ?_
      intro r v hv
      obtain ⟨rfl, rfl⟩ := hv
      refine g_aload_n C dX1_compare_66 rfl ?_
      refine g_aload_n C dX1_compare_67 rfl ?_
      refine gf_X1_31 C dX1_compare_68 ?_
      refine g_aload_n C dX1_compare_71 rfl ?_
      refine gf_X1_35 C dX1_compare_72 ?_
      refine g_iload_n C dX1_compare_75 rfl ?_
      refine g_callVr 9 C (cr_X2_thrownBy hI1 (by assumption)) mw_X2_thrownBy ml_X1_103 rfl rfl rfl rfl (Nat.le_of_ble_eq_true rfl) dX1_compare_76 ⟨Nat.le_of_ble_eq_true rfl, Nat.le_of_ble_eq_true rfl⟩ ⟨Nat.le_of_ble_eq_true rfl, Nat.le_of_ble_eq_true rfl⟩ ?_
      refine g_aload_n C dX1_compare_79 rfl ?_
      refine gf_X1_35 C dX1_compare_80 ?_
      refine g_iload_n C dX1_compare_83 rfl ?_
      refine g_callVr 9 C (cr_X2_thrownBy hI1 (by assumption)) mw_X2_thrownBy ml_X1_103 rfl rfl rfl rfl (Nat.le_of_ble_eq_true rfl) dX1_compare_84 ⟨Nat.le_of_ble_eq_true rfl, Nat.le_of_ble_eq_true rfl⟩ ⟨Nat.le_of_ble_eq_true rfl, Nat.le_of_ble_eq_true rfl⟩ ?_
      refine g_callVr 7 C (cr_X3_areAllowed hI1 (x := x) (o := o)) mw_X3_areAllowed ml_X1_106 rfl rfl rfl rfl (Nat.le_of_ble_eq_true rfl) dX1_compare_87 ⟨Nat.le_of_ble_eq_true rfl, Nat.le_of_ble_eq_true rfl⟩ ⟨Nat.le_of_ble_eq_true rfl, Nat.le_of_ble_eq_true rfl⟩ ?_
      refine g_ifb_ne (tgt := 97) C dX1_compare_90 (by decide) (fun h90 => ?_) (fun h90 => ?_)
      · refine g_iconst (v := 0) C dX1_compare_97 (by decide) ?_
        refine g_iconst (v := 5) C dX1_compare_98 (by decide) ?_
        refine g_iload_n C dX1_compare_99 rfl ?_
        refine g_iload_n C dX1_compare_100 rfl ?_
        refine g_callV 17 C (ct_X1_noteIf (q := false) (by first | omega | (simp only [List.length_append, cond_true, cond_false, List.length_cons, List.length_nil]; omega))) mw_X1_noteIf ml_X1_77 rfl rfl rfl rfl (Nat.le_of_ble_eq_true rfl) dX1_compare_101 ⟨Nat.le_of_ble_eq_true rfl, Nat.le_of_ble_eq_true rfl⟩ ⟨Nat.le_of_ble_eq_true rfl, Nat.le_of_ble_eq_true rfl⟩ ?_
        intro r v hv
        obtain ⟨rfl, rfl⟩ := hv
        exact g_vret C dX1_compare_104 ⟨rfl, by simp [thrL, show ¬ Acc τ x < Acc τ o from Int32.not_lt.mpr h17, show Sts τ (Rs τ x) (Rs τ o) = true from h52, show ThB τ x o = false from (by simpa using h90)]⟩
      · refine g_iconst (v := 1) C dX1_compare_93 (by decide) ?_
        refine g_goto (tgt := 98) C dX1_compare_94 (by decide) ?_
        refine g_iconst (v := 5) C dX1_compare_98 (by decide) ?_
        refine g_iload_n C dX1_compare_99 rfl ?_
        refine g_iload_n C dX1_compare_100 rfl ?_
        refine g_callV 17 C (ct_X1_noteIf (q := true) (by first | omega | (simp only [List.length_append, cond_true, cond_false, List.length_cons, List.length_nil]; omega))) mw_X1_noteIf ml_X1_77 rfl rfl rfl rfl (Nat.le_of_ble_eq_true rfl) dX1_compare_101 ⟨Nat.le_of_ble_eq_true rfl, Nat.le_of_ble_eq_true rfl⟩ ⟨Nat.le_of_ble_eq_true rfl, Nat.le_of_ble_eq_true rfl⟩ ?_
        intro r v hv
        obtain ⟨rfl, rfl⟩ := hv
        exact g_vret C dX1_compare_104 ⟨rfl, by simp [thrL, show ¬ Acc τ x < Acc τ o from Int32.not_lt.mpr h17, show Sts τ (Rs τ x) (Rs τ o) = true from h52, show ThB τ x o = true from (by simpa using h90)]⟩
    · refine g_iconst (v := 1) C dX1_compare_55 (by decide) ?_
      refine g_goto (tgt := 60) C dX1_compare_56 (by decide) ?_
      refine g_iconst (v := 4) C dX1_compare_60 (by decide) ?_
      refine g_iload_n C dX1_compare_61 rfl ?_
      refine g_iload_n C dX1_compare_62 rfl ?_
      refine g_callV 17 C (ct_X1_noteIf (q := true) (by first | omega | (simp only [List.length_append, cond_true, cond_false, List.length_cons, List.length_nil]; omega))) mw_X1_noteIf ml_X1_77 rfl rfl rfl rfl (Nat.le_of_ble_eq_true rfl) dX1_compare_63 ⟨Nat.le_of_ble_eq_true rfl, Nat.le_of_ble_eq_true rfl⟩ ⟨Nat.le_of_ble_eq_true rfl, Nat.le_of_ble_eq_true rfl⟩ ?_
      intro r v hv
      obtain ⟨rfl, rfl⟩ := hv
      refine g_aload_n C dX1_compare_66 rfl ?_
      refine g_aload_n C dX1_compare_67 rfl ?_
      refine gf_X1_31 C dX1_compare_68 ?_
      refine g_aload_n C dX1_compare_71 rfl ?_
      refine gf_X1_35 C dX1_compare_72 ?_
      refine g_iload_n C dX1_compare_75 rfl ?_
      refine g_callVr 9 C (cr_X2_thrownBy hI1 (by assumption)) mw_X2_thrownBy ml_X1_103 rfl rfl rfl rfl (Nat.le_of_ble_eq_true rfl) dX1_compare_76 ⟨Nat.le_of_ble_eq_true rfl, Nat.le_of_ble_eq_true rfl⟩ ⟨Nat.le_of_ble_eq_true rfl, Nat.le_of_ble_eq_true rfl⟩ ?_
      refine g_aload_n C dX1_compare_79 rfl ?_
      refine gf_X1_35 C dX1_compare_80 ?_
      refine g_iload_n C dX1_compare_83 rfl ?_
      refine g_callVr 9 C (cr_X2_thrownBy hI1 (by assumption)) mw_X2_thrownBy ml_X1_103 rfl rfl rfl rfl (Nat.le_of_ble_eq_true rfl) dX1_compare_84 ⟨Nat.le_of_ble_eq_true rfl, Nat.le_of_ble_eq_true rfl⟩ ⟨Nat.le_of_ble_eq_true rfl, Nat.le_of_ble_eq_true rfl⟩ ?_
      refine g_callVr 7 C (cr_X3_areAllowed hI1 (x := x) (o := o)) mw_X3_areAllowed ml_X1_106 rfl rfl rfl rfl (Nat.le_of_ble_eq_true rfl) dX1_compare_87 ⟨Nat.le_of_ble_eq_true rfl, Nat.le_of_ble_eq_true rfl⟩ ⟨Nat.le_of_ble_eq_true rfl, Nat.le_of_ble_eq_true rfl⟩ ?_
      refine g_ifb_ne (tgt := 97) C dX1_compare_90 (by decide) (fun h90 => ?_) (fun h90 => ?_)
      · refine g_iconst (v := 0) C dX1_compare_97 (by decide) ?_
        refine g_iconst (v := 5) C dX1_compare_98 (by decide) ?_
        refine g_iload_n C dX1_compare_99 rfl ?_
        refine g_iload_n C dX1_compare_100 rfl ?_
        refine g_callV 17 C (ct_X1_noteIf (q := false) (by first | omega | (simp only [List.length_append, cond_true, cond_false, List.length_cons, List.length_nil]; omega))) mw_X1_noteIf ml_X1_77 rfl rfl rfl rfl (Nat.le_of_ble_eq_true rfl) dX1_compare_101 ⟨Nat.le_of_ble_eq_true rfl, Nat.le_of_ble_eq_true rfl⟩ ⟨Nat.le_of_ble_eq_true rfl, Nat.le_of_ble_eq_true rfl⟩ ?_
        intro r v hv
        obtain ⟨rfl, rfl⟩ := hv
        exact g_vret C dX1_compare_104 ⟨rfl, by simp [thrL, show ¬ Acc τ x < Acc τ o from Int32.not_lt.mpr h17, show Sts τ (Rs τ x) (Rs τ o) = false from h52, show ThB τ x o = false from (by simpa using h90)]⟩
      · refine g_iconst (v := 1) C dX1_compare_93 (by decide) ?_
        refine g_goto (tgt := 98) C dX1_compare_94 (by decide) ?_
        refine g_iconst (v := 5) C dX1_compare_98 (by decide) ?_
        refine g_iload_n C dX1_compare_99 rfl ?_
        refine g_iload_n C dX1_compare_100 rfl ?_
        refine g_callV 17 C (ct_X1_noteIf (q := true) (by first | omega | (simp only [List.length_append, cond_true, cond_false, List.length_cons, List.length_nil]; omega))) mw_X1_noteIf ml_X1_77 rfl rfl rfl rfl (Nat.le_of_ble_eq_true rfl) dX1_compare_101 ⟨Nat.le_of_ble_eq_true rfl, Nat.le_of_ble_eq_true rfl⟩ ⟨Nat.le_of_ble_eq_true rfl, Nat.le_of_ble_eq_true rfl⟩ ?_
        intro r v hv
        obtain ⟨rfl, rfl⟩ := hv
        exact g_vret C dX1_compare_104 ⟨rfl, by simp [thrL, show ¬ Acc τ x < Acc τ o from Int32.not_lt.mpr h17, show Sts τ (Rs τ x) (Rs τ o) = false from h52, show ThB τ x o = true from (by simpa using h90)]⟩
  · refine g_iconst (v := 1) C dX1_compare_20 (by decide) ?_
    refine g_goto (tgt := 25) C dX1_compare_21 (by decide) ?_
    refine g_iconst (v := 3) C dX1_compare_25 (by decide) ?_
    refine g_iload_n C dX1_compare_26 rfl ?_
    refine g_iload_n C dX1_compare_27 rfl ?_
    refine g_callV 17 C (ct_X1_noteIf (q := true) (by first | omega | (simp only [List.length_append, cond_true, cond_false, List.length_cons, List.length_nil]; omega))) mw_X1_noteIf ml_X1_77 rfl rfl rfl rfl (Nat.le_of_ble_eq_true rfl) dX1_compare_28 ⟨Nat.le_of_ble_eq_true rfl, Nat.le_of_ble_eq_true rfl⟩ ⟨Nat.le_of_ble_eq_true rfl, Nat.le_of_ble_eq_true rfl⟩ ?_
    intro r v hv
    obtain ⟨rfl, rfl⟩ := hv
    refine g_aload_n C dX1_compare_31 rfl ?_
    refine g_aload_n C dX1_compare_32 rfl ?_
    refine g_aload_n C dX1_compare_33 rfl ?_
    refine gf_X1_35 C dX1_compare_34 ?_
    refine g_iload_n C dX1_compare_37 rfl ?_
    refine g_callVr 9 C (cr_X2_resultOf hI1 (by assumption)) mw_X2_resultOf ml_X1_97 rfl rfl rfl rfl (Nat.le_of_ble_eq_true rfl) dX1_compare_38 ⟨Nat.le_of_ble_eq_true rfl, Nat.le_of_ble_eq_true rfl⟩ ⟨Nat.le_of_ble_eq_true rfl, Nat.le_of_ble_eq_true rfl⟩ ?_
    refine g_aload_n C dX1_compare_41 rfl ?_
    refine gf_X1_35 C dX1_compare_42 ?_
    refine g_iload_n C dX1_compare_45 rfl ?_
    refine g_callVr 9 C (cr_X2_resultOf hI1 (by assumption)) mw_X2_resultOf ml_X1_97 rfl rfl rfl rfl (Nat.le_of_ble_eq_true rfl) dX1_compare_46 ⟨Nat.le_of_ble_eq_true rfl, Nat.le_of_ble_eq_true rfl⟩ ⟨Nat.le_of_ble_eq_true rfl, Nat.le_of_ble_eq_true rfl⟩ ?_
    refine g_callVr 17 C (cr_X1_suits hI1 hrx hro (i_res hI hx) (i_res hI ho)) mw_X1_suits ml_X1_100 rfl rfl rfl rfl (Nat.le_of_ble_eq_true rfl) dX1_compare_49 ⟨Nat.le_of_ble_eq_true rfl, Nat.le_of_ble_eq_true rfl⟩ ⟨Nat.le_of_ble_eq_true rfl, Nat.le_of_ble_eq_true rfl⟩ ?_
    refine g_ifb_ne (tgt := 59) C dX1_compare_52 (by decide) (fun h52 => ?_) (fun h52 => ?_)
    · refine g_iconst (v := 0) C dX1_compare_59 (by decide) ?_
      refine g_iconst (v := 4) C dX1_compare_60 (by decide) ?_
      refine g_iload_n C dX1_compare_61 rfl ?_
      refine g_iload_n C dX1_compare_62 rfl ?_
      refine g_callV 17 C (ct_X1_noteIf (q := false) (by first | omega | (simp only [List.length_append, cond_true, cond_false, List.length_cons, List.length_nil]; omega))) mw_X1_noteIf ml_X1_77 rfl rfl rfl rfl (Nat.le_of_ble_eq_true rfl) dX1_compare_63 ⟨Nat.le_of_ble_eq_true rfl, Nat.le_of_ble_eq_true rfl⟩ ⟨Nat.le_of_ble_eq_true rfl, Nat.le_of_ble_eq_true rfl⟩ ?_
      intro r v hv
      obtain ⟨rfl, rfl⟩ := hv
      refine g_aload_n C dX1_compare_66 rfl ?_
      refine g_aload_n C dX1_compare_67 rfl ?_
      refine gf_X1_31 C dX1_compare_68 ?_
      refine g_aload_n C dX1_compare_71 rfl ?_
      refine gf_X1_35 C dX1_compare_72 ?_
      refine g_iload_n C dX1_compare_75 rfl ?_
      refine g_callVr 9 C (cr_X2_thrownBy hI1 (by assumption)) mw_X2_thrownBy ml_X1_103 rfl rfl rfl rfl (Nat.le_of_ble_eq_true rfl) dX1_compare_76 ⟨Nat.le_of_ble_eq_true rfl, Nat.le_of_ble_eq_true rfl⟩ ⟨Nat.le_of_ble_eq_true rfl, Nat.le_of_ble_eq_true rfl⟩ ?_
      refine g_aload_n C dX1_compare_79 rfl ?_
      refine gf_X1_35 C dX1_compare_80 ?_
      refine g_iload_n C dX1_compare_83 rfl ?_
      refine g_callVr 9 C (cr_X2_thrownBy hI1 (by assumption)) mw_X2_thrownBy ml_X1_103 rfl rfl rfl rfl (Nat.le_of_ble_eq_true rfl) dX1_compare_84 ⟨Nat.le_of_ble_eq_true rfl, Nat.le_of_ble_eq_true rfl⟩ ⟨Nat.le_of_ble_eq_true rfl, Nat.le_of_ble_eq_true rfl⟩ ?_
      refine g_callVr 7 C (cr_X3_areAllowed hI1 (x := x) (o := o)) mw_X3_areAllowed ml_X1_106 rfl rfl rfl rfl (Nat.le_of_ble_eq_true rfl) dX1_compare_87 ⟨Nat.le_of_ble_eq_true rfl, Nat.le_of_ble_eq_true rfl⟩ ⟨Nat.le_of_ble_eq_true rfl, Nat.le_of_ble_eq_true rfl⟩ ?_
      refine g_ifb_ne (tgt := 97) C dX1_compare_90 (by decide) (fun h90 => ?_) (fun h90 => ?_)
      · refine g_iconst (v := 0) C dX1_compare_97 (by decide) ?_
        refine g_iconst (v := 5) C dX1_compare_98 (by decide) ?_
        refine g_iload_n C dX1_compare_99 rfl ?_
        refine g_iload_n C dX1_compare_100 rfl ?_
        refine g_callV 17 C (ct_X1_noteIf (q := false) (by first | omega | (simp only [List.length_append, cond_true, cond_false, List.length_cons, List.length_nil]; omega))) mw_X1_noteIf ml_X1_77 rfl rfl rfl rfl (Nat.le_of_ble_eq_true rfl) dX1_compare_101 ⟨Nat.le_of_ble_eq_true rfl, Nat.le_of_ble_eq_true rfl⟩ ⟨Nat.le_of_ble_eq_true rfl, Nat.le_of_ble_eq_true rfl⟩ ?_
        intro r v hv
        obtain ⟨rfl, rfl⟩ := hv
        exact g_vret C dX1_compare_104 ⟨rfl, by simp [thrL, show Acc τ x < Acc τ o from Int32.not_le.mp h17, show Sts τ (Rs τ x) (Rs τ o) = true from h52, show ThB τ x o = false from (by simpa using h90)]⟩
      · refine g_iconst (v := 1) C dX1_compare_93 (by decide) ?_
        refine g_goto (tgt := 98) C dX1_compare_94 (by decide) ?_
        refine g_iconst (v := 5) C dX1_compare_98 (by decide) ?_
        refine g_iload_n C dX1_compare_99 rfl ?_
        refine g_iload_n C dX1_compare_100 rfl ?_
        refine g_callV 17 C (ct_X1_noteIf (q := true) (by first | omega | (simp only [List.length_append, cond_true, cond_false, List.length_cons, List.length_nil]; omega))) mw_X1_noteIf ml_X1_77 rfl rfl rfl rfl (Nat.le_of_ble_eq_true rfl) dX1_compare_101 ⟨Nat.le_of_ble_eq_true rfl, Nat.le_of_ble_eq_true rfl⟩ ⟨Nat.le_of_ble_eq_true rfl, Nat.le_of_ble_eq_true rfl⟩ ?_
        intro r v hv
        obtain ⟨rfl, rfl⟩ := hv
        exact g_vret C dX1_compare_104 ⟨rfl, by simp [thrL, show Acc τ x < Acc τ o from Int32.not_le.mp h17, show Sts τ (Rs τ x) (Rs τ o) = true from h52, show ThB τ x o = true from (by simpa using h90)]⟩
    · refine g_iconst (v := 1) C dX1_compare_55 (by decide) ?_
      refine g_goto (tgt := 60) C dX1_compare_56 (by decide) ?_
      refine g_iconst (v := 4) C dX1_compare_60 (by decide) ?_
      refine g_iload_n C dX1_compare_61 rfl ?_
      refine g_iload_n C dX1_compare_62 rfl ?_
      refine g_callV 17 C (ct_X1_noteIf (q := true) (by first | omega | (simp only [List.length_append, cond_true, cond_false, List.length_cons, List.length_nil]; omega))) mw_X1_noteIf ml_X1_77 rfl rfl rfl rfl (Nat.le_of_ble_eq_true rfl) dX1_compare_63 ⟨Nat.le_of_ble_eq_true rfl, Nat.le_of_ble_eq_true rfl⟩ ⟨Nat.le_of_ble_eq_true rfl, Nat.le_of_ble_eq_true rfl⟩ ?_
      intro r v hv
      obtain ⟨rfl, rfl⟩ := hv
      refine g_aload_n C dX1_compare_66 rfl ?_
      refine g_aload_n C dX1_compare_67 rfl ?_
      refine gf_X1_31 C dX1_compare_68 ?_
      refine g_aload_n C dX1_compare_71 rfl ?_
      refine gf_X1_35 C dX1_compare_72 ?_
      refine g_iload_n C dX1_compare_75 rfl ?_
      refine g_callVr 9 C (cr_X2_thrownBy hI1 (by assumption)) mw_X2_thrownBy ml_X1_103 rfl rfl rfl rfl (Nat.le_of_ble_eq_true rfl) dX1_compare_76 ⟨Nat.le_of_ble_eq_true rfl, Nat.le_of_ble_eq_true rfl⟩ ⟨Nat.le_of_ble_eq_true rfl, Nat.le_of_ble_eq_true rfl⟩ ?_
      refine g_aload_n C dX1_compare_79 rfl ?_
      refine gf_X1_35 C dX1_compare_80 ?_
      refine g_iload_n C dX1_compare_83 rfl ?_
      refine g_callVr 9 C (cr_X2_thrownBy hI1 (by assumption)) mw_X2_thrownBy ml_X1_103 rfl rfl rfl rfl (Nat.le_of_ble_eq_true rfl) dX1_compare_84 ⟨Nat.le_of_ble_eq_true rfl, Nat.le_of_ble_eq_true rfl⟩ ⟨Nat.le_of_ble_eq_true rfl, Nat.le_of_ble_eq_true rfl⟩ ?_
      refine g_callVr 7 C (cr_X3_areAllowed hI1 (x := x) (o := o)) mw_X3_areAllowed ml_X1_106 rfl rfl rfl rfl (Nat.le_of_ble_eq_true rfl) dX1_compare_87 ⟨Nat.le_of_ble_eq_true rfl, Nat.le_of_ble_eq_true rfl⟩ ⟨Nat.le_of_ble_eq_true rfl, Nat.le_of_ble_eq_true rfl⟩ ?_
      refine g_ifb_ne (tgt := 97) C dX1_compare_90 (by decide) (fun h90 => ?_) (fun h90 => ?_)
      · refine g_iconst (v := 0) C dX1_compare_97 (by decide) ?_
        refine g_iconst (v := 5) C dX1_compare_98 (by decide) ?_
        refine g_iload_n C dX1_compare_99 rfl ?_
        refine g_iload_n C dX1_compare_100 rfl ?_
        refine g_callV 17 C (ct_X1_noteIf (q := false) (by first | omega | (simp only [List.length_append, cond_true, cond_false, List.length_cons, List.length_nil]; omega))) mw_X1_noteIf ml_X1_77 rfl rfl rfl rfl (Nat.le_of_ble_eq_true rfl) dX1_compare_101 ⟨Nat.le_of_ble_eq_true rfl, Nat.le_of_ble_eq_true rfl⟩ ⟨Nat.le_of_ble_eq_true rfl, Nat.le_of_ble_eq_true rfl⟩ ?_
        intro r v hv
        obtain ⟨rfl, rfl⟩ := hv
        exact g_vret C dX1_compare_104 ⟨rfl, by simp [thrL, show Acc τ x < Acc τ o from Int32.not_le.mp h17, show Sts τ (Rs τ x) (Rs τ o) = false from h52, show ThB τ x o = false from (by simpa using h90)]⟩
      · refine g_iconst (v := 1) C dX1_compare_93 (by decide) ?_
        refine g_goto (tgt := 98) C dX1_compare_94 (by decide) ?_
        refine g_iconst (v := 5) C dX1_compare_98 (by decide) ?_
        refine g_iload_n C dX1_compare_99 rfl ?_
        refine g_iload_n C dX1_compare_100 rfl ?_
        refine g_callV 17 C (ct_X1_noteIf (q := true) (by first | omega | (simp only [List.length_append, cond_true, cond_false, List.length_cons, List.length_nil]; omega))) mw_X1_noteIf ml_X1_77 rfl rfl rfl rfl (Nat.le_of_ble_eq_true rfl) dX1_compare_101 ⟨Nat.le_of_ble_eq_true rfl, Nat.le_of_ble_eq_true rfl⟩ ⟨Nat.le_of_ble_eq_true rfl, Nat.le_of_ble_eq_true rfl⟩ ?_
        intro r v hv
        obtain ⟨rfl, rfl⟩ := hv
        exact g_vret C dX1_compare_104 ⟨rfl, by simp [thrL, show Acc τ x < Acc τ o from Int32.not_le.mp h17, show Sts τ (Rs τ x) (Rs τ o) = false from h52, show ThB τ x o = true from (by simpa using h90)]⟩

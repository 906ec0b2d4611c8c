/-! ===== the law: its loop, its start ===== -/
set_option maxRecDepth 100000 in
set_option maxHeartbeats 4000000 in
theorem law_loop {p : Program} {l : Launch} {e : Env} {s : State} {m : MethodId} {below : List Frame} {meth : Method} {c : Code} {D : va_G} {cI cZ : ClassId} {b b2 : Nat → Nat} {b0 L : Nat} {xs : Nat → Int32} (C : Cx p s m #[Value.ref b0] meth c code 4 RL ret D cI cZ (fun q => s.heap.size ≤ q)) (hX : va_X b0 L xs s s.heap) (hbl : b0 < s.heap.size) (hbA : ¬ (fun q : Nat => s.heap.size ≤ q) b0) (hL : L ≤ 2560) : ∀ (n i : Nat) (σ τ : St), Inv τ σ → i ≤ L → L + 6 ≤ i + n → GLw p l e s m below meth c D b0 (pX b cI cZ σ ++ pM b2 cI cZ τ) 18 [some (.ref b0), some (.ref (b 0)), some (.ref (b2 0)), some (.int (nI i))] [] := by
  intro n
  induction n with
  | zero => intro i σ τ hI h1 h2; omega
  | succ n ih =>
    intro i σ τ hI h1 h2
    have step : i + 5 ≤ L → ∀ σ2 τ2 : St, Inv τ2 σ2 → GLw p l e s m below meth c D b0 (pX b cI cZ σ2 ++ pM b2 cI cZ τ2) 599 [some (.ref b0), some (.ref (b 0)), some (.ref (b2 0)), some (.int (nI i))] [] := by
      intro hi σ2 τ2 hI2
      refine g_iinc (v := nI 5) C dL_law_599 rfl (by decide) (by decide) ?_
      rw [nI_add]
      refine g_goto (tgt := 18) C dL_law_602 (by decide) ?_
      exact ih (i + 5) σ2 τ2 hI2 hi (by omega)
    refine g_iload_n C dL_law_18 rfl ?_
    refine g_aload_n C dL_law_19 rfl ?_
    refine g_slen C hX hbl hbA dL_law_20 ?_
    refine g_iconstN 5 C dL_law_21 (by decide) ?_
    refine g_isub C dL_law_22 ?_
    refine g_icmp_gt (tgt := 605) C dL_law_23 (by decide) (fun h23 => ?_) (fun h23 => ?_)
    · refine g_iconst (v := 1) C dL_law_605 (by decide) ?_
      intro H locs ls hP hD hS hl
      exact va_forget (fun q hq => hS.2.2 q hq) (lw_ret C.1 C.2.1 C.2.2.2.2.2.2.2.2 C.2.2.2.2.2.2.2.1 dL_law_606)
    · have hi : i + 5 ≤ L := law_in hL h1 h23
      have st := step hi
      refine g_aload_n C dL_law_26 rfl ?_
      refine g_iload_n C dL_law_27 rfl ?_
      refine g_sldN C hX hbl hbA (show i < L by omega) hL dL_law_28 ?_
      refine g_bipush (v := 15) C dL_law_29 (by decide) ?_
      refine g_iand C dL_law_31 ?_
      obtain ⟨j, hj, ej⟩ := and15 (xs i)
      rw [ej]
      match j, hj with
      | 0, _ =>
        refine g_tableIn (off := 76) (tgt := 108) C dL_law_32 (by decide) (by decide) (by decide) (by decide) ?_
        exact law_clear C hX hbl hbA hL hi hI st
      | 1, _ =>
        refine g_tableIn (off := 89) (tgt := 121) C dL_law_32 (by decide) (by decide) (by decide) (by decide) ?_
        exact law_type C hX hbl hbA hL hi hI st
      | 2, _ =>
        refine g_tableIn (off := 132) (tgt := 164) C dL_law_32 (by decide) (by decide) (by decide) (by decide) ?_
        exact law_face C hX hbl hbA hL hi hI st
      | 3, _ =>
        refine g_tableIn (off := 165) (tgt := 197) C dL_law_32 (by decide) (by decide) (by decide) (by decide) ?_
        by_cases hq : xs (i + 2) = 0
        · exact law_thrown0_f C hX hbl hbA hL hi hI hq st
        · exact law_thrown0_t C hX hbl hbA hL hi hI hq st
      | 4, _ =>
        refine g_tableIn (off := 214) (tgt := 246) C dL_law_32 (by decide) (by decide) (by decide) (by decide) ?_
        exact law_member C hX hbl hbA hL hi hI st
      | 5, _ =>
        refine g_tableIn (off := 267) (tgt := 299) C dL_law_32 (by decide) (by decide) (by decide) (by decide) ?_
        exact law_throws0 C hX hbl hbA hL hi hI st
      | 6, _ =>
        refine g_tableIn (off := 300) (tgt := 332) C dL_law_32 (by decide) (by decide) (by decide) (by decide) ?_
        exact law_overrides C hX hbl hbA hL hi hI st
      | 7, _ =>
        refine g_tableIn (off := 333) (tgt := 365) C dL_law_32 (by decide) (by decide) (by decide) (by decide) ?_
        exact law_hides C hX hbl hbA hL hi hI st
      | 8, _ =>
        refine g_tableIn (off := 366) (tgt := 398) C dL_law_32 (by decide) (by decide) (by decide) (by decide) ?_
        exact law_chosen C hX hbl hbA hL hi hI st
      | 9, _ =>
        refine g_tableIn (off := 399) (tgt := 431) C dL_law_32 (by decide) (by decide) (by decide) (by decide) ?_
        exact law_sub C hX hbl hbA hL hi hI st
      | 10, _ =>
        refine g_tableIn (off := 432) (tgt := 464) C dL_law_32 (by decide) (by decide) (by decide) (by decide) ?_
        exact law_check C hX hbl hbA hL hi hI st
      | 11, _ =>
        refine g_tableIn (off := 455) (tgt := 487) C dL_law_32 (by decide) (by decide) (by decide) (by decide) ?_
        exact law_fault C hX hbl hbA hL hi hI st
      | 12, _ =>
        refine g_tableIn (off := 498) (tgt := 530) C dL_law_32 (by decide) (by decide) (by decide) (by decide) ?_
        exact law_bridges C hX hbl hbA hL hi hI st
      | 13, _ =>
        refine g_tableIn (off := 521) (tgt := 553) C dL_law_32 (by decide) (by decide) (by decide) (by decide) ?_
        exact law_first C hX hbl hbA hL hi hI st
      | 14, _ =>
        refine g_tableIn (off := 544) (tgt := 576) C dL_law_32 (by decide) (by decide) (by decide) (by decide) ?_
        exact law_told C hX hbl hbA hL hi hI st
      | 15, _ =>
        refine g_tableOut (tgt := 599) C dL_law_32 (by decide) (by decide) ?_
        exact st σ τ hI
set_option maxRecDepth 100000 in
set_option maxHeartbeats 4000000 in
theorem whole_start {p : Program} {e : Env} {s : State} {m : MethodId} {below : List Frame} {meth : Method} {c : Code} (l : Launch) {b L : Nat} {xs : Nat → Int32} (hL : L ≤ 2560) (C0 : lw_At p s m meth c b L xs) : W p l e room_1 s m #[Value.ref b] below meth c s.heap [] 0 0 (lw_Z below #[Value.ref b] s) (entryFrame m ([Value.ref b] : List Value).toArray 4) := by
  obtain ⟨hx, hb, hr, hml, hown, hts, hX, hbl, hlocks, hgv⟩ := id C0
  have hA : ∀ q : Nat, s.heap.size ≤ q → (fun q : Nat => s.heap.size ≤ q) q := fun _ h => h
  have hbA : ¬ (fun q : Nat => s.heap.size ≤ q) b := Nat.not_le.mpr hbl
  have hta : ∀ w ∈ lw_all, w.before #[Value.ref b] s = true := fun w hw => hts w (lw_all_tbl w hw)
  obtain ⟨c0, iS0, hKn0⟩ := u_known (C := RX0) (T := TX0) (N := 2) (n := 2) hta lays_X0 (hta _ is_X0)
  obtain ⟨c1, iS1, hKn1⟩ := u_known (C := RX1) (T := TX1) (N := 9) (n := 9) hta lays_X1 (hta _ is_X1)
  obtain ⟨c2, iS2, hKn2⟩ := u_known (C := RX2) (T := TX2) (N := 8) (n := 8) hta lays_X2 (hta _ is_X2)
  obtain ⟨c3, iS3, hKn3⟩ := u_known (C := RX3) (T := TX3) (N := 3) (n := 3) hta lays_X3 (hta _ is_X3)
  obtain ⟨c4, iS4, hKn4⟩ := u_known (C := RX4) (T := TX4) (N := 6) (n := 6) hta lays_X4 (hta _ is_X4)
  obtain ⟨c5, iS5, hKn5⟩ := u_known (C := RX5) (T := TX5) (N := 5) (n := 5) hta lays_X5 (hta _ is_X5)
  obtain ⟨c6, iS6, hKn6⟩ := u_known (C := RX6) (T := TX6) (N := 21) (n := 21) hta lays_X6 (hta _ is_X6)
  obtain ⟨dC, dI, hKc⟩ : ∃ (dC : Nat → ClassId) (dI : Nat → Nat → Nat), ∀ (k : Nat) (q : vw_C), vwCl[k]? = some q → u_Kn s q.1 q.2.1 q.2.2 (dC k) (dI k) := by
    refine ⟨fun k => match k with | 0 => c0 | 1 => c1 | 2 => c2 | 3 => c3 | 4 => c4 | 5 => c5 | _ => c6, fun k => match k with | 0 => iS0 | 1 => iS1 | 2 => iS2 | 3 => iS3 | 4 => iS4 | 5 => iS5 | _ => iS6, ?_⟩
    intro k q hq
    match k, hq with
    | 0, hq => cases hq; exact hKn0
    | 1, hq => cases hq; exact hKn1
    | 2, hq => cases hq; exact hKn2
    | 3, hq => cases hq; exact hKn3
    | 4, hq => cases hq; exact hKn4
    | 5, hq => cases hq; exact hKn5
    | 6, hq => cases hq; exact hKn6
    | k + 7, hq => simp [vwCl] at hq
  obtain ⟨cI, kI, compI, hI1, hI2, hI3⟩ := Cond.arrayClass_spec (hta _ ac_int)
  obtain ⟨cZ, kZ, compZ, hZ1, hZ2, hZ3⟩ := Cond.arrayClass_spec (hta _ ac_boolean)
  have hK : KK (dC, dI) cI cZ s := by
    refine ⟨⟨hKc, fun k q hq => ?_⟩, fun w hw => ?_⟩
    · match k, hq with
      | 0, hq => cases hq; exact ⟨fun n z => ⟨fun k h => (by cases h), kI, hI2, compI, hI3⟩, hI1⟩
      | 1, hq => cases hq; exact ⟨fun n z => ⟨fun k h => (by cases h), kZ, hZ2, compZ, hZ3⟩, hZ1⟩
      | k + 2, hq => simp at hq
    · obtain ⟨a, i, y, hh, rfl⟩ := lw_nest_form w hw
      exact va_Nw.of rfl (hts _ (lw_nest_tbl _ hw))
  have C : Cx p s m #[Value.ref b] meth c code 4 RL ret (dC, dI) cI cZ (fun q => s.heap.size ≤ q) := ⟨hx, hb, hml, hown, hta, hK, hA, hlocks, hr⟩
  have key : G p l e room_1 s m #[Value.ref b] below meth c (dC, dI) (fun q => s.heap.size ≤ q) 0 0 (lw_Z below #[Value.ref b] s) 4 [] 0 [some (.ref b), none, none, none] [] := by
    refine g_new (ci := 5) (fs := [.null, .null, .null, .null, .null]) (fun q => [(q, .inr (5, [.null, .null, .null, .null, .null]))]) lays_X5 tyX5_ok cl_L_7 is_X5 in_X5 rfl (fun j hj => by match j, hj with | 0, _ => rfl | 1, _ => rfl | 2, _ => rfl | 3, _ => rfl | 4, _ => rfl | j + 5, h => exact absurd h (by omega)) C (fun _ => rfl) (Nat.le_of_ble_eq_true rfl) (Nat.le_of_ble_eq_true rfl) dL_law_0 (fun q5 => ?_)
    refine g_dup C dL_law_3 rfl ?_
    refine g_callI (wr := []) [0] [] C (cn_X5_init (a0 := q5)) mi_X5_init ml_L_9 rfl rfl rfl rfl rfl (by decide) rfl rfl (Nat.le_of_ble_eq_true rfl) dL_law_4 ⟨(Nat.le_of_ble_eq_true rfl), (Nat.le_of_ble_eq_true rfl)⟩ ⟨(Nat.le_of_ble_eq_true rfl), (Nat.le_of_ble_eq_true rfl)⟩ (fun w hw => ?_)
    obtain ⟨bX, rfl, rfl⟩ := hw
    refine g_astore_n C dL_law_7 (by decide) ?_
    refine g_new (ci := 6) (fs := [.int 0, .null, .null, .null, .null, .null, .null, .int 0, .null, .null, .int 0, .null, .null, .null, .null, .null, .null, .int 0, .null, .null, .null]) (fun q => pX bX cI cZ σ00 ++ [(q, .inr (6, [.int 0, .null, .null, .null, .null, .null, .null, .int 0, .null, .null, .int 0, .null, .null, .null, .null, .null, .null, .int 0, .null, .null, .null]))]) lays_X6 tyX6_ok cl_L_10 is_X6 in_X6 rfl (fun j hj => by match j, hj with | 0, _ => rfl | 1, _ => rfl | 2, _ => rfl | 3, _ => rfl | 4, _ => rfl | 5, _ => rfl | 6, _ => rfl | 7, _ => rfl | 8, _ => rfl | 9, _ => rfl | 10, _ => rfl | 11, _ => rfl | 12, _ => rfl | 13, _ => rfl | 14, _ => rfl | 15, _ => rfl | 16, _ => rfl | 17, _ => rfl | 18, _ => rfl | 19, _ => rfl | 20, _ => rfl | j + 21, h => exact absurd h (by omega)) C (fun _ => rfl) (Nat.le_of_ble_eq_true rfl) (Nat.le_of_ble_eq_true rfl) dL_law_8 (fun q6 => ?_)
    refine g_dup C dL_law_11 rfl ?_
    refine g_callI (wr := pX bX cI cZ σ00) [18] [0, 1, 2, 3, 4, 5, 6, 7, 8, 9, 10, 11, 12, 13, 14, 15, 16, 17] C (cn_X6_init (a0 := q6)) mi_X6_init ml_L_12 rfl rfl rfl rfl rfl (by decide) rfl rfl (Nat.le_of_ble_eq_true rfl) dL_law_12 ⟨(Nat.le_of_ble_eq_true rfl), (Nat.le_of_ble_eq_true rfl)⟩ ⟨(Nat.le_of_ble_eq_true rfl), (Nat.le_of_ble_eq_true rfl)⟩ (fun w hw => ?_)
    obtain ⟨bM, rfl, rfl⟩ := hw
    refine g_astore_n C dL_law_15 (by decide) ?_
    refine g_iconstN 0 C dL_law_16 (by decide) ?_
    refine g_istore_n C dL_law_17 (by decide) ?_
    exact law_loop C hX hbl hbA hL (L + 6) 0 σ00 τ00 Inv_00 (Nat.zero_le L) (by omega)
  rw [lg_entry_eq]
  exact key s.heap [] _ (fun k q h => by simp at h) ⟨fun i j p q h => by simp at h, fun k q h => by simp at h⟩ va_S.rf (lh_entry [.ref b] 3 4 (Nat.le_of_ble_eq_true rfl) (by simp [Value.category]))

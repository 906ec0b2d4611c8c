theorem RX_fc {τ σ : St} (hI : Inv τ σ) {t o : Nat} (ht : t < nT τ) (ho : o < t) (hf : nF τ t < 3) {A : Nat → Int32} (h1 : ∀ u, u < t → A u = σ 6 u) (h2 : ∀ u, t ≤ u → u < nT τ → ∀ i, i < 32 → bt (A u) i = abv (rwR 6 (up2 σ 5 t (σ 5 t ||| bit1 o)) A) u i) : RX (fcS τ t o) (rwR 6 (up2 σ 5 t (σ 5 t ||| bit1 o)) A) := by
  have hTl := w0_tl (iW hI)
  have hW' := W0_fc (iW hI) ht ho hf
  have n5 : ∀ u, u < nT τ → ∀ i, i < 32 → bt (upd (σ 5) t (σ 5 t ||| bit1 o) u) i = anyN (nF (fcS τ t o) u) (fcHas (fcS τ t o) u i) := fun u hu i hi => by
    have hfu := w0_fl (iW hI) hu
    rw [nF_fc hf u]
    by_cases e : u = t
    · subst e
      simp only [if_true, upd, anyN]
      rw [b_or, bt_bit1 (by omega) hi, i_f hI hu hi]
      have e1 : anyN (nF τ u) (fcHas (fcS τ u o) u i) = anyN (nF τ u) (fcHas τ u i) := anyN_congr (fun k hk => by
        rw [fcHas, fcHas, Fc_fc hTl ht ho _ _ hf (by omega), if_neg (by omega)])
      rw [e1, show fcHas (fcS τ u o) u i (nF τ u) = decide (i = o) by rw [fcHas, Fc_fc hTl ht ho _ _ hf hf, if_pos ⟨rfl, rfl⟩]; exact decide_eq_decide.mpr eq_comm]
    · simp only [upd, e, if_false]
      rw [i_f hI hu hi]
      exact anyN_congr (fun k hk => by rw [fcHas, fcHas, Fc_fc hTl ht ho _ _ hf (by omega), if_neg (fun q => e q.1)])
  have eB : ∀ u, u < t → ∀ i, BelS (fcS τ t o) u i = BelS τ u i := by
    intro u
    induction u using Nat.strongRecOn with
    | ind u ih =>
      intro hu i
      have hfu := w0_fl (iW hI) (show u < nT τ by omega)
      rw [BelS_eq hW' (show u < nT τ by omega), BelS_eq (iW hI) (by omega), nF_fc hf u, if_neg (by omega)]
      have e1 : upF (fcS τ t o) u i = upF τ u i := by
        show (if τ 3 u = -1 then false else (decide (i = nN (τ 3 u)) || BelS (fcS τ t o) (nN (τ 3 u)) i)) = _
        rw [upF]
        rcases w0_pa (iW hI) (show u < nT τ by omega) with q | ⟨p, hpp, q⟩
        · rw [if_pos q, if_pos q]
        · have hz : ¬ τ 3 u = -1 := by rw [q]; exact nI_m1 (by omega)
          rw [if_neg hz, if_neg hz, q, nN, nI_clamp (by omega), ih p hpp (by omega)]
      rw [e1]
      congr 1
      refine anyN_congr (fun k0 hk0 => ?_)
      have hl := w0_fcl (iW hI) (show u < nT τ by omega) hk0
      rw [fcF, fcF, Fc_fc hTl ht ho _ _ hf (by omega), if_neg (by omega), ih _ hl (by omega)]
  have nA : ∀ u, u < nT τ → ∀ i, i < 32 → bt (A u) i = BelS (fcS τ t o) u i := by
    intro u
    induction u using Nat.strongRecOn with
    | ind u ih =>
      intro hu i hi
      rcases Nat.lt_or_ge u t with q | q
      · rw [h1 u q, eB u q]; exact i_a hI hu hi
      · rw [h2 u q hu i hi]
        exact abv_ok (σ := rwR 6 (up2 σ 5 t (σ 5 t ||| bit1 o)) A) hW' (show u < nT τ from hu) (i_pa hI hu) (n5 u hu) (fun w hw j hj => ih w hw (by omega) j hj) i hi
  refine ⟨hI.2.1, fun u hu => ?_, hI.2.2.2.1, hI.2.2.2.2.1, hI.2.2.2.2.2⟩
  have hu : u < nT τ := hu
  exact ⟨(hI.2.2.1 u hu).1, n5 u hu, nA u hu⟩
set_option maxRecDepth 100000 in
set_option maxHeartbeats 4000000 in
theorem ct_X4_addFace {l : Launch} {D : va_G} {cI cZ : ClassId} {b : Nat → Nat} {τ σ : St} (hI : Inv τ σ) {t o : Nat} (ht : t < nT τ) (ho : o < t) (hko : τ 1 o = 2) (hfo : anyN (nF τ t) (fcHas τ t o) = false) (hf : nF τ t < 3) : Ct l yX4_addFace cX4_addFace 4 (some .int) 2 45 D cI cZ (pX b cI cZ) [.ref (b 1), .int (nI t), .int (nI o)] σ (fun r u => r = some (.int (nI (nF τ t + 1))) ∧ RX (fcS τ t o) u) := by
  refine Ct.of 1 (by decide) (by simp [Value.category]) (Nat.le_of_ble_eq_true rfl) ?_
  intro p e s m below meth c C
  have hTl := w0_tl (iW hI)
  have loop : ∀ (n j : Nat) (A : Nat → Int32), t ≤ j → j ≤ nT τ → nT τ + 1 ≤ j + n → (∀ u, u < t → A u = σ 6 u) → (∀ u, t ≤ u → u < j → ∀ i, i < 32 → bt (A u) i = abv (rwR 6 (up2 σ 5 t (σ 5 t ||| bit1 o)) A) u i) → G p l e (rmo 2 45) s m ([.ref (b 1), .int (nI t), .int (nI o)] : List Value).toArray below meth c D (va_A (pX b cI cZ σ) s.heap.size) 0 0 (Qe below ([.ref (b 1), .int (nI t), .int (nI o)] : List Value).toArray s D (pX b cI cZ) σ (fun r u => r = some (.int (nI (nF τ t + 1))) ∧ RX (fcS τ t o) u)) 4 (pX b cI cZ (rwR 6 (up2 σ 5 t (σ 5 t ||| bit1 o)) A)) 14 [some (.ref (b 1)), some (.int (nI t)), some (.int (nI o)), some (.int (nI j))] [] := by
    intro n
    induction n with
    | zero => intro j A h0 h1 h2; omega
    | succ n ih =>
      intro j A h0 h1 h2 hA1 hA2
      refine g_iload_n C dX4_addFace_14 rfl ?_
      refine g_aload_n C dX4_addFace_15 rfl ?_
      refine gn_X4_27 C (v := nI (nT τ)) (show σ 0 0 = _ from i_t hI) dX4_addFace_16 ?_
      refine g_icmpN_ge (tgt := 33) C (by omega) (by omega) dX4_addFace_19 (by decide) (fun h19 => ?_) (fun h19 => ?_)
      · obtain rfl : j = nT τ := by omega
        have hR := RX_fc hI ht ho hf hA1 hA2
        obtain ⟨v, hv⟩ := done_ex (W0_fc (iW hI) ht ho hf)
        have hWv := W1_fc hI.1 ht ho hko hfo hf hv
        have hI2 : Inv v (rwR 6 (up2 σ 5 t (σ 5 t ||| bit1 o)) A) := ⟨hWv, by obtain ⟨A1, O1, rfl, -⟩ := hv; exact hR⟩
        have htv : t < nT v := by obtain ⟨A1, O1, rfl, -⟩ := hv; exact ht
        have hnv : nF v t = nF τ t + 1 := by
          have e : nF v t = nF (fcS τ t o) t := by obtain ⟨A1, O1, rfl, -⟩ := hv; rfl
          rw [e, nF_fc hf t, if_pos rfl]
        refine g_aload_n C dX4_addFace_33 rfl ?_
        refine g_iload_n C dX4_addFace_34 rfl ?_
        refine g_callVr 1 C (cr_X4_countFaces hI2 htv) mw_X4_countFaces ml_X4_35 rfl rfl rfl rfl (Nat.le_of_ble_eq_true rfl) dX4_addFace_35 ⟨Nat.le_of_ble_eq_true rfl, Nat.le_of_ble_eq_true rfl⟩ ⟨Nat.le_of_ble_eq_true rfl, Nat.le_of_ble_eq_true rfl⟩ ?_
        exact g_iret C dX4_addFace_38 ⟨rt_i (by rw [hnv]), hR⟩
      · refine g_aload_n C dX4_addFace_22 rfl ?_
        refine g_iload_n C dX4_addFace_23 rfl ?_
        refine g_callV 1 C (ct_X4_findAbove (σ := rwR 6 (up2 σ 5 t (σ 5 t ||| bit1 o)) A) (t := j) (by omega) (show lessOr (σ 4 j) j by rw [i_pa hI (by omega)]; exact w0_pa (iW hI) (by omega))) mw_X4_findAbove ml_X4_31 rfl rfl rfl rfl (Nat.le_of_ble_eq_true rfl) dX4_addFace_24 ⟨Nat.le_of_ble_eq_true rfl, Nat.le_of_ble_eq_true rfl⟩ ⟨Nat.le_of_ble_eq_true rfl, Nat.le_of_ble_eq_true rfl⟩ ?_
        intro r v hv
        obtain ⟨rfl, x, rfl, hx⟩ := hv
        rw [rwR_up]
        refine g_iincN C dX4_addFace_27 rfl (by decide) ?_
        refine g_goto (tgt := 14) C dX4_addFace_30 (by decide) ?_
        refine ih (j + 1) (upd A j x) (by omega) (by omega) (by omega) (fun u hu => by simp only [upd, show ¬ u = j by omega, if_false]; exact hA1 u hu) (fun u hu hu2 i hi => ?_)
        rcases Nat.lt_or_eq_of_le (Nat.le_of_lt_succ hu2) with q | rfl
        · rw [show upd A j x u = A u by simp [upd, show ¬ u = j by omega], hA2 u hu q i hi]
          exact abv_congr (σ := up2 σ 5 t (σ 5 t ||| bit1 o)) (show lessOr (σ 4 u) u by rw [i_pa hI (by omega)]; exact w0_pa (iW hI) (by omega)) (by omega) (fun w hw => by simp [upd, show ¬ w = j by omega])
        · rw [show upd A u x u = x by simp [upd], hx i hi]
          exact abv_congr (σ := up2 σ 5 t (σ 5 t ||| bit1 o)) (show lessOr (σ 4 u) u by rw [i_pa hI (by omega)]; exact w0_pa (iW hI) (by omega)) (by omega) (fun w hw => by simp [upd, show ¬ w = u by omega])
  have h0 := loop (nT τ + 1) t (σ 6) (Nat.le_refl t) (by omega) (by omega) (fun _ _ => rfl) (fun u h1 h2 => by omega)
  rw [show rwR 6 (up2 σ 5 t (σ 5 t ||| bit1 o)) (σ 6) = up2 σ 5 t (σ 5 t ||| bit1 o) from rwR_self (r := 6) (τ := up2 σ 5 t (σ 5 t ||| bit1 o))] at h0
  refine g_aload_n C dX4_addFace_0 rfl ?_
  refine gf_X4_21 C dX4_addFace_1 ?_
  refine g_iload_n C dX4_addFace_4 rfl ?_
  refine g_dup2 C dX4_addFace_5 rfl rfl ?_
  refine gX_ln5 C (by omega) dX4_addFace_6 ?_
  refine g_iconst (v := 1) C dX4_addFace_7 (by decide) ?_
  refine g_iload_n C dX4_addFace_8 rfl ?_
  refine g_ishl C dX4_addFace_9 ?_
  refine g_ior C dX4_addFace_10 ?_
  refine gX_sn5 C (by omega) dX4_addFace_11 ?_
  refine g_iload_n C dX4_addFace_12 rfl ?_
  refine g_istore_n C dX4_addFace_13 (by decide) ?_
  exact h0
set_option maxRecDepth 100000 in
set_option maxHeartbeats 4000000 in
theorem ct_X4_forget {l : Launch} {D : va_G} {cI cZ : ClassId} {b : Nat → Nat} {σ : St} : Ct l yX4_forget cX4_forget 1 none 0 0 D cI cZ (pX b cI cZ) [.ref (b 1)] σ (fun r u => r = none ∧ u = up2 σ 0 0 0) := by
  refine Ct.of 0 (by decide) (by simp [Value.category]) (Nat.le_of_ble_eq_true rfl) ?_
  intro p e s m below meth c C
  refine g_aload_n C dX4_forget_0 rfl ?_
  refine g_iconst (v := 0) C dX4_forget_1 (by decide) ?_
  refine gp_X4_27 C dX4_forget_2 ?_
  exact g_vret C dX4_forget_5 ⟨rfl, rfl⟩

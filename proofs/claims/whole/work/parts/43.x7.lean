/-! ===== the class: what changes its types ===== -/
/-- what is above t, out of its parent, its faces and what is above those -/
def abv (σ : St) (t i : Nat) : Bool := bt (σ 5 t) i || (if σ 4 t = -1 then false else (decide (i = nN (σ 4 t)) || bt (σ 6 (nN (σ 4 t))) i)) || anyN t (fun f => bt (σ 5 t) f && bt (σ 6 f) i)
theorem abv_ok {τ σ : St} (hW : W0 τ) {t : Nat} (ht : t < nT τ) (hp : σ 4 t = τ 3 t) (hf : ∀ i, i < 32 → bt (σ 5 t) i = anyN (nF τ t) (fcHas τ t i)) (ha : ∀ u, u < t → ∀ i, i < 32 → bt (σ 6 u) i = BelS τ u i) : ∀ i, i < 32 → abv σ t i = BelS τ t i := by
  intro i hi
  have hTl := w0_tl hW
  have hup : (if σ 4 t = -1 then false else (decide (i = nN (σ 4 t)) || bt (σ 6 (nN (σ 4 t))) i)) = upF τ t i := by
    rw [hp, upF]
    rcases w0_pa hW ht with q | ⟨p, hpp, q⟩
    · rw [if_pos q, if_pos q]
    · have hn : ¬ τ 3 t = -1 := by rw [q]; exact nI_m1 (by omega)
      rw [if_neg hn, if_neg hn, q, nN, nI_clamp (by omega), ha p hpp i hi]
  rw [abv, hup, BelS_eq hW ht, hf i hi, Bool.eq_iff_iff]
  simp only [Bool.or_eq_true, anyN_iff, fcHas, fcF, Bool.and_eq_true, decide_eq_true_eq]
  constructor
  · rintro ((⟨k, hk, e⟩ | h) | ⟨f, hft, h1, h2⟩)
    · exact Or.inr ⟨k, hk, Or.inl e.symm⟩
    · exact Or.inl h
    · rw [hf f (by omega)] at h1
      obtain ⟨k, hk, e⟩ := anyN_iff.mp h1
      simp only [fcHas, decide_eq_true_eq] at e
      refine Or.inr ⟨k, hk, Or.inr ?_⟩
      rw [e, ← ha f hft i hi]; exact h2
  · rintro (h | ⟨k, hk, e | h⟩)
    · exact Or.inl (Or.inr h)
    · exact Or.inl (Or.inl ⟨k, hk, e.symm⟩)
    · have hl := w0_fcl hW ht hk
      refine Or.inr ⟨Fc τ t k, hl, ?_, ?_⟩
      · rw [hf _ (by omega)]
        exact anyN_iff.mpr ⟨k, hk, by simp [fcHas]⟩
      · rw [ha _ hl i hi]; exact h
theorem abv_congr {σ : St} {A B : Nat → Int32} {t i : Nat} (hp : lessOr (σ 4 t) t) (ht : t < 2 ^ 31) (h : ∀ u, u < t → A u = B u) : abv (rwR 6 σ A) t i = abv (rwR 6 σ B) t i := by
  show (bt (σ 5 t) i || (if σ 4 t = -1 then false else (decide (i = nN (σ 4 t)) || bt (A (nN (σ 4 t))) i)) || anyN t (fun f => bt (σ 5 t) f && bt (A f) i)) = (bt (σ 5 t) i || (if σ 4 t = -1 then false else (decide (i = nN (σ 4 t)) || bt (B (nN (σ 4 t))) i)) || anyN t (fun f => bt (σ 5 t) f && bt (B f) i))
  have e1 : anyN t (fun f => bt (σ 5 t) f && bt (A f) i) = anyN t (fun f => bt (σ 5 t) f && bt (B f) i) := anyN_congr (fun f hf => by rw [h f hf])
  rw [e1]
  rcases hp with q | ⟨p, hpp, q⟩
  · rw [if_pos q, if_pos q]
  · rw [q, nN, nI_clamp (by omega), h p hpp]
def adT (σ : St) (n : Nat) (k p pa : Int32) : St := up2 (up2 (up2 (up2 (up2 σ 2 n k) 3 n p) 4 n pa) 5 n 0) 0 0 (nI (n + 1))
theorem RX_ty {τ σ : St} (hI : Inv τ σ) {k p pa x : Int32} (h16 : nT τ < 16) (hp : lessOr pa (nT τ)) (hx : ∀ i, i < 32 → bt x i = abv (adT σ (nT τ) k p pa) (nT τ) i) : RX (tyS τ k p pa) (up2 (adT σ (nT τ) k p pa) 6 (nT τ) x) := by
  have hn : nT (tyS τ k p pa) = nT τ + 1 := nT_ty h16
  have hW' := W0_ty (k := k) (p := p) hI.1.1 h16 hp
  have hMl := w0_ml (iW hI)
  have eB : ∀ u, u < nT τ → ∀ i, BelS (tyS τ k p pa) u i = BelS τ u i := by
    intro u
    induction u using Nat.strongRecOn with
    | ind u ih =>
      intro hu i
      have a3 : tyS τ k p pa 3 u = τ 3 u := by show upd (τ 3) (nT τ) pa _ = _; simp [upd, show ¬ u = nT τ by omega]
      have a4 : nF (tyS τ k p pa) u = nF τ u := by show (upd (τ 4) (nT τ) 0 u).toNatClampNeg = _; simp [upd, show ¬ u = nT τ by omega, nF]
      rw [BelS_eq hW' (by rw [hn]; omega), BelS_eq (iW hI) hu, a4]
      have e1 : upF (tyS τ k p pa) u i = upF τ u i := by
        rw [upF, upF, a3]
        rcases w0_pa (iW hI) hu with q | ⟨p, hpp, q⟩
        · rw [if_pos q, if_pos q]
        · have hz : ¬ τ 3 u = -1 := by rw [q]; exact nI_m1 (by omega)
          rw [if_neg hz, if_neg hz, q, nN, nI_clamp (by omega), ih p hpp (by omega)]
      rw [e1]
      congr 1
      refine anyN_congr (fun k0 hk0 => ?_)
      have hl := w0_fcl (iW hI) hu hk0
      show (decide (i = Fc τ u k0) || BelS (tyS τ k p pa) (Fc τ u k0) i) = _
      rw [ih _ hl (by omega)]; rfl
  have old : ∀ (r : Nat) (y : Int32) (f : Nat → Int32) (t : Nat), ¬ t = nT τ → upd f (nT τ) y t = f t := fun r y f t h => by simp [upd, h]
  have oldF : ∀ u, u < nT τ → ∀ i, i < 32 → bt (adT σ (nT τ) k p pa 6 u) i = BelS (tyS τ k p pa) u i := fun u hu i hi => by
    rw [eB u hu]; exact i_a hI hu hi
  have new5 : ∀ i, i < 32 → bt (adT σ (nT τ) k p pa 5 (nT τ)) i = anyN (nF (tyS τ k p pa) (nT τ)) (fcHas (tyS τ k p pa) (nT τ) i) := fun i hi => by
    have a4 : nF (tyS τ k p pa) (nT τ) = 0 := by show (upd (τ 4) (nT τ) 0 (nT τ)).toNatClampNeg = _; simp only [upd, if_true]; decide
    rw [a4]
    show bt (upd (σ 5) (nT τ) 0 (nT τ)) i = _
    simp only [upd, if_true]; rw [b_0]; rfl
  refine ⟨⟨rfl, hI.2.1.2.1, hI.2.1.2.2⟩, fun t ht => ?_, hI.2.2.2.1, fun m hm => ?_, hI.2.2.2.2.2⟩
  · rw [hn] at ht
    by_cases e : t = nT τ
    · subst e
      refine ⟨⟨?_, ?_, ?_⟩, new5, fun i hi => ?_⟩
      · show upd (σ 2) (nT τ) k (nT τ) = upd (τ 1) (nT τ) k (nT τ); simp [upd]
      · show upd (σ 3) (nT τ) p (nT τ) = upd (τ 2) (nT τ) p (nT τ); simp [upd]
      · show upd (σ 4) (nT τ) pa (nT τ) = upd (τ 3) (nT τ) pa (nT τ); simp [upd]
      · show bt (upd (σ 6) (nT τ) x (nT τ)) i = _
        simp only [upd, if_true]
        rw [hx i hi]
        refine abv_ok hW' (by rw [hn]; omega) ?_ new5 oldF i hi
        show upd (σ 4) (nT τ) pa (nT τ) = upd (τ 3) (nT τ) pa (nT τ); simp [upd]
    · have ht2 : t < nT τ := by omega
      refine ⟨⟨?_, ?_, ?_⟩, fun i hi => ?_, fun i hi => ?_⟩
      · show upd (σ 2) (nT τ) k t = upd (τ 1) (nT τ) k t; simp only [upd, e, if_false]; exact i_k hI ht2
      · show upd (σ 3) (nT τ) p t = upd (τ 2) (nT τ) p t; simp only [upd, e, if_false]; exact i_p hI ht2
      · show upd (σ 4) (nT τ) pa t = upd (τ 3) (nT τ) pa t; simp only [upd, e, if_false]; exact i_pa hI ht2
      · have a4 : nF (tyS τ k p pa) t = nF τ t := by show (upd (τ 4) (nT τ) 0 t).toNatClampNeg = _; simp [upd, e, nF]
        rw [a4]
        show bt (upd (σ 5) (nT τ) 0 t) i = anyN (nF τ t) (fcHas τ t i)
        simp only [upd, e, if_false]; exact i_f hI ht2 hi
      · rw [eB t ht2]
        show bt (upd (σ 6) (nT τ) x t) i = _
        simp only [upd, e, if_false]; exact i_a hI ht2 hi
  · have hm : m < nM τ := hm
    obtain ⟨c1, c2, c3, c4, c5⟩ := hI.2.2.2.2.1 m hm
    refine ⟨c1, c2, c3, ?_, c5⟩
    have hof := w0_ofl (iW hI) hm
    have : mkX (tyS τ k p pa) m = mkX τ m := by
      have e1 : Ifc (tyS τ k p pa) m = Ifc τ m := by
        show decide (upd (τ 1) (nT τ) k (Of τ m) = 2) = _
        simp only [upd, show ¬ Of τ m = nT τ by omega, if_false]; rfl
      show (if (Ifc (tyS τ k p pa) m && !Hs τ m 4) = true then τ 12 m ||| 1 else τ 12 m) = _
      rw [e1]; rfl
    rw [this]; exact c4

set_option maxRecDepth 100000 in
set_option maxHeartbeats 4000000 in
theorem ct_X4_findAbove {l : Launch} {D : va_G} {cI cZ : ClassId} {b : Nat → Nat} {σ : St} {t : Nat} (ht : t < 16) (hp : lessOr (σ 4 t) t) : Ct l yX4_findAbove cX4_findAbove 5 none 1 21 D cI cZ (pX b cI cZ) [.ref (b 1), .int (nI t)] σ (fun r u => r = none ∧ ∃ x, u = up2 σ 6 t x ∧ ∀ i, i < 32 → bt x i = abv σ t i) := by
  refine Ct.of 3 (by decide) (by simp [Value.category]) (Nat.le_of_ble_eq_true rfl) ?_
  intro p e s m below meth c C
  have loop : ∀ (n j : Nat) (q : Int32), j ≤ t → t + 1 ≤ j + n → (∀ i, i < 32 → bt q i = (bt (σ 5 t) i || (if σ 4 t = -1 then false else (decide (i = nN (σ 4 t)) || bt (σ 6 (nN (σ 4 t))) i)) || anyN j (fun f => bt (σ 5 t) f && bt (σ 6 f) i))) → G p l e (rmo 1 21) s m ([.ref (b 1), .int (nI t)] : List Value).toArray below meth c D (va_A (pX b cI cZ σ) s.heap.size) 0 0 (Qe below ([.ref (b 1), .int (nI t)] : List Value).toArray s D (pX b cI cZ) σ (fun r u => r = none ∧ ∃ x, u = up2 σ 6 t x ∧ ∀ i, i < 32 → bt x i = abv σ t i)) 5 (pX b cI cZ σ) 35 [some (.ref (b 1)), some (.int (nI t)), none, some (.int (q)), some (.int (nI j))] [] := by
    intro n
    induction n with
    | zero => intro j q h1 h2; omega
    | succ n ih =>
      intro j q h1 h2 hq
      refine g_iload C dX4_findAbove_35 rfl ?_
      refine g_iload_n C dX4_findAbove_37 rfl ?_
      refine g_icmpN_ge (tgt := 71) C (by omega) (by omega) dX4_findAbove_38 (by decide) (fun h38 => ?_) (fun h38 => ?_)
      · refine g_aload_n C dX4_findAbove_71 rfl ?_
        refine gf_X4_24 C dX4_findAbove_72 ?_
        refine g_iload_n C dX4_findAbove_75 rfl ?_
        refine g_iload_n C dX4_findAbove_76 rfl ?_
        refine gX_sn6 C (by omega) dX4_findAbove_77 ?_
        exact g_vret C dX4_findAbove_78 ⟨rfl, q, rfl, fun i hi => by rw [hq i hi, show j = t by omega]; rfl⟩
      · refine g_aload_n C dX4_findAbove_41 rfl ?_
        refine gf_X4_21 C dX4_findAbove_42 ?_
        refine g_iload_n C dX4_findAbove_45 rfl ?_
        refine gX_ln5 C (by omega) dX4_findAbove_46 ?_
        refine g_iload C dX4_findAbove_47 rfl ?_
        refine g_callSNr C (cr_X5_hasBit) mw_X5_hasBit mn_X4_39 rfl rfl (Nat.le_of_ble_eq_true rfl) dX4_findAbove_49 ⟨Nat.le_of_ble_eq_true rfl, Nat.le_of_ble_eq_true rfl⟩ ⟨Nat.le_of_ble_eq_true rfl, Nat.le_of_ble_eq_true rfl⟩ ?_
        refine g_ifb_eq (tgt := 65) C dX4_findAbove_52 (by decide) (fun h52 => ?_) (fun h52 => ?_)
        · refine g_iincN C dX4_findAbove_65 rfl (by decide) ?_
          refine g_goto (tgt := 35) C dX4_findAbove_68 (by decide) ?_
          exact ih (j + 1) q (by omega) (by omega) (fun i hi => by rw [hq i hi]; rw [hbV_bt (by omega)] at h52; simp only [anyN, h52, Bool.false_and, Bool.or_false])
        · refine g_iload_n C dX4_findAbove_55 rfl ?_
          refine g_aload_n C dX4_findAbove_56 rfl ?_
          refine gf_X4_24 C dX4_findAbove_57 ?_
          refine g_iload C dX4_findAbove_60 rfl ?_
          refine gX_ln6 C (by omega) dX4_findAbove_62 ?_
          refine g_ior C dX4_findAbove_63 ?_
          refine g_istore_n C dX4_findAbove_64 (by decide) ?_
          refine g_iincN C dX4_findAbove_65 rfl (by decide) ?_
          refine g_goto (tgt := 35) C dX4_findAbove_68 (by decide) ?_
          exact ih (j + 1) (q ||| σ 6 j) (by omega) (by omega) (fun i hi => by rw [b_or, hq i hi]; rw [hbV_bt (by omega)] at h52; simp only [anyN, h52, Bool.true_and, Bool.or_assoc])
  rcases hp with hp | ⟨p0, hp0, hp⟩
  · refine g_aload_n C dX4_findAbove_0 rfl ?_
    refine gf_X4_18 C dX4_findAbove_1 ?_
    refine g_iload_n C dX4_findAbove_4 rfl ?_
    refine gX_lv4 C (by omega) (v := -1) hp dX4_findAbove_5 ?_
    refine g_istore_n C dX4_findAbove_6 (by decide) ?_
    refine g_aload_n C dX4_findAbove_7 rfl ?_
    refine gf_X4_21 C dX4_findAbove_8 ?_
    refine g_iload_n C dX4_findAbove_11 rfl ?_
    refine gX_ln5 C (by omega) dX4_findAbove_12 ?_
    refine g_istore_n C dX4_findAbove_13 (by decide) ?_
    refine g_iload_n C dX4_findAbove_14 rfl ?_
    refine g_iconst (v := -1) C dX4_findAbove_15 (by decide) ?_
    refine g_icmp_eq (tgt := 32) C dX4_findAbove_16 (by decide) (fun h16 => ?_) (fun h16 => ?_)
    · refine g_iconstN 0 C dX4_findAbove_32 (by decide) ?_
      refine g_istore C dX4_findAbove_33 (by decide) ?_
      exact (loop (t + 1) 0 (σ 5 t) (by omega) (by omega) (fun i hi => by rw [if_pos hp]; simp [anyN])).weak (by simp [lvle, lst])
    · exact absurd rfl h16
  · refine g_aload_n C dX4_findAbove_0 rfl ?_
    refine gf_X4_18 C dX4_findAbove_1 ?_
    refine g_iload_n C dX4_findAbove_4 rfl ?_
    refine gX_lv4 C (by omega) (v := nI p0) hp dX4_findAbove_5 ?_
    refine g_istore_n C dX4_findAbove_6 (by decide) ?_
    refine g_aload_n C dX4_findAbove_7 rfl ?_
    refine gf_X4_21 C dX4_findAbove_8 ?_
    refine g_iload_n C dX4_findAbove_11 rfl ?_
    refine gX_ln5 C (by omega) dX4_findAbove_12 ?_
    refine g_istore_n C dX4_findAbove_13 (by decide) ?_
    refine g_iload_n C dX4_findAbove_14 rfl ?_
    refine g_iconst (v := -1) C dX4_findAbove_15 (by decide) ?_
    refine g_icmp_eq (tgt := 32) C dX4_findAbove_16 (by decide) (fun h16 => ?_) (fun h16 => ?_)
    · exact absurd h16 (nI_m1 (by omega))
    · refine g_iload_n C dX4_findAbove_19 rfl ?_
      refine g_iconst (v := 1) C dX4_findAbove_20 (by decide) ?_
      refine g_iload_n C dX4_findAbove_21 rfl ?_
      refine g_ishl C dX4_findAbove_22 ?_
      refine g_aload_n C dX4_findAbove_23 rfl ?_
      refine gf_X4_24 C dX4_findAbove_24 ?_
      refine g_iload_n C dX4_findAbove_27 rfl ?_
      refine gX_ln6 C (by omega) dX4_findAbove_28 ?_
      refine g_ior C dX4_findAbove_29 ?_
      refine g_ior C dX4_findAbove_30 ?_
      refine g_istore_n C dX4_findAbove_31 (by decide) ?_
      refine g_iconstN 0 C dX4_findAbove_32 (by decide) ?_
      refine g_istore C dX4_findAbove_33 (by decide) ?_
      exact (loop (t + 1) 0 (σ 5 t ||| (bit1 p0 ||| σ 6 p0)) (by omega) (by omega) (fun i hi => by rw [if_neg (by rw [hp]; exact nI_m1 (by omega)), hp, nN, nI_clamp (by omega), b_or, b_or, bt_bit1 (by omega) hi]; simp [anyN])).weak (by simp [lvle, lst]; rfl)
set_option maxRecDepth 100000 in
set_option maxHeartbeats 4000000 in
theorem ct_X4_add {l : Launch} {D : va_G} {cI cZ : ClassId} {b : Nat → Nat} {τ σ : St} (hI : Inv τ σ) {k p1 pa : Int32} (h16 : nT τ < 16) (hp : lessOr pa (nT τ)) : Ct l yX4_add cX4_add 5 (some .int) 2 45 D cI cZ (pX b cI cZ) [.ref (b 1), .int k, .int p1, .int pa] σ (fun r u => r = some (.int (nI (nT τ))) ∧ RX (tyS τ k p1 pa) u) := by
  refine Ct.of 1 (by decide) (by simp [Value.category]) (Nat.le_of_ble_eq_true rfl) ?_
  intro p e s m below meth c C
  have hp2 : lessOr (adT σ (nT τ) k p1 pa 4 (nT τ)) (nT τ) := by
    show lessOr (upd (σ 4) (nT τ) pa (nT τ)) (nT τ)
    simp only [upd, if_true]; exact hp
  refine g_aload_n C dX4_add_0 rfl ?_
  refine gn_X4_27 C (i_t hI) dX4_add_1 ?_
  refine g_istore C dX4_add_4 (by decide) ?_
  refine g_aload_n C dX4_add_6 rfl ?_
  refine gf_X4_9 C dX4_add_7 ?_
  refine g_iload C dX4_add_10 rfl ?_
  refine g_iload_n C dX4_add_12 rfl ?_
  refine gX_sn2 C (by omega) dX4_add_13 ?_
  refine g_aload_n C dX4_add_14 rfl ?_
  refine gf_X4_15 C dX4_add_15 ?_
  refine g_iload C dX4_add_18 rfl ?_
  refine g_iload_n C dX4_add_20 rfl ?_
  refine gX_sn3 C (by omega) dX4_add_21 ?_
  refine g_aload_n C dX4_add_22 rfl ?_
  refine gf_X4_18 C dX4_add_23 ?_
  refine g_iload C dX4_add_26 rfl ?_
  refine g_iload_n C dX4_add_28 rfl ?_
  refine gX_sn4 C (by omega) dX4_add_29 ?_
  refine g_aload_n C dX4_add_30 rfl ?_
  refine gf_X4_21 C dX4_add_31 ?_
  refine g_iload C dX4_add_34 rfl ?_
  refine g_iconst (v := 0) C dX4_add_36 (by decide) ?_
  refine gX_sn5 C (by omega) dX4_add_37 ?_
  refine g_aload_n C dX4_add_38 rfl ?_
  refine g_dup C dX4_add_39 rfl ?_
  refine gn_X4_27 C (v := nI (nT τ)) (show σ 0 0 = _ from i_t hI) dX4_add_40 ?_
  refine g_iconstN 1 C dX4_add_43 (by decide) ?_
  refine g_iaddN C dX4_add_44 ?_
  refine gp_X4_27 C dX4_add_45 ?_
  refine g_aload_n C dX4_add_48 rfl ?_
  refine g_iload C dX4_add_49 rfl ?_
  refine g_callV 1 C (ct_X4_findAbove (σ := adT σ (nT τ) k p1 pa) h16 hp2) mw_X4_findAbove ml_X4_31 rfl rfl rfl rfl (Nat.le_of_ble_eq_true rfl) dX4_add_51 ⟨Nat.le_of_ble_eq_true rfl, Nat.le_of_ble_eq_true rfl⟩ ⟨Nat.le_of_ble_eq_true rfl, Nat.le_of_ble_eq_true rfl⟩ ?_
  intro r v hv
  obtain ⟨rfl, x, rfl, hx⟩ := hv
  refine g_iload C dX4_add_54 rfl ?_
  exact g_iret C dX4_add_56 ⟨rfl, RX_ty hI h16 hp hx⟩

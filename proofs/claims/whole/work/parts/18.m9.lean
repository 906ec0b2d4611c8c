/-! ===== the reference: rise, and what changes types, members, throws ===== -/
/-- the tables of τ are done in v -/
def Done (τ v : St) : Prop := ∃ A1 O1, v = rwR 14 (rwR 6 τ A1) O1 ∧ bool01 A1 ∧ bool01 O1 ∧ (∀ t u, t < nT τ → u < 16 → A1 (16 * t + u) = b2i (BelS τ t u)) ∧ ∀ m o, m < nM τ → o < nM τ → O1 (60 * m + o) = b2i (OvS (rwR 6 τ A1) m o)
def RInv (τ : St) (A : Nat → Int32) (i : Nat) : Prop := bool01 A ∧ ∀ t u, t < i → u < 16 → A (16 * t + u) = b2i (BelS τ t u)
theorem RInv_out {τ : St} {A A1 : Nat → Int32} {i : Nat} (h : RInv τ A i) (hb : bool01 A1) (ho : ∀ j, (j < 16 * i ∨ 16 * i + 16 ≤ j) → A1 j = A j) : RInv τ A1 i := ⟨hb, fun t u ht hu => by rw [ho _ (by omega)]; exact h.2 t u ht hu⟩
theorem RInv_next {τ : St} {A : Nat → Int32} {i : Nat} (h : RInv τ A i) (hn : ∀ u, u < 16 → A (16 * i + u) = b2i (BelS τ i u)) : RInv τ A (i + 1) := ⟨h.1, fun t u ht hu => by
  rcases Nat.lt_or_eq_of_le (Nat.le_of_lt_succ ht) with q | rfl
  · exact h.2 t u q hu
  · exact hn u hu⟩
theorem BelDn_done {τ : St} (hW : W0 τ) {A : Nat → Int32} (hA : ∀ t u, t < nT τ → u < 16 → A (16 * t + u) = b2i (BelS τ t u)) : BelDn (rwR 6 τ A) := by
  intro t u ht hu h
  have e : nz (A (16 * t + u)) = true := h
  rw [hA t u ht hu, nz_b2i] at e
  exact BelS_lt hW t ht e
theorem lft_row {τ : St} {A A1 : Nat → Int32} {i o : Nat} {f : Nat → Bool} (h : RInv τ A i) (ho : o < i) (hl : LOk A A1 i o) (hf : ∀ u, u < 16 → A (16 * i + u) = b2i (f u)) : RInv τ A1 i ∧ ∀ u, u < 16 → A1 (16 * i + u) = b2i (f u || (decide (u = o) || BelS τ o u)) := by
  refine ⟨RInv_out h hl.1 hl.2.1, fun u hu => ?_⟩
  rw [hl.2.2 u hu, lftV, hf u hu, h.2 o u ho hu, nz_b2i, nz_b2i, Bool.or_assoc]
set_option maxRecDepth 100000 in
set_option maxHeartbeats 4000000 in
theorem ct_X6_rise {l : Launch} {D : va_G} {cI cZ : ClassId} {b : Nat → Nat} {τ : St} (hW : W0 τ) : Ct l yX6_rise cX6_rise 3 none 5 112 D cI cZ (pM b cI cZ) [.ref (b 0)] τ (fun r v => r = none ∧ Done τ v) := by
  refine Ct.of 2 (by decide) (by simp [Value.category]) (Nat.le_of_ble_eq_true rfl) ?_
  intro p e s m below meth c C
  have hTl := w0_tl hW
  have hMl := w0_ml hW
  have lt : ∀ (n i : Nat) (A1 : Nat → Int32), i ≤ nT τ → nT τ + 1 ≤ i + n → RInv τ A1 i → G p l e (rmo 5 112) s m ([.ref (b 0)] : List Value).toArray below meth c D (va_A (pM b cI cZ τ) s.heap.size) 0 0 (Qe below ([.ref (b 0)] : List Value).toArray s D (pM b cI cZ) τ (fun r v => r = none ∧ Done τ v)) 3 (pM b cI cZ (rwR 6 τ A1)) 2 [some (.ref (b 0)), some (.int (nI i)), none] [] := by
    intro n
    induction n with
    | zero => intro i A1 h1 h2; omega
    | succ n ih =>
      intro i A1 hi1 hi2 hI
      have lf : i < nT τ → ∀ (q k : Nat) (A1 : Nat → Int32), k ≤ nF τ i → nF τ i + 1 ≤ k + q → RInv τ A1 i → (∀ u, u < 16 → A1 (16 * i + u) = b2i (upF τ i u || anyN k (fcF τ i u))) → G p l e (rmo 5 112) s m ([.ref (b 0)] : List Value).toArray below meth c D (va_A (pM b cI cZ τ) s.heap.size) 0 0 (Qe below ([.ref (b 0)] : List Value).toArray s D (pM b cI cZ) τ (fun r v => r = none ∧ Done τ v)) 3 (pM b cI cZ (rwR 6 τ A1)) 59 [some (.ref (b 0)), some (.int (nI i)), some (.int (nI k))] [] := by
        intro hi q
        have hfl := w0_fl hW hi
        induction q with
        | zero => intro k A1 h1 h2; omega
        | succ q ihq =>
          intro k A1 hk1 hk2 hI hr
          refine g_iload_n C dX6_rise_59 rfl ?_
          refine g_aload_n C dX6_rise_60 rfl ?_
          refine gf_X6_19 C dX6_rise_61 ?_
          refine g_iload_n C dX6_rise_64 rfl ?_
          refine gM_lv4 C (by omega) (v := nI (nF τ i)) (show τ 4 _ = _ from w0_f hW hi) dX6_rise_65 ?_
          refine g_icmpN_ge (tgt := 90) C (by omega) (by omega) dX6_rise_66 (by decide) (fun h66 => ?_) (fun h66 => ?_)
          · refine g_iincN C dX6_rise_90 rfl (by decide) ?_
            refine g_goto (tgt := 2) C dX6_rise_93 (by decide) ?_
            exact (ih (i + 1) A1 (by omega) (by omega) (RInv_next hI (fun u hu => by rw [hr u hu, BelS_eq hW hi, (show k = nF τ i by omega)]))).weak (by simp [lvle, lst])
          · refine g_aload_n C dX6_rise_69 rfl ?_
            refine g_iload_n C dX6_rise_70 rfl ?_
            refine g_aload_n C dX6_rise_71 rfl ?_
            refine gf_X6_22 C dX6_rise_72 ?_
            refine g_iconstN 3 C dX6_rise_75 (by decide) ?_
            refine g_iload_n C dX6_rise_76 rfl ?_
            refine g_imulN C dX6_rise_77 ?_
            refine g_iload_n C dX6_rise_78 rfl ?_
            refine g_iaddN C dX6_rise_79 ?_
            have hfc := w0_fcl hW hi (k := k) (by omega)
            refine gM_lv5 C (by omega) (v := nI (Fc τ i k)) (show τ 5 _ = _ from w0_fc hW hi (by omega)) dX6_rise_80 ?_
            refine g_callV 0 C (ct_X6_lift (A0 := A1) hI.1 (t := i) (o := Fc τ i k) (by omega) (by omega) (by omega)) mw_X6_lift ml_X6_76 rfl rfl rfl rfl (Nat.le_of_ble_eq_true rfl) dX6_rise_81 ⟨Nat.le_of_ble_eq_true rfl, Nat.le_of_ble_eq_true rfl⟩ ⟨Nat.le_of_ble_eq_true rfl, Nat.le_of_ble_eq_true rfl⟩ ?_
            intro r v hv
            obtain ⟨rfl, A2, rfl, hL⟩ := hv
            obtain ⟨hI2, hr2⟩ := lft_row hI hfc hL hr
            refine g_iincN C dX6_rise_84 rfl (by decide) ?_
            refine g_goto (tgt := 59) C dX6_rise_87 (by decide) ?_
            exact ihq (k + 1) A2 (by omega) (by omega) hI2 (fun u hu => by rw [hr2 u hu]; simp only [anyN, fcF, Bool.or_assoc])
      have j36 : i < nT τ → ∀ (A1 : Nat → Int32), RInv τ A1 i → (∀ u, u < 16 → A1 (16 * i + u) = 0) → G p l e (rmo 5 112) s m ([.ref (b 0)] : List Value).toArray below meth c D (va_A (pM b cI cZ τ) s.heap.size) 0 0 (Qe below ([.ref (b 0)] : List Value).toArray s D (pM b cI cZ) τ (fun r v => r = none ∧ Done τ v)) 3 (pM b cI cZ (rwR 6 τ A1)) 36 [some (.ref (b 0)), some (.int (nI i)), none] [] := by
        intro hi A1 hI hz
        have hz2 : ∀ u, u < 16 → A1 (16 * i + u) = b2i false := fun u hu => hz u hu
        rcases w0_pa hW hi with hp | ⟨p0, hp0, hp⟩
        · refine g_aload_n C dX6_rise_36 rfl ?_
          refine gf_X6_16 C dX6_rise_37 ?_
          refine g_iload_n C dX6_rise_40 rfl ?_
          refine gM_lv3 C (by omega) (v := -1) (show τ 3 _ = _ from hp) dX6_rise_41 ?_
          refine g_iconst (v := -1) C dX6_rise_42 (by decide) ?_
          refine g_icmp_eq (tgt := 57) C dX6_rise_43 (by decide) (fun h43 => ?_) (fun h43 => ?_)
          · refine g_iconstN 0 C dX6_rise_57 (by decide) ?_
            refine g_istore_n C dX6_rise_58 (by decide) ?_
            exact lf hi (nF τ i + 1) 0 A1 (by omega) (by omega) hI (fun u hu => by rw [hz2 u hu]; simp [upF, hp, anyN])
          · exact absurd rfl h43
        have hpn : ¬ τ 3 i = -1 := by rw [hp]; exact nI_m1 (by omega)
        refine g_aload_n C dX6_rise_36 rfl ?_
        refine gf_X6_16 C dX6_rise_37 ?_
        refine g_iload_n C dX6_rise_40 rfl ?_
        refine gM_lv3 C (by omega) (v := nI p0) (show τ 3 _ = _ from hp) dX6_rise_41 ?_
        refine g_iconst (v := -1) C dX6_rise_42 (by decide) ?_
        refine g_icmp_eq (tgt := 57) C dX6_rise_43 (by decide) (fun h43 => ?_) (fun h43 => ?_)
        · exact absurd h43 (nI_m1 (by omega))
        · refine g_aload_n C dX6_rise_46 rfl ?_
          refine g_iload_n C dX6_rise_47 rfl ?_
          refine g_aload_n C dX6_rise_48 rfl ?_
          refine gf_X6_16 C dX6_rise_49 ?_
          refine g_iload_n C dX6_rise_52 rfl ?_
          refine gM_lv3 C (by omega) (v := nI p0) (show τ 3 _ = _ from hp) dX6_rise_53 ?_
          refine g_callV 0 C (ct_X6_lift (A0 := A1) hI.1 (t := i) (o := p0) (by omega) (by omega) (by omega)) mw_X6_lift ml_X6_76 rfl rfl rfl rfl (Nat.le_of_ble_eq_true rfl) dX6_rise_54 ⟨Nat.le_of_ble_eq_true rfl, Nat.le_of_ble_eq_true rfl⟩ ⟨Nat.le_of_ble_eq_true rfl, Nat.le_of_ble_eq_true rfl⟩ ?_
          intro r v hv
          obtain ⟨rfl, A2, rfl, hL⟩ := hv
          obtain ⟨hI2, hr2⟩ := lft_row hI hp0 hL hz2
          refine g_iconstN 0 C dX6_rise_57 (by decide) ?_
          refine g_istore_n C dX6_rise_58 (by decide) ?_
          exact lf hi (nF τ i + 1) 0 A2 (by omega) (by omega) hI2 (fun u hu => by rw [hr2 u hu]; simp only [upF, if_neg hpn, anyN, Bool.or_false, Bool.false_or]; rw [hp, nN, nI_clamp (by omega)])
      have lc : i < nT τ → ∀ (q j : Nat) (A1 : Nat → Int32), j ≤ 16 → 17 ≤ j + q → RInv τ A1 i → (∀ u, u < j → A1 (16 * i + u) = 0) → G p l e (rmo 5 112) s m ([.ref (b 0)] : List Value).toArray below meth c D (va_A (pM b cI cZ τ) s.heap.size) 0 0 (Qe below ([.ref (b 0)] : List Value).toArray s D (pM b cI cZ) τ (fun r v => r = none ∧ Done τ v)) 3 (pM b cI cZ (rwR 6 τ A1)) 12 [some (.ref (b 0)), some (.int (nI i)), some (.int (nI j))] [] := by
        intro hi q
        induction q with
        | zero => intro j A1 h1 h2; omega
        | succ q ihq =>
          intro j A1 hj1 hj2 hI hz
          refine g_iload_n C dX6_rise_12 rfl ?_
          refine g_bipushN 16 C dX6_rise_13 (by decide) ?_
          refine g_icmpN_ge (tgt := 36) C (by omega) (by omega) dX6_rise_15 (by decide) (fun h15 => ?_) (fun h15 => ?_)
          · exact (j36 hi A1 hI (fun u hu => hz u (by omega))).weak (by simp [lvle, lst])
          · refine g_aload_n C dX6_rise_18 rfl ?_
            refine gf_X6_25 C dX6_rise_19 ?_
            refine g_bipushN 16 C dX6_rise_22 (by decide) ?_
            refine g_iload_n C dX6_rise_24 rfl ?_
            refine g_imulN C dX6_rise_25 ?_
            refine g_iload_n C dX6_rise_26 rfl ?_
            refine g_iaddN C dX6_rise_27 ?_
            refine g_iconst (v := 0) C dX6_rise_28 (by decide) ?_
            refine gM_sn6 C (by omega) (by decide +kernel) dX6_rise_29 ?_
            rw [rwR_up]
            refine g_iincN C dX6_rise_30 rfl (by decide) ?_
            refine g_goto (tgt := 12) C dX6_rise_33 (by decide) ?_
            exact ihq (j + 1) _ (by omega) (by omega) (RInv_out hI (bool01_upd hI.1 (Or.inl rfl)) (fun z hz => by simp [upd, show ¬ z = 16 * i + j by omega])) (fun u hu => by by_cases e : u = j <;> simp [upd, e]; exact hz u (by omega))
      refine g_iload_n C dX6_rise_2 rfl ?_
      refine g_aload_n C dX6_rise_3 rfl ?_
      refine gn_X6_62 C (v := nI (nT τ)) (show τ 0 0 = _ from w0_t hW) dX6_rise_4 ?_
      refine g_icmpN_ge (tgt := 96) C (by omega) (by omega) dX6_rise_7 (by decide) (fun h7 => ?_) (fun h7 => ?_)
      · refine g_aload_n C dX6_rise_96 rfl ?_
        refine g_callV 0 C (ct_X6_work (τ := rwR 6 τ A1) (W0_6 hW hI.1) (BelDn_done hW (fun t u ht hu => hI.2 t u (by omega) hu))) mw_X6_work ml_X6_80 rfl rfl rfl rfl (Nat.le_of_ble_eq_true rfl) dX6_rise_97 ⟨Nat.le_of_ble_eq_true rfl, Nat.le_of_ble_eq_true rfl⟩ ⟨Nat.le_of_ble_eq_true rfl, Nat.le_of_ble_eq_true rfl⟩ ?_
        intro r v hv
        obtain ⟨rfl, O1, rfl, hb, hO⟩ := hv
        exact g_vret C dX6_rise_100 ⟨rfl, A1, O1, rfl, hI.1, hb, fun t u ht hu => hI.2 t u (by omega) hu, hO⟩
      · refine g_iconstN 0 C dX6_rise_10 (by decide) ?_
        refine g_istore_n C dX6_rise_11 (by decide) ?_
        exact lc (by omega) 17 0 A1 (by omega) (by omega) hI (fun u hu => by omega)
  have h0 : pM b cI cZ τ = pM b cI cZ (rwR 6 τ (τ 6)) := by rw [rwR_self]
  have hz0 := lt (nT τ + 1) 0 (τ 6) (by omega) (by omega) ⟨hW.2.2.2.2.2.2.1, fun t u ht hu => by omega⟩
  rw [← h0] at hz0
  refine g_iconstN 0 C dX6_rise_0 (by decide) ?_
  refine g_istore_n C dX6_rise_1 (by decide) ?_
  exact hz0
def tyS (τ : St) (k p pa : Int32) : St := up2 (up2 (up2 (up2 (up2 τ 1 (nT τ) k) 2 (nT τ) p) 3 (nT τ) pa) 4 (nT τ) 0) 0 0 (nI (nT τ + 1))
def okT (τ : St) (k p pa : Int32) : Bool := inB k 0 2 && inB p 0 3 && (decide (pa = -1) || (!decide (k = 2) && !decide (τ 1 (nN pa) = 2)))
def aTyp (τ : St) (k p pa : Int32) : Int32 := if (decide (pa = -1) || isT τ pa) = true then (if okT τ k p pa = true then (if nT τ = 16 then -4 else nI (nT τ)) else -3) else -2
def goT (τ : St) (k p pa : Int32) : Bool := (decide (pa = -1) || isT τ pa) && okT τ k p pa && !decide (nT τ = 16)
theorem nT_ty {τ : St} {k p pa : Int32} (h : nT τ < 16) : nT (tyS τ k p pa) = nT τ + 1 := nI_clamp (by omega)
theorem W0_ty {τ : St} (hW : W0 τ) {k p pa : Int32} (h : nT τ < 16) (hp : lessOr pa (nT τ)) : W0 (tyS τ k p pa) := by
  have e := nT_ty (k := k) (p := p) (pa := pa) h
  refine ⟨⟨by rw [e]; rfl, by omega⟩, hW.2.1, hW.2.2.1, fun t ht => ?_, hW.2.2.2.2.1, fun m hm => ?_, hW.2.2.2.2.2.2⟩
  · rw [e] at ht
    by_cases q : t = nT τ
    · subst q
      have e4 : tyS τ k p pa 4 (nT τ) = 0 := by show upd (τ 4) (nT τ) 0 (nT τ) = 0; simp [upd]
      have en : nF (tyS τ k p pa) (nT τ) = 0 := by rw [nF, e4]; rfl
      refine ⟨?_, ⟨by rw [en, e4]; rfl, by omega⟩, fun k hk => by omega⟩
      show lessOr (upd (τ 3) (nT τ) pa (nT τ)) (nT τ)
      simpa [upd] using hp
    · have ht2 : t < nT τ := by omega
      have e3 : tyS τ k p pa 3 t = τ 3 t := by show upd (τ 3) (nT τ) pa t = τ 3 t; simp [upd, q]
      have e4 : tyS τ k p pa 4 t = τ 4 t := by show upd (τ 4) (nT τ) 0 t = τ 4 t; simp [upd, q]
      have en : nF (tyS τ k p pa) t = nF τ t := by rw [nF, e4, nF]
      refine ⟨by rw [e3]; exact w0_pa hW ht2, ⟨by rw [en, e4]; exact w0_f hW ht2, by rw [en]; exact w0_fl hW ht2⟩, fun k hk => ?_⟩
      rw [en] at hk
      exact ⟨w0_fc hW ht2 hk, w0_fcl hW ht2 hk⟩
  · have := hW.2.2.2.2.2.1 m hm
    refine ⟨⟨this.1.1, ?_⟩, this.2⟩
    rw [e]; exact Nat.lt_succ_of_lt this.1.2
theorem nI1 (n : Nat) : nI (n + 1) - 1 = nI n := nI_pred n
set_option maxRecDepth 100000 in
set_option maxHeartbeats 4000000 in
theorem ct_X6_type {l : Launch} {D : va_G} {cI cZ : ClassId} {b : Nat → Nat} {τ : St} (hW : W0 τ) {k p1 pa : Int32} : Ct l yX6_type cX6_type 4 (some .int) 6 134 D cI cZ (pM b cI cZ) [.ref (b 0), .int k, .int p1, .int pa] τ (fun r v => r = some (.int (aTyp τ k p1 pa)) ∧ (if goT τ k p1 pa = true then Done (tyS τ k p1 pa) v else v = τ)) := by
  have hTl := w0_tl hW
  have hMl := w0_ml hW
  have key : ∀ (hl : lessOr pa (nT τ)), (decide (pa = -1) || isT τ pa) = true → Ct l yX6_type cX6_type 4 (some .int) 6 134 D cI cZ (pM b cI cZ) [.ref (b 0), .int k, .int p1, .int pa] τ (fun r v => r = some (.int (aTyp τ k p1 pa)) ∧ (if goT τ k p1 pa = true then Done (tyS τ k p1 pa) v else v = τ)) := by
    intro hl hu
    refine Ct.of 0 (by decide) (by simp [Value.category]) (Nat.le_of_ble_eq_true rfl) ?_
    intro p e s m below meth c C
    have j69 : okT τ k p1 pa = true → ¬ nT τ = 16 → G p l e (rmo 6 134) s m ([.ref (b 0), .int k, .int p1, .int pa] : List Value).toArray below meth c D (va_A (pM b cI cZ τ) s.heap.size) 0 0 (Qe below ([.ref (b 0), .int k, .int p1, .int pa] : List Value).toArray s D (pM b cI cZ) τ (fun r v => r = some (.int (aTyp τ k p1 pa)) ∧ (if goT τ k p1 pa = true then Done (tyS τ k p1 pa) v else v = τ))) 4 (pM b cI cZ τ) 69 [some (.ref (b 0)), some (.int (k)), some (.int (p1)), some (.int (pa))] [] := by
      intro hok h16
      refine g_aload_n C dX6_type_69 rfl ?_
      refine gf_X6_7 C dX6_type_70 ?_
      refine g_aload_n C dX6_type_73 rfl ?_
      refine gn_X6_62 C (v := nI (nT τ)) (show τ 0 0 = _ from w0_t hW) dX6_type_74 ?_
      refine g_iload_n C dX6_type_77 rfl ?_
      refine gM_sn1 C (by omega) dX6_type_78 ?_
      refine g_aload_n C dX6_type_79 rfl ?_
      refine gf_X6_13 C dX6_type_80 ?_
      refine g_aload_n C dX6_type_83 rfl ?_
      refine gn_X6_62 C (v := nI (nT τ)) (show τ 0 0 = _ from w0_t hW) dX6_type_84 ?_
      refine g_iload_n C dX6_type_87 rfl ?_
      refine gM_sn2 C (by omega) dX6_type_88 ?_
      refine g_aload_n C dX6_type_89 rfl ?_
      refine gf_X6_16 C dX6_type_90 ?_
      refine g_aload_n C dX6_type_93 rfl ?_
      refine gn_X6_62 C (v := nI (nT τ)) (show τ 0 0 = _ from w0_t hW) dX6_type_94 ?_
      refine g_iload_n C dX6_type_97 rfl ?_
      refine gM_sn3 C (by omega) dX6_type_98 ?_
      refine g_aload_n C dX6_type_99 rfl ?_
      refine gf_X6_19 C dX6_type_100 ?_
      refine g_aload_n C dX6_type_103 rfl ?_
      refine gn_X6_62 C (v := nI (nT τ)) (show τ 0 0 = _ from w0_t hW) dX6_type_104 ?_
      refine g_iconst (v := 0) C dX6_type_107 (by decide) ?_
      refine gM_sn4 C (by omega) dX6_type_108 ?_
      refine g_aload_n C dX6_type_109 rfl ?_
      refine g_dup C dX6_type_110 rfl ?_
      refine gn_X6_62 C (v := nI (nT τ)) (show τ 0 0 = _ from w0_t hW) dX6_type_111 ?_
      refine g_iconstN 1 C dX6_type_114 (by decide) ?_
      refine g_iaddN C dX6_type_115 ?_
      refine gp_X6_62 C dX6_type_116 ?_
      refine g_aload_n C dX6_type_119 rfl ?_
      refine g_callV 0 C (ct_X6_rise (τ := tyS τ k p1 pa) (W0_ty hW (by omega) hl)) mw_X6_rise ml_X6_87 rfl rfl rfl rfl (Nat.le_of_ble_eq_true rfl) dX6_type_120 ⟨Nat.le_of_ble_eq_true rfl, Nat.le_of_ble_eq_true rfl⟩ ⟨Nat.le_of_ble_eq_true rfl, Nat.le_of_ble_eq_true rfl⟩ ?_
      intro r v hv
      obtain ⟨rfl, hv⟩ := hv
      obtain ⟨A1, O1, hv1, hv2⟩ := id hv
      subst hv1
      refine g_aload_n C dX6_type_123 rfl ?_
      refine gn_X6_62 C (v := nI (nT τ + 1)) rfl dX6_type_124 ?_
      refine g_iconst (v := 1) C dX6_type_127 (by decide) ?_
      refine g_isub C dX6_type_128 ?_
      exact g_iret C dX6_type_129 ⟨rt_i (by rw [nI1]; simp [aTyp, hu, hok, h16]), by rw [if_pos (by simp [goT, hu, hok, h16])]; exact hv⟩
    rcases hl with rfl | ⟨t, ht, rfl⟩
    · refine g_iload_n C dX6_type_0 rfl ?_
      refine g_iconst (v := -1) C dX6_type_1 (by decide) ?_
      refine g_icmp_eq (tgt := 16) C dX6_type_2 (by decide) (fun h2 => ?_) (fun h2 => ?_)
      · refine g_iload_n C dX6_type_16 rfl ?_
        refine g_iconst (v := 0) C dX6_type_17 (by decide) ?_
        refine g_iconst (v := 2) C dX6_type_18 (by decide) ?_
        refine g_callSr C (cr_X6_in) mw_X6_in ml_X6_66 rfl rfl (Nat.le_of_ble_eq_true rfl) dX6_type_19 ⟨Nat.le_of_ble_eq_true rfl, Nat.le_of_ble_eq_true rfl⟩ ⟨Nat.le_of_ble_eq_true rfl, Nat.le_of_ble_eq_true rfl⟩ ?_
        refine g_ifb_eq (tgt := 54) C dX6_type_22 (by decide) (fun h22 => ?_) (fun h22 => ?_)
        · refine g_bipush (v := -3) C dX6_type_54 (by decide) ?_
          exact g_iret C dX6_type_56 ⟨rt_i (by have hk : okT τ k p1 (-1) = false := (by simp [okT, h22]); simp [aTyp, hu, hk]), by have hk : okT τ k p1 (-1) = false := (by simp [okT, h22]); rw [if_neg (by simp [goT, hk])]⟩
        · refine g_iload_n C dX6_type_25 rfl ?_
          refine g_iconst (v := 0) C dX6_type_26 (by decide) ?_
          refine g_iconst (v := 3) C dX6_type_27 (by decide) ?_
          refine g_callSr C (cr_X6_in) mw_X6_in ml_X6_66 rfl rfl (Nat.le_of_ble_eq_true rfl) dX6_type_28 ⟨Nat.le_of_ble_eq_true rfl, Nat.le_of_ble_eq_true rfl⟩ ⟨Nat.le_of_ble_eq_true rfl, Nat.le_of_ble_eq_true rfl⟩ ?_
          refine g_ifb_eq (tgt := 54) C dX6_type_31 (by decide) (fun h31 => ?_) (fun h31 => ?_)
          · refine g_bipush (v := -3) C dX6_type_54 (by decide) ?_
            exact g_iret C dX6_type_56 ⟨rt_i (by have hk : okT τ k p1 (-1) = false := (by simp [okT, h22, h31]); simp [aTyp, hu, hk]), by have hk : okT τ k p1 (-1) = false := (by simp [okT, h22, h31]); rw [if_neg (by simp [goT, hk])]⟩
          · refine g_iload_n C dX6_type_34 rfl ?_
            refine g_iconst (v := -1) C dX6_type_35 (by decide) ?_
            refine g_icmp_eq (tgt := 57) C dX6_type_36 (by decide) (fun h36 => ?_) (fun h36 => ?_)
            · refine g_aload_n C dX6_type_57 rfl ?_
              refine gn_X6_62 C (v := nI (nT τ)) (show τ 0 0 = _ from w0_t hW) dX6_type_58 ?_
              refine g_bipushN 16 C dX6_type_61 (by decide) ?_
              refine g_icmpN_ne (tgt := 69) C (by omega) (by omega) dX6_type_63 (by decide) (fun h63 => ?_) (fun h63 => ?_)
              · exact j69 (by simp [okT, h22, h31]) h63
              · refine g_bipush (v := -4) C dX6_type_66 (by decide) ?_
                exact g_iret C dX6_type_68 ⟨rt_i (by have hk : okT τ k p1 (-1) = true := (by simp [okT, h22, h31]); simp [aTyp, hu, hk, show nT τ = 16 from h63]), by rw [if_neg (by simp [goT, show nT τ = 16 from h63])]⟩
            · exact absurd rfl h36
      · exact absurd rfl h2
    have hm1 : ¬ nI t = -1 := nI_m1 (by omega)
    have hcl : nN (nI t) = t := nI_clamp (by omega)
    refine g_iload_n C dX6_type_0 rfl ?_
    refine g_iconst (v := -1) C dX6_type_1 (by decide) ?_
    refine g_icmp_eq (tgt := 16) C dX6_type_2 (by decide) (fun h2 => ?_) (fun h2 => ?_)
    · exact absurd h2 hm1
    · refine g_aload_n C dX6_type_5 rfl ?_
      refine g_iload_n C dX6_type_6 rfl ?_
      refine g_callVr 0 C (cr_X6_isType) mw_X6_isType ml_X6_83 rfl rfl rfl rfl (Nat.le_of_ble_eq_true rfl) dX6_type_7 ⟨Nat.le_of_ble_eq_true rfl, Nat.le_of_ble_eq_true rfl⟩ ⟨Nat.le_of_ble_eq_true rfl, Nat.le_of_ble_eq_true rfl⟩ ?_
      refine g_ifb_ne (tgt := 16) C dX6_type_10 (by decide) (fun h10 => ?_) (fun h10 => ?_)
      · refine g_iload_n C dX6_type_16 rfl ?_
        refine g_iconst (v := 0) C dX6_type_17 (by decide) ?_
        refine g_iconst (v := 2) C dX6_type_18 (by decide) ?_
        refine g_callSr C (cr_X6_in) mw_X6_in ml_X6_66 rfl rfl (Nat.le_of_ble_eq_true rfl) dX6_type_19 ⟨Nat.le_of_ble_eq_true rfl, Nat.le_of_ble_eq_true rfl⟩ ⟨Nat.le_of_ble_eq_true rfl, Nat.le_of_ble_eq_true rfl⟩ ?_
        refine g_ifb_eq (tgt := 54) C dX6_type_22 (by decide) (fun h22 => ?_) (fun h22 => ?_)
        · refine g_bipush (v := -3) C dX6_type_54 (by decide) ?_
          exact g_iret C dX6_type_56 ⟨rt_i (by have hk : okT τ k p1 (nI t) = false := (by simp [okT, h22, hm1, hcl]); simp [aTyp, hu, hk]), by have hk : okT τ k p1 (nI t) = false := (by simp [okT, h22, hm1, hcl]); rw [if_neg (by simp [goT, hk])]⟩
        · refine g_iload_n C dX6_type_25 rfl ?_
          refine g_iconst (v := 0) C dX6_type_26 (by decide) ?_
          refine g_iconst (v := 3) C dX6_type_27 (by decide) ?_
          refine g_callSr C (cr_X6_in) mw_X6_in ml_X6_66 rfl rfl (Nat.le_of_ble_eq_true rfl) dX6_type_28 ⟨Nat.le_of_ble_eq_true rfl, Nat.le_of_ble_eq_true rfl⟩ ⟨Nat.le_of_ble_eq_true rfl, Nat.le_of_ble_eq_true rfl⟩ ?_
          refine g_ifb_eq (tgt := 54) C dX6_type_31 (by decide) (fun h31 => ?_) (fun h31 => ?_)
          · refine g_bipush (v := -3) C dX6_type_54 (by decide) ?_
            exact g_iret C dX6_type_56 ⟨rt_i (by have hk : okT τ k p1 (nI t) = false := (by simp [okT, h22, h31, hm1, hcl]); simp [aTyp, hu, hk]), by have hk : okT τ k p1 (nI t) = false := (by simp [okT, h22, h31, hm1, hcl]); rw [if_neg (by simp [goT, hk])]⟩
          · refine g_iload_n C dX6_type_34 rfl ?_
            refine g_iconst (v := -1) C dX6_type_35 (by decide) ?_
            refine g_icmp_eq (tgt := 57) C dX6_type_36 (by decide) (fun h36 => ?_) (fun h36 => ?_)
            · exact absurd h36 hm1
            · refine g_iload_n C dX6_type_39 rfl ?_
              refine g_iconst (v := 2) C dX6_type_40 (by decide) ?_
              refine g_icmp_eq (tgt := 54) C dX6_type_41 (by decide) (fun h41 => ?_) (fun h41 => ?_)
              · refine g_bipush (v := -3) C dX6_type_54 (by decide) ?_
                exact g_iret C dX6_type_56 ⟨rt_i (by have hk : okT τ k p1 (nI t) = false := (by simp [okT, h22, h31, h41, hm1, hcl]); simp [aTyp, hu, hk]), by have hk : okT τ k p1 (nI t) = false := (by simp [okT, h22, h31, h41, hm1, hcl]); rw [if_neg (by simp [goT, hk])]⟩
              · refine g_aload_n C dX6_type_44 rfl ?_
                refine gf_X6_7 C dX6_type_45 ?_
                refine g_iload_n C dX6_type_48 rfl ?_
                refine gM_ln1 C (by omega) dX6_type_49 ?_
                refine g_iconst (v := 2) C dX6_type_50 (by decide) ?_
                refine g_icmp_ne (tgt := 57) C dX6_type_51 (by decide) (fun h51 => ?_) (fun h51 => ?_)
                · refine g_aload_n C dX6_type_57 rfl ?_
                  refine gn_X6_62 C (v := nI (nT τ)) (show τ 0 0 = _ from w0_t hW) dX6_type_58 ?_
                  refine g_bipushN 16 C dX6_type_61 (by decide) ?_
                  refine g_icmpN_ne (tgt := 69) C (by omega) (by omega) dX6_type_63 (by decide) (fun h63 => ?_) (fun h63 => ?_)
                  · exact j69 (by simp [okT, h22, h31, h41, h51, hm1, hcl]) h63
                  · refine g_bipush (v := -4) C dX6_type_66 (by decide) ?_
                    exact g_iret C dX6_type_68 ⟨rt_i (by have hk : okT τ k p1 (nI t) = true := (by simp [okT, h22, h31, h41, h51, hm1, hcl]); simp [aTyp, hu, hk, show nT τ = 16 from h63]), by rw [if_neg (by simp [goT, show nT τ = 16 from h63])]⟩
                · refine g_bipush (v := -3) C dX6_type_54 (by decide) ?_
                  exact g_iret C dX6_type_56 ⟨rt_i (by have hk : okT τ k p1 (nI t) = false := (by simp [okT, h22, h31, h41, h51, hm1, hcl]); simp [aTyp, hu, hk]), by have hk : okT τ k p1 (nI t) = false := (by simp [okT, h22, h31, h41, h51, hm1, hcl]); rw [if_neg (by simp [goT, hk])]⟩
      · exact absurd h10 (by simp [isT_nI hW ht])
  by_cases hp : pa = -1
  · exact key (Or.inl hp) (by simp [hp])
  rcases isT_cases hW pa with hx | ⟨t, ht, rfl⟩
  · refine Ct.of 0 (by decide) (by simp [Value.category]) (Nat.le_of_ble_eq_true rfl) ?_
    intro p e s m below meth c C
    refine g_iload_n C dX6_type_0 rfl ?_
    refine g_iconst (v := -1) C dX6_type_1 (by decide) ?_
    refine g_icmp_eq (tgt := 16) C dX6_type_2 (by decide) (fun h2 => ?_) (fun h2 => ?_)
    · exact absurd h2 hp
    · refine g_aload_n C dX6_type_5 rfl ?_
      refine g_iload_n C dX6_type_6 rfl ?_
      refine g_callVr 0 C (cr_X6_isType) mw_X6_isType ml_X6_83 rfl rfl rfl rfl (Nat.le_of_ble_eq_true rfl) dX6_type_7 ⟨Nat.le_of_ble_eq_true rfl, Nat.le_of_ble_eq_true rfl⟩ ⟨Nat.le_of_ble_eq_true rfl, Nat.le_of_ble_eq_true rfl⟩ ?_
      refine g_ifb_ne (tgt := 16) C dX6_type_10 (by decide) (fun h10 => ?_) (fun h10 => ?_)
      · exact absurd h10 (by simp [hx])
      · refine g_bipush (v := -2) C dX6_type_13 (by decide) ?_
        exact g_iret C dX6_type_15 ⟨rt_i (by simp [aTyp, hp, hx]), by rw [if_neg (by simp [goT, hp, hx])]⟩
  exact key (Or.inr ⟨t, ht, rfl⟩) (by simp [isT_nI hW ht])

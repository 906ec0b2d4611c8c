/-! ===== the reference: face, member, throws, clear ===== -/
def fcHas (τ : St) (t o : Nat) : Nat → Bool := fun k => decide (Fc τ t k = o)
def fcS (τ : St) (t o : Nat) : St := up2 (up2 τ 5 (3 * t + nF τ t) (nI o)) 4 t (nI (nF τ t + 1))
def okF (τ : St) (t o : Nat) : Bool := decide (τ 1 o = 2) && decide (o < t) && !anyN (nF τ t) (fcHas τ t o)
def aFac (τ : St) (x y : Int32) : Int32 := if (isT τ x && isT τ y) = true then (if okF τ (nN x) (nN y) = true then (if nF τ (nN x) = 3 then -4 else nI (nF τ (nN x) + 1)) else -3) else -2
def goF (τ : St) (x y : Int32) : Bool := isT τ x && isT τ y && okF τ (nN x) (nN y) && !decide (nF τ (nN x) = 3)
theorem nF_fc {τ : St} {t o : Nat} (h : nF τ t < 3) (u : Nat) : nF (fcS τ t o) u = if u = t then nF τ t + 1 else nF τ u := by
  show (upd (τ 4) t (nI (nF τ t + 1)) u).toNatClampNeg = _
  by_cases e : u = t
  · simp [upd, e, nI_clamp (show nF τ t + 1 < 2 ^ 31 by omega)]
  · simp [upd, e, nF]
theorem W0_fc {τ : St} (hW : W0 τ) {t o : Nat} (ht : t < nT τ) (ho : o < t) (h : nF τ t < 3) : W0 (fcS τ t o) := by
  refine ⟨hW.1, hW.2.1, hW.2.2.1, fun u hu => ?_, hW.2.2.2.2⟩
  have hu : u < nT τ := hu
  have hn := nF_fc (o := o) h u
  refine ⟨w0_pa hW hu, ⟨?_, ?_⟩, fun k hk => ?_⟩
  · rw [hn]
    show upd (τ 4) t (nI (nF τ t + 1)) u = _
    by_cases e : u = t
    · simp [upd, e]
    · simp only [upd, e, if_false]; exact w0_f hW hu
  · rw [hn]
    by_cases e : u = t
    · simp only [e, if_true]; omega
    · simp only [e, if_false]; exact w0_fl hW hu
  · rw [hn] at hk
    have hfl := w0_fl hW hu
    show upd (τ 5) (3 * t + nF τ t) (nI o) (3 * u + k) = nI (upd (τ 5) (3 * t + nF τ t) (nI o) (3 * u + k)).toNatClampNeg ∧ (upd (τ 5) (3 * t + nF τ t) (nI o) (3 * u + k)).toNatClampNeg < u
    have hTl := w0_tl hW
    by_cases e : u = t
    · subst e
      simp only [if_true] at hk
      by_cases e2 : k = nF τ u
      · subst e2
        simp only [upd, if_true]
        rw [nI_clamp (by omega)]
        exact ⟨rfl, ho⟩
      · have : ¬ 3 * u + k = 3 * u + nF τ u := by omega
        simp only [upd, this, if_false]
        exact ⟨w0_fc hW hu (show k < nF τ u by omega), w0_fcl hW hu (show k < nF τ u by omega)⟩
    · simp only [e, if_false] at hk
      have : ¬ 3 * u + k = 3 * t + nF τ t := by omega
      simp only [upd, this, if_false]
      exact ⟨w0_fc hW hu hk, w0_fcl hW hu hk⟩
def mbHas (τ : St) (t : Nat) (nm : Int32) : Nat → Bool := fun m => decide (Of τ m = t) && decide (τ 10 m = nm)
def mbS (τ : St) (t : Nat) (nm rs mk : Int32) : St := up2 (up2 (up2 (up2 (up2 (up2 τ 9 (nM τ) (nI t)) 10 (nM τ) nm) 11 (nM τ) rs) 12 (nM τ) mk) 13 (nM τ) 0) 0 2 (nI (nM τ + 1))
def okM (τ : St) (t : Nat) (nm rs mk : Int32) : Bool := inB nm 0 7 && inB rs 0 19 && mayB (τ 1 t) mk && !anyN (nM τ) (mbHas τ t nm)
def unM (τ : St) (x rs : Int32) : Bool := isT τ x && !inB rs (τ 0 0) 15
def aMem (τ : St) (x nm rs mk : Int32) : Int32 := if unM τ x rs = true then (if okM τ (nN x) nm rs mk = true then (if nM τ = 60 then -4 else nI (nM τ)) else -3) else -2
def goM (τ : St) (x nm rs mk : Int32) : Bool := unM τ x rs && okM τ (nN x) nm rs mk && !decide (nM τ = 60)
theorem nM_mb {τ : St} {t : Nat} {nm rs mk : Int32} (h : nM τ < 60) : nM (mbS τ t nm rs mk) = nM τ + 1 := nI_clamp (by omega)
theorem W0_mb {τ : St} (hW : W0 τ) {t : Nat} {nm rs mk : Int32} (ht : t < nT τ) (h : nM τ < 60) (hr : ∃ r, r < 20 ∧ rs = nI r) : W0 (mbS τ t nm rs mk) := by
  have e := nM_mb (t := t) (nm := nm) (rs := rs) (mk := mk) h
  have hTl := w0_tl hW
  refine ⟨hW.1, hW.2.1, ⟨by rw [e]; rfl, by omega⟩, hW.2.2.2.1, hW.2.2.2.2.1, fun m hm => ?_, hW.2.2.2.2.2.2⟩
  rw [e] at hm
  show (upd (τ 9) (nM τ) (nI t) m = nI (upd (τ 9) (nM τ) (nI t) m).toNatClampNeg ∧ (upd (τ 9) (nM τ) (nI t) m).toNatClampNeg < nT τ) ∧ upd (τ 11) (nM τ) rs m = nI (upd (τ 11) (nM τ) rs m).toNatClampNeg ∧ (upd (τ 11) (nM τ) rs m).toNatClampNeg < 20
  by_cases q : m = nM τ
  · subst q
    obtain ⟨r, hr1, rfl⟩ := hr
    simp only [upd, if_true]
    rw [nI_clamp (show t < 2 ^ 31 by omega), nI_clamp (show r < 2 ^ 31 by omega)]
    exact ⟨⟨rfl, ht⟩, rfl, hr1⟩
  · simp only [upd, q, if_false]
    exact ⟨⟨w0_of hW (show m < nM τ by omega), w0_ofl hW (show m < nM τ by omega)⟩, w0_rs hW (show m < nM τ by omega), w0_rsl hW (show m < nM τ by omega)⟩
/-- the table of overridings of τ is done in v -/
def Done14 (τ v : St) : Prop := ∃ O1, v = rwR 14 τ O1 ∧ bool01 O1 ∧ ∀ m o, m < nM τ → o < nM τ → O1 (60 * m + o) = b2i (OvS τ m o)
def isX (τ : St) (x : Int32) : Bool := inB x 0 (τ 0 1 - 1)
theorem isX_nI {τ : St} (hW : W0 τ) {t : Nat} (h : t < nX τ) : isX τ (nI t) = true := by
  have := w0_xl hW
  rw [isX, w0_x hW]; exact nI_lo h (by omega)
theorem isX_cases {τ : St} (hW : W0 τ) (x : Int32) : isX τ x = false ∨ ∃ t, t < nX τ ∧ x = nI t := by
  have := w0_xl hW
  rw [isX, w0_x hW]; exact inB_cases (by omega)
def thS (τ : St) (pa : Int32) (q : Bool) : St := up2 (up2 (up2 τ 7 (nX τ) pa) 8 (nX τ) (b2i q)) 0 1 (nI (nX τ + 1))
def unX (τ : St) (pa : Int32) : Bool := decide (pa = -1) || isX τ pa
def aThr (τ : St) (pa : Int32) : Int32 := if unX τ pa = true then (if nX τ = 8 then -4 else nI (nX τ)) else -2
def goX (τ : St) (pa : Int32) : Bool := unX τ pa && !decide (nX τ = 8)
def bit1 (w : Nat) : Int32 := (1 : Int32) <<< (nI w &&& 31)
def toS (τ : St) (m w : Nat) : St := up2 τ 13 m (τ 13 m ||| bit1 w)
def aTho (τ : St) (x y : Int32) : Int32 := if (isM τ x && isX τ y) = true then (if (τ 13 (nN x) &&& bit1 (nN y)) = 0 then 1 else 0) else -2
def clS (τ : St) : St := up2 (up2 (up2 τ 0 0 0) 0 1 0) 0 2 0
set_option maxRecDepth 100000 in
set_option maxHeartbeats 4000000 in
theorem ct_X6_face {l : Launch} {D : va_G} {cI cZ : ClassId} {b : Nat → Nat} {τ : St} (hW : W0 τ) {x y : Int32} : Ct l yX6_face cX6_face 5 (some .int) 6 134 D cI cZ (pM b cI cZ) [.ref (b 0), .int x, .int y] τ (fun r v => r = some (.int (aFac τ x y)) ∧ (if goF τ x y = true then Done (fcS τ (nN x) (nN y)) v else v = τ)) := by
  have hTl := w0_tl hW
  have hMl := w0_ml hW
  rcases isT_cases hW x with hx | ⟨t, ht, rfl⟩
  · refine Ct.of 2 (by decide) (by simp [Value.category]) (Nat.le_of_ble_eq_true rfl) ?_
    intro p e s m below meth c C
    refine g_aload_n C dX6_face_0 rfl ?_
    refine g_iload_n C dX6_face_1 rfl ?_
    refine g_callVr 0 C (cr_X6_isType) mw_X6_isType ml_X6_83 rfl rfl rfl rfl (Nat.le_of_ble_eq_true rfl) dX6_face_2 ⟨Nat.le_of_ble_eq_true rfl, Nat.le_of_ble_eq_true rfl⟩ ⟨Nat.le_of_ble_eq_true rfl, Nat.le_of_ble_eq_true rfl⟩ ?_
    refine g_ifb_eq (tgt := 16) C dX6_face_5 (by decide) (fun h5 => ?_) (fun h5 => ?_)
    · refine g_bipush (v := -2) C dX6_face_16 (by decide) ?_
      exact g_iret C dX6_face_18 ⟨rt_i (by simp [aFac, hx]), by rw [if_neg (by simp [goF, hx])]⟩
    · exact absurd h5 (by simp [hx])
  rcases isT_cases hW y with hy | ⟨o, ho, rfl⟩
  · refine Ct.of 2 (by decide) (by simp [Value.category]) (Nat.le_of_ble_eq_true rfl) ?_
    intro p e s m below meth c C
    refine g_aload_n C dX6_face_0 rfl ?_
    refine g_iload_n C dX6_face_1 rfl ?_
    refine g_callVr 0 C (cr_X6_isType) mw_X6_isType ml_X6_83 rfl rfl rfl rfl (Nat.le_of_ble_eq_true rfl) dX6_face_2 ⟨Nat.le_of_ble_eq_true rfl, Nat.le_of_ble_eq_true rfl⟩ ⟨Nat.le_of_ble_eq_true rfl, Nat.le_of_ble_eq_true rfl⟩ ?_
    refine g_ifb_eq (tgt := 16) C dX6_face_5 (by decide) (fun h5 => ?_) (fun h5 => ?_)
    · exact absurd h5 (by simp [isT_nI hW ht])
    · refine g_aload_n C dX6_face_8 rfl ?_
      refine g_iload_n C dX6_face_9 rfl ?_
      refine g_callVr 0 C (cr_X6_isType) mw_X6_isType ml_X6_83 rfl rfl rfl rfl (Nat.le_of_ble_eq_true rfl) dX6_face_10 ⟨Nat.le_of_ble_eq_true rfl, Nat.le_of_ble_eq_true rfl⟩ ⟨Nat.le_of_ble_eq_true rfl, Nat.le_of_ble_eq_true rfl⟩ ?_
      refine g_ifb_ne (tgt := 19) C dX6_face_13 (by decide) (fun h13 => ?_) (fun h13 => ?_)
      · exact absurd h13 (by simp [hy])
      · refine g_bipush (v := -2) C dX6_face_16 (by decide) ?_
        exact g_iret C dX6_face_18 ⟨rt_i (by simp [aFac, hy]), by rw [if_neg (by simp [goF, hy])]⟩
  refine Ct.of 2 (by decide) (by simp [Value.category]) (Nat.le_of_ble_eq_true rfl) ?_
  intro p e s m below meth c C
  have ct1 : nN (nI t) = t := nI_clamp (by omega)
  have co1 : nN (nI o) = o := nI_clamp (by omega)
  have s1 := isT_nI hW ht
  have s2 := isT_nI hW ho
  have hfl := w0_fl hW ht
  have j85 : ∀ (q : Bool), q = okF τ t o → G p l e (rmo 6 134) s m ([.ref (b 0), .int (nI t), .int (nI o)] : List Value).toArray below meth c D (va_A (pM b cI cZ τ) s.heap.size) 0 0 (Qe below ([.ref (b 0), .int (nI t), .int (nI o)] : List Value).toArray s D (pM b cI cZ) τ (fun r v => r = some (.int (aFac τ (nI t) (nI o))) ∧ (if goF τ (nI t) (nI o) = true then Done (fcS τ (nN (nI t)) (nN (nI o))) v else v = τ))) 5 (pM b cI cZ τ) 85 [some (.ref (b 0)), some (.int (nI t)), some (.int (nI o)), some (.int (b2i q)), none] [] := by
    intro q hq
    refine g_iload_n C dX6_face_85 rfl ?_
    refine g_ifb_ne (tgt := 92) C dX6_face_86 (by decide) (fun h86 => ?_) (fun h86 => ?_)
    · refine g_aload_n C dX6_face_92 rfl ?_
      refine gf_X6_19 C dX6_face_93 ?_
      refine g_iload_n C dX6_face_96 rfl ?_
      refine gM_lv4 C (by omega) (v := nI (nF τ t)) (show τ 4 _ = _ from w0_f hW ht) dX6_face_97 ?_
      refine g_iconstN 3 C dX6_face_98 (by decide) ?_
      refine g_icmpN_ne (tgt := 105) C (by omega) (by omega) dX6_face_99 (by decide) (fun h99 => ?_) (fun h99 => ?_)
      · refine g_aload_n C dX6_face_105 rfl ?_
        refine gf_X6_22 C dX6_face_106 ?_
        refine g_iconstN 3 C dX6_face_109 (by decide) ?_
        refine g_iload_n C dX6_face_110 rfl ?_
        refine g_imulN C dX6_face_111 ?_
        refine g_aload_n C dX6_face_112 rfl ?_
        refine gf_X6_19 C dX6_face_113 ?_
        refine g_iload_n C dX6_face_116 rfl ?_
        refine gM_lv4 C (by omega) (v := nI (nF τ t)) (show τ 4 _ = _ from w0_f hW ht) dX6_face_117 ?_
        refine g_iaddN C dX6_face_118 ?_
        refine g_iload_n C dX6_face_119 rfl ?_
        refine gM_sn5 C (by omega) dX6_face_120 ?_
        refine g_aload_n C dX6_face_121 rfl ?_
        refine gf_X6_19 C dX6_face_122 ?_
        refine g_iload_n C dX6_face_125 rfl ?_
        refine g_dup2 C dX6_face_126 rfl rfl ?_
        refine gM_lv4 C (by omega) (v := nI (nF τ t)) (show τ 4 _ = _ from w0_f hW ht) dX6_face_127 ?_
        refine g_iconstN 1 C dX6_face_128 (by decide) ?_
        refine g_iaddN C dX6_face_129 ?_
        refine gM_sn4 C (by omega) dX6_face_130 ?_
        have ho2 : o < t := (by have h := hq.symm.trans h86; simp only [okF, Bool.and_eq_true, decide_eq_true_eq] at h; exact h.1.2)
        refine g_aload_n C dX6_face_131 rfl ?_
        refine g_callV 0 C (ct_X6_rise (τ := fcS τ t o) (W0_fc hW ht ho2 (by omega))) mw_X6_rise ml_X6_87 rfl rfl rfl rfl (Nat.le_of_ble_eq_true rfl) dX6_face_132 ⟨Nat.le_of_ble_eq_true rfl, Nat.le_of_ble_eq_true rfl⟩ ⟨Nat.le_of_ble_eq_true rfl, Nat.le_of_ble_eq_true rfl⟩ ?_
        intro r v hv
        obtain ⟨rfl, hv⟩ := hv
        obtain ⟨A1, O1, hv1, hv2⟩ := id hv
        subst hv1
        refine g_aload_n C dX6_face_135 rfl ?_
        refine gf_X6_19 C dX6_face_136 ?_
        refine g_iload_n C dX6_face_139 rfl ?_
        refine gM_lv4 C (by omega) (v := nI (nF τ t + 1)) (show upd (τ 4) t (nI (nF τ t + 1)) t = _ by simp [upd]) dX6_face_140 ?_
        exact g_iret C dX6_face_141 ⟨rt_i (by simp [aFac, s1, s2, ct1, co1, ← hq, h86, show ¬ nF τ t = 3 from h99]), by rw [if_pos (by simp [goF, s1, s2, ct1, co1, ← hq, h86, show ¬ nF τ t = 3 from h99]), ct1, co1]; exact hv⟩
      · refine g_bipush (v := -4) C dX6_face_102 (by decide) ?_
        exact g_iret C dX6_face_104 ⟨rt_i (by simp [aFac, s1, s2, ct1, co1, ← hq, h86, show nF τ t = 3 from h99]), by rw [if_neg (by simp [goF, ct1, show nF τ t = 3 from h99])]⟩
    · refine g_bipush (v := -3) C dX6_face_89 (by decide) ?_
      exact g_iret C dX6_face_91 ⟨rt_i (by simp [aFac, s1, s2, ct1, co1, ← hq, h86]), by rw [if_neg (by simp [goF, ct1, co1, ← hq, h86])]⟩
  have loop : ∀ (n k : Nat) (q : Bool), k ≤ nF τ t → nF τ t + 1 ≤ k + n → q = (decide (τ 1 o = 2) && decide (o < t) && !anyN k (fcHas τ t o)) → G p l e (rmo 6 134) s m ([.ref (b 0), .int (nI t), .int (nI o)] : List Value).toArray below meth c D (va_A (pM b cI cZ τ) s.heap.size) 0 0 (Qe below ([.ref (b 0), .int (nI t), .int (nI o)] : List Value).toArray s D (pM b cI cZ) τ (fun r v => r = some (.int (aFac τ (nI t) (nI o))) ∧ (if goF τ (nI t) (nI o) = true then Done (fcS τ (nN (nI t)) (nN (nI o))) v else v = τ))) 5 (pM b cI cZ τ) 43 [some (.ref (b 0)), some (.int (nI t)), some (.int (nI o)), some (.int (b2i q)), some (.int (nI k))] [] := by
    intro n
    induction n with
    | zero => intro k q h1 h2; omega
    | succ n ih =>
      intro k q h1 h2 hq
      have j79 : k < nF τ t → ∀ (q : Bool), q = (decide (τ 1 o = 2) && decide (o < t) && !anyN (k + 1) (fcHas τ t o)) → G p l e (rmo 6 134) s m ([.ref (b 0), .int (nI t), .int (nI o)] : List Value).toArray below meth c D (va_A (pM b cI cZ τ) s.heap.size) 0 0 (Qe below ([.ref (b 0), .int (nI t), .int (nI o)] : List Value).toArray s D (pM b cI cZ) τ (fun r v => r = some (.int (aFac τ (nI t) (nI o))) ∧ (if goF τ (nI t) (nI o) = true then Done (fcS τ (nN (nI t)) (nN (nI o))) v else v = τ))) 5 (pM b cI cZ τ) 79 [some (.ref (b 0)), some (.int (nI t)), some (.int (nI o)), some (.int (b2i q)), some (.int (nI k))] [] := by
        intro hk q hq
        refine g_iincN C dX6_face_79 rfl (by decide) ?_
        refine g_goto (tgt := 43) C dX6_face_82 (by decide) ?_
        exact ih (k + 1) q (by omega) (by omega) hq
      refine g_iload C dX6_face_43 rfl ?_
      refine g_aload_n C dX6_face_45 rfl ?_
      refine gf_X6_19 C dX6_face_46 ?_
      refine g_iload_n C dX6_face_49 rfl ?_
      refine gM_lv4 C (by omega) (v := nI (nF τ t)) (show τ 4 _ = _ from w0_f hW ht) dX6_face_50 ?_
      refine g_icmpN_ge (tgt := 85) C (by omega) (by omega) dX6_face_51 (by decide) (fun h51 => ?_) (fun h51 => ?_)
      · exact (j85 q (by rw [hq, okF, (show k = nF τ t by omega)])).weak (by simp [lvle, lst])
      · refine g_iload_n C dX6_face_54 rfl ?_
        refine g_ifb_eq (tgt := 77) C dX6_face_55 (by decide) (fun h55 => ?_) (fun h55 => ?_)
        · refine g_iconst (v := 0) C dX6_face_77 (by decide) ?_
          refine g_istore_n C dX6_face_78 (by decide) ?_
          exact j79 (by omega) false (by simp only [anyN]; rw [h55] at hq; revert hq; cases (decide (τ 1 o = 2) && decide (o < t)) <;> cases anyN k (fcHas τ t o) <;> simp)
        · refine g_aload_n C dX6_face_58 rfl ?_
          refine gf_X6_22 C dX6_face_59 ?_
          refine g_iconstN 3 C dX6_face_62 (by decide) ?_
          refine g_iload_n C dX6_face_63 rfl ?_
          refine g_imulN C dX6_face_64 ?_
          refine g_iload C dX6_face_65 rfl ?_
          refine g_iaddN C dX6_face_67 ?_
          have hfc := w0_fcl hW ht (k := k) (by omega)
          refine gM_lv5 C (by omega) (v := nI (Fc τ t k)) (show τ 5 _ = _ from w0_fc hW ht (by omega)) dX6_face_68 ?_
          refine g_iload_n C dX6_face_69 rfl ?_
          refine g_icmpN_eq (tgt := 77) C (by omega) (by omega) dX6_face_70 (by decide) (fun h70 => ?_) (fun h70 => ?_)
          · refine g_iconst (v := 0) C dX6_face_77 (by decide) ?_
            refine g_istore_n C dX6_face_78 (by decide) ?_
            exact j79 (by omega) false (by have e : fcHas τ t o k = true := (by simp [fcHas, h70]); simp only [anyN, e]; rw [h55] at hq; revert hq; cases (decide (τ 1 o = 2) && decide (o < t)) <;> cases anyN k (fcHas τ t o) <;> simp)
          · refine g_iconst (v := 1) C dX6_face_73 (by decide) ?_
            refine g_goto (tgt := 78) C dX6_face_74 (by decide) ?_
            refine g_istore_n C dX6_face_78 (by decide) ?_
            exact j79 (by omega) true (by have e : fcHas τ t o k = false := (by simp [fcHas, h70]); simp only [anyN, e]; rw [h55] at hq; revert hq; cases (decide (τ 1 o = 2) && decide (o < t)) <;> cases anyN k (fcHas τ t o) <;> simp)
  refine g_aload_n C dX6_face_0 rfl ?_
  refine g_iload_n C dX6_face_1 rfl ?_
  refine g_callVr 0 C (cr_X6_isType) mw_X6_isType ml_X6_83 rfl rfl rfl rfl (Nat.le_of_ble_eq_true rfl) dX6_face_2 ⟨Nat.le_of_ble_eq_true rfl, Nat.le_of_ble_eq_true rfl⟩ ⟨Nat.le_of_ble_eq_true rfl, Nat.le_of_ble_eq_true rfl⟩ ?_
  refine g_ifb_eq (tgt := 16) C dX6_face_5 (by decide) (fun h5 => ?_) (fun h5 => ?_)
  · exact absurd h5 (by simp [s1])
  · refine g_aload_n C dX6_face_8 rfl ?_
    refine g_iload_n C dX6_face_9 rfl ?_
    refine g_callVr 0 C (cr_X6_isType) mw_X6_isType ml_X6_83 rfl rfl rfl rfl (Nat.le_of_ble_eq_true rfl) dX6_face_10 ⟨Nat.le_of_ble_eq_true rfl, Nat.le_of_ble_eq_true rfl⟩ ⟨Nat.le_of_ble_eq_true rfl, Nat.le_of_ble_eq_true rfl⟩ ?_
    refine g_ifb_ne (tgt := 19) C dX6_face_13 (by decide) (fun h13 => ?_) (fun h13 => ?_)
    · refine g_aload_n C dX6_face_19 rfl ?_
      refine gf_X6_7 C dX6_face_20 ?_
      refine g_iload_n C dX6_face_23 rfl ?_
      refine gM_ln1 C (by omega) dX6_face_24 ?_
      refine g_iconst (v := 2) C dX6_face_25 (by decide) ?_
      refine g_icmp_ne (tgt := 38) C dX6_face_26 (by decide) (fun h26 => ?_) (fun h26 => ?_)
      · refine g_iconst (v := 0) C dX6_face_38 (by decide) ?_
        refine g_istore_n C dX6_face_39 (by decide) ?_
        refine g_iconstN 0 C dX6_face_40 (by decide) ?_
        refine g_istore C dX6_face_41 (by decide) ?_
        exact loop (nF τ t + 1) 0 false (by omega) (by omega) (by simp [h26])
      · refine g_iload_n C dX6_face_29 rfl ?_
        refine g_iload_n C dX6_face_30 rfl ?_
        refine g_icmpN_ge (tgt := 38) C (by omega) (by omega) dX6_face_31 (by decide) (fun h31 => ?_) (fun h31 => ?_)
        · refine g_iconst (v := 0) C dX6_face_38 (by decide) ?_
          refine g_istore_n C dX6_face_39 (by decide) ?_
          refine g_iconstN 0 C dX6_face_40 (by decide) ?_
          refine g_istore C dX6_face_41 (by decide) ?_
          exact loop (nF τ t + 1) 0 false (by omega) (by omega) (by have h26 : τ 1 o = 2 := h26; simp [h26, anyN, h31]; try omega)
        · refine g_iconst (v := 1) C dX6_face_34 (by decide) ?_
          refine g_goto (tgt := 39) C dX6_face_35 (by decide) ?_
          refine g_istore_n C dX6_face_39 (by decide) ?_
          refine g_iconstN 0 C dX6_face_40 (by decide) ?_
          refine g_istore C dX6_face_41 (by decide) ?_
          exact loop (nF τ t + 1) 0 true (by omega) (by omega) (by have h26 : τ 1 o = 2 := h26; simp [h26, anyN, h31]; try omega)
    · exact absurd h13 (by simp [s2])
set_option maxRecDepth 100000 in
set_option maxHeartbeats 4000000 in
theorem ct_X6_member {l : Launch} {D : va_G} {cI cZ : ClassId} {b : Nat → Nat} {τ : St} (hW : W0 τ) (hB : BelDn τ) {x nm rs mk : Int32} : Ct l yX6_member cX6_member 7 (some .int) 5 112 D cI cZ (pM b cI cZ) [.ref (b 0), .int x, .int nm, .int rs, .int mk] τ (fun r v => r = some (.int (aMem τ x nm rs mk)) ∧ (if goM τ x nm rs mk = true then Done14 (mbS τ (nN x) nm rs mk) v else v = τ)) := by
  have hTl := w0_tl hW
  have hMl := w0_ml hW
  rcases isT_cases hW x with hx | ⟨t, ht, rfl⟩
  · refine Ct.of 2 (by decide) (by simp [Value.category]) (Nat.le_of_ble_eq_true rfl) ?_
    intro p e s m below meth c C
    refine g_aload_n C dX6_member_0 rfl ?_
    refine g_iload_n C dX6_member_1 rfl ?_
    refine g_callVr 0 C (cr_X6_isType) mw_X6_isType ml_X6_83 rfl rfl rfl rfl (Nat.le_of_ble_eq_true rfl) dX6_member_2 ⟨Nat.le_of_ble_eq_true rfl, Nat.le_of_ble_eq_true rfl⟩ ⟨Nat.le_of_ble_eq_true rfl, Nat.le_of_ble_eq_true rfl⟩ ?_
    refine g_ifb_eq (tgt := 21) C dX6_member_5 (by decide) (fun h5 => ?_) (fun h5 => ?_)
    · refine g_bipush (v := -2) C dX6_member_21 (by decide) ?_
      exact g_iret C dX6_member_23 ⟨rt_i (by simp [aMem, unM, hx]), by rw [if_neg (by simp [goM, unM, hx])]⟩
    · exact absurd h5 (by simp [hx])
  refine Ct.of 2 (by decide) (by simp [Value.category]) (Nat.le_of_ble_eq_true rfl) ?_
  intro p e s m below meth c C
  have ct1 : nN (nI t) = t := nI_clamp (by omega)
  have s1 := isT_nI hW ht
  have j117 : unM τ (nI t) rs = true → ∀ (q : Bool), q = okM τ t nm rs mk → G p l e (rmo 5 112) s m ([.ref (b 0), .int (nI t), .int nm, .int rs, .int mk] : List Value).toArray below meth c D (va_A (pM b cI cZ τ) s.heap.size) 0 0 (Qe below ([.ref (b 0), .int (nI t), .int nm, .int rs, .int mk] : List Value).toArray s D (pM b cI cZ) τ (fun r v => r = some (.int (aMem τ (nI t) nm rs mk)) ∧ (if goM τ (nI t) nm rs mk = true then Done14 (mbS τ (nN (nI t)) nm rs mk) v else v = τ))) 7 (pM b cI cZ τ) 117 [some (.ref (b 0)), some (.int (nI t)), some (.int (nm)), some (.int (rs)), some (.int (mk)), some (.int (b2i q)), none] [] := by
    intro hu q hq
    refine g_iload C dX6_member_117 rfl ?_
    refine g_ifb_ne (tgt := 125) C dX6_member_119 (by decide) (fun h119 => ?_) (fun h119 => ?_)
    · refine g_aload_n C dX6_member_125 rfl ?_
      refine gn_X6_70 C (v := nI (nM τ)) (show τ 0 2 = _ from w0_m hW) dX6_member_126 ?_
      refine g_bipushN 60 C dX6_member_129 (by decide) ?_
      refine g_icmpN_ne (tgt := 137) C (by omega) (by omega) dX6_member_131 (by decide) (fun h131 => ?_) (fun h131 => ?_)
      · refine g_aload_n C dX6_member_137 rfl ?_
        have hr : ∃ r, r < 20 ∧ rs = nI r := (by have h := hq.symm.trans h119; simp only [okM, Bool.and_eq_true] at h; have h := h.1.1.2; simp only [inB, Bool.and_eq_true, decide_eq_true_eq] at h; obtain ⟨j, hj, e⟩ := nI_of2 (M := 19) (n := 19) (by decide) (Int32.not_lt.mpr h.1) h.2; exact ⟨j, by omega, e⟩)
        refine gf_X6_35 C dX6_member_138 ?_
        refine g_aload_n C dX6_member_141 rfl ?_
        refine gn_X6_70 C (v := nI (nM τ)) (show τ 0 2 = _ from w0_m hW) dX6_member_142 ?_
        refine g_iload_n C dX6_member_145 rfl ?_
        refine gM_sn9 C (by omega) dX6_member_146 ?_
        refine g_aload_n C dX6_member_147 rfl ?_
        refine gf_X6_38 C dX6_member_148 ?_
        refine g_aload_n C dX6_member_151 rfl ?_
        refine gn_X6_70 C (v := nI (nM τ)) (show τ 0 2 = _ from w0_m hW) dX6_member_152 ?_
        refine g_iload_n C dX6_member_155 rfl ?_
        refine gM_sn10 C (by omega) dX6_member_156 ?_
        refine g_aload_n C dX6_member_157 rfl ?_
        refine gf_X6_41 C dX6_member_158 ?_
        refine g_aload_n C dX6_member_161 rfl ?_
        refine gn_X6_70 C (v := nI (nM τ)) (show τ 0 2 = _ from w0_m hW) dX6_member_162 ?_
        refine g_iload_n C dX6_member_165 rfl ?_
        refine gM_sn11 C (by omega) dX6_member_166 ?_
        refine g_aload_n C dX6_member_167 rfl ?_
        refine gf_X6_44 C dX6_member_168 ?_
        refine g_aload_n C dX6_member_171 rfl ?_
        refine gn_X6_70 C (v := nI (nM τ)) (show τ 0 2 = _ from w0_m hW) dX6_member_172 ?_
        refine g_iload C dX6_member_175 rfl ?_
        refine gM_sn12 C (by omega) dX6_member_177 ?_
        refine g_aload_n C dX6_member_178 rfl ?_
        refine gf_X6_47 C dX6_member_179 ?_
        refine g_aload_n C dX6_member_182 rfl ?_
        refine gn_X6_70 C (v := nI (nM τ)) (show τ 0 2 = _ from w0_m hW) dX6_member_183 ?_
        refine g_iconst (v := 0) C dX6_member_186 (by decide) ?_
        refine gM_sn13 C (by omega) dX6_member_187 ?_
        refine g_aload_n C dX6_member_188 rfl ?_
        refine g_dup C dX6_member_189 rfl ?_
        refine gn_X6_70 C (v := nI (nM τ)) (show τ 0 2 = _ from w0_m hW) dX6_member_190 ?_
        refine g_iconstN 1 C dX6_member_193 (by decide) ?_
        refine g_iaddN C dX6_member_194 ?_
        refine gp_X6_70 C dX6_member_195 ?_
        refine g_aload_n C dX6_member_198 rfl ?_
        refine g_callV 0 C (ct_X6_work (τ := mbS τ t nm rs mk) (W0_mb hW ht (by omega) hr) hB) mw_X6_work ml_X6_80 rfl rfl rfl rfl (Nat.le_of_ble_eq_true rfl) dX6_member_199 ⟨Nat.le_of_ble_eq_true rfl, Nat.le_of_ble_eq_true rfl⟩ ⟨Nat.le_of_ble_eq_true rfl, Nat.le_of_ble_eq_true rfl⟩ ?_
        intro r v hv
        obtain ⟨rfl, O1, rfl, hv⟩ := hv
        refine g_aload_n C dX6_member_202 rfl ?_
        refine gn_X6_70 C (v := nI (nM τ + 1)) rfl dX6_member_203 ?_
        refine g_iconst (v := 1) C dX6_member_206 (by decide) ?_
        refine g_isub C dX6_member_207 ?_
        exact g_iret C dX6_member_208 ⟨rt_i (by rw [nI1]; simp [aMem, hu, ct1, ← hq, h119, show ¬ nM τ = 60 from h131]), by rw [if_pos (by simp [goM, hu, ct1, ← hq, h119, show ¬ nM τ = 60 from h131]), ct1]; exact ⟨O1, rfl, hv⟩⟩
      · refine g_bipush (v := -4) C dX6_member_134 (by decide) ?_
        exact g_iret C dX6_member_136 ⟨rt_i (by simp [aMem, hu, ct1, ← hq, h119, show nM τ = 60 from h131]), by rw [if_neg (by simp [goM, show nM τ = 60 from h131])]⟩
    · refine g_bipush (v := -3) C dX6_member_122 (by decide) ?_
      exact g_iret C dX6_member_124 ⟨rt_i (by simp [aMem, hu, ct1, ← hq, h119]), by rw [if_neg (by simp [goM, ct1, ← hq, h119])]⟩
  have loop : unM τ (nI t) rs = true → ∀ (n k : Nat) (q : Bool), k ≤ nM τ → nM τ + 1 ≤ k + n → q = (inB nm 0 7 && inB rs 0 19 && mayB (τ 1 t) mk && !anyN k (mbHas τ t nm)) → G p l e (rmo 5 112) s m ([.ref (b 0), .int (nI t), .int nm, .int rs, .int mk] : List Value).toArray below meth c D (va_A (pM b cI cZ τ) s.heap.size) 0 0 (Qe below ([.ref (b 0), .int (nI t), .int nm, .int rs, .int mk] : List Value).toArray s D (pM b cI cZ) τ (fun r v => r = some (.int (aMem τ (nI t) nm rs mk)) ∧ (if goM τ (nI t) nm rs mk = true then Done14 (mbS τ (nN (nI t)) nm rs mk) v else v = τ))) 7 (pM b cI cZ τ) 68 [some (.ref (b 0)), some (.int (nI t)), some (.int (nm)), some (.int (rs)), some (.int (mk)), some (.int (b2i q)), some (.int (nI k))] [] := by
    intro hu n
    induction n with
    | zero => intro k q h1 h2; omega
    | succ n ih =>
      intro k q h1 h2 hq
      have j111 : k < nM τ → ∀ (q : Bool), q = (inB nm 0 7 && inB rs 0 19 && mayB (τ 1 t) mk && !anyN (k + 1) (mbHas τ t nm)) → G p l e (rmo 5 112) s m ([.ref (b 0), .int (nI t), .int nm, .int rs, .int mk] : List Value).toArray below meth c D (va_A (pM b cI cZ τ) s.heap.size) 0 0 (Qe below ([.ref (b 0), .int (nI t), .int nm, .int rs, .int mk] : List Value).toArray s D (pM b cI cZ) τ (fun r v => r = some (.int (aMem τ (nI t) nm rs mk)) ∧ (if goM τ (nI t) nm rs mk = true then Done14 (mbS τ (nN (nI t)) nm rs mk) v else v = τ))) 7 (pM b cI cZ τ) 111 [some (.ref (b 0)), some (.int (nI t)), some (.int (nm)), some (.int (rs)), some (.int (mk)), some (.int (b2i q)), some (.int (nI k))] [] := by
        intro hk q hq
        refine g_iincN C dX6_member_111 rfl (by decide) ?_
        refine g_goto (tgt := 68) C dX6_member_114 (by decide) ?_
        exact ih (k + 1) q (by omega) (by omega) hq
      refine g_iload C dX6_member_68 rfl ?_
      refine g_aload_n C dX6_member_70 rfl ?_
      refine gn_X6_70 C (v := nI (nM τ)) (show τ 0 2 = _ from w0_m hW) dX6_member_71 ?_
      refine g_icmpN_ge (tgt := 117) C (by omega) (by omega) dX6_member_74 (by decide) (fun h74 => ?_) (fun h74 => ?_)
      · exact (j117 hu q (by rw [hq, okM, (show k = nM τ by omega)])).weak (by simp [lvle, lst])
      · refine g_iload C dX6_member_77 rfl ?_
        refine g_ifb_eq (tgt := 108) C dX6_member_79 (by decide) (fun h79 => ?_) (fun h79 => ?_)
        · refine g_iconst (v := 0) C dX6_member_108 (by decide) ?_
          refine g_istore C dX6_member_109 (by decide) ?_
          exact j111 (by omega) false (by simp only [anyN]; rw [h79] at hq; revert hq; cases (inB nm 0 7 && inB rs 0 19 && mayB (τ 1 t) mk) <;> cases anyN k (mbHas τ t nm) <;> simp)
        · refine g_aload_n C dX6_member_82 rfl ?_
          have hofk := w0_ofl hW (show k < nM τ by omega)
          refine gf_X6_35 C dX6_member_83 ?_
          refine g_iload C dX6_member_86 rfl ?_
          refine gM_lv9 C (by omega) (w0_of hW (by omega)) dX6_member_88 ?_
          refine g_iload_n C dX6_member_89 rfl ?_
          refine g_icmpN_ne (tgt := 104) C (by omega) (by omega) dX6_member_90 (by decide) (fun h90 => ?_) (fun h90 => ?_)
          · refine g_iconst (v := 1) C dX6_member_104 (by decide) ?_
            refine g_goto (tgt := 109) C dX6_member_105 (by decide) ?_
            refine g_istore C dX6_member_109 (by decide) ?_
            exact j111 (by omega) true (by have e : mbHas τ t nm k = false := (by simp [mbHas, h90]); simp only [anyN, e]; rw [h79] at hq; revert hq; cases (inB nm 0 7 && inB rs 0 19 && mayB (τ 1 t) mk) <;> cases anyN k (mbHas τ t nm) <;> simp)
          · refine g_aload_n C dX6_member_93 rfl ?_
            refine gf_X6_38 C dX6_member_94 ?_
            refine g_iload C dX6_member_97 rfl ?_
            refine gM_ln10 C (by omega) dX6_member_99 ?_
            refine g_iload_n C dX6_member_100 rfl ?_
            refine g_icmp_eq (tgt := 108) C dX6_member_101 (by decide) (fun h101 => ?_) (fun h101 => ?_)
            · refine g_iconst (v := 0) C dX6_member_108 (by decide) ?_
              refine g_istore C dX6_member_109 (by decide) ?_
              exact j111 (by omega) false (by have e : mbHas τ t nm k = true := (by simp [mbHas, h90, h101]); simp only [anyN, e]; rw [h79] at hq; revert hq; cases (inB nm 0 7 && inB rs 0 19 && mayB (τ 1 t) mk) <;> cases anyN k (mbHas τ t nm) <;> simp)
            · refine g_iconst (v := 1) C dX6_member_104 (by decide) ?_
              refine g_goto (tgt := 109) C dX6_member_105 (by decide) ?_
              refine g_istore C dX6_member_109 (by decide) ?_
              exact j111 (by omega) true (by have e : mbHas τ t nm k = false := (by simp [mbHas, h90, h101]); simp only [anyN, e]; rw [h79] at hq; revert hq; cases (inB nm 0 7 && inB rs 0 19 && mayB (τ 1 t) mk) <;> cases anyN k (mbHas τ t nm) <;> simp)
  refine g_aload_n C dX6_member_0 rfl ?_
  refine g_iload_n C dX6_member_1 rfl ?_
  refine g_callVr 0 C (cr_X6_isType) mw_X6_isType ml_X6_83 rfl rfl rfl rfl (Nat.le_of_ble_eq_true rfl) dX6_member_2 ⟨Nat.le_of_ble_eq_true rfl, Nat.le_of_ble_eq_true rfl⟩ ⟨Nat.le_of_ble_eq_true rfl, Nat.le_of_ble_eq_true rfl⟩ ?_
  refine g_ifb_eq (tgt := 21) C dX6_member_5 (by decide) (fun h5 => ?_) (fun h5 => ?_)
  · exact absurd h5 (by simp [s1])
  · refine g_iload_n C dX6_member_8 rfl ?_
    refine g_aload_n C dX6_member_9 rfl ?_
    refine gf_X6_62 C dX6_member_10 ?_
    refine g_bipush (v := 15) C dX6_member_13 (by decide) ?_
    refine g_callSr C (cr_X6_in) mw_X6_in ml_X6_66 rfl rfl (Nat.le_of_ble_eq_true rfl) dX6_member_15 ⟨Nat.le_of_ble_eq_true rfl, Nat.le_of_ble_eq_true rfl⟩ ⟨Nat.le_of_ble_eq_true rfl, Nat.le_of_ble_eq_true rfl⟩ ?_
    refine g_ifb_eq (tgt := 24) C dX6_member_18 (by decide) (fun h18 => ?_) (fun h18 => ?_)
    · refine g_iload_n C dX6_member_24 rfl ?_
      refine g_iconst (v := 0) C dX6_member_25 (by decide) ?_
      refine g_bipush (v := 7) C dX6_member_26 (by decide) ?_
      refine g_callSr C (cr_X6_in) mw_X6_in ml_X6_66 rfl rfl (Nat.le_of_ble_eq_true rfl) dX6_member_28 ⟨Nat.le_of_ble_eq_true rfl, Nat.le_of_ble_eq_true rfl⟩ ⟨Nat.le_of_ble_eq_true rfl, Nat.le_of_ble_eq_true rfl⟩ ?_
      refine g_ifb_eq (tgt := 62) C dX6_member_31 (by decide) (fun h31 => ?_) (fun h31 => ?_)
      · refine g_iconst (v := 0) C dX6_member_62 (by decide) ?_
        refine g_istore C dX6_member_63 (by decide) ?_
        refine g_iconstN 0 C dX6_member_65 (by decide) ?_
        refine g_istore C dX6_member_66 (by decide) ?_
        exact loop (by simp [unM, s1]; exact h18) (nM τ + 1) 0 false (by omega) (by omega) (by simp [anyN, h31])
      · refine g_iload_n C dX6_member_34 rfl ?_
        refine g_iconst (v := 0) C dX6_member_35 (by decide) ?_
        refine g_bipush (v := 19) C dX6_member_36 (by decide) ?_
        refine g_callSr C (cr_X6_in) mw_X6_in ml_X6_66 rfl rfl (Nat.le_of_ble_eq_true rfl) dX6_member_38 ⟨Nat.le_of_ble_eq_true rfl, Nat.le_of_ble_eq_true rfl⟩ ⟨Nat.le_of_ble_eq_true rfl, Nat.le_of_ble_eq_true rfl⟩ ?_
        refine g_ifb_eq (tgt := 62) C dX6_member_41 (by decide) (fun h41 => ?_) (fun h41 => ?_)
        · refine g_iconst (v := 0) C dX6_member_62 (by decide) ?_
          refine g_istore C dX6_member_63 (by decide) ?_
          refine g_iconstN 0 C dX6_member_65 (by decide) ?_
          refine g_istore C dX6_member_66 (by decide) ?_
          exact loop (by simp [unM, s1]; exact h18) (nM τ + 1) 0 false (by omega) (by omega) (by simp [anyN, h31, h41])
        · refine g_aload_n C dX6_member_44 rfl ?_
          refine gf_X6_7 C dX6_member_45 ?_
          refine g_iload_n C dX6_member_48 rfl ?_
          refine gM_ln1 C (by omega) dX6_member_49 ?_
          refine g_iload C dX6_member_50 rfl ?_
          refine g_callSr C (cr_X6_mayBe) mw_X6_mayBe ml_X6_107 rfl rfl (Nat.le_of_ble_eq_true rfl) dX6_member_52 ⟨Nat.le_of_ble_eq_true rfl, Nat.le_of_ble_eq_true rfl⟩ ⟨Nat.le_of_ble_eq_true rfl, Nat.le_of_ble_eq_true rfl⟩ ?_
          refine g_ifb_eq (tgt := 62) C dX6_member_55 (by decide) (fun h55 => ?_) (fun h55 => ?_)
          · refine g_iconst (v := 0) C dX6_member_62 (by decide) ?_
            refine g_istore C dX6_member_63 (by decide) ?_
            refine g_iconstN 0 C dX6_member_65 (by decide) ?_
            refine g_istore C dX6_member_66 (by decide) ?_
            exact loop (by simp [unM, s1]; exact h18) (nM τ + 1) 0 false (by omega) (by omega) (by simp [anyN, h31, h41, h55])
          · refine g_iconst (v := 1) C dX6_member_58 (by decide) ?_
            refine g_goto (tgt := 63) C dX6_member_59 (by decide) ?_
            refine g_istore C dX6_member_63 (by decide) ?_
            refine g_iconstN 0 C dX6_member_65 (by decide) ?_
            refine g_istore C dX6_member_66 (by decide) ?_
            exact loop (by simp [unM, s1]; exact h18) (nM τ + 1) 0 true (by omega) (by omega) (by simp [anyN, h31, h41, h55])
    · refine g_bipush (v := -2) C dX6_member_21 (by decide) ?_
      exact g_iret C dX6_member_23 ⟨rt_i (by simp [aMem, unM, h18]), by rw [if_neg (by simp [goM, unM, h18])]⟩
set_option maxRecDepth 100000 in
set_option maxHeartbeats 4000000 in
theorem ct_X6_clear {l : Launch} {D : va_G} {cI cZ : ClassId} {b : Nat → Nat} {τ : St} : Ct l yX6_clear cX6_clear 2 (some .int) 0 0 D cI cZ (pM b cI cZ) [.ref (b 0)] τ (fun r v => r = some (.int (τ 0 2)) ∧ v = clS τ) := by
  refine Ct.of 1 (by decide) (by simp [Value.category]) (Nat.le_of_ble_eq_true rfl) ?_
  intro p e s m below meth c C
  refine g_aload_n C dX6_clear_0 rfl ?_
  refine gf_X6_70 C dX6_clear_1 ?_
  refine g_istore_n C dX6_clear_4 (by decide) ?_
  refine g_aload_n C dX6_clear_5 rfl ?_
  refine g_iconst (v := 0) C dX6_clear_6 (by decide) ?_
  refine gp_X6_62 C dX6_clear_7 ?_
  refine g_aload_n C dX6_clear_10 rfl ?_
  refine g_iconst (v := 0) C dX6_clear_11 (by decide) ?_
  refine gp_X6_73 C dX6_clear_12 ?_
  refine g_aload_n C dX6_clear_15 rfl ?_
  refine g_iconst (v := 0) C dX6_clear_16 (by decide) ?_
  refine gp_X6_70 C dX6_clear_17 ?_
  refine g_iload_n C dX6_clear_20 rfl ?_
  exact g_iret C dX6_clear_21 ⟨rfl, rfl⟩
set_option maxRecDepth 100000 in
set_option maxHeartbeats 4000000 in
theorem ct_X6_thrown0 {l : Launch} {D : va_G} {cI cZ : ClassId} {b : Nat → Nat} {τ : St} (hW : W0 τ) {pa : Int32} {q : Bool} : Ct l yX6_thrown0 cX6_thrown0 3 (some .int) 1 22 D cI cZ (pM b cI cZ) [.ref (b 0), .int pa, .int (b2i q)] τ (fun r v => r = some (.int (aThr τ pa)) ∧ (if goX τ pa = true then v = thS τ pa q else v = τ)) := by
  refine Ct.of 0 (by decide) (by simp [Value.category]) (Nat.le_of_ble_eq_true rfl) ?_
  intro p e s m below meth c C
  have hXl := w0_xl hW
  have j22 : unX τ pa = true → G p l e (rmo 1 22) s m ([.ref (b 0), .int pa, .int (b2i q)] : List Value).toArray below meth c D (va_A (pM b cI cZ τ) s.heap.size) 0 0 (Qe below ([.ref (b 0), .int pa, .int (b2i q)] : List Value).toArray s D (pM b cI cZ) τ (fun r v => r = some (.int (aThr τ pa)) ∧ (if goX τ pa = true then v = thS τ pa q else v = τ))) 3 (pM b cI cZ τ) 22 [some (.ref (b 0)), some (.int (pa)), some (.int (b2i q))] [] := by
    intro hu
    refine g_aload_n C dX6_thrown0_22 rfl ?_
    refine gn_X6_73 C (v := nI (nX τ)) (show τ 0 1 = _ from w0_x hW) dX6_thrown0_23 ?_
    refine g_bipushN 8 C dX6_thrown0_26 (by decide) ?_
    refine g_icmpN_ne (tgt := 34) C (by omega) (by omega) dX6_thrown0_28 (by decide) (fun h28 => ?_) (fun h28 => ?_)
    · refine g_aload_n C dX6_thrown0_34 rfl ?_
      refine gf_X6_29 C dX6_thrown0_35 ?_
      refine g_aload_n C dX6_thrown0_38 rfl ?_
      refine gn_X6_73 C (v := nI (nX τ)) (show τ 0 1 = _ from w0_x hW) dX6_thrown0_39 ?_
      refine g_iload_n C dX6_thrown0_42 rfl ?_
      refine gM_sn7 C (by omega) dX6_thrown0_43 ?_
      refine g_aload_n C dX6_thrown0_44 rfl ?_
      refine gf_X6_32 C dX6_thrown0_45 ?_
      refine g_aload_n C dX6_thrown0_48 rfl ?_
      refine gn_X6_73 C (v := nI (nX τ)) (show τ 0 1 = _ from w0_x hW) dX6_thrown0_49 ?_
      refine g_iload_n C dX6_thrown0_52 rfl ?_
      refine gM_sn8 C (by omega) (b2i_vp _) dX6_thrown0_53 ?_
      refine g_aload_n C dX6_thrown0_54 rfl ?_
      refine g_dup C dX6_thrown0_55 rfl ?_
      refine gn_X6_73 C (v := nI (nX τ)) (show τ 0 1 = _ from w0_x hW) dX6_thrown0_56 ?_
      refine g_iconstN 1 C dX6_thrown0_59 (by decide) ?_
      refine g_iaddN C dX6_thrown0_60 ?_
      refine gp_X6_73 C dX6_thrown0_61 ?_
      refine g_aload_n C dX6_thrown0_64 rfl ?_
      refine gn_X6_73 C (v := nI (nX τ + 1)) rfl dX6_thrown0_65 ?_
      refine g_iconst (v := 1) C dX6_thrown0_68 (by decide) ?_
      refine g_isub C dX6_thrown0_69 ?_
      exact g_iret C dX6_thrown0_70 ⟨rt_i (by rw [nI1]; simp [aThr, hu, show ¬ nX τ = 8 from h28]), by rw [if_pos (by simp [goX, hu, show ¬ nX τ = 8 from h28])]; rfl⟩
    · refine g_bipush (v := -4) C dX6_thrown0_31 (by decide) ?_
      exact g_iret C dX6_thrown0_33 ⟨rt_i (by simp [aThr, hu, show nX τ = 8 from h28]), by rw [if_neg (by simp [goX, show nX τ = 8 from h28])]⟩
  refine g_iload_n C dX6_thrown0_0 rfl ?_
  refine g_iconst (v := -1) C dX6_thrown0_1 (by decide) ?_
  refine g_icmp_eq (tgt := 22) C dX6_thrown0_2 (by decide) (fun h2 => ?_) (fun h2 => ?_)
  · exact j22 (by simp [unX, show pa = -1 from h2])
  · refine g_iload_n C dX6_thrown0_5 rfl ?_
    refine g_iconst (v := 0) C dX6_thrown0_6 (by decide) ?_
    refine g_aload_n C dX6_thrown0_7 rfl ?_
    refine gf_X6_73 C dX6_thrown0_8 ?_
    refine g_iconst (v := 1) C dX6_thrown0_11 (by decide) ?_
    refine g_isub C dX6_thrown0_12 ?_
    refine g_callSr C (cr_X6_in) mw_X6_in ml_X6_66 rfl rfl (Nat.le_of_ble_eq_true rfl) dX6_thrown0_13 ⟨Nat.le_of_ble_eq_true rfl, Nat.le_of_ble_eq_true rfl⟩ ⟨Nat.le_of_ble_eq_true rfl, Nat.le_of_ble_eq_true rfl⟩ ?_
    refine g_ifb_ne (tgt := 22) C dX6_thrown0_16 (by decide) (fun h16 => ?_) (fun h16 => ?_)
    · exact j22 (by simp [unX, show isX τ pa = true from h16])
    · refine g_bipush (v := -2) C dX6_thrown0_19 (by decide) ?_
      exact g_iret C dX6_thrown0_21 ⟨rt_i (by simp [aThr, unX, show ¬ pa = -1 from h2, show isX τ pa = false from h16]), by rw [if_neg (by simp [goX, unX, show ¬ pa = -1 from h2, show isX τ pa = false from h16])]⟩
set_option maxRecDepth 100000 in
set_option maxHeartbeats 4000000 in
theorem ct_X6_throws0 {l : Launch} {D : va_G} {cI cZ : ClassId} {b : Nat → Nat} {τ : St} (hW : W0 τ) {x y : Int32} : Ct l yX6_throws0 cX6_throws0 5 (some .int) 2 43 D cI cZ (pM b cI cZ) [.ref (b 0), .int x, .int y] τ (fun r v => r = some (.int (aTho τ x y)) ∧ (if (isM τ x && isX τ y) = true then v = toS τ (nN x) (nN y) else v = τ)) := by
  have hMl := w0_ml hW
  have hXl := w0_xl hW
  rcases isM_cases hW x with hx | ⟨t, ht, rfl⟩
  · refine Ct.of 2 (by decide) (by simp [Value.category]) (Nat.le_of_ble_eq_true rfl) ?_
    intro p e s m below meth c C
    refine g_aload_n C dX6_throws0_0 rfl ?_
    refine g_iload_n C dX6_throws0_1 rfl ?_
    refine g_callVr 0 C (cr_X6_isMember) mw_X6_isMember ml_X6_97 rfl rfl rfl rfl (Nat.le_of_ble_eq_true rfl) dX6_throws0_2 ⟨Nat.le_of_ble_eq_true rfl, Nat.le_of_ble_eq_true rfl⟩ ⟨Nat.le_of_ble_eq_true rfl, Nat.le_of_ble_eq_true rfl⟩ ?_
    refine g_ifb_eq (tgt := 22) C dX6_throws0_5 (by decide) (fun h5 => ?_) (fun h5 => ?_)
    · refine g_bipush (v := -2) C dX6_throws0_22 (by decide) ?_
      exact g_iret C dX6_throws0_24 ⟨rt_i (by simp [aTho, hx]), by rw [if_neg (by simp [hx])]⟩
    · exact absurd h5 (by simp [hx])
  rcases isX_cases hW y with hy | ⟨o, ho, rfl⟩
  · refine Ct.of 2 (by decide) (by simp [Value.category]) (Nat.le_of_ble_eq_true rfl) ?_
    intro p e s m below meth c C
    refine g_aload_n C dX6_throws0_0 rfl ?_
    refine g_iload_n C dX6_throws0_1 rfl ?_
    refine g_callVr 0 C (cr_X6_isMember) mw_X6_isMember ml_X6_97 rfl rfl rfl rfl (Nat.le_of_ble_eq_true rfl) dX6_throws0_2 ⟨Nat.le_of_ble_eq_true rfl, Nat.le_of_ble_eq_true rfl⟩ ⟨Nat.le_of_ble_eq_true rfl, Nat.le_of_ble_eq_true rfl⟩ ?_
    refine g_ifb_eq (tgt := 22) C dX6_throws0_5 (by decide) (fun h5 => ?_) (fun h5 => ?_)
    · exact absurd h5 (by simp [isM_nI hW ht])
    · refine g_iload_n C dX6_throws0_8 rfl ?_
      refine g_iconst (v := 0) C dX6_throws0_9 (by decide) ?_
      refine g_aload_n C dX6_throws0_10 rfl ?_
      refine gf_X6_73 C dX6_throws0_11 ?_
      refine g_iconst (v := 1) C dX6_throws0_14 (by decide) ?_
      refine g_isub C dX6_throws0_15 ?_
      refine g_callSr C (cr_X6_in) mw_X6_in ml_X6_66 rfl rfl (Nat.le_of_ble_eq_true rfl) dX6_throws0_16 ⟨Nat.le_of_ble_eq_true rfl, Nat.le_of_ble_eq_true rfl⟩ ⟨Nat.le_of_ble_eq_true rfl, Nat.le_of_ble_eq_true rfl⟩ ?_
      refine g_ifb_ne (tgt := 25) C dX6_throws0_19 (by decide) (fun h19 => ?_) (fun h19 => ?_)
      · exact absurd (show isX τ y = true from h19) (by simp [hy])
      · refine g_bipush (v := -2) C dX6_throws0_22 (by decide) ?_
        exact g_iret C dX6_throws0_24 ⟨rt_i (by simp [aTho, hy]), by rw [if_neg (by simp [hy])]⟩
  refine Ct.of 2 (by decide) (by simp [Value.category]) (Nat.le_of_ble_eq_true rfl) ?_
  intro p e s m below meth c C
  have ct1 : nN (nI t) = t := nI_clamp (by omega)
  have co1 : nN (nI o) = o := nI_clamp (by omega)
  have s1 := isM_nI hW ht
  have s2 := isX_nI hW ho
  refine g_aload_n C dX6_throws0_0 rfl ?_
  refine g_iload_n C dX6_throws0_1 rfl ?_
  refine g_callVr 0 C (cr_X6_isMember) mw_X6_isMember ml_X6_97 rfl rfl rfl rfl (Nat.le_of_ble_eq_true rfl) dX6_throws0_2 ⟨Nat.le_of_ble_eq_true rfl, Nat.le_of_ble_eq_true rfl⟩ ⟨Nat.le_of_ble_eq_true rfl, Nat.le_of_ble_eq_true rfl⟩ ?_
  refine g_ifb_eq (tgt := 22) C dX6_throws0_5 (by decide) (fun h5 => ?_) (fun h5 => ?_)
  · exact absurd h5 (by simp [s1])
  · refine g_iload_n C dX6_throws0_8 rfl ?_
    refine g_iconst (v := 0) C dX6_throws0_9 (by decide) ?_
    refine g_aload_n C dX6_throws0_10 rfl ?_
    refine gf_X6_73 C dX6_throws0_11 ?_
    refine g_iconst (v := 1) C dX6_throws0_14 (by decide) ?_
    refine g_isub C dX6_throws0_15 ?_
    refine g_callSr C (cr_X6_in) mw_X6_in ml_X6_66 rfl rfl (Nat.le_of_ble_eq_true rfl) dX6_throws0_16 ⟨Nat.le_of_ble_eq_true rfl, Nat.le_of_ble_eq_true rfl⟩ ⟨Nat.le_of_ble_eq_true rfl, Nat.le_of_ble_eq_true rfl⟩ ?_
    refine g_ifb_ne (tgt := 25) C dX6_throws0_19 (by decide) (fun h19 => ?_) (fun h19 => ?_)
    · refine g_iconst (v := 1) C dX6_throws0_25 (by decide) ?_
      refine g_iload_n C dX6_throws0_26 rfl ?_
      refine g_ishl C dX6_throws0_27 ?_
      refine g_istore_n C dX6_throws0_28 (by decide) ?_
      refine g_aload_n C dX6_throws0_29 rfl ?_
      refine gf_X6_47 C dX6_throws0_30 ?_
      refine g_iload_n C dX6_throws0_33 rfl ?_
      refine gM_ln13 C (by omega) dX6_throws0_34 ?_
      refine g_iload_n C dX6_throws0_35 rfl ?_
      refine g_iand C dX6_throws0_36 ?_
      refine g_istore C dX6_throws0_37 (by decide) ?_
      refine g_aload_n C dX6_throws0_39 rfl ?_
      refine gf_X6_47 C dX6_throws0_40 ?_
      refine g_iload_n C dX6_throws0_43 rfl ?_
      refine g_aload_n C dX6_throws0_44 rfl ?_
      refine gf_X6_47 C dX6_throws0_45 ?_
      refine g_iload_n C dX6_throws0_48 rfl ?_
      refine gM_ln13 C (by omega) dX6_throws0_49 ?_
      refine g_iload_n C dX6_throws0_50 rfl ?_
      refine g_ior C dX6_throws0_51 ?_
      refine gM_sn13 C (by omega) dX6_throws0_52 ?_
      refine g_iload C dX6_throws0_53 rfl ?_
      refine g_if_ne (tgt := 62) C dX6_throws0_55 (by decide) (fun h55 => ?_) (fun h55 => ?_)
      · refine g_iconst (v := 0) C dX6_throws0_62 (by decide) ?_
        exact g_iret C dX6_throws0_63 ⟨rt_i (by simp only [aTho, s1, s2, ct1, co1]; simp [show ¬ (τ 13 t &&& bit1 o) = 0 from h55]), by rw [if_pos (by simp [s1, s2]), ct1, co1]; rfl⟩
      · refine g_iconst (v := 1) C dX6_throws0_58 (by decide) ?_
        refine g_goto (tgt := 63) C dX6_throws0_59 (by decide) ?_
        exact g_iret C dX6_throws0_63 ⟨rt_i (by simp only [aTho, s1, s2, ct1, co1]; simp [show (τ 13 t &&& bit1 o) = 0 from h55]), by rw [if_pos (by simp [s1, s2]), ct1, co1]; rfl⟩
    · exact absurd (show isX τ (nI o) = false from h19) (by simp [s2])

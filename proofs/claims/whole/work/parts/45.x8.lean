/-! ===== the class: what changes its throws and members ===== -/
theorem up2_up2 {σ : St} {k j : Nat} {x y : Int32} : up2 (up2 σ k j x) k j y = up2 σ k j y := by
  funext i
  by_cases h : i = k
  · subst h
    have e : Nat.beq i i = true := Nat.beq_refl i
    simp only [up2, e, cond_true]; exact upd_upd
  · simp only [up2, nbeq h, cond_false]
theorem up2_self {σ : St} {k j : Nat} {x : Int32} (hx : σ k j = x) : up2 σ k j x = σ := by
  funext i
  by_cases h : i = k
  · subst h
    have e : Nat.beq i i = true := Nat.beq_refl i
    simp only [up2, e, cond_true]
    funext z
    by_cases q : z = j
    · subst q; simp [upd, hx]
    · simp [upd, q]
  · simp only [up2, nbeq h, cond_false]
theorem chV_congr {pa pb : Nat → Int32} {f : Nat → Bool} {N : Nat} (hN : N ≤ 16) (h1 : ∀ x, x < N → lessOr (pa x) x) (h2 : ∀ x, x < N → pa x = pb x) : ∀ (w : Nat), w < N → chV pa f (nI w) = chV pb f (nI w) := by
  intro w
  induction w using Nat.strongRecOn with
  | ind w ih =>
    intro hw
    have h3 : ∀ x, x < N → lessOr (pb x) x := fun x hx => by rw [← h2 x hx]; exact h1 x hx
    rw [chF_step hN h1 hw, chF_step hN h3 hw, ← h2 w hw]
    rcases h1 w hw with q | ⟨p, hp, q⟩
    · rw [q]; simp [chV]
    · rw [q, ih p hp (by omega)]
theorem fstN_congr {n : Nat} {f g : Nat → Bool} (h : ∀ x, x < n → f x = g x) : fstN n f = fstN n g := by
  induction n with
  | zero => rfl
  | succ n ih => simp only [fstN, ih (fun x hx => h x (by omega)), h n (by omega)]
theorem RX_th {τ σ : St} (hI : Inv τ σ) {pa : Int32} {q : Bool} (h8 : nX τ < 8) (hp : lessOr pa (nX τ)) {X K : Int32} (hX : ∀ i, i < 32 → bt X i = (decide (i = nX τ) || (if pa = -1 then false else bt (σ 8 (nN pa)) i))) (hK : ∀ i, i < 32 → bt K i = (bt (σ 0 1) i || (q && decide (i = nX τ)))) : RX (thS τ pa q) (up2 (up2 (up2 σ 8 (nX τ) X) 0 1 K) 0 2 (nI (nX τ + 1))) := by
  have hn : nX (thS τ pa q) = nX τ + 1 := nI_clamp (by omega)
  have l1 : ∀ x, x < nX τ + 1 → lessOr (upd (τ 7) (nX τ) pa x) x := fun x hx => by
    by_cases z : x = nX τ
    · subst z; simp only [upd, if_true]; exact hp
    · simp only [upd, z, if_false]; exact w0_tp (iW hI) (by omega)
  have l2 : ∀ (f : Nat → Bool) w, w < nX τ → chV (upd (τ 7) (nX τ) pa) f (nI w) = chV (τ 7) f (nI w) := fun f w hw =>
    chV_congr (N := nX τ) (by omega) (fun x hx => l1 x (by omega)) (fun x hx => by simp [upd, show ¬ x = nX τ by omega]) w hw
  refine ⟨⟨hI.2.1.1, rfl, hI.2.1.2.2⟩, hI.2.2.1, ⟨fun w hw i hi => ?_, fun i hi => ?_⟩, hI.2.2.2.2.1, hI.2.2.2.2.2⟩
  · rw [hn] at hw
    show bt (upd (σ 8) (nX τ) X w) i = chV (upd (τ 7) (nX τ) pa) (fun y => decide (y = i)) (nI w)
    by_cases e : w = nX τ
    · subst e
      rw [chF_step (N := nX τ + 1) (by omega) l1 (by omega)]
      simp only [upd, if_true]
      rw [hX i hi]
      rcases hp with z | ⟨p, hpp, rfl⟩
      · rw [if_pos z, z]
        rw [show chV (upd (τ 7) (nX τ) (-1)) (fun y => decide (y = i)) (-1) = false by simp [chV]]
        rw [Bool.or_false, Bool.or_false]; exact decide_eq_decide.mpr eq_comm
      · rw [if_neg (nI_m1 (by omega)), nN, nI_clamp (by omega), i_st hI hpp hi]
        have := l2 (fun y => decide (y = i)) p hpp
        rw [← this]
        congr 1
        exact decide_eq_decide.mpr eq_comm
    · rw [l2 _ w (by omega)]
      simp only [upd, e, if_false]
      exact i_st hI (by omega) hi
  · rw [hn]
    show bt K i = (decide (i < nX τ + 1) && decide (¬ upd (τ 8) (nX τ) (b2i q) i = 0))
    rw [hK i hi, i_ck hI hi]
    by_cases e : i = nX τ
    · subst e
      simp only [upd, if_true]
      cases q <;> simp [b2i]
    · simp only [upd, e, if_false]
      by_cases z : i < nX τ
      · simp [z, e, show i < nX τ + 1 by omega, Ckd]
      · simp [z, e, show ¬ i < nX τ + 1 by omega]
theorem RX_to {τ σ : St} (hI : Inv τ σ) {x w : Nat} (hx : x < nM τ) : RX (toS τ x w) (up2 σ 14 x (τ 13 x ||| bit1 w)) := by
  refine ⟨hI.2.1, hI.2.2.1, hI.2.2.2.1, fun m hm => ?_, hI.2.2.2.2.2⟩
  obtain ⟨c1, c2, c3, c4, c5⟩ := hI.2.2.2.2.1 m hm
  refine ⟨c1, c2, c3, c4, ?_⟩
  show upd (σ 14) x (τ 13 x ||| bit1 w) m = upd (τ 13) x (τ 13 x ||| bit1 w) m
  by_cases e : m = x
  · simp only [upd, e, if_true]
  · simp only [upd, e, if_false]; exact c5
theorem RX_cl {τ σ : St} {S : Nat → Int32} (hS : ∀ j, j < 128 → S j = 0) : RX (clS τ) (up2 (rwR 15 (up2 (up2 (up2 σ 0 0 0) 0 1 0) 0 2 0) S) 0 3 0) := by
  have e0 : nT (clS τ) = 0 := rfl
  have e1 : nX (clS τ) = 0 := rfl
  have e2 : nM (clS τ) = 0 := rfl
  refine ⟨⟨rfl, rfl, rfl⟩, fun t ht => by rw [e0] at ht; omega, ⟨fun w hw => by rw [e1] at hw; omega, fun i hi => ?_⟩, fun m hm => by rw [e2] at hm; omega, fun t n ht hn => ?_⟩
  · rw [e1]
    show bt 0 i = _
    rw [b_0]; simp
  · show S (t * 8 + n) = _
    rw [hS _ (by omega)]; rfl
def adM (σ : St) (N t n r : Nat) (K : Int32) : St := up2 (up2 (up2 (up2 (up2 (up2 (up2 σ 10 N (nI t)) 11 N (nI n)) 12 N (nI r)) 13 N K) 14 N 0) 0 3 (nI (N + 1))) 15 (t * 8 + n) (nI (N + 1))
theorem RX_mb {τ σ : St} (hI : Inv τ σ) {t n r : Nat} {mk K : Int32} (ht : t < nT τ) (hn8 : n < 8) (hno : anyN (nM τ) (mbHas τ t (nI n)) = false) (hm60 : nM τ < 60) (hK : K = if (decide (τ 1 t = 2) && decide (mk &&& 4 = 0)) = true then mk ||| 1 else mk) : RX (mbS τ t (nI n) (nI r) mk) (adM σ (nM τ) t n r K) := by
  have hTl := w0_tl (iW hI)
  have e := nM_mb (τ := τ) (t := t) (nm := nI n) (rs := nI r) (mk := mk) hm60
  have oN : Of (mbS τ t (nI n) (nI r) mk) (nM τ) = t := by
    show (upd (τ 9) (nM τ) (nI t) (nM τ)).toNatClampNeg = _
    simp only [upd, if_true]; exact nI_clamp (by omega)
  have oO : ∀ m, ¬ m = nM τ → Of (mbS τ t (nI n) (nI r) mk) m = Of τ m := fun m hm => by
    show (upd (τ 9) (nM τ) (nI t) m).toNatClampNeg = _
    simp [upd, hm, Of]
  have nN' : mbS τ t (nI n) (nI r) mk 10 (nM τ) = nI n := by show upd (τ 10) (nM τ) (nI n) _ = _; simp [upd]
  have nO : ∀ m, ¬ m = nM τ → mbS τ t (nI n) (nI r) mk 10 m = τ 10 m := fun m hm => by show upd (τ 10) (nM τ) (nI n) _ = _; simp [upd, hm]
  have kN : mbS τ t (nI n) (nI r) mk 12 (nM τ) = mk := by show upd (τ 12) (nM τ) mk _ = _; simp [upd]
  have kO : ∀ m, ¬ m = nM τ → mbS τ t (nI n) (nI r) mk 12 m = τ 12 m := fun m hm => by show upd (τ 12) (nM τ) mk _ = _; simp [upd, hm]
  refine ⟨⟨hI.2.1.1, hI.2.1.2.1, rfl⟩, hI.2.2.1, hI.2.2.2.1, fun m hm => ?_, fun t' n' ht' hn' => ?_⟩
  · rw [e] at hm
    by_cases q : m = nM τ
    · subst q
      refine ⟨?_, ?_, ?_, ?_, ?_⟩
      · show upd (σ 10) (nM τ) (nI t) (nM τ) = upd (τ 9) (nM τ) (nI t) (nM τ); simp [upd]
      · show upd (σ 11) (nM τ) (nI n) (nM τ) = upd (τ 10) (nM τ) (nI n) (nM τ); simp [upd]
      · show upd (σ 12) (nM τ) (nI r) (nM τ) = upd (τ 11) (nM τ) (nI r) (nM τ); simp [upd]
      · show upd (σ 13) (nM τ) K (nM τ) = _
        rw [mkX, Hs, Ifc, oN, kN]
        simp only [upd, if_true]
        rw [hK]
        show _ = if (decide (τ 1 t = 2) && !decide (¬ mk &&& 4 = 0)) = true then mk ||| 1 else mk
        by_cases z : mk &&& 4 = 0 <;> simp [z]
      · show upd (σ 14) (nM τ) 0 (nM τ) = upd (τ 13) (nM τ) 0 (nM τ); simp [upd]
    · obtain ⟨c1, c2, c3, c4, c5⟩ := hI.2.2.2.2.1 m (by omega)
      refine ⟨?_, ?_, ?_, ?_, ?_⟩
      · show upd (σ 10) (nM τ) (nI t) m = upd (τ 9) (nM τ) (nI t) m; simp only [upd, q, if_false]; exact c1
      · show upd (σ 11) (nM τ) (nI n) m = upd (τ 10) (nM τ) (nI n) m; simp only [upd, q, if_false]; exact c2
      · show upd (σ 12) (nM τ) (nI r) m = upd (τ 11) (nM τ) (nI r) m; simp only [upd, q, if_false]; exact c3
      · show upd (σ 13) (nM τ) K m = _
        simp only [upd, q, if_false]
        rw [c4, mkX, mkX, Hs, Hs, Ifc, Ifc, oO m q, kO m q]; rfl
      · show upd (σ 14) (nM τ) 0 m = upd (τ 13) (nM τ) 0 m; simp only [upd, q, if_false]; exact c5
  · show upd (σ 15) (t * 8 + n) (nI (nM τ + 1)) (t' * 8 + n') = slV (mbS τ t (nI n) (nI r) mk) t' n'
    have old : ∀ m, m < nM τ → mbHas (mbS τ t (nI n) (nI r) mk) t' (nI n') m = mbHas τ t' (nI n') m := fun m hm => by
      rw [mbHas, mbHas, oO m (by omega), nO m (by omega)]
    have hF := fstN_congr old
    have hN : mbHas (mbS τ t (nI n) (nI r) mk) t' (nI n') (nM τ) = (decide (t = t') && decide (nI n = nI n')) := by
      rw [mbHas, oN, nN']
    rw [slV, e]
    simp only [fstN]
    rw [hF, hN]
    by_cases z : t' = t ∧ n' = n
    · obtain ⟨rfl, rfl⟩ := z
      have : fstN (nM τ) (mbHas τ t' (nI n')) = none := fstN_none (fun x hx => by
        cases h : mbHas τ t' (nI n') x with
        | false => rfl
        | true => rw [anyN_t hx h] at hno; cases hno)
      rw [this]
      simp [upd]
    · have z1 : ¬ t' * 8 + n' = t * 8 + n := fun q => z ⟨by omega, by omega⟩
      have z2 : (decide (t = t') && decide (nI n = nI n')) = false := by
        by_cases a : t = t'
        · have : ¬ nI n = nI n' := fun q => z ⟨a.symm, ((nI_eq (by omega) (by omega)).mp q).symm⟩
          simp [this]
        · simp [a]
      rw [z2]
      simp only [upd, z1, if_false]
      rw [i_sl hI ht' hn', slV]
      cases fstN (nM τ) (mbHas τ t' (nI n')) with
      | some m => rfl
      | none => rfl

set_option maxRecDepth 100000 in
set_option maxHeartbeats 4000000 in
theorem ct_X3_add {l : Launch} {D : va_G} {cI cZ : ClassId} {b : Nat → Nat} {τ σ : St} (hI : Inv τ σ) {pa : Int32} {q : Bool} (h8 : nX τ < 8) (hp : lessOr pa (nX τ)) : Ct l yX3_add cX3_add 4 (some .int) 0 0 D cI cZ (pX b cI cZ) [.ref (b 7), .int pa, .int (b2i q)] σ (fun r u => r = some (.int (nI (nX τ))) ∧ RX (thS τ pa q) u) := by
  refine Ct.of 1 (by decide) (by simp [Value.category]) (Nat.le_of_ble_eq_true rfl) ?_
  intro p e s m below meth c C
  have j50 : ∀ (X K : Int32), (∀ i, i < 32 → bt X i = (decide (i = nX τ) || (if pa = -1 then false else bt (σ 8 (nN pa)) i))) → (∀ i, i < 32 → bt K i = (bt (σ 0 1) i || (q && decide (i = nX τ)))) → G p l e (rmo 0 0) s m ([.ref (b 7), .int pa, .int (b2i q)] : List Value).toArray below meth c D (va_A (pX b cI cZ σ) s.heap.size) 0 0 (Qe below ([.ref (b 7), .int pa, .int (b2i q)] : List Value).toArray s D (pX b cI cZ) σ (fun r u => r = some (.int (nI (nX τ))) ∧ RX (thS τ pa q) u)) 4 (pX b cI cZ (up2 (up2 σ 8 (nX τ) X) 0 1 K)) 50 [some (.ref (b 7)), some (.int (pa)), some (.int (b2i q)), some (.int (nI (nX τ)))] [] := by
    intro X K hX hK
    refine g_aload_n C dX3_add_50 rfl ?_
    refine g_dup C dX3_add_51 rfl ?_
    refine gn_X3_19 C (v := nI (nX τ)) (show σ 0 2 = _ from i_x hI) dX3_add_52 ?_
    refine g_iconstN 1 C dX3_add_55 (by decide) ?_
    refine g_iaddN C dX3_add_56 ?_
    refine gp_X3_19 C dX3_add_57 ?_
    refine g_iload_n C dX3_add_60 rfl ?_
    exact g_iret C dX3_add_61 ⟨rfl, RX_th hI h8 hp hX hK⟩
  have j34 : ∀ (X : Int32), (∀ i, i < 32 → bt X i = (decide (i = nX τ) || (if pa = -1 then false else bt (σ 8 (nN pa)) i))) → G p l e (rmo 0 0) s m ([.ref (b 7), .int pa, .int (b2i q)] : List Value).toArray below meth c D (va_A (pX b cI cZ σ) s.heap.size) 0 0 (Qe below ([.ref (b 7), .int pa, .int (b2i q)] : List Value).toArray s D (pX b cI cZ) σ (fun r u => r = some (.int (nI (nX τ))) ∧ RX (thS τ pa q) u)) 4 (pX b cI cZ (up2 σ 8 (nX τ) X)) 34 [some (.ref (b 7)), some (.int (pa)), some (.int (b2i q)), some (.int (nI (nX τ)))] [] := by
    intro X hX
    refine g_iload_n C dX3_add_34 rfl ?_
    refine g_ifb_eq (tgt := 50) C dX3_add_35 (by decide) (fun h35 => ?_) (fun h35 => ?_)
    · have hh := j50 X (σ 0 1) hX (fun i hi => by rw [h35]; simp); rw [show up2 (up2 σ 8 (nX τ) X) 0 1 (σ 0 1) = up2 σ 8 (nX τ) X from up2_self rfl] at hh; exact hh
    · refine g_aload_n C dX3_add_38 rfl ?_
      refine g_dup C dX3_add_39 rfl ?_
      refine gf_X3_15 C dX3_add_40 ?_
      refine g_iconst (v := 1) C dX3_add_43 (by decide) ?_
      refine g_iload_n C dX3_add_44 rfl ?_
      refine g_ishl C dX3_add_45 ?_
      refine g_ior C dX3_add_46 ?_
      refine gp_X3_15 C dX3_add_47 ?_
      exact j50 X (σ 0 1 ||| bit1 (nX τ)) hX (fun i hi => by rw [h35, b_or, bt_bit1 (by omega) hi, Bool.true_and])
  rcases hp with hp | ⟨p0, hp0, rfl⟩
  · refine g_aload_n C dX3_add_0 rfl ?_
    refine gn_X3_19 C (v := nI (nX τ)) (i_x hI) dX3_add_1 ?_
    refine g_istore_n C dX3_add_4 (by decide) ?_
    refine g_aload_n C dX3_add_5 rfl ?_
    refine gf_X3_9 C dX3_add_6 ?_
    refine g_iload_n C dX3_add_9 rfl ?_
    refine g_iconst (v := 1) C dX3_add_10 (by decide) ?_
    refine g_iload_n C dX3_add_11 rfl ?_
    refine g_ishl C dX3_add_12 ?_
    refine gX_sn8 C (by omega) dX3_add_13 ?_
    refine g_iload_n C dX3_add_14 rfl ?_
    refine g_iconst (v := -1) C dX3_add_15 (by decide) ?_
    refine g_icmp_eq (tgt := 34) C dX3_add_16 (by decide) (fun h16 => ?_) (fun h16 => ?_)
    · exact j34 (bit1 (nX τ)) (fun i hi => by rw [if_pos hp, bt_bit1 (by omega) hi, Bool.or_false])
    · exact absurd hp h16
  · refine g_aload_n C dX3_add_0 rfl ?_
    refine gn_X3_19 C (v := nI (nX τ)) (i_x hI) dX3_add_1 ?_
    refine g_istore_n C dX3_add_4 (by decide) ?_
    refine g_aload_n C dX3_add_5 rfl ?_
    refine gf_X3_9 C dX3_add_6 ?_
    refine g_iload_n C dX3_add_9 rfl ?_
    refine g_iconst (v := 1) C dX3_add_10 (by decide) ?_
    refine g_iload_n C dX3_add_11 rfl ?_
    refine g_ishl C dX3_add_12 ?_
    refine gX_sn8 C (by omega) dX3_add_13 ?_
    refine g_iload_n C dX3_add_14 rfl ?_
    refine g_iconst (v := -1) C dX3_add_15 (by decide) ?_
    refine g_icmp_eq (tgt := 34) C dX3_add_16 (by decide) (fun h16 => ?_) (fun h16 => ?_)
    · exact absurd h16 (nI_m1 (by omega))
    · refine g_aload_n C dX3_add_19 rfl ?_
      refine gf_X3_9 C dX3_add_20 ?_
      refine g_iload_n C dX3_add_23 rfl ?_
      refine g_dup2 C dX3_add_24 rfl rfl ?_
      refine gX_lv8 C (by omega) (v := bit1 (nX τ)) (show upd (σ 8) (nX τ) (bit1 (nX τ)) (nX τ) = _ by simp [upd]) dX3_add_25 ?_
      refine g_aload_n C dX3_add_26 rfl ?_
      refine gf_X3_9 C dX3_add_27 ?_
      refine g_iload_n C dX3_add_30 rfl ?_
      refine gX_lv8 C (by omega) (v := σ 8 p0) (show upd (σ 8) (nX τ) (bit1 (nX τ)) p0 = _ by simp [upd, show ¬ p0 = nX τ by omega]) dX3_add_31 ?_
      refine g_ior C dX3_add_32 ?_
      refine gX_sn8 C (by omega) dX3_add_33 ?_
      rw [show up2 (up2 σ 8 (nX τ) ((1 : Int32) <<< (nI (nX τ) &&& 31))) 8 (nX τ) (bit1 (nX τ) ||| σ 8 p0) = up2 σ 8 (nX τ) (bit1 (nX τ) ||| σ 8 p0) from up2_up2]
      exact j34 (bit1 (nX τ) ||| σ 8 p0) (fun i hi => by rw [if_neg (nI_m1 (by omega)), nN, nI_clamp (by omega), b_or, bt_bit1 (by omega) hi])
set_option maxRecDepth 100000 in
set_option maxHeartbeats 4000000 in
theorem ct_X3_forget {l : Launch} {D : va_G} {cI cZ : ClassId} {b : Nat → Nat} {σ : St} : Ct l yX3_forget cX3_forget 1 none 0 0 D cI cZ (pX b cI cZ) [.ref (b 7)] σ (fun r u => r = none ∧ u = up2 (up2 σ 0 1 0) 0 2 0) := by
  refine Ct.of 0 (by decide) (by simp [Value.category]) (Nat.le_of_ble_eq_true rfl) ?_
  intro p e s m below meth c C
  refine g_aload_n C dX3_forget_0 rfl ?_
  refine g_iconst (v := 0) C dX3_forget_1 (by decide) ?_
  refine gp_X3_15 C dX3_forget_2 ?_
  refine g_aload_n C dX3_forget_5 rfl ?_
  refine g_iconst (v := 0) C dX3_forget_6 (by decide) ?_
  refine gp_X3_19 C dX3_forget_7 ?_
  exact g_vret C dX3_forget_10 ⟨rfl, rfl⟩
set_option maxRecDepth 100000 in
set_option maxHeartbeats 4000000 in
theorem ct_X2_forget {l : Launch} {D : va_G} {cI cZ : ClassId} {b : Nat → Nat} {σ : St} : Ct l yX2_forget cX2_forget 2 none 0 0 D cI cZ (pX b cI cZ) [.ref (b 9)] σ (fun r u => r = none ∧ ∃ S, u = up2 (rwR 15 σ S) 0 3 0 ∧ ∀ j, j < 128 → S j = 0) := by
  refine Ct.of 1 (by decide) (by simp [Value.category]) (Nat.le_of_ble_eq_true rfl) ?_
  intro p e s m below meth c C
  have loop : ∀ (n j : Nat) (S : Nat → Int32), j ≤ 128 → 129 ≤ j + n → (∀ i, i < j → S i = 0) → G p l e (rmo 0 0) s m ([.ref (b 9)] : List Value).toArray below meth c D (va_A (pX b cI cZ σ) s.heap.size) 0 0 (Qe below ([.ref (b 9)] : List Value).toArray s D (pX b cI cZ) σ (fun r u => r = none ∧ ∃ S, u = up2 (rwR 15 σ S) 0 3 0 ∧ ∀ j, j < 128 → S j = 0)) 2 (pX b cI cZ (rwR 15 σ S)) 2 [some (.ref (b 9)), some (.int (nI j))] [] := by
    intro n
    induction n with
    | zero => intro j S h1 h2; omega
    | succ n ih =>
      intro j S h1 h2 hS
      refine g_iload_n C dX2_forget_2 rfl ?_
      refine g_aload_n C dX2_forget_3 rfl ?_
      refine gf_X2_27 C dX2_forget_4 ?_
      refine g_alen (v := nI 128) 15 C rfl rfl dX2_forget_7 ?_
      refine g_icmpN_ge (tgt := 24) C (by omega) (by omega) dX2_forget_8 (by decide) (fun h8 => ?_) (fun h8 => ?_)
      · refine g_aload_n C dX2_forget_24 rfl ?_
        refine g_iconst (v := 0) C dX2_forget_25 (by decide) ?_
        refine gp_X2_30 C dX2_forget_26 ?_
        exact g_vret C dX2_forget_29 ⟨rfl, S, rfl, fun i hi => hS i (by omega)⟩
      · refine g_aload_n C dX2_forget_11 rfl ?_
        refine gf_X2_27 C dX2_forget_12 ?_
        refine g_iload_n C dX2_forget_15 rfl ?_
        refine g_iconst (v := 0) C dX2_forget_16 (by decide) ?_
        refine gX_sn15 C (by omega) dX2_forget_17 ?_
        rw [rwR_up]
        refine g_iincN C dX2_forget_18 rfl (by decide) ?_
        refine g_goto (tgt := 2) C dX2_forget_21 (by decide) ?_
        exact ih (j + 1) (upd S j 0) (by omega) (by omega) (fun i hi => by by_cases e : i = j <;> simp [upd, e]; exact hS i (by omega))
  have h0 := loop 129 0 (σ 15) (by omega) (by omega) (fun i hi => by omega)
  rw [rwR_self] at h0
  refine g_iconstN 0 C dX2_forget_0 (by decide) ?_
  refine g_istore_n C dX2_forget_1 (by decide) ?_
  exact h0
set_option maxRecDepth 100000 in
set_option maxHeartbeats 4000000 in
theorem ct_X2_addThrow {l : Launch} {D : va_G} {cI cZ : ClassId} {b : Nat → Nat} {τ σ : St} (hI : Inv τ σ) {x w : Nat} (hx : x < nM τ) (hw : w < nX τ) : Ct l yX2_addThrow cX2_addThrow 4 (some .boolean) 1 21 D cI cZ (pX b cI cZ) [.ref (b 9), .int (nI x), .int (nI w)] σ (fun r u => r = some (.int (b2i (decide (τ 13 x &&& bit1 w = 0)))) ∧ RX (toS τ x w) u) := by
  refine Ct.of 1 (by decide) (by simp [Value.category]) (Nat.le_of_ble_eq_true rfl) ?_
  intro p e s m below meth c C
  have hTl := w0_tl (iW hI)
  have hMl := w0_ml (iW hI)
  have hXl := w0_xl (iW hI)
  refine g_aload_n C dX2_addThrow_0 rfl ?_
  refine gf_X2_24 C dX2_addThrow_1 ?_
  refine g_iload_n C dX2_addThrow_4 rfl ?_
  refine gX_lv14 C (by omega) (v := τ 13 _) (i_th hI (by omega)) dX2_addThrow_5 ?_
  refine g_iload_n C dX2_addThrow_6 rfl ?_
  refine g_callSNr C (cr_X5_hasBit) mw_X5_hasBit mn_X2_44 rfl rfl (Nat.le_of_ble_eq_true rfl) dX2_addThrow_7 ⟨Nat.le_of_ble_eq_true rfl, Nat.le_of_ble_eq_true rfl⟩ ⟨Nat.le_of_ble_eq_true rfl, Nat.le_of_ble_eq_true rfl⟩ ?_
  refine g_ifb_ne (tgt := 17) C dX2_addThrow_10 (by decide) (fun h10 => ?_) (fun h10 => ?_)
  · refine g_iconst (v := 0) C dX2_addThrow_17 (by decide) ?_
    refine g_istore_n C dX2_addThrow_18 (by decide) ?_
    refine g_aload_n C dX2_addThrow_19 rfl ?_
    refine gf_X2_24 C dX2_addThrow_20 ?_
    refine g_iload_n C dX2_addThrow_23 rfl ?_
    refine g_dup2 C dX2_addThrow_24 rfl rfl ?_
    refine gX_lv14 C (by omega) (v := τ 13 _) (i_th hI (by omega)) dX2_addThrow_25 ?_
    refine g_iconst (v := 1) C dX2_addThrow_26 (by decide) ?_
    refine g_iload_n C dX2_addThrow_27 rfl ?_
    refine g_ishl C dX2_addThrow_28 ?_
    refine g_ior C dX2_addThrow_29 ?_
    refine gX_sn14 C (by omega) dX2_addThrow_30 ?_
    refine g_iload_n C dX2_addThrow_31 rfl ?_
    exact g_zret C dX2_addThrow_32 nar_0 ⟨rt_f (by rw [hbV_bt (by omega)] at h10; simp [and_bit1 (show w < 32 by omega), h10]), RX_to hI hx⟩
  · refine g_iconst (v := 1) C dX2_addThrow_13 (by decide) ?_
    refine g_goto (tgt := 18) C dX2_addThrow_14 (by decide) ?_
    refine g_istore_n C dX2_addThrow_18 (by decide) ?_
    refine g_aload_n C dX2_addThrow_19 rfl ?_
    refine gf_X2_24 C dX2_addThrow_20 ?_
    refine g_iload_n C dX2_addThrow_23 rfl ?_
    refine g_dup2 C dX2_addThrow_24 rfl rfl ?_
    refine gX_lv14 C (by omega) (v := τ 13 _) (i_th hI (by omega)) dX2_addThrow_25 ?_
    refine g_iconst (v := 1) C dX2_addThrow_26 (by decide) ?_
    refine g_iload_n C dX2_addThrow_27 rfl ?_
    refine g_ishl C dX2_addThrow_28 ?_
    refine g_ior C dX2_addThrow_29 ?_
    refine gX_sn14 C (by omega) dX2_addThrow_30 ?_
    refine g_iload_n C dX2_addThrow_31 rfl ?_
    exact g_zret C dX2_addThrow_32 nar_1 ⟨rt_t (by rw [hbV_bt (by omega)] at h10; simp [and_bit1 (show w < 32 by omega), h10]), RX_to hI hx⟩
set_option maxRecDepth 100000 in
set_option maxHeartbeats 4000000 in
theorem cr_X4_isInterface0 {l : Launch} {D : va_G} {cI cZ : ClassId} {b : Nat → Nat} {σ : St} {t : Nat} (ht : t < 16) : Cr l yX4_isInterface cX4_isInterface 2 (some .boolean) 0 0 D cI cZ (pX b cI cZ) [.ref (b 1), .int (nI t)] σ (b2i (decide (σ 2 t = 2))) := by
  refine Ct.of 0 (by decide) (by simp [Value.category]) (Nat.le_of_ble_eq_true rfl) ?_
  intro p e s m below meth c C
  refine g_aload_n C dX4_isInterface_0 rfl ?_
  refine gf_X4_9 C dX4_isInterface_1 ?_
  refine g_iload_n C dX4_isInterface_4 rfl ?_
  refine gX_ln2 C (by omega) dX4_isInterface_5 ?_
  refine g_iconst (v := 2) C dX4_isInterface_6 (by decide) ?_
  refine g_icmp_ne (tgt := 14) C dX4_isInterface_7 (by decide) (fun h7 => ?_) (fun h7 => ?_)
  · refine g_iconst (v := 0) C dX4_isInterface_14 (by decide) ?_
    exact g_zret C dX4_isInterface_15 nar_0 ⟨rt_f (by simp [*]), rfl⟩
  · refine g_iconst (v := 1) C dX4_isInterface_10 (by decide) ?_
    refine g_goto (tgt := 15) C dX4_isInterface_11 (by decide) ?_
    exact g_zret C dX4_isInterface_15 nar_1 ⟨rt_t (by simp [*]), rfl⟩
set_option maxRecDepth 100000 in
set_option maxHeartbeats 4000000 in
theorem ct_X2_add {l : Launch} {D : va_G} {cI cZ : ClassId} {b : Nat → Nat} {τ σ : St} (hI : Inv τ σ) {t n r0 : Nat} {mk : Int32} (ht : t < nT τ) (hn8 : n < 8) (hno : anyN (nM τ) (mbHas τ t (nI n)) = false) (hm60 : nM τ < 60) : Ct l yX2_add cX2_add 7 (some .int) 1 21 D cI cZ (pX b cI cZ) [.ref (b 9), .int (nI t), .int (nI n), .int (nI r0), .int mk] σ (fun r u => r = some (.int (nI (nM τ))) ∧ RX (mbS τ t (nI n) (nI r0) mk) u) := by
  refine Ct.of 2 (by decide) (by simp [Value.category]) (Nat.le_of_ble_eq_true rfl) ?_
  intro p e s m below meth c C
  have hTl := w0_tl (iW hI)
  have hMl := w0_ml (iW hI)
  have hXl := w0_xl (iW hI)
  have j75 : ∀ (K : Int32), K = (if (decide (τ 1 t = 2) && decide (mk &&& 4 = 0)) = true then mk ||| 1 else mk) → G p l e (rmo 1 21) s m ([.ref (b 9), .int (nI t), .int (nI n), .int (nI r0), .int mk] : List Value).toArray below meth c D (va_A (pX b cI cZ σ) s.heap.size) 0 0 (Qe below ([.ref (b 9), .int (nI t), .int (nI n), .int (nI r0), .int mk] : List Value).toArray s D (pX b cI cZ) σ (fun r u => r = some (.int (nI (nM τ))) ∧ RX (mbS τ t (nI n) (nI r0) mk) u)) 7 (pX b cI cZ (up2 (up2 (up2 σ 10 (nM τ) (nI t)) 11 (nM τ) (nI n)) 12 (nM τ) (nI r0))) 75 [some (.ref (b 9)), some (.int (nI t)), some (.int (nI n)), some (.int (nI r0)), some (.int (mk)), some (.int (nI (nM τ))), none] [.int K, .int (nI (nM τ)), .ref (b 13)] := by
    intro K hK
    refine gX_sn13 C (by omega) dX2_add_75 ?_
    refine g_aload_n C dX2_add_76 rfl ?_
    refine gf_X2_24 C dX2_add_77 ?_
    refine g_iload C dX2_add_80 rfl ?_
    refine g_iconst (v := 0) C dX2_add_82 (by decide) ?_
    refine gX_sn14 C (by omega) dX2_add_83 ?_
    refine g_aload_n C dX2_add_84 rfl ?_
    refine g_dup C dX2_add_85 rfl ?_
    refine gn_X2_30 C (v := nI (nM τ)) (show σ 0 3 = _ from i_m hI) dX2_add_86 ?_
    refine g_iconstN 1 C dX2_add_89 (by decide) ?_
    refine g_iaddN C dX2_add_90 ?_
    refine gp_X2_30 C dX2_add_91 ?_
    refine g_aload_n C dX2_add_94 rfl ?_
    refine gf_X2_27 C dX2_add_95 ?_
    refine g_iload_n C dX2_add_98 rfl ?_
    refine g_bipushN 8 C dX2_add_99 (by decide) ?_
    refine g_imulN C dX2_add_101 ?_
    refine g_iload_n C dX2_add_102 rfl ?_
    refine g_iaddN C dX2_add_103 ?_
    refine g_aload_n C dX2_add_104 rfl ?_
    refine gn_X2_30 C (v := nI (nM τ + 1)) (rfl) dX2_add_105 ?_
    refine gX_sn15 C (by omega) dX2_add_108 ?_
    refine g_iload C dX2_add_109 rfl ?_
    exact g_iret C dX2_add_111 ⟨rfl, RX_mb hI ht hn8 hno hm60 hK⟩
  have j53 : ∀ (z : Bool), z = (decide (τ 1 t = 2) && decide (mk &&& 4 = 0)) → G p l e (rmo 1 21) s m ([.ref (b 9), .int (nI t), .int (nI n), .int (nI r0), .int mk] : List Value).toArray below meth c D (va_A (pX b cI cZ σ) s.heap.size) 0 0 (Qe below ([.ref (b 9), .int (nI t), .int (nI n), .int (nI r0), .int mk] : List Value).toArray s D (pX b cI cZ) σ (fun r u => r = some (.int (nI (nM τ))) ∧ RX (mbS τ t (nI n) (nI r0) mk) u)) 7 (pX b cI cZ (up2 (up2 (up2 σ 10 (nM τ) (nI t)) 11 (nM τ) (nI n)) 12 (nM τ) (nI r0))) 53 [some (.ref (b 9)), some (.int (nI t)), some (.int (nI n)), some (.int (nI r0)), some (.int (mk)), some (.int (nI (nM τ))), none] [.int (b2i z)] := by
    intro z hz
    refine g_istore C dX2_add_53 (by decide) ?_
    refine g_aload_n C dX2_add_55 rfl ?_
    refine gf_X2_21 C dX2_add_56 ?_
    refine g_iload C dX2_add_59 rfl ?_
    refine g_iload C dX2_add_61 rfl ?_
    refine g_ifb_eq (tgt := 73) C dX2_add_63 (by decide) (fun h63 => ?_) (fun h63 => ?_)
    · refine g_iload C dX2_add_73 rfl ?_
      exact (j75 _ (by rw [← hz, h63]; simp)).weak (by simp [lvle, lst])
    · refine g_iload C dX2_add_66 rfl ?_
      refine g_iconst (v := 1) C dX2_add_68 (by decide) ?_
      refine g_ior C dX2_add_69 ?_
      refine g_goto (tgt := 75) C dX2_add_70 (by decide) ?_
      exact (j75 _ (by rw [← hz, h63]; simp)).weak (by simp [lvle, lst])
  refine g_aload_n C dX2_add_0 rfl ?_
  refine gn_X2_30 C (v := nI (nM τ)) (i_m hI) dX2_add_1 ?_
  refine g_istore C dX2_add_4 (by decide) ?_
  refine g_aload_n C dX2_add_6 rfl ?_
  refine gf_X2_9 C dX2_add_7 ?_
  refine g_iload C dX2_add_10 rfl ?_
  refine g_iload_n C dX2_add_12 rfl ?_
  refine gX_sn10 C (by omega) dX2_add_13 ?_
  refine g_aload_n C dX2_add_14 rfl ?_
  refine gf_X2_15 C dX2_add_15 ?_
  refine g_iload C dX2_add_18 rfl ?_
  refine g_iload_n C dX2_add_20 rfl ?_
  refine gX_sn11 C (by omega) dX2_add_21 ?_
  refine g_aload_n C dX2_add_22 rfl ?_
  refine gf_X2_18 C dX2_add_23 ?_
  refine g_iload C dX2_add_26 rfl ?_
  refine g_iload_n C dX2_add_28 rfl ?_
  refine gX_sn12 C (by omega) dX2_add_29 ?_
  refine g_aload_n C dX2_add_30 rfl ?_
  refine gf_X2_34 C dX2_add_31 ?_
  refine g_iload_n C dX2_add_34 rfl ?_
  refine g_callVr 1 C ((cr_X4_isInterface0 (t := t) (by omega)).val (congrArg b2i (show decide (σ 2 t = 2) = decide (τ 1 t = 2) by rw [i_k hI ht]))) mw_X4_isInterface ml_X2_38 rfl rfl rfl rfl (Nat.le_of_ble_eq_true rfl) dX2_add_35 ⟨Nat.le_of_ble_eq_true rfl, Nat.le_of_ble_eq_true rfl⟩ ⟨Nat.le_of_ble_eq_true rfl, Nat.le_of_ble_eq_true rfl⟩ ?_
  refine g_ifb_eq (tgt := 52) C dX2_add_38 (by decide) (fun h38 => ?_) (fun h38 => ?_)
  · refine g_iconst (v := 0) C dX2_add_52 (by decide) ?_
    exact (j53 false (by simp only [h38, Bool.false_and])).weak (by simp [lvle, lst])
  · refine g_iload C dX2_add_41 rfl ?_
    refine g_iconst (v := 4) C dX2_add_43 (by decide) ?_
    refine g_iand C dX2_add_44 ?_
    refine g_if_ne (tgt := 52) C dX2_add_45 (by decide) (fun h45 => ?_) (fun h45 => ?_)
    · refine g_iconst (v := 0) C dX2_add_52 (by decide) ?_
      exact (j53 false (by simp [h45])).weak (by simp [lvle, lst])
    · refine g_iconst (v := 1) C dX2_add_48 (by decide) ?_
      refine g_goto (tgt := 53) C dX2_add_49 (by decide) ?_
      exact (j53 true (by simp only [h38, h45, Bool.true_and]; rfl)).weak (by simp [lvle, lst])

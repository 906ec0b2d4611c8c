/-! ===== the reference: its faults ===== -/
abbrev Ft : Type := Int32 × Int32 × Int32
/-- the reference's state with other faults noted -/
def lgS (τ : St) (A B C : Nat → Int32) (n : Int32) : St := fun k => bif Nat.beq k 15 then A else bif Nat.beq k 16 then B else bif Nat.beq k 17 then C else bif Nat.beq k 0 then upd (τ 0) 3 n else τ k
theorem lgS_W0 {τ : St} {A B C : Nat → Int32} {n : Int32} (h : W0 τ) : W0 (lgS τ A B C n) := h
theorem lgS_15 {τ : St} {A B C : Nat → Int32} {n : Int32} {j : Nat} {x : Int32} : up2 (lgS τ A B C n) 15 j x = lgS τ (upd A j x) B C n := by
  funext k
  by_cases h : k = 15
  · subst h; rfl
  · have e : Nat.beq k 15 = false := nbeq h
    simp only [up2, lgS, e, cond_false]
theorem lgS_16 {τ : St} {A B C : Nat → Int32} {n : Int32} {j : Nat} {x : Int32} : up2 (lgS τ A B C n) 16 j x = lgS τ A (upd B j x) C n := by
  funext k
  by_cases h : k = 16
  · subst h; rfl
  · have e : Nat.beq k 16 = false := nbeq h
    simp only [up2, lgS, e, cond_false]
theorem lgS_17 {τ : St} {A B C : Nat → Int32} {n : Int32} {j : Nat} {x : Int32} : up2 (lgS τ A B C n) 17 j x = lgS τ A B (upd C j x) n := by
  funext k
  by_cases h : k = 17
  · subst h; rfl
  · have e : Nat.beq k 17 = false := nbeq h
    simp only [up2, lgS, e, cond_false]
theorem upd_upd {f : Nat → Int32} {k : Nat} {x y : Int32} : upd (upd f k x) k y = upd f k y := by
  funext j
  by_cases h : j = k <;> simp [upd, h]
theorem lgS_0 {τ : St} {A B C : Nat → Int32} {n x : Int32} : up2 (lgS τ A B C n) 0 3 x = lgS τ A B C x := by
  funext k
  by_cases h : k = 0
  · subst h
    show upd (upd (τ 0) 3 n) 3 x = upd (τ 0) 3 x
    exact upd_upd
  · have e : Nat.beq k 0 = false := nbeq h
    simp only [up2, lgS, e, cond_false]
theorem lgS_up {τ : St} {x : Int32} : up2 τ 0 3 x = lgS τ (τ 15) (τ 16) (τ 17) x := by
  funext k
  by_cases h : k = 0
  · subst h; rfl
  · have e : Nat.beq k 0 = false := nbeq h
    simp only [up2, lgS, e, cond_false]
    by_cases h5 : k = 15
    · subst h5; rfl
    by_cases h6 : k = 16
    · subst h6; rfl
    by_cases h7 : k = 17
    · subst h7; rfl
    have e5 : Nat.beq k 15 = false := nbeq h5
    have e6 : Nat.beq k 16 = false := nbeq h6
    have e7 : Nat.beq k 17 = false := nbeq h7
    simp only [e5, e6, e7, cond_false]
/-- the state u is τ with the faults L noted -/
def Lg (τ : St) (L : List Ft) (u : St) : Prop := ∃ A B C, u = lgS τ A B C (nI L.length) ∧ ∀ j, j < L.length → L[j]? = some (A j, B j, C j)
theorem Lg_nil {τ : St} : Lg τ [] (up2 τ 0 3 0) := ⟨τ 15, τ 16, τ 17, lgS_up, fun j h => by simp at h⟩
theorem Lg_snoc {τ : St} {L : List Ft} {A B C : Nat → Int32} (h : ∀ j, j < L.length → L[j]? = some (A j, B j, C j)) (x : Ft) : Lg τ (L ++ [x]) (lgS τ (upd A L.length x.1) (upd B L.length x.2.1) (upd C L.length x.2.2) (nI (L.length + 1))) := by
  refine ⟨_, _, _, by rw [List.length_append]; rfl, fun j hj => ?_⟩
  rw [List.length_append, List.length_singleton] at hj
  by_cases e : j = L.length
  · subst e
    simp [upd]
  · rw [List.getElem?_append_left (by omega), h j (by omega)]
    simp [upd, e]
def thrL (τ : St) (m o : Nat) : List Ft := (if Acc τ m < Acc τ o then [(3, nI m, nI o)] else []) ++ ((if Sts τ (Rs τ m) (Rs τ o) = true then [] else [(4, nI m, nI o)]) ++ (if ThB τ m o = true then [(5, nI m, nI o)] else []))
def pairL (τ : St) (m o : Nat) : List Ft := (if Mix τ m o = true then [(1, nI m, nI o)] else []) ++ (if (Ov τ m o || Hid τ m o) = true then (if Hs τ o 16 = true then [(2, nI m, nI o)] else []) ++ thrL τ m o else [])
def innL (τ : St) (m : Nat) : Nat → List Ft
  | 0 => []
  | j + 1 => innL τ m j ++ pairL τ m j
def ownL (τ : St) (t m : Nat) : List Ft := if Of τ m = t then innL τ m (nM τ) ++ ((if (Hs τ m 128 && !anyN (nM τ) (Ov τ m)) = true then [(6, nI m, -1)] else []) ++ (if (Hs τ m 32 && decide (τ 1 t = 0)) = true then [(7, nI m, -1)] else [])) else []
def jdO (τ : St) (t : Nat) : Nat → List Ft
  | 0 => []
  | i + 1 => jdO τ t i ++ ownL τ t i
def chN (τ : St) (t o : Nat) : Nat := (Chs τ t o).toNatClampNeg
def inhL (τ : St) (t o : Nat) : List Ft := if Chs τ t o = -5 then [(8, -1, nI o)] else (if (decide (τ 1 t = 0) && Hs τ (chN τ t o) 32 && !decide (Of τ (chN τ t o) = t)) = true then [(9, nI (chN τ t o), nI o)] else []) ++ (if (Ifc τ o && !Ifc τ (chN τ t o) && Bel τ t (Of τ (chN τ t o)) && !Bel τ (Of τ (chN τ t o)) (Of τ o)) = true then thrL τ (chN τ t o) o else [])
def inhC (τ : St) (t o : Nat) : Bool := Pln τ o && Bel τ t (Of τ o) && (Hs τ o 32 || Hs τ o 64)
def inhO (τ : St) (t : Nat) : Nat → List Ft
  | 0 => []
  | i + 1 => inhO τ t i ++ (if inhC τ t i = true then inhL τ t i else [])
def jdg (τ : St) (t : Nat) : List Ft := jdO τ t (nM τ) ++ (if τ 1 t < 2 then inhO τ t (nM τ) else [])
theorem jdO_le {τ : St} {t : Nat} : ∀ (n i : Nat), i ≤ n → (jdO τ t i).length ≤ (jdO τ t n).length
  | 0, i, h => by rw [Nat.le_zero.mp h]; exact Nat.le_refl _
  | n + 1, i, h => by
    rcases Nat.lt_or_eq_of_le h with q | rfl
    · have := jdO_le (τ := τ) (t := t) n i (by omega)
      simp only [jdO, List.length_append]
      omega
    · exact Nat.le_refl _
theorem inhO_le {τ : St} {t : Nat} : ∀ (n i : Nat), i ≤ n → (inhO τ t i).length ≤ (inhO τ t n).length
  | 0, i, h => by rw [Nat.le_zero.mp h]; exact Nat.le_refl _
  | n + 1, i, h => by
    rcases Nat.lt_or_eq_of_le h with q | rfl
    · have := inhO_le (τ := τ) (t := t) n i (by omega)
      simp only [inhO, List.length_append]
      omega
    · exact Nat.le_refl _
theorem innL_le {τ : St} {m : Nat} : ∀ (n i : Nat), i ≤ n → (innL τ m i).length ≤ (innL τ m n).length
  | 0, i, h => by rw [Nat.le_zero.mp h]; exact Nat.le_refl _
  | n + 1, i, h => by
    rcases Nat.lt_or_eq_of_le h with q | rfl
    · have := innL_le (τ := τ) (m := m) n i (by omega)
      simp only [innL, List.length_append]
      omega
    · exact Nat.le_refl _
set_option maxRecDepth 100000 in
set_option maxHeartbeats 4000000 in
theorem ct_X6_note {l : Launch} {D : va_G} {cI cZ : ClassId} {b : Nat → Nat} {τ u : St} {L : List Ft} (hu : Lg τ L u) (hL : L.length < 2400) {x1 x2 x3 : Int32} : Ct l yX6_note cX6_note 4 none 0 0 D cI cZ (pM b cI cZ) [.ref (b 0), .int x1, .int x2, .int x3] u (fun r v => r = none ∧ Lg τ (L ++ [(x1, x2, x3)]) v) := by
  obtain ⟨A1, B1, C1, rfl, hA⟩ := hu
  refine Ct.of 0 (by decide) (by simp [Value.category]) (Nat.le_of_ble_eq_true rfl) ?_
  intro p e s m below meth c C
  refine g_aload_n C dX6_note_0 rfl ?_
  refine gf_X6_53 C dX6_note_1 ?_
  refine g_aload_n C dX6_note_4 rfl ?_
  refine gn_X6_144 C (v := nI L.length) rfl dX6_note_5 ?_
  refine g_iload_n C dX6_note_8 rfl ?_
  refine gM_sn15 C hL dX6_note_9 ?_
  rw [lgS_15]
  refine g_aload_n C dX6_note_10 rfl ?_
  refine gf_X6_56 C dX6_note_11 ?_
  refine g_aload_n C dX6_note_14 rfl ?_
  refine gn_X6_144 C (v := nI L.length) rfl dX6_note_15 ?_
  refine g_iload_n C dX6_note_18 rfl ?_
  refine gM_sn16 C hL dX6_note_19 ?_
  rw [lgS_16]
  refine g_aload_n C dX6_note_20 rfl ?_
  refine gf_X6_59 C dX6_note_21 ?_
  refine g_aload_n C dX6_note_24 rfl ?_
  refine gn_X6_144 C (v := nI L.length) rfl dX6_note_25 ?_
  refine g_iload_n C dX6_note_28 rfl ?_
  refine gM_sn17 C hL dX6_note_29 ?_
  rw [lgS_17]
  refine g_aload_n C dX6_note_30 rfl ?_
  refine g_dup C dX6_note_31 rfl ?_
  refine gn_X6_144 C (v := nI L.length) rfl dX6_note_32 ?_
  refine g_iconstN 1 C dX6_note_35 (by decide) ?_
  refine g_iaddN C dX6_note_36 ?_
  refine gp_X6_144 C dX6_note_37 ?_
  rw [lgS_0]
  exact g_vret C dX6_note_40 ⟨rfl, Lg_snoc hA (x1, x2, x3)⟩
set_option maxRecDepth 100000 in
set_option maxHeartbeats 4000000 in
theorem ct_X6_three {l : Launch} {D : va_G} {cI cZ : ClassId} {b : Nat → Nat} {τ u : St} (hW : W0 τ) {L : List Ft} (hu : Lg τ L u) {x o : Nat} (hx : x < nM τ) (ho : o < nM τ) (hL : (L ++ thrL τ x o).length ≤ 2400) : Ct l yX6_three cX6_three 3 none 3 66 D cI cZ (pM b cI cZ) [.ref (b 0), .int (nI x), .int (nI o)] u (fun r v => r = none ∧ Lg τ (L ++ thrL τ x o) v) := by
  refine Ct.of 0 (by decide) (by simp [Value.category]) (Nat.le_of_ble_eq_true rfl) ?_
  intro p e s m below meth c C
  have hTl := w0_tl hW
  have hMl := w0_ml hW
  have hrx := w0_rsl hW hx
  have hro := w0_rsl hW ho
  have j46 : ∀ (L2 : List Ft) (w : St), Lg τ L2 w → L2 ++ (if ThB τ x o = true then [(5, nI x, nI o)] else []) = L ++ thrL τ x o → G p l e (rmo 3 66) s m ([.ref (b 0), .int (nI x), .int (nI o)] : List Value).toArray below meth c D (va_A (pM b cI cZ u) s.heap.size) 0 0 (Qe below ([.ref (b 0), .int (nI x), .int (nI o)] : List Value).toArray s D (pM b cI cZ) u (fun r v => r = none ∧ Lg τ (L ++ thrL τ x o) v)) 3 (pM b cI cZ w) 46 [some (.ref (b 0)), some (.int (nI x)), some (.int (nI o))] [] := by
    intro L2 w hw he
    have hl := congrArg List.length he
    obtain ⟨A1, B1, C1, rfl, hA⟩ := id hw
    have hW1 : W0 (lgS τ A1 B1 C1 (nI L2.length)) := hW
    refine g_aload_n C dX6_three_46 rfl ?_
    refine g_iload_n C dX6_three_47 rfl ?_
    refine g_iload_n C dX6_three_48 rfl ?_
    refine g_callVr 0 C (cr_X6_throwsMore hW1 hx ho) mw_X6_throwsMore ml_X6_154 rfl rfl rfl rfl (Nat.le_of_ble_eq_true rfl) dX6_three_49 ⟨Nat.le_of_ble_eq_true rfl, Nat.le_of_ble_eq_true rfl⟩ ⟨Nat.le_of_ble_eq_true rfl, Nat.le_of_ble_eq_true rfl⟩ ?_
    refine g_ifb_eq (tgt := 62) C dX6_three_52 (by decide) (fun h52 => ?_) (fun h52 => ?_)
    · first | exact g_vret C dX6_three_62 ⟨rfl, by have hT : ThB τ x o = true := h52; simp [hT] at he; rw [← he]; exact hv⟩ | exact g_vret C dX6_three_62 ⟨rfl, by have hT : ThB τ x o = false := h52; simp [hT] at he; rw [← he]; exact hw⟩
    · refine g_aload_n C dX6_three_55 rfl ?_
      refine g_iconst (v := 5) C dX6_three_56 (by decide) ?_
      refine g_iload_n C dX6_three_57 rfl ?_
      refine g_iload_n C dX6_three_58 rfl ?_
      refine g_callV 0 C (ct_X6_note hw (by have hT : ThB τ x o = true := h52; simp [hT] at hl; simp at hL; omega)) mw_X6_note ml_X6_147 rfl rfl rfl rfl (Nat.le_of_ble_eq_true rfl) dX6_three_59 ⟨Nat.le_of_ble_eq_true rfl, Nat.le_of_ble_eq_true rfl⟩ ⟨Nat.le_of_ble_eq_true rfl, Nat.le_of_ble_eq_true rfl⟩ ?_
      intro r v hv
      obtain ⟨rfl, hv⟩ := hv
      first | exact g_vret C dX6_three_62 ⟨rfl, by have hT : ThB τ x o = true := h52; simp [hT] at he; rw [← he]; exact hv⟩ | exact g_vret C dX6_three_62 ⟨rfl, by have hT : ThB τ x o = false := h52; simp [hT] at he; rw [← he]; exact hw⟩
  have j20 : ∀ (L2 : List Ft) (w : St), Lg τ L2 w → L2 ++ ((if Sts τ (Rs τ x) (Rs τ o) = true then [] else [(4, nI x, nI o)]) ++ (if ThB τ x o = true then [(5, nI x, nI o)] else [])) = L ++ thrL τ x o → G p l e (rmo 3 66) s m ([.ref (b 0), .int (nI x), .int (nI o)] : List Value).toArray below meth c D (va_A (pM b cI cZ u) s.heap.size) 0 0 (Qe below ([.ref (b 0), .int (nI x), .int (nI o)] : List Value).toArray s D (pM b cI cZ) u (fun r v => r = none ∧ Lg τ (L ++ thrL τ x o) v)) 3 (pM b cI cZ w) 20 [some (.ref (b 0)), some (.int (nI x)), some (.int (nI o))] [] := by
    intro L2 w hw he
    have hl := congrArg List.length he
    obtain ⟨A1, B1, C1, rfl, hA⟩ := id hw
    have hW1 : W0 (lgS τ A1 B1 C1 (nI L2.length)) := hW
    refine g_aload_n C dX6_three_20 rfl ?_
    refine g_aload_n C dX6_three_21 rfl ?_
    refine gf_X6_41 C dX6_three_22 ?_
    refine g_iload_n C dX6_three_25 rfl ?_
    refine gM_lv11 C (by omega) (w0_rs hW1 (by assumption)) dX6_three_26 ?_
    refine g_aload_n C dX6_three_27 rfl ?_
    refine gf_X6_41 C dX6_three_28 ?_
    refine g_iload_n C dX6_three_31 rfl ?_
    refine gM_lv11 C (by omega) (w0_rs hW1 (by assumption)) dX6_three_32 ?_
    refine g_callVr 0 C (cr_X6_suits hW1 (a := Rs τ x) (z := Rs τ o) hrx hro) mw_X6_suits ml_X6_151 rfl rfl rfl rfl (Nat.le_of_ble_eq_true rfl) dX6_three_33 ⟨Nat.le_of_ble_eq_true rfl, Nat.le_of_ble_eq_true rfl⟩ ⟨Nat.le_of_ble_eq_true rfl, Nat.le_of_ble_eq_true rfl⟩ ?_
    refine g_ifb_ne (tgt := 46) C dX6_three_36 (by decide) (fun h36 => ?_) (fun h36 => ?_)
    · first | exact j46 _ _ hv (by have hT : Sts τ (Rs τ x) (Rs τ o) = false := h36; simp [hT] at he ⊢; exact he) | exact j46 _ _ hw (by have hT : Sts τ (Rs τ x) (Rs τ o) = true := h36; simp [hT] at he ⊢; exact he)
    · refine g_aload_n C dX6_three_39 rfl ?_
      refine g_iconst (v := 4) C dX6_three_40 (by decide) ?_
      refine g_iload_n C dX6_three_41 rfl ?_
      refine g_iload_n C dX6_three_42 rfl ?_
      refine g_callV 0 C (ct_X6_note hw (by have hT : Sts τ (Rs τ x) (Rs τ o) = false := h36; simp [hT] at hl; simp at hL; omega)) mw_X6_note ml_X6_147 rfl rfl rfl rfl (Nat.le_of_ble_eq_true rfl) dX6_three_43 ⟨Nat.le_of_ble_eq_true rfl, Nat.le_of_ble_eq_true rfl⟩ ⟨Nat.le_of_ble_eq_true rfl, Nat.le_of_ble_eq_true rfl⟩ ?_
      intro r v hv
      obtain ⟨rfl, hv⟩ := hv
      first | exact j46 _ _ hv (by have hT : Sts τ (Rs τ x) (Rs τ o) = false := h36; simp [hT] at he ⊢; exact he) | exact j46 _ _ hw (by have hT : Sts τ (Rs τ x) (Rs τ o) = true := h36; simp [hT] at he ⊢; exact he)
  have hl := congrArg List.length (rfl : L ++ thrL τ x o = L ++ thrL τ x o)
  obtain ⟨A1, B1, C1, rfl, hA⟩ := id hu
  have hW1 : W0 (lgS τ A1 B1 C1 (nI L.length)) := hW
  refine g_aload_n C dX6_three_0 rfl ?_
  refine g_iload_n C dX6_three_1 rfl ?_
  refine g_callVr 0 C (cr_X6_access hW1 (by assumption)) mw_X6_access ml_X6_113 rfl rfl rfl rfl (Nat.le_of_ble_eq_true rfl) dX6_three_2 ⟨Nat.le_of_ble_eq_true rfl, Nat.le_of_ble_eq_true rfl⟩ ⟨Nat.le_of_ble_eq_true rfl, Nat.le_of_ble_eq_true rfl⟩ ?_
  refine g_aload_n C dX6_three_5 rfl ?_
  refine g_iload_n C dX6_three_6 rfl ?_
  refine g_callVr 0 C (cr_X6_access hW1 (by assumption)) mw_X6_access ml_X6_113 rfl rfl rfl rfl (Nat.le_of_ble_eq_true rfl) dX6_three_7 ⟨Nat.le_of_ble_eq_true rfl, Nat.le_of_ble_eq_true rfl⟩ ⟨Nat.le_of_ble_eq_true rfl, Nat.le_of_ble_eq_true rfl⟩ ?_
  refine g_icmp_ge (tgt := 20) C dX6_three_10 (by decide) (fun h10 => ?_) (fun h10 => ?_)
  · first | exact j20 _ _ hv (by have hT : Acc τ x < Acc τ o := Int32.not_le.mp h10; simp [thrL, hT]) | exact j20 _ _ hu (by have hT : ¬ Acc τ x < Acc τ o := Int32.not_lt.mpr h10; simp [thrL, hT])
  · refine g_aload_n C dX6_three_13 rfl ?_
    refine g_iconst (v := 3) C dX6_three_14 (by decide) ?_
    refine g_iload_n C dX6_three_15 rfl ?_
    refine g_iload_n C dX6_three_16 rfl ?_
    refine g_callV 0 C (ct_X6_note hu (by have hT : Acc τ x < Acc τ o := Int32.not_le.mp h10; simp [thrL, hT] at hL; omega)) mw_X6_note ml_X6_147 rfl rfl rfl rfl (Nat.le_of_ble_eq_true rfl) dX6_three_17 ⟨Nat.le_of_ble_eq_true rfl, Nat.le_of_ble_eq_true rfl⟩ ⟨Nat.le_of_ble_eq_true rfl, Nat.le_of_ble_eq_true rfl⟩ ?_
    intro r v hv
    obtain ⟨rfl, hv⟩ := hv
    first | exact j20 _ _ hv (by have hT : Acc τ x < Acc τ o := Int32.not_le.mp h10; simp [thrL, hT]) | exact j20 _ _ hu (by have hT : ¬ Acc τ x < Acc τ o := Int32.not_lt.mpr h10; simp [thrL, hT])

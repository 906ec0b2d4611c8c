/-! ===== the reference: inherited, judge ===== -/
theorem Cr.val {l : Launch} {y : MethodName} {yc : ByteArray} {n : Nat} {ret : Option FieldType} {f k : Nat} {D : va_G} {cI cZ : ClassId} {pic : St → va_W} {av : List Value} {σ : St} {v w : Int32} (h : Cr l y yc n ret f k D cI cZ pic av σ v) (e : v = w) : Cr l y yc n ret f k D cI cZ pic av σ w := e ▸ h
theorem nI_m5 {t : Nat} (h : t < 2 ^ 31) : ¬ nI t = -5 := by
  intro q
  have := nI_pos (n := t) h
  rw [q] at this
  exact this (by decide)
/-- someone is chosen, or there is a fight -/
def ChOk (τ : St) (t o : Nat) : Prop := Chs τ t o = -5 ∨ ∃ n, n < nM τ ∧ Chs τ t o = nI n
set_option maxRecDepth 100000 in
set_option maxHeartbeats 4000000 in
theorem ct_X6_inherited {l : Launch} {D : va_G} {cI cZ : ClassId} {b : Nat → Nat} {τ u : St} (hW : W0 τ) {L : List Ft} (hu : Lg τ L u) {t o : Nat} (ht : t < nT τ) (ho : o < nM τ) (hC : ChOk τ t o) (hL : (L ++ inhL τ t o).length ≤ 2400) : Ct l yX6_inherited cX6_inherited 4 none 5 113 D cI cZ (pM b cI cZ) [.ref (b 0), .int (nI t), .int (nI o)] u (fun r v => r = none ∧ Lg τ (L ++ inhL τ t o) v) := by
  refine Ct.of 1 (by decide) (by simp [Value.category]) (Nat.le_of_ble_eq_true rfl) ?_
  intro p e s m below meth c C
  have hTl := w0_tl hW
  have hMl := w0_ml hW
  have hof_o := w0_ofl hW ho
  rcases hC with hC | ⟨n, hn, hC⟩
  · obtain ⟨A1, B1, C1, rfl, hA⟩ := id hu
    have hW1 : W0 (lgS τ A1 B1 C1 (nI L.length)) := hW
    have eE : inhL τ t o = [(8, -1, nI o)] := by simp [inhL, hC]
    rw [eE] at hL
    refine g_aload_n C dX6_inherited_0 rfl ?_
    refine g_iload_n C dX6_inherited_1 rfl ?_
    refine g_iload_n C dX6_inherited_2 rfl ?_
    refine g_callVr 0 C ((cr_X6_choose hW1 ht ho).val hC) mw_X6_choose ml_X6_141 rfl rfl rfl rfl (Nat.le_of_ble_eq_true rfl) dX6_inherited_3 ⟨Nat.le_of_ble_eq_true rfl, Nat.le_of_ble_eq_true rfl⟩ ⟨Nat.le_of_ble_eq_true rfl, Nat.le_of_ble_eq_true rfl⟩ ?_
    refine g_istore_n C dX6_inherited_6 (by decide) ?_
    refine g_iload_n C dX6_inherited_7 rfl ?_
    refine g_bipush (v := -5) C dX6_inherited_8 (by decide) ?_
    refine g_icmp_ne (tgt := 22) C dX6_inherited_10 (by decide) (fun h10 => ?_) (fun h10 => ?_)
    · exact absurd rfl h10
    · refine g_aload_n C dX6_inherited_13 rfl ?_
      refine g_bipush (v := 8) C dX6_inherited_14 (by decide) ?_
      refine g_iconst (v := -1) C dX6_inherited_16 (by decide) ?_
      refine g_iload_n C dX6_inherited_17 rfl ?_
      refine g_callV 0 C (ct_X6_note hu (by simp at hL; omega)) mw_X6_note ml_X6_147 rfl rfl rfl rfl (Nat.le_of_ble_eq_true rfl) dX6_inherited_18 ⟨Nat.le_of_ble_eq_true rfl, Nat.le_of_ble_eq_true rfl⟩ ⟨Nat.le_of_ble_eq_true rfl, Nat.le_of_ble_eq_true rfl⟩ ?_
      intro r v hv
      obtain ⟨rfl, hv⟩ := hv
      exact g_vret C dX6_inherited_21 ⟨rfl, by rw [eE]; exact hv⟩
  have hof_n := w0_ofl hW hn
  have ec : chN τ t o = n := by rw [chN, hC]; exact nI_clamp (by omega)
  have h5 : ¬ Chs τ t o = -5 := by rw [hC]; exact nI_m5 (by omega)
  have eE : inhL τ t o = (if (decide (τ 1 t = 0) && Hs τ n 32 && !decide (Of τ n = t)) = true then [(9, nI n, nI o)] else []) ++ (if (Ifc τ o && !Ifc τ n && Bel τ t (Of τ n) && !Bel τ (Of τ n) (Of τ o)) = true then thrL τ n o else []) := by simp only [inhL, ec, if_neg h5]
  have j59 : ∀ (L2 : List Ft) (w : St), Lg τ L2 w → L2 ++ (if (Ifc τ o && !Ifc τ n && Bel τ t (Of τ n) && !Bel τ (Of τ n) (Of τ o)) = true then thrL τ n o else []) = L ++ inhL τ t o → G p l e (rmo 5 113) s m ([.ref (b 0), .int (nI t), .int (nI o)] : List Value).toArray below meth c D (va_A (pM b cI cZ u) s.heap.size) 0 0 (Qe below ([.ref (b 0), .int (nI t), .int (nI o)] : List Value).toArray s D (pM b cI cZ) u (fun r v => r = none ∧ Lg τ (L ++ inhL τ t o) v)) 4 (pM b cI cZ w) 59 [some (.ref (b 0)), some (.int (nI t)), some (.int (nI o)), some (.int (nI n))] [] := by
    intro L2 w hw he
    have hl := congrArg List.length he
    obtain ⟨A1, B1, C1, rfl, hA⟩ := id hw
    have hW1 : W0 (lgS τ A1 B1 C1 (nI L2.length)) := hW
    refine g_aload_n C dX6_inherited_59 rfl ?_
    refine g_iload_n C dX6_inherited_60 rfl ?_
    refine g_callVr 0 C (cr_X6_isInterface hW1 (show _ < nM τ by omega)) mw_X6_isInterface ml_X6_110 rfl rfl rfl rfl (Nat.le_of_ble_eq_true rfl) dX6_inherited_61 ⟨Nat.le_of_ble_eq_true rfl, Nat.le_of_ble_eq_true rfl⟩ ⟨Nat.le_of_ble_eq_true rfl, Nat.le_of_ble_eq_true rfl⟩ ?_
    refine g_ifb_eq (tgt := 114) C dX6_inherited_64 (by decide) (fun h64 => ?_) (fun h64 => ?_)
    · first | exact g_vret C dX6_inherited_114 ⟨rfl, by have hK : (Ifc τ o && !Ifc τ n && Bel τ t (Of τ n) && !Bel τ (Of τ n) (Of τ o)) = true := (by simp [show Ifc τ o = true from h64, show Ifc τ n = false from h72, show Bel τ t (Of τ n) = true from h86, show Bel τ (Of τ n) (Of τ o) = false from h105]); simp only [hK, Bool.false_eq_true, ↓reduceIte, List.append_nil, List.nil_append, List.append_assoc] at he; rw [← he]; exact hv⟩ | exact g_vret C dX6_inherited_114 ⟨rfl, by have hK : (Ifc τ o && !Ifc τ n && Bel τ t (Of τ n) && !Bel τ (Of τ n) (Of τ o)) = false := (by first | simp [show Ifc τ o = false from h64] | simp [show Ifc τ n = true from h72] | simp [show Bel τ t (Of τ n) = false from h86] | simp [show Bel τ (Of τ n) (Of τ o) = true from h105]); simp only [hK, Bool.false_eq_true, ↓reduceIte, List.append_nil, List.nil_append, List.append_assoc] at he; rw [← he]; exact hw⟩
    · refine g_aload_n C dX6_inherited_67 rfl ?_
      refine g_iload_n C dX6_inherited_68 rfl ?_
      refine g_callVr 0 C (cr_X6_isInterface hW1 (show _ < nM τ by omega)) mw_X6_isInterface ml_X6_110 rfl rfl rfl rfl (Nat.le_of_ble_eq_true rfl) dX6_inherited_69 ⟨Nat.le_of_ble_eq_true rfl, Nat.le_of_ble_eq_true rfl⟩ ⟨Nat.le_of_ble_eq_true rfl, Nat.le_of_ble_eq_true rfl⟩ ?_
      refine g_ifb_ne (tgt := 114) C dX6_inherited_72 (by decide) (fun h72 => ?_) (fun h72 => ?_)
      · first | exact g_vret C dX6_inherited_114 ⟨rfl, by have hK : (Ifc τ o && !Ifc τ n && Bel τ t (Of τ n) && !Bel τ (Of τ n) (Of τ o)) = true := (by simp [show Ifc τ o = true from h64, show Ifc τ n = false from h72, show Bel τ t (Of τ n) = true from h86, show Bel τ (Of τ n) (Of τ o) = false from h105]); simp only [hK, Bool.false_eq_true, ↓reduceIte, List.append_nil, List.nil_append, List.append_assoc] at he; rw [← he]; exact hv⟩ | exact g_vret C dX6_inherited_114 ⟨rfl, by have hK : (Ifc τ o && !Ifc τ n && Bel τ t (Of τ n) && !Bel τ (Of τ n) (Of τ o)) = false := (by first | simp [show Ifc τ o = false from h64] | simp [show Ifc τ n = true from h72] | simp [show Bel τ t (Of τ n) = false from h86] | simp [show Bel τ (Of τ n) (Of τ o) = true from h105]); simp only [hK, Bool.false_eq_true, ↓reduceIte, List.append_nil, List.nil_append, List.append_assoc] at he; rw [← he]; exact hw⟩
      · refine g_aload_n C dX6_inherited_75 rfl ?_
        refine g_iload_n C dX6_inherited_76 rfl ?_
        refine g_aload_n C dX6_inherited_77 rfl ?_
        refine gf_X6_35 C dX6_inherited_78 ?_
        refine g_iload_n C dX6_inherited_81 rfl ?_
        refine gM_lv9 C (by omega) (v := nI (Of τ _)) (w0_of hW (by omega)) dX6_inherited_82 ?_
        refine g_callVr 0 C (cr_X6_isBelow hW1 (by omega) (by omega)) mw_X6_isBelow ml_X6_90 rfl rfl rfl rfl (Nat.le_of_ble_eq_true rfl) dX6_inherited_83 ⟨Nat.le_of_ble_eq_true rfl, Nat.le_of_ble_eq_true rfl⟩ ⟨Nat.le_of_ble_eq_true rfl, Nat.le_of_ble_eq_true rfl⟩ ?_
        refine g_ifb_eq (tgt := 114) C dX6_inherited_86 (by decide) (fun h86 => ?_) (fun h86 => ?_)
        · first | exact g_vret C dX6_inherited_114 ⟨rfl, by have hK : (Ifc τ o && !Ifc τ n && Bel τ t (Of τ n) && !Bel τ (Of τ n) (Of τ o)) = true := (by simp [show Ifc τ o = true from h64, show Ifc τ n = false from h72, show Bel τ t (Of τ n) = true from h86, show Bel τ (Of τ n) (Of τ o) = false from h105]); simp only [hK, Bool.false_eq_true, ↓reduceIte, List.append_nil, List.nil_append, List.append_assoc] at he; rw [← he]; exact hv⟩ | exact g_vret C dX6_inherited_114 ⟨rfl, by have hK : (Ifc τ o && !Ifc τ n && Bel τ t (Of τ n) && !Bel τ (Of τ n) (Of τ o)) = false := (by first | simp [show Ifc τ o = false from h64] | simp [show Ifc τ n = true from h72] | simp [show Bel τ t (Of τ n) = false from h86] | simp [show Bel τ (Of τ n) (Of τ o) = true from h105]); simp only [hK, Bool.false_eq_true, ↓reduceIte, List.append_nil, List.nil_append, List.append_assoc] at he; rw [← he]; exact hw⟩
        · refine g_aload_n C dX6_inherited_89 rfl ?_
          refine g_aload_n C dX6_inherited_90 rfl ?_
          refine gf_X6_35 C dX6_inherited_91 ?_
          refine g_iload_n C dX6_inherited_94 rfl ?_
          refine gM_lv9 C (by omega) (v := nI (Of τ _)) (w0_of hW (by omega)) dX6_inherited_95 ?_
          refine g_aload_n C dX6_inherited_96 rfl ?_
          refine gf_X6_35 C dX6_inherited_97 ?_
          refine g_iload_n C dX6_inherited_100 rfl ?_
          refine gM_lv9 C (by omega) (v := nI (Of τ _)) (w0_of hW (by omega)) dX6_inherited_101 ?_
          refine g_callVr 0 C (cr_X6_isBelow hW1 (by omega) (by omega)) mw_X6_isBelow ml_X6_90 rfl rfl rfl rfl (Nat.le_of_ble_eq_true rfl) dX6_inherited_102 ⟨Nat.le_of_ble_eq_true rfl, Nat.le_of_ble_eq_true rfl⟩ ⟨Nat.le_of_ble_eq_true rfl, Nat.le_of_ble_eq_true rfl⟩ ?_
          refine g_ifb_ne (tgt := 114) C dX6_inherited_105 (by decide) (fun h105 => ?_) (fun h105 => ?_)
          · first | exact g_vret C dX6_inherited_114 ⟨rfl, by have hK : (Ifc τ o && !Ifc τ n && Bel τ t (Of τ n) && !Bel τ (Of τ n) (Of τ o)) = true := (by simp [show Ifc τ o = true from h64, show Ifc τ n = false from h72, show Bel τ t (Of τ n) = true from h86, show Bel τ (Of τ n) (Of τ o) = false from h105]); simp only [hK, Bool.false_eq_true, ↓reduceIte, List.append_nil, List.nil_append, List.append_assoc] at he; rw [← he]; exact hv⟩ | exact g_vret C dX6_inherited_114 ⟨rfl, by have hK : (Ifc τ o && !Ifc τ n && Bel τ t (Of τ n) && !Bel τ (Of τ n) (Of τ o)) = false := (by first | simp [show Ifc τ o = false from h64] | simp [show Ifc τ n = true from h72] | simp [show Bel τ t (Of τ n) = false from h86] | simp [show Bel τ (Of τ n) (Of τ o) = true from h105]); simp only [hK, Bool.false_eq_true, ↓reduceIte, List.append_nil, List.nil_append, List.append_assoc] at he; rw [← he]; exact hw⟩
          · refine g_aload_n C dX6_inherited_108 rfl ?_
            refine g_iload_n C dX6_inherited_109 rfl ?_
            refine g_iload_n C dX6_inherited_110 rfl ?_
            refine g_callV 0 C (ct_X6_three hW hw hn ho (by have hK : (Ifc τ o && !Ifc τ n && Bel τ t (Of τ n) && !Bel τ (Of τ n) (Of τ o)) = true := (by simp [show Ifc τ o = true from h64, show Ifc τ n = false from h72, show Bel τ t (Of τ n) = true from h86, show Bel τ (Of τ n) (Of τ o) = false from h105]); simp only [hK, Bool.false_eq_true, ↓reduceIte, List.length_append, List.length_cons, List.length_nil] at hl hL ⊢; omega)) mw_X6_three ml_X6_160 rfl rfl rfl rfl (Nat.le_of_ble_eq_true rfl) dX6_inherited_111 ⟨Nat.le_of_ble_eq_true rfl, Nat.le_of_ble_eq_true rfl⟩ ⟨Nat.le_of_ble_eq_true rfl, Nat.le_of_ble_eq_true rfl⟩ ?_
            intro r v hv
            obtain ⟨rfl, hv⟩ := hv
            first | exact g_vret C dX6_inherited_114 ⟨rfl, by have hK : (Ifc τ o && !Ifc τ n && Bel τ t (Of τ n) && !Bel τ (Of τ n) (Of τ o)) = true := (by simp [show Ifc τ o = true from h64, show Ifc τ n = false from h72, show Bel τ t (Of τ n) = true from h86, show Bel τ (Of τ n) (Of τ o) = false from h105]); simp only [hK, Bool.false_eq_true, ↓reduceIte, List.append_nil, List.nil_append, List.append_assoc] at he; rw [← he]; exact hv⟩ | exact g_vret C dX6_inherited_114 ⟨rfl, by have hK : (Ifc τ o && !Ifc τ n && Bel τ t (Of τ n) && !Bel τ (Of τ n) (Of τ o)) = false := (by first | simp [show Ifc τ o = false from h64] | simp [show Ifc τ n = true from h72] | simp [show Bel τ t (Of τ n) = false from h86] | simp [show Bel τ (Of τ n) (Of τ o) = true from h105]); simp only [hK, Bool.false_eq_true, ↓reduceIte, List.append_nil, List.nil_append, List.append_assoc] at he; rw [← he]; exact hw⟩
  obtain ⟨A1, B1, C1, rfl, hA⟩ := id hu
  have hW1 : W0 (lgS τ A1 B1 C1 (nI L.length)) := hW
  refine g_aload_n C dX6_inherited_0 rfl ?_
  refine g_iload_n C dX6_inherited_1 rfl ?_
  refine g_iload_n C dX6_inherited_2 rfl ?_
  refine g_callVr 0 C ((cr_X6_choose hW1 ht ho).val hC) mw_X6_choose ml_X6_141 rfl rfl rfl rfl (Nat.le_of_ble_eq_true rfl) dX6_inherited_3 ⟨Nat.le_of_ble_eq_true rfl, Nat.le_of_ble_eq_true rfl⟩ ⟨Nat.le_of_ble_eq_true rfl, Nat.le_of_ble_eq_true rfl⟩ ?_
  refine g_istore_n C dX6_inherited_6 (by decide) ?_
  refine g_iload_n C dX6_inherited_7 rfl ?_
  refine g_bipush (v := -5) C dX6_inherited_8 (by decide) ?_
  refine g_icmp_ne (tgt := 22) C dX6_inherited_10 (by decide) (fun h10 => ?_) (fun h10 => ?_)
  · refine g_aload_n C dX6_inherited_22 rfl ?_
    refine gf_X6_7 C dX6_inherited_23 ?_
    refine g_iload_n C dX6_inherited_26 rfl ?_
    refine gM_ln1 C (by omega) dX6_inherited_27 ?_
    refine g_if_ne (tgt := 59) C dX6_inherited_28 (by decide) (fun h28 => ?_) (fun h28 => ?_)
    · first | exact j59 _ _ hv (by have hK : (decide (τ 1 t = 0) && Hs τ n 32 && !decide (Of τ n = t)) = true := (by simp [show τ 1 t = 0 from h28, show Hs τ n 32 = true from h38, h48]); rw [eE]; simp only [hK, Bool.false_eq_true, ↓reduceIte, List.append_nil, List.nil_append, List.append_assoc]) | exact j59 _ _ hu (by have hK : (decide (τ 1 t = 0) && Hs τ n 32 && !decide (Of τ n = t)) = false := (by first | simp [show ¬ τ 1 t = 0 from h28] | simp [show Hs τ n 32 = false from h38] | simp [h48]); rw [eE]; simp only [hK, Bool.false_eq_true, ↓reduceIte, List.append_nil, List.nil_append, List.append_assoc])
    · refine g_aload_n C dX6_inherited_31 rfl ?_
      refine g_iload_n C dX6_inherited_32 rfl ?_
      refine g_bipush (v := 32) C dX6_inherited_33 (by decide) ?_
      refine g_callVr 0 C (cr_X6_has (by omega)) mw_X6_has ml_X6_100 rfl rfl rfl rfl (Nat.le_of_ble_eq_true rfl) dX6_inherited_35 ⟨Nat.le_of_ble_eq_true rfl, Nat.le_of_ble_eq_true rfl⟩ ⟨Nat.le_of_ble_eq_true rfl, Nat.le_of_ble_eq_true rfl⟩ ?_
      refine g_ifb_eq (tgt := 59) C dX6_inherited_38 (by decide) (fun h38 => ?_) (fun h38 => ?_)
      · first | exact j59 _ _ hv (by have hK : (decide (τ 1 t = 0) && Hs τ n 32 && !decide (Of τ n = t)) = true := (by simp [show τ 1 t = 0 from h28, show Hs τ n 32 = true from h38, h48]); rw [eE]; simp only [hK, Bool.false_eq_true, ↓reduceIte, List.append_nil, List.nil_append, List.append_assoc]) | exact j59 _ _ hu (by have hK : (decide (τ 1 t = 0) && Hs τ n 32 && !decide (Of τ n = t)) = false := (by first | simp [show ¬ τ 1 t = 0 from h28] | simp [show Hs τ n 32 = false from h38] | simp [h48]); rw [eE]; simp only [hK, Bool.false_eq_true, ↓reduceIte, List.append_nil, List.nil_append, List.append_assoc])
      · refine g_aload_n C dX6_inherited_41 rfl ?_
        refine gf_X6_35 C dX6_inherited_42 ?_
        refine g_iload_n C dX6_inherited_45 rfl ?_
        refine gM_lv9 C (by omega) (v := nI (Of τ _)) (w0_of hW (by omega)) dX6_inherited_46 ?_
        refine g_iload_n C dX6_inherited_47 rfl ?_
        refine g_icmpN_eq (tgt := 59) C (by omega) (by omega) dX6_inherited_48 (by decide) (fun h48 => ?_) (fun h48 => ?_)
        · first | exact j59 _ _ hv (by have hK : (decide (τ 1 t = 0) && Hs τ n 32 && !decide (Of τ n = t)) = true := (by simp [show τ 1 t = 0 from h28, show Hs τ n 32 = true from h38, h48]); rw [eE]; simp only [hK, Bool.false_eq_true, ↓reduceIte, List.append_nil, List.nil_append, List.append_assoc]) | exact j59 _ _ hu (by have hK : (decide (τ 1 t = 0) && Hs τ n 32 && !decide (Of τ n = t)) = false := (by first | simp [show ¬ τ 1 t = 0 from h28] | simp [show Hs τ n 32 = false from h38] | simp [h48]); rw [eE]; simp only [hK, Bool.false_eq_true, ↓reduceIte, List.append_nil, List.nil_append, List.append_assoc])
        · refine g_aload_n C dX6_inherited_51 rfl ?_
          refine g_bipush (v := 9) C dX6_inherited_52 (by decide) ?_
          refine g_iload_n C dX6_inherited_54 rfl ?_
          refine g_iload_n C dX6_inherited_55 rfl ?_
          refine g_callV 0 C (ct_X6_note hu (by have hK : (decide (τ 1 t = 0) && Hs τ n 32 && !decide (Of τ n = t)) = true := (by simp [show τ 1 t = 0 from h28, show Hs τ n 32 = true from h38, h48]); rw [eE] at hL; simp only [hK, Bool.false_eq_true, ↓reduceIte, List.length_append, List.length_cons, List.length_nil] at hL; omega)) mw_X6_note ml_X6_147 rfl rfl rfl rfl (Nat.le_of_ble_eq_true rfl) dX6_inherited_56 ⟨Nat.le_of_ble_eq_true rfl, Nat.le_of_ble_eq_true rfl⟩ ⟨Nat.le_of_ble_eq_true rfl, Nat.le_of_ble_eq_true rfl⟩ ?_
          intro r v hv
          obtain ⟨rfl, hv⟩ := hv
          first | exact j59 _ _ hv (by have hK : (decide (τ 1 t = 0) && Hs τ n 32 && !decide (Of τ n = t)) = true := (by simp [show τ 1 t = 0 from h28, show Hs τ n 32 = true from h38, h48]); rw [eE]; simp only [hK, Bool.false_eq_true, ↓reduceIte, List.append_nil, List.nil_append, List.append_assoc]) | exact j59 _ _ hu (by have hK : (decide (τ 1 t = 0) && Hs τ n 32 && !decide (Of τ n = t)) = false := (by first | simp [show ¬ τ 1 t = 0 from h28] | simp [show Hs τ n 32 = false from h38] | simp [h48]); rw [eE]; simp only [hK, Bool.false_eq_true, ↓reduceIte, List.append_nil, List.nil_append, List.append_assoc])
  · exact absurd h10 (nI_m5 (by omega))
set_option maxRecDepth 100000 in
set_option maxHeartbeats 4000000 in
theorem ct_X6_judge {l : Launch} {D : va_G} {cI cZ : ClassId} {b : Nat → Nat} {τ : St} (hW : W0 τ) {t : Nat} (ht : t < nT τ) (hC : τ 1 t < 2 → ∀ o, o < nM τ → inhC τ t o = true → ChOk τ t o) (hL : (jdg τ t).length ≤ 2400) : Ct l yX6_judge cX6_judge 5 none 6 136 D cI cZ (pM b cI cZ) [.ref (b 0), .int (nI t)] τ (fun r v => r = none ∧ Lg τ (jdg τ t) v) := by
  refine Ct.of 3 (by decide) (by simp [Value.category]) (Nat.le_of_ble_eq_true rfl) ?_
  intro p e s m below meth c C
  have hTl := w0_tl hW
  have hMl := w0_ml hW
  have hJ : (jdO τ t (nM τ)).length + (if τ 1 t < 2 then inhO τ t (nM τ) else []).length ≤ 2400 := by simpa [jdg] using hL
  have loop2 : τ 1 t < 2 → ∀ (n i : Nat) (w : St), i ≤ nM τ → nM τ + 1 ≤ i + n → Lg τ (jdO τ t (nM τ) ++ inhO τ t i) w → G p l e (rmo 6 136) s m ([.ref (b 0), .int (nI t)] : List Value).toArray below meth c D (va_A (pM b cI cZ τ) s.heap.size) 0 0 (Qe below ([.ref (b 0), .int (nI t)] : List Value).toArray s D (pM b cI cZ) τ (fun r v => r = none ∧ Lg τ (jdg τ t) v)) 5 (pM b cI cZ w) 187 [some (.ref (b 0)), some (.int (nI t)), some (.int (nI i)), none, none] [] := by
    intro hk n
    induction n with
    | zero => intro i w h1 h2; omega
    | succ n ih =>
      intro i w h1 h2 hw
      obtain ⟨A1, B1, C1, rfl, hA⟩ := id hw
      have hW1 : W0 (lgS τ A1 B1 C1 (nI (jdO τ t (nM τ) ++ inhO τ t i).length)) := hW
      have j253 : i < nM τ → ∀ (w : St), Lg τ (jdO τ t (nM τ) ++ inhO τ t (i + 1)) w → G p l e (rmo 6 136) s m ([.ref (b 0), .int (nI t)] : List Value).toArray below meth c D (va_A (pM b cI cZ τ) s.heap.size) 0 0 (Qe below ([.ref (b 0), .int (nI t)] : List Value).toArray s D (pM b cI cZ) τ (fun r v => r = none ∧ Lg τ (jdg τ t) v)) 5 (pM b cI cZ w) 253 [some (.ref (b 0)), some (.int (nI t)), some (.int (nI i)), none, none] [] := by
        intro hi w hw
        refine g_iincN C dX6_judge_253 rfl (by decide) ?_
        refine g_goto (tgt := 187) C dX6_judge_256 (by decide) ?_
        exact ih (i + 1) w (by omega) (by omega) hw
      refine g_iload_n C dX6_judge_187 rfl ?_
      refine g_aload_n C dX6_judge_188 rfl ?_
      refine gn_X6_70 C (v := nI (nM τ)) (w0_m hW) dX6_judge_189 ?_
      refine g_icmpN_ge (tgt := 259) C (by omega) (by omega) dX6_judge_192 (by decide) (fun h192 => ?_) (fun h192 => ?_)
      · exact g_vret C dX6_judge_259 ⟨rfl, by obtain rfl : i = nM τ := (by omega); rw [jdg, if_pos hk]; exact hw⟩
      · refine g_aload_n C dX6_judge_195 rfl ?_
        have hi : i < nM τ := ‹_›
        have hof_i := w0_ofl hW hi
        refine gf_X6_7 C dX6_judge_196 ?_
        refine g_iload_n C dX6_judge_199 rfl ?_
        refine gM_ln1 C (by omega) dX6_judge_200 ?_
        refine g_iconst (v := 2) C dX6_judge_201 (by decide) ?_
        refine g_icmp_ge (tgt := 259) C dX6_judge_202 (by decide) (fun h202 => ?_) (fun h202 => ?_)
        · exact absurd hk (Int32.not_lt.mpr h202)
        · refine g_aload_n C dX6_judge_205 rfl ?_
          refine g_iload_n C dX6_judge_206 rfl ?_
          refine g_callVr 0 C (cr_X6_isPlain (by omega)) mw_X6_isPlain ml_X6_135 rfl rfl rfl rfl (Nat.le_of_ble_eq_true rfl) dX6_judge_207 ⟨Nat.le_of_ble_eq_true rfl, Nat.le_of_ble_eq_true rfl⟩ ⟨Nat.le_of_ble_eq_true rfl, Nat.le_of_ble_eq_true rfl⟩ ?_
          refine g_ifb_eq (tgt := 253) C dX6_judge_210 (by decide) (fun h210 => ?_) (fun h210 => ?_)
          · first | exact j253 hi _ (by have hK : inhC τ t i = true := (by first | simp [inhC, show Pln τ i = true from h210, show Bel τ t (Of τ i) = true from h224, show Hs τ i 32 = true from h234] | simp [inhC, show Pln τ i = true from h210, show Bel τ t (Of τ i) = true from h224, show Hs τ i 64 = true from h244]); simp only [inhO, hK, ↓reduceIte, ← List.append_assoc]; exact hv) | exact j253 hi _ (by have hK : inhC τ t i = false := (by first | simp [inhC, show Pln τ i = false from h210] | simp [inhC, show Bel τ t (Of τ i) = false from h224] | simp [inhC, show Hs τ i 32 = false from h234, show Hs τ i 64 = false from h244]); simp only [inhO, hK, Bool.false_eq_true, ↓reduceIte, List.append_nil]; exact hw)
          · refine g_aload_n C dX6_judge_213 rfl ?_
            refine g_iload_n C dX6_judge_214 rfl ?_
            refine g_aload_n C dX6_judge_215 rfl ?_
            refine gf_X6_35 C dX6_judge_216 ?_
            refine g_iload_n C dX6_judge_219 rfl ?_
            refine gM_lv9 C (by omega) (v := nI (Of τ _)) (w0_of hW (by omega)) dX6_judge_220 ?_
            refine g_callVr 0 C (cr_X6_isBelow hW1 (by omega) (by omega)) mw_X6_isBelow ml_X6_90 rfl rfl rfl rfl (Nat.le_of_ble_eq_true rfl) dX6_judge_221 ⟨Nat.le_of_ble_eq_true rfl, Nat.le_of_ble_eq_true rfl⟩ ⟨Nat.le_of_ble_eq_true rfl, Nat.le_of_ble_eq_true rfl⟩ ?_
            refine g_ifb_eq (tgt := 253) C dX6_judge_224 (by decide) (fun h224 => ?_) (fun h224 => ?_)
            · first | exact j253 hi _ (by have hK : inhC τ t i = true := (by first | simp [inhC, show Pln τ i = true from h210, show Bel τ t (Of τ i) = true from h224, show Hs τ i 32 = true from h234] | simp [inhC, show Pln τ i = true from h210, show Bel τ t (Of τ i) = true from h224, show Hs τ i 64 = true from h244]); simp only [inhO, hK, ↓reduceIte, ← List.append_assoc]; exact hv) | exact j253 hi _ (by have hK : inhC τ t i = false := (by first | simp [inhC, show Pln τ i = false from h210] | simp [inhC, show Bel τ t (Of τ i) = false from h224] | simp [inhC, show Hs τ i 32 = false from h234, show Hs τ i 64 = false from h244]); simp only [inhO, hK, Bool.false_eq_true, ↓reduceIte, List.append_nil]; exact hw)
            · refine g_aload_n C dX6_judge_227 rfl ?_
              refine g_iload_n C dX6_judge_228 rfl ?_
              refine g_bipush (v := 32) C dX6_judge_229 (by decide) ?_
              refine g_callVr 0 C (cr_X6_has (by omega)) mw_X6_has ml_X6_100 rfl rfl rfl rfl (Nat.le_of_ble_eq_true rfl) dX6_judge_231 ⟨Nat.le_of_ble_eq_true rfl, Nat.le_of_ble_eq_true rfl⟩ ⟨Nat.le_of_ble_eq_true rfl, Nat.le_of_ble_eq_true rfl⟩ ?_
              refine g_ifb_ne (tgt := 247) C dX6_judge_234 (by decide) (fun h234 => ?_) (fun h234 => ?_)
              · refine g_aload_n C dX6_judge_247 rfl ?_
                refine g_iload_n C dX6_judge_248 rfl ?_
                refine g_iload_n C dX6_judge_249 rfl ?_
                refine g_callV 0 C (ct_X6_inherited hW hw ht hi (hC hk i hi (by have hK : inhC τ t i = true := (by first | simp [inhC, show Pln τ i = true from h210, show Bel τ t (Of τ i) = true from h224, show Hs τ i 32 = true from h234] | simp [inhC, show Pln τ i = true from h210, show Bel τ t (Of τ i) = true from h224, show Hs τ i 64 = true from h244]); exact hK)) (by have hK : inhC τ t i = true := (by first | simp [inhC, show Pln τ i = true from h210, show Bel τ t (Of τ i) = true from h224, show Hs τ i 32 = true from h234] | simp [inhC, show Pln τ i = true from h210, show Bel τ t (Of τ i) = true from h224, show Hs τ i 64 = true from h244]); have hz := inhO_le (τ := τ) (t := t) (nM τ) (i + 1) hi; simp only [inhO, hK, ↓reduceIte, List.length_append] at hz; simp only [if_pos hk] at hJ; simp only [List.length_append]; omega)) mw_X6_inherited ml_X6_163 rfl rfl rfl rfl (Nat.le_of_ble_eq_true rfl) dX6_judge_250 ⟨Nat.le_of_ble_eq_true rfl, Nat.le_of_ble_eq_true rfl⟩ ⟨Nat.le_of_ble_eq_true rfl, Nat.le_of_ble_eq_true rfl⟩ ?_
                intro r v hv
                obtain ⟨rfl, hv⟩ := hv
                first | exact j253 hi _ (by have hK : inhC τ t i = true := (by first | simp [inhC, show Pln τ i = true from h210, show Bel τ t (Of τ i) = true from h224, show Hs τ i 32 = true from h234] | simp [inhC, show Pln τ i = true from h210, show Bel τ t (Of τ i) = true from h224, show Hs τ i 64 = true from h244]); simp only [inhO, hK, ↓reduceIte, ← List.append_assoc]; exact hv) | exact j253 hi _ (by have hK : inhC τ t i = false := (by first | simp [inhC, show Pln τ i = false from h210] | simp [inhC, show Bel τ t (Of τ i) = false from h224] | simp [inhC, show Hs τ i 32 = false from h234, show Hs τ i 64 = false from h244]); simp only [inhO, hK, Bool.false_eq_true, ↓reduceIte, List.append_nil]; exact hw)
              · refine g_aload_n C dX6_judge_237 rfl ?_
                refine g_iload_n C dX6_judge_238 rfl ?_
                refine g_bipush (v := 64) C dX6_judge_239 (by decide) ?_
                refine g_callVr 0 C (cr_X6_has (by omega)) mw_X6_has ml_X6_100 rfl rfl rfl rfl (Nat.le_of_ble_eq_true rfl) dX6_judge_241 ⟨Nat.le_of_ble_eq_true rfl, Nat.le_of_ble_eq_true rfl⟩ ⟨Nat.le_of_ble_eq_true rfl, Nat.le_of_ble_eq_true rfl⟩ ?_
                refine g_ifb_eq (tgt := 253) C dX6_judge_244 (by decide) (fun h244 => ?_) (fun h244 => ?_)
                · first | exact j253 hi _ (by have hK : inhC τ t i = true := (by first | simp [inhC, show Pln τ i = true from h210, show Bel τ t (Of τ i) = true from h224, show Hs τ i 32 = true from h234] | simp [inhC, show Pln τ i = true from h210, show Bel τ t (Of τ i) = true from h224, show Hs τ i 64 = true from h244]); simp only [inhO, hK, ↓reduceIte, ← List.append_assoc]; exact hv) | exact j253 hi _ (by have hK : inhC τ t i = false := (by first | simp [inhC, show Pln τ i = false from h210] | simp [inhC, show Bel τ t (Of τ i) = false from h224] | simp [inhC, show Hs τ i 32 = false from h234, show Hs τ i 64 = false from h244]); simp only [inhO, hK, Bool.false_eq_true, ↓reduceIte, List.append_nil]; exact hw)
                · refine g_aload_n C dX6_judge_247 rfl ?_
                  refine g_iload_n C dX6_judge_248 rfl ?_
                  refine g_iload_n C dX6_judge_249 rfl ?_
                  refine g_callV 0 C (ct_X6_inherited hW hw ht hi (hC hk i hi (by have hK : inhC τ t i = true := (by first | simp [inhC, show Pln τ i = true from h210, show Bel τ t (Of τ i) = true from h224, show Hs τ i 32 = true from h234] | simp [inhC, show Pln τ i = true from h210, show Bel τ t (Of τ i) = true from h224, show Hs τ i 64 = true from h244]); exact hK)) (by have hK : inhC τ t i = true := (by first | simp [inhC, show Pln τ i = true from h210, show Bel τ t (Of τ i) = true from h224, show Hs τ i 32 = true from h234] | simp [inhC, show Pln τ i = true from h210, show Bel τ t (Of τ i) = true from h224, show Hs τ i 64 = true from h244]); have hz := inhO_le (τ := τ) (t := t) (nM τ) (i + 1) hi; simp only [inhO, hK, ↓reduceIte, List.length_append] at hz; simp only [if_pos hk] at hJ; simp only [List.length_append]; omega)) mw_X6_inherited ml_X6_163 rfl rfl rfl rfl (Nat.le_of_ble_eq_true rfl) dX6_judge_250 ⟨Nat.le_of_ble_eq_true rfl, Nat.le_of_ble_eq_true rfl⟩ ⟨Nat.le_of_ble_eq_true rfl, Nat.le_of_ble_eq_true rfl⟩ ?_
                  intro r v hv
                  obtain ⟨rfl, hv⟩ := hv
                  first | exact j253 hi _ (by have hK : inhC τ t i = true := (by first | simp [inhC, show Pln τ i = true from h210, show Bel τ t (Of τ i) = true from h224, show Hs τ i 32 = true from h234] | simp [inhC, show Pln τ i = true from h210, show Bel τ t (Of τ i) = true from h224, show Hs τ i 64 = true from h244]); simp only [inhO, hK, ↓reduceIte, ← List.append_assoc]; exact hv) | exact j253 hi _ (by have hK : inhC τ t i = false := (by first | simp [inhC, show Pln τ i = false from h210] | simp [inhC, show Bel τ t (Of τ i) = false from h224] | simp [inhC, show Hs τ i 32 = false from h234, show Hs τ i 64 = false from h244]); simp only [inhO, hK, Bool.false_eq_true, ↓reduceIte, List.append_nil]; exact hw)
  have j187 : ∀ (w : St), Lg τ (jdO τ t (nM τ)) w → G p l e (rmo 6 136) s m ([.ref (b 0), .int (nI t)] : List Value).toArray below meth c D (va_A (pM b cI cZ τ) s.heap.size) 0 0 (Qe below ([.ref (b 0), .int (nI t)] : List Value).toArray s D (pM b cI cZ) τ (fun r v => r = none ∧ Lg τ (jdg τ t) v)) 5 (pM b cI cZ w) 187 [some (.ref (b 0)), some (.int (nI t)), some (.int (nI 0)), none, none] [] := by
    intro w hw
    by_cases hk : τ 1 t < 2
    · exact loop2 hk (nM τ + 1) 0 w (by omega) (by omega) (by simpa [inhO] using hw)
    obtain ⟨A1, B1, C1, rfl, hA⟩ := id hw
    have hW1 : W0 (lgS τ A1 B1 C1 (nI (jdO τ t (nM τ)).length)) := hW
    refine g_iload_n C dX6_judge_187 rfl ?_
    refine g_aload_n C dX6_judge_188 rfl ?_
    refine gn_X6_70 C (v := nI (nM τ)) (w0_m hW) dX6_judge_189 ?_
    refine g_icmpN_ge (tgt := 259) C (by omega) (by omega) dX6_judge_192 (by decide) (fun h192 => ?_) (fun h192 => ?_)
    · exact g_vret C dX6_judge_259 ⟨rfl, by rw [jdg, if_neg hk, List.append_nil]; exact hw⟩
    · refine g_aload_n C dX6_judge_195 rfl ?_
      refine gf_X6_7 C dX6_judge_196 ?_
      refine g_iload_n C dX6_judge_199 rfl ?_
      refine gM_ln1 C (by omega) dX6_judge_200 ?_
      refine g_iconst (v := 2) C dX6_judge_201 (by decide) ?_
      refine g_icmp_ge (tgt := 259) C dX6_judge_202 (by decide) (fun h202 => ?_) (fun h202 => ?_)
      · exact g_vret C dX6_judge_259 ⟨rfl, by rw [jdg, if_neg hk, List.append_nil]; exact hw⟩
      · exact absurd (Int32.not_le.mp h202) hk
  have loop1 : ∀ (n i : Nat) (w : St), i ≤ nM τ → nM τ + 1 ≤ i + n → Lg τ (jdO τ t i) w → G p l e (rmo 6 136) s m ([.ref (b 0), .int (nI t)] : List Value).toArray below meth c D (va_A (pM b cI cZ τ) s.heap.size) 0 0 (Qe below ([.ref (b 0), .int (nI t)] : List Value).toArray s D (pM b cI cZ) τ (fun r v => r = none ∧ Lg τ (jdg τ t) v)) 5 (pM b cI cZ w) 7 [some (.ref (b 0)), some (.int (nI t)), some (.int (nI i)), none, none] [] := by
    intro n
    induction n with
    | zero => intro i w h1 h2; omega
    | succ n ih =>
      intro i w h1 h2 hw
      have j179 : i < nM τ → ∀ (w : St), Lg τ (jdO τ t (i + 1)) w → G p l e (rmo 6 136) s m ([.ref (b 0), .int (nI t)] : List Value).toArray below meth c D (va_A (pM b cI cZ τ) s.heap.size) 0 0 (Qe below ([.ref (b 0), .int (nI t)] : List Value).toArray s D (pM b cI cZ) τ (fun r v => r = none ∧ Lg τ (jdg τ t) v)) 5 (pM b cI cZ w) 179 [some (.ref (b 0)), some (.int (nI t)), some (.int (nI i)), none, none] [] := by
        intro hi w hw
        refine g_iincN C dX6_judge_179 rfl (by decide) ?_
        refine g_goto (tgt := 7) C dX6_judge_182 (by decide) ?_
        exact ih (i + 1) w (by omega) (by omega) hw
      have own : i < nM τ → Of τ i = t → ∀ (w : St), Lg τ (jdO τ t i) w → G p l e (rmo 6 136) s m ([.ref (b 0), .int (nI t)] : List Value).toArray below meth c D (va_A (pM b cI cZ τ) s.heap.size) 0 0 (Qe below ([.ref (b 0), .int (nI t)] : List Value).toArray s D (pM b cI cZ) τ (fun r v => r = none ∧ Lg τ (jdg τ t) v)) 5 (pM b cI cZ w) 30 [some (.ref (b 0)), some (.int (nI t)), some (.int (nI i)), some (.int (b2i false)), some (.int (nI 0))] [] := by
        intro hi ht0 w0 hw0
        have hof_i := w0_ofl hW hi
        have eO : jdO τ t (i + 1) = jdO τ t i ++ (innL τ i (nM τ) ++ ((if (Hs τ i 128 && !anyN (nM τ) (Ov τ i)) = true then [(6, nI i, -1)] else []) ++ (if (Hs τ i 32 && decide (τ 1 t = 0)) = true then [(7, nI i, -1)] else []))) := by simp only [jdO, ownL, if_pos ht0]
        have hO : (jdO τ t (i + 1)).length ≤ 2400 := by have := jdO_le (τ := τ) (t := t) (nM τ) (i + 1) hi; omega
        have hlO := congrArg List.length eO
        have j152 : ∀ (L2 : List Ft) (w : St), Lg τ L2 w → L2 ++ (if (Hs τ i 32 && decide (τ 1 t = 0)) = true then [(7, nI i, -1)] else []) = jdO τ t (i + 1) → G p l e (rmo 6 136) s m ([.ref (b 0), .int (nI t)] : List Value).toArray below meth c D (va_A (pM b cI cZ τ) s.heap.size) 0 0 (Qe below ([.ref (b 0), .int (nI t)] : List Value).toArray s D (pM b cI cZ) τ (fun r v => r = none ∧ Lg τ (jdg τ t) v)) 5 (pM b cI cZ w) 152 [some (.ref (b 0)), some (.int (nI t)), some (.int (nI i)), none, none] [] := by
          intro L2 w hw he
          have hl := congrArg List.length he
          obtain ⟨A1, B1, C1, rfl, hA⟩ := id hw
          have hW1 : W0 (lgS τ A1 B1 C1 (nI (L2).length)) := hW
          refine g_aload_n C dX6_judge_152 rfl ?_
          refine g_iload_n C dX6_judge_153 rfl ?_
          refine g_bipush (v := 32) C dX6_judge_154 (by decide) ?_
          refine g_callVr 0 C (cr_X6_has (by omega)) mw_X6_has ml_X6_100 rfl rfl rfl rfl (Nat.le_of_ble_eq_true rfl) dX6_judge_156 ⟨Nat.le_of_ble_eq_true rfl, Nat.le_of_ble_eq_true rfl⟩ ⟨Nat.le_of_ble_eq_true rfl, Nat.le_of_ble_eq_true rfl⟩ ?_
          refine g_ifb_eq (tgt := 179) C dX6_judge_159 (by decide) (fun h159 => ?_) (fun h159 => ?_)
          · first | exact j179 hi _ (by have hK : (Hs τ i 32 && decide (τ 1 t = 0)) = true := (by simp [show Hs τ i 32 = true from h159, show τ 1 t = 0 from h168]); simp only [hK, Bool.false_eq_true, ↓reduceIte, List.append_nil, List.nil_append, List.append_assoc] at he; rw [← he]; exact hv) | exact j179 hi _ (by have hK : (Hs τ i 32 && decide (τ 1 t = 0)) = false := (by first | simp [show Hs τ i 32 = false from h159] | simp [show ¬ τ 1 t = 0 from h168]); simp only [hK, Bool.false_eq_true, ↓reduceIte, List.append_nil, List.nil_append, List.append_assoc] at he; rw [← he]; exact hw)
          · refine g_aload_n C dX6_judge_162 rfl ?_
            refine gf_X6_7 C dX6_judge_163 ?_
            refine g_iload_n C dX6_judge_166 rfl ?_
            refine gM_ln1 C (by omega) dX6_judge_167 ?_
            refine g_if_ne (tgt := 179) C dX6_judge_168 (by decide) (fun h168 => ?_) (fun h168 => ?_)
            · first | exact j179 hi _ (by have hK : (Hs τ i 32 && decide (τ 1 t = 0)) = true := (by simp [show Hs τ i 32 = true from h159, show τ 1 t = 0 from h168]); simp only [hK, Bool.false_eq_true, ↓reduceIte, List.append_nil, List.nil_append, List.append_assoc] at he; rw [← he]; exact hv) | exact j179 hi _ (by have hK : (Hs τ i 32 && decide (τ 1 t = 0)) = false := (by first | simp [show Hs τ i 32 = false from h159] | simp [show ¬ τ 1 t = 0 from h168]); simp only [hK, Bool.false_eq_true, ↓reduceIte, List.append_nil, List.nil_append, List.append_assoc] at he; rw [← he]; exact hw)
            · refine g_aload_n C dX6_judge_171 rfl ?_
              refine g_bipush (v := 7) C dX6_judge_172 (by decide) ?_
              refine g_iload_n C dX6_judge_174 rfl ?_
              refine g_iconst (v := -1) C dX6_judge_175 (by decide) ?_
              refine g_callV 0 C (ct_X6_note hw (by have hK : (Hs τ i 32 && decide (τ 1 t = 0)) = true := (by simp [show Hs τ i 32 = true from h159, show τ 1 t = 0 from h168]); simp only [hK, Bool.false_eq_true, ↓reduceIte, List.length_append, List.length_cons, List.length_nil] at hl; omega)) mw_X6_note ml_X6_147 rfl rfl rfl rfl (Nat.le_of_ble_eq_true rfl) dX6_judge_176 ⟨Nat.le_of_ble_eq_true rfl, Nat.le_of_ble_eq_true rfl⟩ ⟨Nat.le_of_ble_eq_true rfl, Nat.le_of_ble_eq_true rfl⟩ ?_
              intro r v hv
              obtain ⟨rfl, hv⟩ := hv
              first | exact j179 hi _ (by have hK : (Hs τ i 32 && decide (τ 1 t = 0)) = true := (by simp [show Hs τ i 32 = true from h159, show τ 1 t = 0 from h168]); simp only [hK, Bool.false_eq_true, ↓reduceIte, List.append_nil, List.nil_append, List.append_assoc] at he; rw [← he]; exact hv) | exact j179 hi _ (by have hK : (Hs τ i 32 && decide (τ 1 t = 0)) = false := (by first | simp [show Hs τ i 32 = false from h159] | simp [show ¬ τ 1 t = 0 from h168]); simp only [hK, Bool.false_eq_true, ↓reduceIte, List.append_nil, List.nil_append, List.append_assoc] at he; rw [← he]; exact hw)
        have j129 : ∀ (w : St) (q : Bool), q = anyN (nM τ) (Ov τ i) → Lg τ (jdO τ t i ++ innL τ i (nM τ)) w → G p l e (rmo 6 136) s m ([.ref (b 0), .int (nI t)] : List Value).toArray below meth c D (va_A (pM b cI cZ τ) s.heap.size) 0 0 (Qe below ([.ref (b 0), .int (nI t)] : List Value).toArray s D (pM b cI cZ) τ (fun r v => r = none ∧ Lg τ (jdg τ t) v)) 5 (pM b cI cZ w) 129 [some (.ref (b 0)), some (.int (nI t)), some (.int (nI i)), some (.int (b2i q)), none] [] := by
          intro w q hq hw
          obtain ⟨A1, B1, C1, rfl, hA⟩ := id hw
          have hW1 : W0 (lgS τ A1 B1 C1 (nI (jdO τ t i ++ innL τ i (nM τ)).length)) := hW
          refine g_aload_n C dX6_judge_129 rfl ?_
          refine g_iload_n C dX6_judge_130 rfl ?_
          refine g_sipush (v := 128) C dX6_judge_131 (by decide) ?_
          refine g_callVr 0 C (cr_X6_has (by omega)) mw_X6_has ml_X6_100 rfl rfl rfl rfl (Nat.le_of_ble_eq_true rfl) dX6_judge_134 ⟨Nat.le_of_ble_eq_true rfl, Nat.le_of_ble_eq_true rfl⟩ ⟨Nat.le_of_ble_eq_true rfl, Nat.le_of_ble_eq_true rfl⟩ ?_
          refine g_ifb_eq (tgt := 152) C dX6_judge_137 (by decide) (fun h137 => ?_) (fun h137 => ?_)
          · first | exact (j152 _ _ hv (by have hK : (Hs τ i 128 && !anyN (nM τ) (Ov τ i)) = true := (by simp [show Hs τ i 128 = true from h137, ← hq, h141]); rw [eO]; simp only [hK, Bool.false_eq_true, ↓reduceIte, List.append_nil, List.nil_append, List.append_assoc])).weak (by simp [lvle, lst]) | exact (j152 _ _ hw (by have hK : (Hs τ i 128 && !anyN (nM τ) (Ov τ i)) = false := (by first | simp [show Hs τ i 128 = false from h137] | simp [← hq, h141]); rw [eO]; simp only [hK, Bool.false_eq_true, ↓reduceIte, List.append_nil, List.nil_append, List.append_assoc])).weak (by simp [lvle, lst])
          · refine g_iload_n C dX6_judge_140 rfl ?_
            refine g_ifb_ne (tgt := 152) C dX6_judge_141 (by decide) (fun h141 => ?_) (fun h141 => ?_)
            · first | exact (j152 _ _ hv (by have hK : (Hs τ i 128 && !anyN (nM τ) (Ov τ i)) = true := (by simp [show Hs τ i 128 = true from h137, ← hq, h141]); rw [eO]; simp only [hK, Bool.false_eq_true, ↓reduceIte, List.append_nil, List.nil_append, List.append_assoc])).weak (by simp [lvle, lst]) | exact (j152 _ _ hw (by have hK : (Hs τ i 128 && !anyN (nM τ) (Ov τ i)) = false := (by first | simp [show Hs τ i 128 = false from h137] | simp [← hq, h141]); rw [eO]; simp only [hK, Bool.false_eq_true, ↓reduceIte, List.append_nil, List.nil_append, List.append_assoc])).weak (by simp [lvle, lst])
            · refine g_aload_n C dX6_judge_144 rfl ?_
              refine g_bipush (v := 6) C dX6_judge_145 (by decide) ?_
              refine g_iload_n C dX6_judge_147 rfl ?_
              refine g_iconst (v := -1) C dX6_judge_148 (by decide) ?_
              refine g_callV 0 C (ct_X6_note hw (by have hK : (Hs τ i 128 && !anyN (nM τ) (Ov τ i)) = true := (by simp [show Hs τ i 128 = true from h137, ← hq, h141]); simp only [hK, Bool.false_eq_true, ↓reduceIte, List.length_append, List.length_cons, List.length_nil] at hlO ⊢; omega)) mw_X6_note ml_X6_147 rfl rfl rfl rfl (Nat.le_of_ble_eq_true rfl) dX6_judge_149 ⟨Nat.le_of_ble_eq_true rfl, Nat.le_of_ble_eq_true rfl⟩ ⟨Nat.le_of_ble_eq_true rfl, Nat.le_of_ble_eq_true rfl⟩ ?_
              intro r v hv
              obtain ⟨rfl, hv⟩ := hv
              first | exact (j152 _ _ hv (by have hK : (Hs τ i 128 && !anyN (nM τ) (Ov τ i)) = true := (by simp [show Hs τ i 128 = true from h137, ← hq, h141]); rw [eO]; simp only [hK, Bool.false_eq_true, ↓reduceIte, List.append_nil, List.nil_append, List.append_assoc])).weak (by simp [lvle, lst]) | exact (j152 _ _ hw (by have hK : (Hs τ i 128 && !anyN (nM τ) (Ov τ i)) = false := (by first | simp [show Hs τ i 128 = false from h137] | simp [← hq, h141]); rw [eO]; simp only [hK, Bool.false_eq_true, ↓reduceIte, List.append_nil, List.nil_append, List.append_assoc])).weak (by simp [lvle, lst])
        have inner : ∀ (k j : Nat) (w : St) (q : Bool), j ≤ nM τ → nM τ + 1 ≤ j + k → q = anyN j (Ov τ i) → Lg τ (jdO τ t i ++ innL τ i j) w → G p l e (rmo 6 136) s m ([.ref (b 0), .int (nI t)] : List Value).toArray below meth c D (va_A (pM b cI cZ τ) s.heap.size) 0 0 (Qe below ([.ref (b 0), .int (nI t)] : List Value).toArray s D (pM b cI cZ) τ (fun r v => r = none ∧ Lg τ (jdg τ t) v)) 5 (pM b cI cZ w) 30 [some (.ref (b 0)), some (.int (nI t)), some (.int (nI i)), some (.int (b2i q)), some (.int (nI j))] [] := by
          intro k
          induction k with
          | zero => intro j w q h1 h2; omega
          | succ k ihk =>
            intro j w q hj1 hj2 hq hw
            have j123 : j < nM τ → ∀ (w : St) (q : Bool), q = anyN (j + 1) (Ov τ i) → Lg τ (jdO τ t i ++ innL τ i (j + 1)) w → G p l e (rmo 6 136) s m ([.ref (b 0), .int (nI t)] : List Value).toArray below meth c D (va_A (pM b cI cZ τ) s.heap.size) 0 0 (Qe below ([.ref (b 0), .int (nI t)] : List Value).toArray s D (pM b cI cZ) τ (fun r v => r = none ∧ Lg τ (jdg τ t) v)) 5 (pM b cI cZ w) 123 [some (.ref (b 0)), some (.int (nI t)), some (.int (nI i)), some (.int (b2i q)), some (.int (nI j))] [] := by
              intro hj w q hq hw
              refine g_iincN C dX6_judge_123 rfl (by decide) ?_
              refine g_goto (tgt := 30) C dX6_judge_126 (by decide) ?_
              exact ihk (j + 1) w q (by omega) (by omega) hq hw
            have hIn : j < nM τ → (jdO τ t i ++ innL τ i (j + 1)).length ≤ 2400 := by
              intro hj
              have := innL_le (τ := τ) (m := i) (nM τ) (j + 1) hj
              simp only [List.length_append] at hlO ⊢
              omega
            have j116 : j < nM τ → ∀ (L2 : List Ft) (w : St) (q : Bool), q = anyN (j + 1) (Ov τ i) → Lg τ L2 w → L2 ++ thrL τ i j = jdO τ t i ++ innL τ i (j + 1) → G p l e (rmo 6 136) s m ([.ref (b 0), .int (nI t)] : List Value).toArray below meth c D (va_A (pM b cI cZ τ) s.heap.size) 0 0 (Qe below ([.ref (b 0), .int (nI t)] : List Value).toArray s D (pM b cI cZ) τ (fun r v => r = none ∧ Lg τ (jdg τ t) v)) 5 (pM b cI cZ w) 116 [some (.ref (b 0)), some (.int (nI t)), some (.int (nI i)), some (.int (b2i q)), some (.int (nI j))] [] := by
              intro hj L2 w q hq hw he
              have hl := congrArg List.length he
              have hI := hIn hj
              refine g_aload_n C dX6_judge_116 rfl ?_
              refine g_iload_n C dX6_judge_117 rfl ?_
              refine g_iload C dX6_judge_118 rfl ?_
              refine g_callV 0 C (ct_X6_three hW hw hi hj (by omega)) mw_X6_three ml_X6_160 rfl rfl rfl rfl (Nat.le_of_ble_eq_true rfl) dX6_judge_120 ⟨Nat.le_of_ble_eq_true rfl, Nat.le_of_ble_eq_true rfl⟩ ⟨Nat.le_of_ble_eq_true rfl, Nat.le_of_ble_eq_true rfl⟩ ?_
              intro r v hv
              obtain ⟨rfl, hv⟩ := hv
              exact j123 hj _ q hq (by rw [← he]; exact hv)
            have j77 : j < nM τ → ∀ (L2 : List Ft) (w : St) (q : Bool), q = anyN (j + 1) (Ov τ i) → Lg τ L2 w → L2 ++ (if (Ov τ i j || Hid τ i j) = true then (if Hs τ j 16 = true then [(2, nI i, nI j)] else []) ++ thrL τ i j else []) = jdO τ t i ++ innL τ i (j + 1) → G p l e (rmo 6 136) s m ([.ref (b 0), .int (nI t)] : List Value).toArray below meth c D (va_A (pM b cI cZ τ) s.heap.size) 0 0 (Qe below ([.ref (b 0), .int (nI t)] : List Value).toArray s D (pM b cI cZ) τ (fun r v => r = none ∧ Lg τ (jdg τ t) v)) 5 (pM b cI cZ w) 77 [some (.ref (b 0)), some (.int (nI t)), some (.int (nI i)), some (.int (b2i q)), some (.int (nI j))] [] := by
              intro hj L2 w q hq hw he
              have hl := congrArg List.length he
              have hI := hIn hj
              have hof_j := w0_ofl hW hj
              obtain ⟨A1, B1, C1, rfl, hA⟩ := id hw
              have hW1 : W0 (lgS τ A1 B1 C1 (nI (L2).length)) := hW
              refine g_aload_n C dX6_judge_77 rfl ?_
              refine g_iload_n C dX6_judge_78 rfl ?_
              refine g_iload C dX6_judge_79 rfl ?_
              refine g_callVr 0 C (cr_X6_isOver hW1 (by omega) (by omega)) mw_X6_isOver ml_X6_129 rfl rfl rfl rfl (Nat.le_of_ble_eq_true rfl) dX6_judge_81 ⟨Nat.le_of_ble_eq_true rfl, Nat.le_of_ble_eq_true rfl⟩ ⟨Nat.le_of_ble_eq_true rfl, Nat.le_of_ble_eq_true rfl⟩ ?_
              refine g_ifb_ne (tgt := 97) C dX6_judge_84 (by decide) (fun h84 => ?_) (fun h84 => ?_)
              · refine g_aload_n C dX6_judge_97 rfl ?_
                refine g_iload C dX6_judge_98 rfl ?_
                refine g_bipush (v := 16) C dX6_judge_100 (by decide) ?_
                refine g_callVr 0 C (cr_X6_has (by omega)) mw_X6_has ml_X6_100 rfl rfl rfl rfl (Nat.le_of_ble_eq_true rfl) dX6_judge_102 ⟨Nat.le_of_ble_eq_true rfl, Nat.le_of_ble_eq_true rfl⟩ ⟨Nat.le_of_ble_eq_true rfl, Nat.le_of_ble_eq_true rfl⟩ ?_
                refine g_ifb_eq (tgt := 116) C dX6_judge_105 (by decide) (fun h105 => ?_) (fun h105 => ?_)
                · first | exact j116 hj _ _ q hq hv (by have hK : (Ov τ i j || Hid τ i j) = true := (by first | simp [show Ov τ i j = true from h84] | simp [show Hid τ i j = true from h94]); have hF : Hs τ j 16 = true := h105; simp only [hK, hF, Bool.false_eq_true, ↓reduceIte, List.append_nil, List.nil_append, List.append_assoc] at he ⊢; exact he) | exact j116 hj _ _ q hq hw (by have hK : (Ov τ i j || Hid τ i j) = true := (by first | simp [show Ov τ i j = true from h84] | simp [show Hid τ i j = true from h94]); have hF : Hs τ j 16 = false := h105; simp only [hK, hF, Bool.false_eq_true, ↓reduceIte, List.append_nil, List.nil_append, List.append_assoc] at he; exact he)
                · refine g_aload_n C dX6_judge_108 rfl ?_
                  refine g_iconst (v := 2) C dX6_judge_109 (by decide) ?_
                  refine g_iload_n C dX6_judge_110 rfl ?_
                  refine g_iload C dX6_judge_111 rfl ?_
                  refine g_callV 0 C (ct_X6_note hw (by have hK : (Ov τ i j || Hid τ i j) = true := (by first | simp [show Ov τ i j = true from h84] | simp [show Hid τ i j = true from h94]); have hF : Hs τ j 16 = true := h105; simp only [hK, hF, Bool.false_eq_true, ↓reduceIte, List.length_append, List.length_cons, List.length_nil] at hl hI; omega)) mw_X6_note ml_X6_147 rfl rfl rfl rfl (Nat.le_of_ble_eq_true rfl) dX6_judge_113 ⟨Nat.le_of_ble_eq_true rfl, Nat.le_of_ble_eq_true rfl⟩ ⟨Nat.le_of_ble_eq_true rfl, Nat.le_of_ble_eq_true rfl⟩ ?_
                  intro r v hv
                  obtain ⟨rfl, hv⟩ := hv
                  first | exact j116 hj _ _ q hq hv (by have hK : (Ov τ i j || Hid τ i j) = true := (by first | simp [show Ov τ i j = true from h84] | simp [show Hid τ i j = true from h94]); have hF : Hs τ j 16 = true := h105; simp only [hK, hF, Bool.false_eq_true, ↓reduceIte, List.append_nil, List.nil_append, List.append_assoc] at he ⊢; exact he) | exact j116 hj _ _ q hq hw (by have hK : (Ov τ i j || Hid τ i j) = true := (by first | simp [show Ov τ i j = true from h84] | simp [show Hid τ i j = true from h94]); have hF : Hs τ j 16 = false := h105; simp only [hK, hF, Bool.false_eq_true, ↓reduceIte, List.append_nil, List.nil_append, List.append_assoc] at he; exact he)
              · refine g_aload_n C dX6_judge_87 rfl ?_
                refine g_iload_n C dX6_judge_88 rfl ?_
                refine g_iload C dX6_judge_89 rfl ?_
                refine g_callVr 0 C (cr_X6_hidesIt hW1 (x := i) (o := j) hi hj) mw_X6_hidesIt ml_X6_132 rfl rfl rfl rfl (Nat.le_of_ble_eq_true rfl) dX6_judge_91 ⟨Nat.le_of_ble_eq_true rfl, Nat.le_of_ble_eq_true rfl⟩ ⟨Nat.le_of_ble_eq_true rfl, Nat.le_of_ble_eq_true rfl⟩ ?_
                refine g_ifb_eq (tgt := 123) C dX6_judge_94 (by decide) (fun h94 => ?_) (fun h94 => ?_)
                · exact j123 hj _ q hq (by have hK : (Ov τ i j || Hid τ i j) = false := (by simp [show Ov τ i j = false from h84, show Hid τ i j = false from h94]); simp only [hK, Bool.false_eq_true, ↓reduceIte, List.append_nil, List.nil_append, List.append_assoc] at he; rw [← he]; exact hw)
                · refine g_aload_n C dX6_judge_97 rfl ?_
                  refine g_iload C dX6_judge_98 rfl ?_
                  refine g_bipush (v := 16) C dX6_judge_100 (by decide) ?_
                  refine g_callVr 0 C (cr_X6_has (by omega)) mw_X6_has ml_X6_100 rfl rfl rfl rfl (Nat.le_of_ble_eq_true rfl) dX6_judge_102 ⟨Nat.le_of_ble_eq_true rfl, Nat.le_of_ble_eq_true rfl⟩ ⟨Nat.le_of_ble_eq_true rfl, Nat.le_of_ble_eq_true rfl⟩ ?_
                  refine g_ifb_eq (tgt := 116) C dX6_judge_105 (by decide) (fun h105 => ?_) (fun h105 => ?_)
                  · first | exact j116 hj _ _ q hq hv (by have hK : (Ov τ i j || Hid τ i j) = true := (by first | simp [show Ov τ i j = true from h84] | simp [show Hid τ i j = true from h94]); have hF : Hs τ j 16 = true := h105; simp only [hK, hF, Bool.false_eq_true, ↓reduceIte, List.append_nil, List.nil_append, List.append_assoc] at he ⊢; exact he) | exact j116 hj _ _ q hq hw (by have hK : (Ov τ i j || Hid τ i j) = true := (by first | simp [show Ov τ i j = true from h84] | simp [show Hid τ i j = true from h94]); have hF : Hs τ j 16 = false := h105; simp only [hK, hF, Bool.false_eq_true, ↓reduceIte, List.append_nil, List.nil_append, List.append_assoc] at he; exact he)
                  · refine g_aload_n C dX6_judge_108 rfl ?_
                    refine g_iconst (v := 2) C dX6_judge_109 (by decide) ?_
                    refine g_iload_n C dX6_judge_110 rfl ?_
                    refine g_iload C dX6_judge_111 rfl ?_
                    refine g_callV 0 C (ct_X6_note hw (by have hK : (Ov τ i j || Hid τ i j) = true := (by first | simp [show Ov τ i j = true from h84] | simp [show Hid τ i j = true from h94]); have hF : Hs τ j 16 = true := h105; simp only [hK, hF, Bool.false_eq_true, ↓reduceIte, List.length_append, List.length_cons, List.length_nil] at hl hI; omega)) mw_X6_note ml_X6_147 rfl rfl rfl rfl (Nat.le_of_ble_eq_true rfl) dX6_judge_113 ⟨Nat.le_of_ble_eq_true rfl, Nat.le_of_ble_eq_true rfl⟩ ⟨Nat.le_of_ble_eq_true rfl, Nat.le_of_ble_eq_true rfl⟩ ?_
                    intro r v hv
                    obtain ⟨rfl, hv⟩ := hv
                    first | exact j116 hj _ _ q hq hv (by have hK : (Ov τ i j || Hid τ i j) = true := (by first | simp [show Ov τ i j = true from h84] | simp [show Hid τ i j = true from h94]); have hF : Hs τ j 16 = true := h105; simp only [hK, hF, Bool.false_eq_true, ↓reduceIte, List.append_nil, List.nil_append, List.append_assoc] at he ⊢; exact he) | exact j116 hj _ _ q hq hw (by have hK : (Ov τ i j || Hid τ i j) = true := (by first | simp [show Ov τ i j = true from h84] | simp [show Hid τ i j = true from h94]); have hF : Hs τ j 16 = false := h105; simp only [hK, hF, Bool.false_eq_true, ↓reduceIte, List.append_nil, List.nil_append, List.append_assoc] at he; exact he)
            have j57 : j < nM τ → ∀ (L2 : List Ft) (w : St), Lg τ L2 w → L2 ++ (if (Ov τ i j || Hid τ i j) = true then (if Hs τ j 16 = true then [(2, nI i, nI j)] else []) ++ thrL τ i j else []) = jdO τ t i ++ innL τ i (j + 1) → G p l e (rmo 6 136) s m ([.ref (b 0), .int (nI t)] : List Value).toArray below meth c D (va_A (pM b cI cZ τ) s.heap.size) 0 0 (Qe below ([.ref (b 0), .int (nI t)] : List Value).toArray s D (pM b cI cZ) τ (fun r v => r = none ∧ Lg τ (jdg τ t) v)) 5 (pM b cI cZ w) 57 [some (.ref (b 0)), some (.int (nI t)), some (.int (nI i)), some (.int (b2i q)), some (.int (nI j))] [] := by
              intro hj L2 w hw he
              obtain ⟨A1, B1, C1, rfl, hA⟩ := id hw
              have hW1 : W0 (lgS τ A1 B1 C1 (nI (L2).length)) := hW
              refine g_iload_n C dX6_judge_57 rfl ?_
              refine g_ifb_ne (tgt := 71) C dX6_judge_58 (by decide) (fun h58 => ?_) (fun h58 => ?_)
              · refine g_iconst (v := 1) C dX6_judge_71 (by decide) ?_
                refine g_goto (tgt := 76) C dX6_judge_72 (by decide) ?_
                refine g_istore_n C dX6_judge_76 (by decide) ?_
                first | exact j77 hj _ _ true (by simp only [anyN]; rw [← hq]; first | (simp [h58]; done) | simp [show Ov τ i j = true from h68]) hw he | exact j77 hj _ _ false (by simp only [anyN]; rw [← hq]; simp [h58, show Ov τ i j = false from h68]) hw he
              · refine g_aload_n C dX6_judge_61 rfl ?_
                refine g_iload_n C dX6_judge_62 rfl ?_
                refine g_iload C dX6_judge_63 rfl ?_
                refine g_callVr 0 C (cr_X6_isOver hW1 (by omega) (by omega)) mw_X6_isOver ml_X6_129 rfl rfl rfl rfl (Nat.le_of_ble_eq_true rfl) dX6_judge_65 ⟨Nat.le_of_ble_eq_true rfl, Nat.le_of_ble_eq_true rfl⟩ ⟨Nat.le_of_ble_eq_true rfl, Nat.le_of_ble_eq_true rfl⟩ ?_
                refine g_ifb_eq (tgt := 75) C dX6_judge_68 (by decide) (fun h68 => ?_) (fun h68 => ?_)
                · refine g_iconst (v := 0) C dX6_judge_75 (by decide) ?_
                  refine g_istore_n C dX6_judge_76 (by decide) ?_
                  first | exact j77 hj _ _ true (by simp only [anyN]; rw [← hq]; first | (simp [h58]; done) | simp [show Ov τ i j = true from h68]) hw he | exact j77 hj _ _ false (by simp only [anyN]; rw [← hq]; simp [h58, show Ov τ i j = false from h68]) hw he
                · refine g_iconst (v := 1) C dX6_judge_71 (by decide) ?_
                  refine g_goto (tgt := 76) C dX6_judge_72 (by decide) ?_
                  refine g_istore_n C dX6_judge_76 (by decide) ?_
                  first | exact j77 hj _ _ true (by simp only [anyN]; rw [← hq]; first | (simp [h58]; done) | simp [show Ov τ i j = true from h68]) hw he | exact j77 hj _ _ false (by simp only [anyN]; rw [← hq]; simp [h58, show Ov τ i j = false from h68]) hw he
            obtain ⟨A1, B1, C1, rfl, hA⟩ := id hw
            have hW1 : W0 (lgS τ A1 B1 C1 (nI (jdO τ t i ++ innL τ i j).length)) := hW
            refine g_iload C dX6_judge_30 rfl ?_
            refine g_aload_n C dX6_judge_32 rfl ?_
            refine gn_X6_70 C (v := nI (nM τ)) (w0_m hW) dX6_judge_33 ?_
            refine g_icmpN_ge (tgt := 129) C (by omega) (by omega) dX6_judge_36 (by decide) (fun h36 => ?_) (fun h36 => ?_)
            · obtain rfl : j = nM τ := (by omega); exact (j129 _ q hq hw).weak (by simp [lvle, lst])
            · refine g_aload_n C dX6_judge_39 rfl ?_
              have hj : j < nM τ := ‹_›
              have hof_j := w0_ofl hW hj
              refine g_iload_n C dX6_judge_40 rfl ?_
              refine g_iload C dX6_judge_41 rfl ?_
              refine g_callVr 0 C (cr_X6_isMixed hW1 (x := i) (o := j) hi hj) mw_X6_isMixed ml_X6_157 rfl rfl rfl rfl (Nat.le_of_ble_eq_true rfl) dX6_judge_43 ⟨Nat.le_of_ble_eq_true rfl, Nat.le_of_ble_eq_true rfl⟩ ⟨Nat.le_of_ble_eq_true rfl, Nat.le_of_ble_eq_true rfl⟩ ?_
              refine g_ifb_eq (tgt := 57) C dX6_judge_46 (by decide) (fun h46 => ?_) (fun h46 => ?_)
              · first | exact j57 hj _ _ hv (by have hK : Mix τ i j = true := h46; simp only [innL, pairL, hK, ↓reduceIte, List.append_assoc]) | exact j57 hj _ _ hw (by have hK : Mix τ i j = false := h46; simp only [innL, pairL, hK, Bool.false_eq_true, ↓reduceIte, List.append_assoc, List.nil_append])
              · refine g_aload_n C dX6_judge_49 rfl ?_
                refine g_iconst (v := 1) C dX6_judge_50 (by decide) ?_
                refine g_iload_n C dX6_judge_51 rfl ?_
                refine g_iload C dX6_judge_52 rfl ?_
                refine g_callV 0 C (ct_X6_note hw (by have hK : Mix τ i j = true := h46; have hI := hIn hj; simp only [innL, pairL, hK, ↓reduceIte, List.length_append, List.length_cons, List.length_nil] at hI ⊢; omega)) mw_X6_note ml_X6_147 rfl rfl rfl rfl (Nat.le_of_ble_eq_true rfl) dX6_judge_54 ⟨Nat.le_of_ble_eq_true rfl, Nat.le_of_ble_eq_true rfl⟩ ⟨Nat.le_of_ble_eq_true rfl, Nat.le_of_ble_eq_true rfl⟩ ?_
                intro r v hv
                obtain ⟨rfl, hv⟩ := hv
                first | exact j57 hj _ _ hv (by have hK : Mix τ i j = true := h46; simp only [innL, pairL, hK, ↓reduceIte, List.append_assoc]) | exact j57 hj _ _ hw (by have hK : Mix τ i j = false := h46; simp only [innL, pairL, hK, Bool.false_eq_true, ↓reduceIte, List.append_assoc, List.nil_append])
        exact inner (nM τ + 1) 0 w0 false (by omega) (by omega) rfl (by simpa [innL] using hw0)
      obtain ⟨A1, B1, C1, rfl, hA⟩ := id hw
      have hW1 : W0 (lgS τ A1 B1 C1 (nI (jdO τ t i).length)) := hW
      refine g_iload_n C dX6_judge_7 rfl ?_
      refine g_aload_n C dX6_judge_8 rfl ?_
      refine gn_X6_70 C (v := nI (nM τ)) (w0_m hW) dX6_judge_9 ?_
      refine g_icmpN_ge (tgt := 185) C (by omega) (by omega) dX6_judge_12 (by decide) (fun h12 => ?_) (fun h12 => ?_)
      · refine g_iconstN 0 C dX6_judge_185 (by decide) ?_
        refine g_istore_n C dX6_judge_186 (by decide) ?_
        obtain rfl : i = nM τ := (by omega); exact (j187 _ hw).weak (by simp [lvle, lst])
      · refine g_aload_n C dX6_judge_15 rfl ?_
        have hi : i < nM τ := ‹_›
        have hof_i := w0_ofl hW hi
        refine gf_X6_35 C dX6_judge_16 ?_
        refine g_iload_n C dX6_judge_19 rfl ?_
        refine gM_lv9 C (by omega) (v := nI (Of τ _)) (w0_of hW (by omega)) dX6_judge_20 ?_
        refine g_iload_n C dX6_judge_21 rfl ?_
        refine g_icmpN_ne (tgt := 179) C (by omega) (by omega) dX6_judge_22 (by decide) (fun h22 => ?_) (fun h22 => ?_)
        · exact (j179 hi _ (by simp only [jdO, ownL]; rw [if_neg ‹_›, List.append_nil]; exact hw)).weak (by simp [lvle, lst])
        · refine g_iconst (v := 0) C dX6_judge_25 (by decide) ?_
          refine g_istore_n C dX6_judge_26 (by decide) ?_
          refine g_iconstN 0 C dX6_judge_27 (by decide) ?_
          refine g_istore C dX6_judge_28 (by decide) ?_
          exact own hi ‹_› _ hw
  refine g_aload_n C dX6_judge_0 rfl ?_
  refine g_iconst (v := 0) C dX6_judge_1 (by decide) ?_
  refine gp_X6_144 C dX6_judge_2 ?_
  refine g_iconstN 0 C dX6_judge_5 (by decide) ?_
  refine g_istore_n C dX6_judge_6 (by decide) ?_
  exact loop1 (nM τ + 1) 0 _ (by omega) (by omega) Lg_nil

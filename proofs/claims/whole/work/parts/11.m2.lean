/-! ===== the reference: loops that only read ===== -/
def GoX (τ : St) (x o z : Nat) : Bool := decide (τ 10 z = τ 10 x) && Bel τ (Of τ z) (Of τ o) && Bel τ (Of τ x) (Of τ z) && Ov τ x z && Ov τ z o
def GoB (τ : St) (x o : Nat) : Bool := Ifc τ o || Seen τ x o || anyN (nM τ) (GoX τ x o)
def LasX (τ : St) (t o z : Nat) : Bool := decide (τ 10 z = τ 10 o) && Pln τ z && Ifc τ z && Bel τ t (Of τ z) && Bel τ (Of τ z) (Of τ o)
def LasB (τ : St) (t o : Nat) : Bool := !anyN (nM τ) (LasX τ t o)
set_option maxRecDepth 100000 in
set_option maxHeartbeats 4000000 in
theorem cr_X6_goesOver {l : Launch} {D : va_G} {cI cZ : ClassId} {b : Nat → Nat} {τ : St} (hW : W0 τ) {x o : Nat} (hx : x < nM τ) (ho : o < nM τ) : Cr l yX6_goesOver cX6_goesOver 4 (some .boolean) 3 65 D cI cZ (pM b cI cZ) [.ref (b 0), .int (nI x), .int (nI o)] τ (b2i (GoB τ x o)) := by
  refine Ct.of 1 (by decide) (by simp [Value.category]) (Nat.le_of_ble_eq_true rfl) ?_
  intro p e s m below meth c C
  have hTl := w0_tl hW
  have hMl := w0_ml hW
  have hof_x := w0_ofl hW hx
  have hof_o := w0_ofl hW ho
  have loop : ∀ (n i : Nat), i ≤ nM τ → nM τ + 1 ≤ i + n → (∀ z, z < i → GoX τ x o z = false) → Ifc τ o = false → Seen τ x o = false → G p l e (rmo 3 65) s m ([.ref (b 0), .int (nI x), .int (nI o)] : List Value).toArray below meth c D (va_A (pM b cI cZ τ) s.heap.size) 0 0 (Qe below ([.ref (b 0), .int (nI x), .int (nI o)] : List Value).toArray s D (pM b cI cZ) τ (fun r u => r = some (.int (b2i (GoB τ x o))) ∧ u = τ)) 4 (pM b cI cZ τ) 21 [some (.ref (b 0)), some (.int (nI x)), some (.int (nI o)), some (.int (nI i))] [] := by
    intro n
    induction n with
    | zero => intro i h1 h2; omega
    | succ n ih =>
      intro i h1 h2 hF hI hS
      refine g_iload_n C dX6_goesOver_21 rfl ?_
      refine g_aload_n C dX6_goesOver_22 rfl ?_
      refine gn_X6_70 C (w0_m hW) dX6_goesOver_23 ?_
      refine g_icmpN_ge (tgt := 118) C (by omega) (by omega) dX6_goesOver_26 (by decide) (fun h26 => ?_) (fun h26 => ?_)
      · refine g_iconst (v := 0) C dX6_goesOver_118 (by decide) ?_
        exact g_zret C dX6_goesOver_119 nar_0 ⟨rt_f (by rw [GoB, hI, hS, anyN_f (fun z hz => hF z (by omega))]; rfl), rfl⟩
      · refine g_aload_n C dX6_goesOver_29 rfl ?_
        have hi := ‹i < nM τ›
        have hof_i := w0_ofl hW hi
        refine gf_X6_38 C dX6_goesOver_30 ?_
        refine g_iload_n C dX6_goesOver_33 rfl ?_
        refine gM_ln10 C (by omega) dX6_goesOver_34 ?_
        refine g_aload_n C dX6_goesOver_35 rfl ?_
        refine gf_X6_38 C dX6_goesOver_36 ?_
        refine g_iload_n C dX6_goesOver_39 rfl ?_
        refine gM_ln10 C (by omega) dX6_goesOver_40 ?_
        refine g_icmp_ne (tgt := 112) C dX6_goesOver_41 (by decide) (fun h41 => ?_) (fun h41 => ?_)
        · refine g_iincN C dX6_goesOver_112 rfl (by decide) ?_
          refine g_goto (tgt := 21) C dX6_goesOver_115 (by decide) ?_
          exact ih (i + 1) (by omega) (by omega) (fun z hz => by rcases Nat.lt_or_eq_of_le (Nat.le_of_lt_succ hz) with q | rfl <;> first | exact hF z q | simp_all [GoX, Ov]) hI hS
        · refine g_aload_n C dX6_goesOver_44 rfl ?_
          refine g_aload_n C dX6_goesOver_45 rfl ?_
          refine gf_X6_35 C dX6_goesOver_46 ?_
          refine g_iload_n C dX6_goesOver_49 rfl ?_
          refine gM_lv9 C (by omega) (w0_of hW (by omega)) dX6_goesOver_50 ?_
          refine g_aload_n C dX6_goesOver_51 rfl ?_
          refine gf_X6_35 C dX6_goesOver_52 ?_
          refine g_iload_n C dX6_goesOver_55 rfl ?_
          refine gM_lv9 C (by omega) (w0_of hW (by omega)) dX6_goesOver_56 ?_
          refine g_callVr 0 C (cr_X6_isBelow hW (by omega) (by omega)) mw_X6_isBelow ml_X6_90 rfl rfl rfl rfl (Nat.le_of_ble_eq_true rfl) dX6_goesOver_57 ⟨Nat.le_of_ble_eq_true rfl, Nat.le_of_ble_eq_true rfl⟩ ⟨Nat.le_of_ble_eq_true rfl, Nat.le_of_ble_eq_true rfl⟩ ?_
          refine g_ifb_eq (tgt := 112) C dX6_goesOver_60 (by decide) (fun h60 => ?_) (fun h60 => ?_)
          · refine g_iincN C dX6_goesOver_112 rfl (by decide) ?_
            refine g_goto (tgt := 21) C dX6_goesOver_115 (by decide) ?_
            exact ih (i + 1) (by omega) (by omega) (fun z hz => by rcases Nat.lt_or_eq_of_le (Nat.le_of_lt_succ hz) with q | rfl <;> first | exact hF z q | simp_all [GoX, Ov]) hI hS
          · refine g_aload_n C dX6_goesOver_63 rfl ?_
            refine g_aload_n C dX6_goesOver_64 rfl ?_
            refine gf_X6_35 C dX6_goesOver_65 ?_
            refine g_iload_n C dX6_goesOver_68 rfl ?_
            refine gM_lv9 C (by omega) (w0_of hW (by omega)) dX6_goesOver_69 ?_
            refine g_aload_n C dX6_goesOver_70 rfl ?_
            refine gf_X6_35 C dX6_goesOver_71 ?_
            refine g_iload_n C dX6_goesOver_74 rfl ?_
            refine gM_lv9 C (by omega) (w0_of hW (by omega)) dX6_goesOver_75 ?_
            refine g_callVr 0 C (cr_X6_isBelow hW (by omega) (by omega)) mw_X6_isBelow ml_X6_90 rfl rfl rfl rfl (Nat.le_of_ble_eq_true rfl) dX6_goesOver_76 ⟨Nat.le_of_ble_eq_true rfl, Nat.le_of_ble_eq_true rfl⟩ ⟨Nat.le_of_ble_eq_true rfl, Nat.le_of_ble_eq_true rfl⟩ ?_
            refine g_ifb_eq (tgt := 112) C dX6_goesOver_79 (by decide) (fun h79 => ?_) (fun h79 => ?_)
            · refine g_iincN C dX6_goesOver_112 rfl (by decide) ?_
              refine g_goto (tgt := 21) C dX6_goesOver_115 (by decide) ?_
              exact ih (i + 1) (by omega) (by omega) (fun z hz => by rcases Nat.lt_or_eq_of_le (Nat.le_of_lt_succ hz) with q | rfl <;> first | exact hF z q | simp_all [GoX, Ov]) hI hS
            · refine g_aload_n C dX6_goesOver_82 rfl ?_
              refine gf_X6_50 C dX6_goesOver_83 ?_
              refine g_bipushN 60 C dX6_goesOver_86 (by decide) ?_
              refine g_iload_n C dX6_goesOver_88 rfl ?_
              refine g_imulN C dX6_goesOver_89 ?_
              refine g_iload_n C dX6_goesOver_90 rfl ?_
              refine g_iaddN C dX6_goesOver_91 ?_
              refine gM_lv14 C (by omega) (w0_b14 hW _) dX6_goesOver_92 ?_
              refine g_ifb_eq (tgt := 112) C dX6_goesOver_93 (by decide) (fun h93 => ?_) (fun h93 => ?_)
              · refine g_iincN C dX6_goesOver_112 rfl (by decide) ?_
                refine g_goto (tgt := 21) C dX6_goesOver_115 (by decide) ?_
                exact ih (i + 1) (by omega) (by omega) (fun z hz => by rcases Nat.lt_or_eq_of_le (Nat.le_of_lt_succ hz) with q | rfl <;> first | exact hF z q | simp_all [GoX, Ov]) hI hS
              · refine g_aload_n C dX6_goesOver_96 rfl ?_
                refine gf_X6_50 C dX6_goesOver_97 ?_
                refine g_bipushN 60 C dX6_goesOver_100 (by decide) ?_
                refine g_iload_n C dX6_goesOver_102 rfl ?_
                refine g_imulN C dX6_goesOver_103 ?_
                refine g_iload_n C dX6_goesOver_104 rfl ?_
                refine g_iaddN C dX6_goesOver_105 ?_
                refine gM_lv14 C (by omega) (w0_b14 hW _) dX6_goesOver_106 ?_
                refine g_ifb_eq (tgt := 112) C dX6_goesOver_107 (by decide) (fun h107 => ?_) (fun h107 => ?_)
                · refine g_iincN C dX6_goesOver_112 rfl (by decide) ?_
                  refine g_goto (tgt := 21) C dX6_goesOver_115 (by decide) ?_
                  exact ih (i + 1) (by omega) (by omega) (fun z hz => by rcases Nat.lt_or_eq_of_le (Nat.le_of_lt_succ hz) with q | rfl <;> first | exact hF z q | simp_all [GoX, Ov]) hI hS
                · refine g_iconst (v := 1) C dX6_goesOver_110 (by decide) ?_
                  exact g_zret C dX6_goesOver_111 nar_1 ⟨rt_t (by rw [GoB, anyN_t (x := i) (by omega) (by simp_all [GoX, Ov])]; simp), rfl⟩
  refine g_aload_n C dX6_goesOver_0 rfl ?_
  refine g_iload_n C dX6_goesOver_1 rfl ?_
  refine g_callVr 0 C (cr_X6_isInterface hW (by omega)) mw_X6_isInterface ml_X6_110 rfl rfl rfl rfl (Nat.le_of_ble_eq_true rfl) dX6_goesOver_2 ⟨Nat.le_of_ble_eq_true rfl, Nat.le_of_ble_eq_true rfl⟩ ⟨Nat.le_of_ble_eq_true rfl, Nat.le_of_ble_eq_true rfl⟩ ?_
  refine g_ifb_ne (tgt := 17) C dX6_goesOver_5 (by decide) (fun h5 => ?_) (fun h5 => ?_)
  · refine g_iconst (v := 1) C dX6_goesOver_17 (by decide) ?_
    exact g_zret C dX6_goesOver_18 nar_1 ⟨rt_t (by simp [GoB, *]), rfl⟩
  · refine g_aload_n C dX6_goesOver_8 rfl ?_
    refine g_iload_n C dX6_goesOver_9 rfl ?_
    refine g_iload_n C dX6_goesOver_10 rfl ?_
    refine g_callVr 0 C (cr_X6_isSeen hW (by omega) (by omega)) mw_X6_isSeen ml_X6_126 rfl rfl rfl rfl (Nat.le_of_ble_eq_true rfl) dX6_goesOver_11 ⟨Nat.le_of_ble_eq_true rfl, Nat.le_of_ble_eq_true rfl⟩ ⟨Nat.le_of_ble_eq_true rfl, Nat.le_of_ble_eq_true rfl⟩ ?_
    refine g_ifb_eq (tgt := 19) C dX6_goesOver_14 (by decide) (fun h14 => ?_) (fun h14 => ?_)
    · refine g_iconstN 0 C dX6_goesOver_19 (by decide) ?_
      refine g_istore_n C dX6_goesOver_20 (by decide) ?_
      exact loop (nM τ + 1) 0 (by omega) (by omega) (fun z hz => by omega) h5 h14
    · refine g_iconst (v := 1) C dX6_goesOver_17 (by decide) ?_
      exact g_zret C dX6_goesOver_18 nar_1 ⟨rt_t (by simp [GoB, *]), rfl⟩
set_option maxRecDepth 100000 in
set_option maxHeartbeats 4000000 in
theorem cr_X6_isLast {l : Launch} {D : va_G} {cI cZ : ClassId} {b : Nat → Nat} {τ : St} (hW : W0 τ) {t o : Nat} (ht : t < 16) (ho : o < nM τ) : Cr l yX6_isLast cX6_isLast 4 (some .boolean) 3 64 D cI cZ (pM b cI cZ) [.ref (b 0), .int (nI t), .int (nI o)] τ (b2i (LasB τ t o)) := by
  refine Ct.of 1 (by decide) (by simp [Value.category]) (Nat.le_of_ble_eq_true rfl) ?_
  intro p e s m below meth c C
  have hTl := w0_tl hW
  have hMl := w0_ml hW
  have hof_o := w0_ofl hW ho
  have loop : ∀ (n i : Nat), i ≤ nM τ → nM τ + 1 ≤ i + n → (∀ z, z < i → LasX τ t o z = false) → G p l e (rmo 3 64) s m ([.ref (b 0), .int (nI t), .int (nI o)] : List Value).toArray below meth c D (va_A (pM b cI cZ τ) s.heap.size) 0 0 (Qe below ([.ref (b 0), .int (nI t), .int (nI o)] : List Value).toArray s D (pM b cI cZ) τ (fun r u => r = some (.int (b2i (LasB τ t o))) ∧ u = τ)) 4 (pM b cI cZ τ) 2 [some (.ref (b 0)), some (.int (nI t)), some (.int (nI o)), some (.int (nI i))] [] := by
    intro n
    induction n with
    | zero => intro i h1 h2; omega
    | succ n ih =>
      intro i h1 h2 hF
      refine g_iload_n C dX6_isLast_2 rfl ?_
      refine g_aload_n C dX6_isLast_3 rfl ?_
      refine gn_X6_70 C (w0_m hW) dX6_isLast_4 ?_
      refine g_icmpN_ge (tgt := 82) C (by omega) (by omega) dX6_isLast_7 (by decide) (fun h7 => ?_) (fun h7 => ?_)
      · refine g_iconst (v := 1) C dX6_isLast_82 (by decide) ?_
        exact g_zret C dX6_isLast_83 nar_1 ⟨rt_t (by rw [LasB, anyN_f (fun z hz => hF z (by omega))]; rfl), rfl⟩
      · refine g_aload_n C dX6_isLast_10 rfl ?_
        have hi := ‹i < nM τ›
        have hof_i := w0_ofl hW hi
        refine gf_X6_38 C dX6_isLast_11 ?_
        refine g_iload_n C dX6_isLast_14 rfl ?_
        refine gM_ln10 C (by omega) dX6_isLast_15 ?_
        refine g_aload_n C dX6_isLast_16 rfl ?_
        refine gf_X6_38 C dX6_isLast_17 ?_
        refine g_iload_n C dX6_isLast_20 rfl ?_
        refine gM_ln10 C (by omega) dX6_isLast_21 ?_
        refine g_icmp_ne (tgt := 76) C dX6_isLast_22 (by decide) (fun h22 => ?_) (fun h22 => ?_)
        · refine g_iincN C dX6_isLast_76 rfl (by decide) ?_
          refine g_goto (tgt := 2) C dX6_isLast_79 (by decide) ?_
          exact ih (i + 1) (by omega) (by omega) (fun z hz => by rcases Nat.lt_or_eq_of_le (Nat.le_of_lt_succ hz) with q | rfl <;> first | exact hF z q | simp [LasX, *])
        · refine g_aload_n C dX6_isLast_25 rfl ?_
          refine g_iload_n C dX6_isLast_26 rfl ?_
          refine g_callVr 0 C (cr_X6_isPlain (by omega)) mw_X6_isPlain ml_X6_135 rfl rfl rfl rfl (Nat.le_of_ble_eq_true rfl) dX6_isLast_27 ⟨Nat.le_of_ble_eq_true rfl, Nat.le_of_ble_eq_true rfl⟩ ⟨Nat.le_of_ble_eq_true rfl, Nat.le_of_ble_eq_true rfl⟩ ?_
          refine g_ifb_eq (tgt := 76) C dX6_isLast_30 (by decide) (fun h30 => ?_) (fun h30 => ?_)
          · refine g_iincN C dX6_isLast_76 rfl (by decide) ?_
            refine g_goto (tgt := 2) C dX6_isLast_79 (by decide) ?_
            exact ih (i + 1) (by omega) (by omega) (fun z hz => by rcases Nat.lt_or_eq_of_le (Nat.le_of_lt_succ hz) with q | rfl <;> first | exact hF z q | simp [LasX, *])
          · refine g_aload_n C dX6_isLast_33 rfl ?_
            refine g_iload_n C dX6_isLast_34 rfl ?_
            refine g_callVr 0 C (cr_X6_isInterface hW (by omega)) mw_X6_isInterface ml_X6_110 rfl rfl rfl rfl (Nat.le_of_ble_eq_true rfl) dX6_isLast_35 ⟨Nat.le_of_ble_eq_true rfl, Nat.le_of_ble_eq_true rfl⟩ ⟨Nat.le_of_ble_eq_true rfl, Nat.le_of_ble_eq_true rfl⟩ ?_
            refine g_ifb_eq (tgt := 76) C dX6_isLast_38 (by decide) (fun h38 => ?_) (fun h38 => ?_)
            · refine g_iincN C dX6_isLast_76 rfl (by decide) ?_
              refine g_goto (tgt := 2) C dX6_isLast_79 (by decide) ?_
              exact ih (i + 1) (by omega) (by omega) (fun z hz => by rcases Nat.lt_or_eq_of_le (Nat.le_of_lt_succ hz) with q | rfl <;> first | exact hF z q | simp [LasX, *])
            · refine g_aload_n C dX6_isLast_41 rfl ?_
              refine g_iload_n C dX6_isLast_42 rfl ?_
              refine g_aload_n C dX6_isLast_43 rfl ?_
              refine gf_X6_35 C dX6_isLast_44 ?_
              refine g_iload_n C dX6_isLast_47 rfl ?_
              refine gM_lv9 C (by omega) (w0_of hW (by omega)) dX6_isLast_48 ?_
              refine g_callVr 0 C (cr_X6_isBelow hW (by omega) (by omega)) mw_X6_isBelow ml_X6_90 rfl rfl rfl rfl (Nat.le_of_ble_eq_true rfl) dX6_isLast_49 ⟨Nat.le_of_ble_eq_true rfl, Nat.le_of_ble_eq_true rfl⟩ ⟨Nat.le_of_ble_eq_true rfl, Nat.le_of_ble_eq_true rfl⟩ ?_
              refine g_ifb_eq (tgt := 76) C dX6_isLast_52 (by decide) (fun h52 => ?_) (fun h52 => ?_)
              · refine g_iincN C dX6_isLast_76 rfl (by decide) ?_
                refine g_goto (tgt := 2) C dX6_isLast_79 (by decide) ?_
                exact ih (i + 1) (by omega) (by omega) (fun z hz => by rcases Nat.lt_or_eq_of_le (Nat.le_of_lt_succ hz) with q | rfl <;> first | exact hF z q | simp [LasX, *])
              · refine g_aload_n C dX6_isLast_55 rfl ?_
                refine g_aload_n C dX6_isLast_56 rfl ?_
                refine gf_X6_35 C dX6_isLast_57 ?_
                refine g_iload_n C dX6_isLast_60 rfl ?_
                refine gM_lv9 C (by omega) (w0_of hW (by omega)) dX6_isLast_61 ?_
                refine g_aload_n C dX6_isLast_62 rfl ?_
                refine gf_X6_35 C dX6_isLast_63 ?_
                refine g_iload_n C dX6_isLast_66 rfl ?_
                refine gM_lv9 C (by omega) (w0_of hW (by omega)) dX6_isLast_67 ?_
                refine g_callVr 0 C (cr_X6_isBelow hW (by omega) (by omega)) mw_X6_isBelow ml_X6_90 rfl rfl rfl rfl (Nat.le_of_ble_eq_true rfl) dX6_isLast_68 ⟨Nat.le_of_ble_eq_true rfl, Nat.le_of_ble_eq_true rfl⟩ ⟨Nat.le_of_ble_eq_true rfl, Nat.le_of_ble_eq_true rfl⟩ ?_
                refine g_ifb_eq (tgt := 76) C dX6_isLast_71 (by decide) (fun h71 => ?_) (fun h71 => ?_)
                · refine g_iincN C dX6_isLast_76 rfl (by decide) ?_
                  refine g_goto (tgt := 2) C dX6_isLast_79 (by decide) ?_
                  exact ih (i + 1) (by omega) (by omega) (fun z hz => by rcases Nat.lt_or_eq_of_le (Nat.le_of_lt_succ hz) with q | rfl <;> first | exact hF z q | simp [LasX, *])
                · refine g_iconst (v := 0) C dX6_isLast_74 (by decide) ?_
                  exact g_zret C dX6_isLast_75 nar_0 ⟨rt_f (by rw [LasB, anyN_t (x := i) (by omega) (by simp [LasX, *])]; simp), rfl⟩
  refine g_iconstN 0 C dX6_isLast_0 (by decide) ?_
  refine g_istore_n C dX6_isLast_1 (by decide) ?_
  exact loop (nM τ + 1) 0 (by omega) (by omega) (fun z hz => by omega)

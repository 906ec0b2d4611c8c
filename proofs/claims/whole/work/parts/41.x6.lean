/-! ===== the class: the walk over the faults ===== -/
set_option maxRecDepth 100000 in
set_option maxHeartbeats 4000000 in
theorem ct_X1_walkOwn {l : Launch} {D : va_G} {cI cZ : ClassId} {b : Nat → Nat} {τ σ : St} (hI : Inv τ σ) {w : Int32} {L : List Ft} (hL : L.length + 300 < 100000) {x : Nat} (hx : x < nM τ) : Ct l yX1_walkOwn cX1_walkOwn 5 none 3 73 D cI cZ (pX b cI cZ) [.ref (b 17), .int (nI x)] (fL σ w L) (fun r v => r = none ∧ v = fL σ w (L ++ ownL τ (Of τ x) x)) := by
  refine Ct.of 3 (by decide) (by simp [Value.category]) (Nat.le_of_ble_eq_true rfl) ?_
  intro p e s m below meth c C
  have hTl := w0_tl (iW hI)
  have hMl := w0_ml (iW hI)
  have hXl := w0_xl (iW hI)
  have hof_x := w0_ofl (iW hI) hx
  have hI1 : ∀ {L2 : List Ft}, Inv τ (fL σ w L2) := hI
  have j103 : ∀ (q : Bool), q = anyN (nM τ) (Ov τ x) → G p l e (rmo 3 73) s m ([.ref (b 17), .int (nI x)] : List Value).toArray below meth c D (va_A (pX b cI cZ (fL σ w L)) s.heap.size) 0 0 (Qe below ([.ref (b 17), .int (nI x)] : List Value).toArray s D (pX b cI cZ) (fL σ w L) (fun r v => r = none ∧ v = fL σ w (L ++ ownL τ (Of τ x) x))) 5 (pX b cI cZ (fL σ w (L ++ innL τ x (nM τ)))) 103 [some (.ref (b 17)), some (.int (nI x)), some (.int (b2i q)), none, none] [] := by
    intro q hq
    have hlen := innL_len hI hx (nM τ) (Nat.le_refl _)
    refine g_aload_n C dX1_walkOwn_103 rfl ?_
    refine g_aload_n C dX1_walkOwn_104 rfl ?_
    refine gf_X1_35 C dX1_walkOwn_105 ?_
    refine g_iload_n C dX1_walkOwn_108 rfl ?_
    refine g_sipush (v := 128) C dX1_walkOwn_109 (by decide) ?_
    refine g_callVr 9 C (cr_X2_hasMark hI1 (by assumption)) mw_X2_hasMark ml_X1_84 rfl rfl rfl rfl (Nat.le_of_ble_eq_true rfl) dX1_walkOwn_112 ⟨Nat.le_of_ble_eq_true rfl, Nat.le_of_ble_eq_true rfl⟩ ⟨Nat.le_of_ble_eq_true rfl, Nat.le_of_ble_eq_true rfl⟩ ?_
    refine g_ifb_eq (tgt := 126) C dX1_walkOwn_115 (by decide) (fun h115 => ?_) (fun h115 => ?_)
    · refine g_iconst (v := 0) C dX1_walkOwn_126 (by decide) ?_
      refine g_bipush (v := 6) C dX1_walkOwn_127 (by decide) ?_
      refine g_iload_n C dX1_walkOwn_129 rfl ?_
      refine g_iconst (v := -1) C dX1_walkOwn_130 (by decide) ?_
      refine g_callV 17 C (ct_X1_noteIf (q := false) (by first | omega | (simp only [List.length_append, cond_true, cond_false, List.length_cons, List.length_nil]; omega))) mw_X1_noteIf ml_X1_77 rfl rfl rfl rfl (Nat.le_of_ble_eq_true rfl) dX1_walkOwn_131 ⟨Nat.le_of_ble_eq_true rfl, Nat.le_of_ble_eq_true rfl⟩ ⟨Nat.le_of_ble_eq_true rfl, Nat.le_of_ble_eq_true rfl⟩ ?_
      intro r v hv
      obtain ⟨rfl, rfl⟩ := hv
      refine g_aload_n C dX1_walkOwn_134 rfl ?_
      refine g_aload_n C dX1_walkOwn_135 rfl ?_
      refine gf_X1_35 C dX1_walkOwn_136 ?_
      refine g_iload_n C dX1_walkOwn_139 rfl ?_
      refine g_bipush (v := 32) C dX1_walkOwn_140 (by decide) ?_
      refine g_callVr 9 C (cr_X2_hasMark hI1 (by assumption)) mw_X2_hasMark ml_X1_84 rfl rfl rfl rfl (Nat.le_of_ble_eq_true rfl) dX1_walkOwn_142 ⟨Nat.le_of_ble_eq_true rfl, Nat.le_of_ble_eq_true rfl⟩ ⟨Nat.le_of_ble_eq_true rfl, Nat.le_of_ble_eq_true rfl⟩ ?_
      refine g_ifb_eq (tgt := 170) C dX1_walkOwn_145 (by decide) (fun h145 => ?_) (fun h145 => ?_)
      · refine g_iconst (v := 0) C dX1_walkOwn_170 (by decide) ?_
        refine g_bipush (v := 7) C dX1_walkOwn_171 (by decide) ?_
        refine g_iload_n C dX1_walkOwn_173 rfl ?_
        refine g_iconst (v := -1) C dX1_walkOwn_174 (by decide) ?_
        refine g_callV 17 C (ct_X1_noteIf (q := false) (by first | omega | (simp only [List.length_append, cond_true, cond_false, List.length_cons, List.length_nil]; omega))) mw_X1_noteIf ml_X1_77 rfl rfl rfl rfl (Nat.le_of_ble_eq_true rfl) dX1_walkOwn_175 ⟨Nat.le_of_ble_eq_true rfl, Nat.le_of_ble_eq_true rfl⟩ ⟨Nat.le_of_ble_eq_true rfl, Nat.le_of_ble_eq_true rfl⟩ ?_
        intro r v hv
        obtain ⟨rfl, rfl⟩ := hv
        exact g_vret C dX1_walkOwn_178 ⟨rfl, by rw [HX_hi (by decide)] at h115 h145; simp [ownL, show Hs τ x 128 = false from h115, show Hs τ x 32 = false from h145]⟩
      · refine g_aload_n C dX1_walkOwn_148 rfl ?_
        refine gf_X1_27 C dX1_walkOwn_149 ?_
        refine g_aload_n C dX1_walkOwn_152 rfl ?_
        refine gf_X1_35 C dX1_walkOwn_153 ?_
        refine g_iload_n C dX1_walkOwn_156 rfl ?_
        refine g_callVr 9 C (cr_X2_typeOf hI1 hx) mw_X2_typeOf ml_X1_49 rfl rfl rfl rfl (Nat.le_of_ble_eq_true rfl) dX1_walkOwn_157 ⟨Nat.le_of_ble_eq_true rfl, Nat.le_of_ble_eq_true rfl⟩ ⟨Nat.le_of_ble_eq_true rfl, Nat.le_of_ble_eq_true rfl⟩ ?_
        refine g_callVr 1 C (cr_X4_isPlainClass hI1 hof_x) mw_X4_isPlainClass ml_X1_91 rfl rfl rfl rfl (Nat.le_of_ble_eq_true rfl) dX1_walkOwn_160 ⟨Nat.le_of_ble_eq_true rfl, Nat.le_of_ble_eq_true rfl⟩ ⟨Nat.le_of_ble_eq_true rfl, Nat.le_of_ble_eq_true rfl⟩ ?_
        refine g_ifb_eq (tgt := 170) C dX1_walkOwn_163 (by decide) (fun h163 => ?_) (fun h163 => ?_)
        · refine g_iconst (v := 0) C dX1_walkOwn_170 (by decide) ?_
          refine g_bipush (v := 7) C dX1_walkOwn_171 (by decide) ?_
          refine g_iload_n C dX1_walkOwn_173 rfl ?_
          refine g_iconst (v := -1) C dX1_walkOwn_174 (by decide) ?_
          refine g_callV 17 C (ct_X1_noteIf (q := false) (by first | omega | (simp only [List.length_append, cond_true, cond_false, List.length_cons, List.length_nil]; omega))) mw_X1_noteIf ml_X1_77 rfl rfl rfl rfl (Nat.le_of_ble_eq_true rfl) dX1_walkOwn_175 ⟨Nat.le_of_ble_eq_true rfl, Nat.le_of_ble_eq_true rfl⟩ ⟨Nat.le_of_ble_eq_true rfl, Nat.le_of_ble_eq_true rfl⟩ ?_
          intro r v hv
          obtain ⟨rfl, rfl⟩ := hv
          exact g_vret C dX1_walkOwn_178 ⟨rfl, by rw [HX_hi (by decide)] at h115 h145; simp [ownL, show Hs τ x 128 = false from h115, show Hs τ x 32 = true from h145, show ¬ τ 1 (Of τ x) = 0 from of_decide_eq_false h163]⟩
        · refine g_iconst (v := 1) C dX1_walkOwn_166 (by decide) ?_
          refine g_goto (tgt := 171) C dX1_walkOwn_167 (by decide) ?_
          refine g_bipush (v := 7) C dX1_walkOwn_171 (by decide) ?_
          refine g_iload_n C dX1_walkOwn_173 rfl ?_
          refine g_iconst (v := -1) C dX1_walkOwn_174 (by decide) ?_
          refine g_callV 17 C (ct_X1_noteIf (q := true) (by first | omega | (simp only [List.length_append, cond_true, cond_false, List.length_cons, List.length_nil]; omega))) mw_X1_noteIf ml_X1_77 rfl rfl rfl rfl (Nat.le_of_ble_eq_true rfl) dX1_walkOwn_175 ⟨Nat.le_of_ble_eq_true rfl, Nat.le_of_ble_eq_true rfl⟩ ⟨Nat.le_of_ble_eq_true rfl, Nat.le_of_ble_eq_true rfl⟩ ?_
          intro r v hv
          obtain ⟨rfl, rfl⟩ := hv
          exact g_vret C dX1_walkOwn_178 ⟨rfl, by rw [HX_hi (by decide)] at h115 h145; simp [ownL, show Hs τ x 128 = false from h115, show Hs τ x 32 = true from h145, show τ 1 (Of τ x) = 0 from of_decide_eq_true h163]⟩
    · refine g_iload_n C dX1_walkOwn_118 rfl ?_
      refine g_ifb_ne (tgt := 126) C dX1_walkOwn_119 (by decide) (fun h119 => ?_) (fun h119 => ?_)
      · refine g_iconst (v := 0) C dX1_walkOwn_126 (by decide) ?_
        refine g_bipush (v := 6) C dX1_walkOwn_127 (by decide) ?_
        refine g_iload_n C dX1_walkOwn_129 rfl ?_
        refine g_iconst (v := -1) C dX1_walkOwn_130 (by decide) ?_
        refine g_callV 17 C (ct_X1_noteIf (q := false) (by first | omega | (simp only [List.length_append, cond_true, cond_false, List.length_cons, List.length_nil]; omega))) mw_X1_noteIf ml_X1_77 rfl rfl rfl rfl (Nat.le_of_ble_eq_true rfl) dX1_walkOwn_131 ⟨Nat.le_of_ble_eq_true rfl, Nat.le_of_ble_eq_true rfl⟩ ⟨Nat.le_of_ble_eq_true rfl, Nat.le_of_ble_eq_true rfl⟩ ?_
        intro r v hv
        obtain ⟨rfl, rfl⟩ := hv
        refine g_aload_n C dX1_walkOwn_134 rfl ?_
        refine g_aload_n C dX1_walkOwn_135 rfl ?_
        refine gf_X1_35 C dX1_walkOwn_136 ?_
        refine g_iload_n C dX1_walkOwn_139 rfl ?_
        refine g_bipush (v := 32) C dX1_walkOwn_140 (by decide) ?_
        refine g_callVr 9 C (cr_X2_hasMark hI1 (by assumption)) mw_X2_hasMark ml_X1_84 rfl rfl rfl rfl (Nat.le_of_ble_eq_true rfl) dX1_walkOwn_142 ⟨Nat.le_of_ble_eq_true rfl, Nat.le_of_ble_eq_true rfl⟩ ⟨Nat.le_of_ble_eq_true rfl, Nat.le_of_ble_eq_true rfl⟩ ?_
        refine g_ifb_eq (tgt := 170) C dX1_walkOwn_145 (by decide) (fun h145 => ?_) (fun h145 => ?_)
        · refine g_iconst (v := 0) C dX1_walkOwn_170 (by decide) ?_
          refine g_bipush (v := 7) C dX1_walkOwn_171 (by decide) ?_
          refine g_iload_n C dX1_walkOwn_173 rfl ?_
          refine g_iconst (v := -1) C dX1_walkOwn_174 (by decide) ?_
          refine g_callV 17 C (ct_X1_noteIf (q := false) (by first | omega | (simp only [List.length_append, cond_true, cond_false, List.length_cons, List.length_nil]; omega))) mw_X1_noteIf ml_X1_77 rfl rfl rfl rfl (Nat.le_of_ble_eq_true rfl) dX1_walkOwn_175 ⟨Nat.le_of_ble_eq_true rfl, Nat.le_of_ble_eq_true rfl⟩ ⟨Nat.le_of_ble_eq_true rfl, Nat.le_of_ble_eq_true rfl⟩ ?_
          intro r v hv
          obtain ⟨rfl, rfl⟩ := hv
          exact g_vret C dX1_walkOwn_178 ⟨rfl, by rw [HX_hi (by decide)] at h115 h145; simp [ownL, show Hs τ x 128 = true from h115, show Hs τ x 32 = false from h145, show anyN (nM τ) (Ov τ x) = true from hq.symm.trans h119]⟩
        · refine g_aload_n C dX1_walkOwn_148 rfl ?_
          refine gf_X1_27 C dX1_walkOwn_149 ?_
          refine g_aload_n C dX1_walkOwn_152 rfl ?_
          refine gf_X1_35 C dX1_walkOwn_153 ?_
          refine g_iload_n C dX1_walkOwn_156 rfl ?_
          refine g_callVr 9 C (cr_X2_typeOf hI1 hx) mw_X2_typeOf ml_X1_49 rfl rfl rfl rfl (Nat.le_of_ble_eq_true rfl) dX1_walkOwn_157 ⟨Nat.le_of_ble_eq_true rfl, Nat.le_of_ble_eq_true rfl⟩ ⟨Nat.le_of_ble_eq_true rfl, Nat.le_of_ble_eq_true rfl⟩ ?_
          refine g_callVr 1 C (cr_X4_isPlainClass hI1 hof_x) mw_X4_isPlainClass ml_X1_91 rfl rfl rfl rfl (Nat.le_of_ble_eq_true rfl) dX1_walkOwn_160 ⟨Nat.le_of_ble_eq_true rfl, Nat.le_of_ble_eq_true rfl⟩ ⟨Nat.le_of_ble_eq_true rfl, Nat.le_of_ble_eq_true rfl⟩ ?_
          refine g_ifb_eq (tgt := 170) C dX1_walkOwn_163 (by decide) (fun h163 => ?_) (fun h163 => ?_)
          · refine g_iconst (v := 0) C dX1_walkOwn_170 (by decide) ?_
            refine g_bipush (v := 7) C dX1_walkOwn_171 (by decide) ?_
            refine g_iload_n C dX1_walkOwn_173 rfl ?_
            refine g_iconst (v := -1) C dX1_walkOwn_174 (by decide) ?_
            refine g_callV 17 C (ct_X1_noteIf (q := false) (by first | omega | (simp only [List.length_append, cond_true, cond_false, List.length_cons, List.length_nil]; omega))) mw_X1_noteIf ml_X1_77 rfl rfl rfl rfl (Nat.le_of_ble_eq_true rfl) dX1_walkOwn_175 ⟨Nat.le_of_ble_eq_true rfl, Nat.le_of_ble_eq_true rfl⟩ ⟨Nat.le_of_ble_eq_true rfl, Nat.le_of_ble_eq_true rfl⟩ ?_
            intro r v hv
            obtain ⟨rfl, rfl⟩ := hv
            exact g_vret C dX1_walkOwn_178 ⟨rfl, by rw [HX_hi (by decide)] at h115 h145; simp [ownL, show Hs τ x 128 = true from h115, show Hs τ x 32 = true from h145, show anyN (nM τ) (Ov τ x) = true from hq.symm.trans h119, show ¬ τ 1 (Of τ x) = 0 from of_decide_eq_false h163]⟩
          · refine g_iconst (v := 1) C dX1_walkOwn_166 (by decide) ?_
            refine g_goto (tgt := 171) C dX1_walkOwn_167 (by decide) ?_
            refine g_bipush (v := 7) C dX1_walkOwn_171 (by decide) ?_
            refine g_iload_n C dX1_walkOwn_173 rfl ?_
            refine g_iconst (v := -1) C dX1_walkOwn_174 (by decide) ?_
            refine g_callV 17 C (ct_X1_noteIf (q := true) (by first | omega | (simp only [List.length_append, cond_true, cond_false, List.length_cons, List.length_nil]; omega))) mw_X1_noteIf ml_X1_77 rfl rfl rfl rfl (Nat.le_of_ble_eq_true rfl) dX1_walkOwn_175 ⟨Nat.le_of_ble_eq_true rfl, Nat.le_of_ble_eq_true rfl⟩ ⟨Nat.le_of_ble_eq_true rfl, Nat.le_of_ble_eq_true rfl⟩ ?_
            intro r v hv
            obtain ⟨rfl, rfl⟩ := hv
            exact g_vret C dX1_walkOwn_178 ⟨rfl, by rw [HX_hi (by decide)] at h115 h145; simp [ownL, show Hs τ x 128 = true from h115, show Hs τ x 32 = true from h145, show anyN (nM τ) (Ov τ x) = true from hq.symm.trans h119, show τ 1 (Of τ x) = 0 from of_decide_eq_true h163]⟩
      · refine g_iconst (v := 1) C dX1_walkOwn_122 (by decide) ?_
        refine g_goto (tgt := 127) C dX1_walkOwn_123 (by decide) ?_
        refine g_bipush (v := 6) C dX1_walkOwn_127 (by decide) ?_
        refine g_iload_n C dX1_walkOwn_129 rfl ?_
        refine g_iconst (v := -1) C dX1_walkOwn_130 (by decide) ?_
        refine g_callV 17 C (ct_X1_noteIf (q := true) (by first | omega | (simp only [List.length_append, cond_true, cond_false, List.length_cons, List.length_nil]; omega))) mw_X1_noteIf ml_X1_77 rfl rfl rfl rfl (Nat.le_of_ble_eq_true rfl) dX1_walkOwn_131 ⟨Nat.le_of_ble_eq_true rfl, Nat.le_of_ble_eq_true rfl⟩ ⟨Nat.le_of_ble_eq_true rfl, Nat.le_of_ble_eq_true rfl⟩ ?_
        intro r v hv
        obtain ⟨rfl, rfl⟩ := hv
        refine g_aload_n C dX1_walkOwn_134 rfl ?_
        refine g_aload_n C dX1_walkOwn_135 rfl ?_
        refine gf_X1_35 C dX1_walkOwn_136 ?_
        refine g_iload_n C dX1_walkOwn_139 rfl ?_
        refine g_bipush (v := 32) C dX1_walkOwn_140 (by decide) ?_
        refine g_callVr 9 C (cr_X2_hasMark hI1 (by assumption)) mw_X2_hasMark ml_X1_84 rfl rfl rfl rfl (Nat.le_of_ble_eq_true rfl) dX1_walkOwn_142 ⟨Nat.le_of_ble_eq_true rfl, Nat.le_of_ble_eq_true rfl⟩ ⟨Nat.le_of_ble_eq_true rfl, Nat.le_of_ble_eq_true rfl⟩ ?_
        refine g_ifb_eq (tgt := 170) C dX1_walkOwn_145 (by decide) (fun h145 => ?_) (fun h145 => ?_)
        · refine g_iconst (v := 0) C dX1_walkOwn_170 (by decide) ?_
          refine g_bipush (v := 7) C dX1_walkOwn_171 (by decide) ?_
          refine g_iload_n C dX1_walkOwn_173 rfl ?_
          refine g_iconst (v := -1) C dX1_walkOwn_174 (by decide) ?_
          refine g_callV 17 C (ct_X1_noteIf (q := false) (by first | omega | (simp only [List.length_append, cond_true, cond_false, List.length_cons, List.length_nil]; omega))) mw_X1_noteIf ml_X1_77 rfl rfl rfl rfl (Nat.le_of_ble_eq_true rfl) dX1_walkOwn_175 ⟨Nat.le_of_ble_eq_true rfl, Nat.le_of_ble_eq_true rfl⟩ ⟨Nat.le_of_ble_eq_true rfl, Nat.le_of_ble_eq_true rfl⟩ ?_
          intro r v hv
          obtain ⟨rfl, rfl⟩ := hv
          exact g_vret C dX1_walkOwn_178 ⟨rfl, by rw [HX_hi (by decide)] at h115 h145; simp [ownL, show Hs τ x 128 = true from h115, show Hs τ x 32 = false from h145, show anyN (nM τ) (Ov τ x) = false from hq.symm.trans h119]⟩
        · refine g_aload_n C dX1_walkOwn_148 rfl ?_
          refine gf_X1_27 C dX1_walkOwn_149 ?_
          refine g_aload_n C dX1_walkOwn_152 rfl ?_
          refine gf_X1_35 C dX1_walkOwn_153 ?_
          refine g_iload_n C dX1_walkOwn_156 rfl ?_
          refine g_callVr 9 C (cr_X2_typeOf hI1 hx) mw_X2_typeOf ml_X1_49 rfl rfl rfl rfl (Nat.le_of_ble_eq_true rfl) dX1_walkOwn_157 ⟨Nat.le_of_ble_eq_true rfl, Nat.le_of_ble_eq_true rfl⟩ ⟨Nat.le_of_ble_eq_true rfl, Nat.le_of_ble_eq_true rfl⟩ ?_
          refine g_callVr 1 C (cr_X4_isPlainClass hI1 hof_x) mw_X4_isPlainClass ml_X1_91 rfl rfl rfl rfl (Nat.le_of_ble_eq_true rfl) dX1_walkOwn_160 ⟨Nat.le_of_ble_eq_true rfl, Nat.le_of_ble_eq_true rfl⟩ ⟨Nat.le_of_ble_eq_true rfl, Nat.le_of_ble_eq_true rfl⟩ ?_
          refine g_ifb_eq (tgt := 170) C dX1_walkOwn_163 (by decide) (fun h163 => ?_) (fun h163 => ?_)
          · refine g_iconst (v := 0) C dX1_walkOwn_170 (by decide) ?_
            refine g_bipush (v := 7) C dX1_walkOwn_171 (by decide) ?_
            refine g_iload_n C dX1_walkOwn_173 rfl ?_
            refine g_iconst (v := -1) C dX1_walkOwn_174 (by decide) ?_
            refine g_callV 17 C (ct_X1_noteIf (q := false) (by first | omega | (simp only [List.length_append, cond_true, cond_false, List.length_cons, List.length_nil]; omega))) mw_X1_noteIf ml_X1_77 rfl rfl rfl rfl (Nat.le_of_ble_eq_true rfl) dX1_walkOwn_175 ⟨Nat.le_of_ble_eq_true rfl, Nat.le_of_ble_eq_true rfl⟩ ⟨Nat.le_of_ble_eq_true rfl, Nat.le_of_ble_eq_true rfl⟩ ?_
            intro r v hv
            obtain ⟨rfl, rfl⟩ := hv
            exact g_vret C dX1_walkOwn_178 ⟨rfl, by rw [HX_hi (by decide)] at h115 h145; simp [ownL, show Hs τ x 128 = true from h115, show Hs τ x 32 = true from h145, show anyN (nM τ) (Ov τ x) = false from hq.symm.trans h119, show ¬ τ 1 (Of τ x) = 0 from of_decide_eq_false h163]⟩
          · refine g_iconst (v := 1) C dX1_walkOwn_166 (by decide) ?_
            refine g_goto (tgt := 171) C dX1_walkOwn_167 (by decide) ?_
            refine g_bipush (v := 7) C dX1_walkOwn_171 (by decide) ?_
            refine g_iload_n C dX1_walkOwn_173 rfl ?_
            refine g_iconst (v := -1) C dX1_walkOwn_174 (by decide) ?_
            refine g_callV 17 C (ct_X1_noteIf (q := true) (by first | omega | (simp only [List.length_append, cond_true, cond_false, List.length_cons, List.length_nil]; omega))) mw_X1_noteIf ml_X1_77 rfl rfl rfl rfl (Nat.le_of_ble_eq_true rfl) dX1_walkOwn_175 ⟨Nat.le_of_ble_eq_true rfl, Nat.le_of_ble_eq_true rfl⟩ ⟨Nat.le_of_ble_eq_true rfl, Nat.le_of_ble_eq_true rfl⟩ ?_
            intro r v hv
            obtain ⟨rfl, rfl⟩ := hv
            exact g_vret C dX1_walkOwn_178 ⟨rfl, by rw [HX_hi (by decide)] at h115 h145; simp [ownL, show Hs τ x 128 = true from h115, show Hs τ x 32 = true from h145, show anyN (nM τ) (Ov τ x) = false from hq.symm.trans h119, show τ 1 (Of τ x) = 0 from of_decide_eq_true h163]⟩
  have loop : ∀ (n j : Nat) (q : Bool), j ≤ nM τ → nM τ + 1 ≤ j + n → q = anyN j (Ov τ x) → G p l e (rmo 3 73) s m ([.ref (b 17), .int (nI x)] : List Value).toArray below meth c D (va_A (pX b cI cZ (fL σ w L)) s.heap.size) 0 0 (Qe below ([.ref (b 17), .int (nI x)] : List Value).toArray s D (pX b cI cZ) (fL σ w L) (fun r v => r = none ∧ v = fL σ w (L ++ ownL τ (Of τ x) x))) 5 (pX b cI cZ (fL σ w (L ++ innL τ x j))) 4 [some (.ref (b 17)), some (.int (nI x)), some (.int (b2i q)), some (.int (nI j)), none] [] := by
    intro n
    induction n with
    | zero => intro j q h1 h2; omega
    | succ n ih =>
      intro j q h1 h2 hq
      have j41 : j < nM τ → ∀ (q1 : Bool), q1 = anyN (j + 1) (Ov τ x) → G p l e (rmo 3 73) s m ([.ref (b 17), .int (nI x)] : List Value).toArray below meth c D (va_A (pX b cI cZ (fL σ w L)) s.heap.size) 0 0 (Qe below ([.ref (b 17), .int (nI x)] : List Value).toArray s D (pX b cI cZ) (fL σ w L) (fun r v => r = none ∧ v = fL σ w (L ++ ownL τ (Of τ x) x))) 5 (pX b cI cZ (fL σ w (L ++ innL τ x j))) 41 [some (.ref (b 17)), some (.int (nI x)), some (.int (b2i q1)), some (.int (nI j)), some (.int (b2i (Ov τ x j)))] [] := by
        intro hj q1 hq1
        have hlen := innL_len hI hx j (by omega)
        refine g_aload_n C dX1_walkOwn_41 rfl ?_
        refine g_aload_n C dX1_walkOwn_42 rfl ?_
        refine gf_X1_35 C dX1_walkOwn_43 ?_
        refine g_iload_n C dX1_walkOwn_46 rfl ?_
        refine g_iload_n C dX1_walkOwn_47 rfl ?_
        refine g_callVr 9 C (cr_X2_isMixed hI1 hx hj) mw_X2_isMixed ml_X1_74 rfl rfl rfl rfl (Nat.le_of_ble_eq_true rfl) dX1_walkOwn_48 ⟨Nat.le_of_ble_eq_true rfl, Nat.le_of_ble_eq_true rfl⟩ ⟨Nat.le_of_ble_eq_true rfl, Nat.le_of_ble_eq_true rfl⟩ ?_
        refine g_iconst (v := 1) C dX1_walkOwn_51 (by decide) ?_
        refine g_iload_n C dX1_walkOwn_52 rfl ?_
        refine g_iload_n C dX1_walkOwn_53 rfl ?_
        refine g_callV 17 C (ct_X1_noteIf (by simp only [List.length_append]; omega)) mw_X1_noteIf ml_X1_77 rfl rfl rfl rfl (Nat.le_of_ble_eq_true rfl) dX1_walkOwn_54 ⟨Nat.le_of_ble_eq_true rfl, Nat.le_of_ble_eq_true rfl⟩ ⟨Nat.le_of_ble_eq_true rfl, Nat.le_of_ble_eq_true rfl⟩ ?_
        intro r v hv
        obtain ⟨rfl, rfl⟩ := hv
        refine g_iload C dX1_walkOwn_57 rfl ?_
        refine g_ifb_ne (tgt := 74) C dX1_walkOwn_59 (by decide) (fun h59 => ?_) (fun h59 => ?_)
        · refine g_aload_n C dX1_walkOwn_74 rfl ?_
          refine g_aload_n C dX1_walkOwn_75 rfl ?_
          refine gf_X1_35 C dX1_walkOwn_76 ?_
          refine g_iload_n C dX1_walkOwn_79 rfl ?_
          refine g_bipush (v := 16) C dX1_walkOwn_80 (by decide) ?_
          refine g_callVr 9 C (cr_X2_hasMark hI1 (by assumption)) mw_X2_hasMark ml_X1_84 rfl rfl rfl rfl (Nat.le_of_ble_eq_true rfl) dX1_walkOwn_82 ⟨Nat.le_of_ble_eq_true rfl, Nat.le_of_ble_eq_true rfl⟩ ⟨Nat.le_of_ble_eq_true rfl, Nat.le_of_ble_eq_true rfl⟩ ?_
          refine g_iconst (v := 2) C dX1_walkOwn_85 (by decide) ?_
          refine g_iload_n C dX1_walkOwn_86 rfl ?_
          refine g_iload_n C dX1_walkOwn_87 rfl ?_
          refine g_callV 17 C (ct_X1_noteIf (by simp only [List.length_append]; cases Mix τ x j <;> simp <;> omega)) mw_X1_noteIf ml_X1_77 rfl rfl rfl rfl (Nat.le_of_ble_eq_true rfl) dX1_walkOwn_88 ⟨Nat.le_of_ble_eq_true rfl, Nat.le_of_ble_eq_true rfl⟩ ⟨Nat.le_of_ble_eq_true rfl, Nat.le_of_ble_eq_true rfl⟩ ?_
          intro r v hv
          obtain ⟨rfl, rfl⟩ := hv
          refine g_aload_n C dX1_walkOwn_91 rfl ?_
          refine g_iload_n C dX1_walkOwn_92 rfl ?_
          refine g_iload_n C dX1_walkOwn_93 rfl ?_
          refine g_callV 17 C (ct_X1_compare hI (by simp only [List.length_append]; cases Mix τ x j <;> cases HX τ j 16 <;> simp <;> omega) hx hj) mw_X1_compare ml_X1_87 rfl rfl rfl rfl (Nat.le_of_ble_eq_true rfl) dX1_walkOwn_94 ⟨Nat.le_of_ble_eq_true rfl, Nat.le_of_ble_eq_true rfl⟩ ⟨Nat.le_of_ble_eq_true rfl, Nat.le_of_ble_eq_true rfl⟩ ?_
          intro r v hv
          obtain ⟨rfl, rfl⟩ := hv
          refine g_iincN C dX1_walkOwn_97 rfl (by decide) ?_
          refine g_goto (tgt := 4) C dX1_walkOwn_100 (by decide) ?_
          have hh := ih (j + 1) q1 (by omega) (by omega) hq1; rw [show L ++ innL τ x (j + 1) = ((((L ++ innL τ x j) ++ (bif Mix τ x j then [(1, nI x, nI j)] else [])) ++ (bif HX τ j 16 then [(2, nI x, nI j)] else [])) ++ thrL τ x j) from by rw [innL, pairL, HX_hi (by decide)]; simp only [show Ov τ x j = true from h59]; cases Mix τ x j <;> cases Hs τ j 16 <;> simp] at hh; exact hh.weak (by simp [lvle, lst])
        · refine g_aload_n C dX1_walkOwn_62 rfl ?_
          refine gf_X1_35 C dX1_walkOwn_63 ?_
          refine g_iload_n C dX1_walkOwn_66 rfl ?_
          refine g_iload_n C dX1_walkOwn_67 rfl ?_
          refine g_callVr 9 C (cr_X2_isHiding hI1 hx hj) mw_X2_isHiding ml_X1_81 rfl rfl rfl rfl (Nat.le_of_ble_eq_true rfl) dX1_walkOwn_68 ⟨Nat.le_of_ble_eq_true rfl, Nat.le_of_ble_eq_true rfl⟩ ⟨Nat.le_of_ble_eq_true rfl, Nat.le_of_ble_eq_true rfl⟩ ?_
          refine g_ifb_eq (tgt := 97) C dX1_walkOwn_71 (by decide) (fun h71 => ?_) (fun h71 => ?_)
          · refine g_iincN C dX1_walkOwn_97 rfl (by decide) ?_
            refine g_goto (tgt := 4) C dX1_walkOwn_100 (by decide) ?_
            have hh := ih (j + 1) q1 (by omega) (by omega) hq1; rw [show L ++ innL τ x (j + 1) = ((L ++ innL τ x j) ++ (bif Mix τ x j then [(1, nI x, nI j)] else [])) from by rw [innL, pairL]; simp only [show Ov τ x j = false from h59, show Hid τ x j = false from h71]; cases Mix τ x j <;> simp] at hh; exact hh.weak (by simp [lvle, lst])
          · refine g_aload_n C dX1_walkOwn_74 rfl ?_
            refine g_aload_n C dX1_walkOwn_75 rfl ?_
            refine gf_X1_35 C dX1_walkOwn_76 ?_
            refine g_iload_n C dX1_walkOwn_79 rfl ?_
            refine g_bipush (v := 16) C dX1_walkOwn_80 (by decide) ?_
            refine g_callVr 9 C (cr_X2_hasMark hI1 (by assumption)) mw_X2_hasMark ml_X1_84 rfl rfl rfl rfl (Nat.le_of_ble_eq_true rfl) dX1_walkOwn_82 ⟨Nat.le_of_ble_eq_true rfl, Nat.le_of_ble_eq_true rfl⟩ ⟨Nat.le_of_ble_eq_true rfl, Nat.le_of_ble_eq_true rfl⟩ ?_
            refine g_iconst (v := 2) C dX1_walkOwn_85 (by decide) ?_
            refine g_iload_n C dX1_walkOwn_86 rfl ?_
            refine g_iload_n C dX1_walkOwn_87 rfl ?_
            refine g_callV 17 C (ct_X1_noteIf (by simp only [List.length_append]; cases Mix τ x j <;> simp <;> omega)) mw_X1_noteIf ml_X1_77 rfl rfl rfl rfl (Nat.le_of_ble_eq_true rfl) dX1_walkOwn_88 ⟨Nat.le_of_ble_eq_true rfl, Nat.le_of_ble_eq_true rfl⟩ ⟨Nat.le_of_ble_eq_true rfl, Nat.le_of_ble_eq_true rfl⟩ ?_
            intro r v hv
            obtain ⟨rfl, rfl⟩ := hv
            refine g_aload_n C dX1_walkOwn_91 rfl ?_
            refine g_iload_n C dX1_walkOwn_92 rfl ?_
            refine g_iload_n C dX1_walkOwn_93 rfl ?_
            refine g_callV 17 C (ct_X1_compare hI (by simp only [List.length_append]; cases Mix τ x j <;> cases HX τ j 16 <;> simp <;> omega) hx hj) mw_X1_compare ml_X1_87 rfl rfl rfl rfl (Nat.le_of_ble_eq_true rfl) dX1_walkOwn_94 ⟨Nat.le_of_ble_eq_true rfl, Nat.le_of_ble_eq_true rfl⟩ ⟨Nat.le_of_ble_eq_true rfl, Nat.le_of_ble_eq_true rfl⟩ ?_
            intro r v hv
            obtain ⟨rfl, rfl⟩ := hv
            refine g_iincN C dX1_walkOwn_97 rfl (by decide) ?_
            refine g_goto (tgt := 4) C dX1_walkOwn_100 (by decide) ?_
            have hh := ih (j + 1) q1 (by omega) (by omega) hq1; rw [show L ++ innL τ x (j + 1) = ((((L ++ innL τ x j) ++ (bif Mix τ x j then [(1, nI x, nI j)] else [])) ++ (bif HX τ j 16 then [(2, nI x, nI j)] else [])) ++ thrL τ x j) from by rw [innL, pairL, HX_hi (by decide)]; simp only [show Ov τ x j = false from h59, show Hid τ x j = true from h71]; cases Mix τ x j <;> cases Hs τ j 16 <;> simp] at hh; exact hh.weak (by simp [lvle, lst])
      refine g_iload_n C dX1_walkOwn_4 rfl ?_
      refine g_aload_n C dX1_walkOwn_5 rfl ?_
      refine gf_X1_35 C dX1_walkOwn_6 ?_
      refine g_callVr 9 C (cr_X2_size hI1) mw_X2_size ml_X1_43 rfl rfl rfl rfl (Nat.le_of_ble_eq_true rfl) dX1_walkOwn_9 ⟨Nat.le_of_ble_eq_true rfl, Nat.le_of_ble_eq_true rfl⟩ ⟨Nat.le_of_ble_eq_true rfl, Nat.le_of_ble_eq_true rfl⟩ ?_
      refine g_icmpN_ge (tgt := 103) C (by omega) (by omega) dX1_walkOwn_12 (by decide) (fun h12 => ?_) (fun h12 => ?_)
      · (obtain rfl : j = nM τ := (by omega)); exact (j103 q hq).weak (by simp [lvle, lst])
      · refine g_aload_n C dX1_walkOwn_15 rfl ?_
        refine gf_X1_35 C dX1_walkOwn_16 ?_
        refine g_iload_n C dX1_walkOwn_19 rfl ?_
        refine g_iload_n C dX1_walkOwn_20 rfl ?_
        refine g_callVr 9 C ((cr_X2_isOverriding hI1 hx (show j < nM τ by omega)).val (congrArg b2i (i_ov hI hx (show j < nM τ by omega)).symm)) mw_X2_isOverriding ml_X1_70 rfl rfl rfl rfl (Nat.le_of_ble_eq_true rfl) dX1_walkOwn_21 ⟨Nat.le_of_ble_eq_true rfl, Nat.le_of_ble_eq_true rfl⟩ ⟨Nat.le_of_ble_eq_true rfl, Nat.le_of_ble_eq_true rfl⟩ ?_
        refine g_istore C dX1_walkOwn_24 (by decide) ?_
        refine g_iload_n C dX1_walkOwn_26 rfl ?_
        refine g_ifb_ne (tgt := 35) C dX1_walkOwn_27 (by decide) (fun h27 => ?_) (fun h27 => ?_)
        · refine g_iconst (v := 1) C dX1_walkOwn_35 (by decide) ?_
          refine g_goto (tgt := 40) C dX1_walkOwn_36 (by decide) ?_
          refine g_istore_n C dX1_walkOwn_40 (by decide) ?_
          exact j41 (by omega) true (by simp only [anyN]; rw [← hq]; simp [h27])
        · refine g_iload C dX1_walkOwn_30 rfl ?_
          refine g_ifb_eq (tgt := 39) C dX1_walkOwn_32 (by decide) (fun h32 => ?_) (fun h32 => ?_)
          · refine g_iconst (v := 0) C dX1_walkOwn_39 (by decide) ?_
            refine g_istore_n C dX1_walkOwn_40 (by decide) ?_
            exact j41 (by omega) false (by simp only [anyN]; rw [← hq]; simp [h27, h32])
          · refine g_iconst (v := 1) C dX1_walkOwn_35 (by decide) ?_
            refine g_goto (tgt := 40) C dX1_walkOwn_36 (by decide) ?_
            refine g_istore_n C dX1_walkOwn_40 (by decide) ?_
            exact j41 (by omega) true (by simp only [anyN]; rw [← hq]; simp [h27, h32])
  have h0 := loop (nM τ + 1) 0 false (by omega) (by omega) rfl
  rw [show L ++ innL τ x 0 = L from List.append_nil L] at h0
  refine g_iconst (v := 0) C dX1_walkOwn_0 (by decide) ?_
  refine g_istore_n C dX1_walkOwn_1 (by decide) ?_
  refine g_iconstN 0 C dX1_walkOwn_2 (by decide) ?_
  refine g_istore_n C dX1_walkOwn_3 (by decide) ?_
  exact h0
set_option maxRecDepth 100000 in
set_option maxHeartbeats 4000000 in
theorem cr_X1_isMetByChance {l : Launch} {D : va_G} {cI cZ : ClassId} {b : Nat → Nat} {τ σ : St} (hI : Inv τ σ) {x o : Nat} (hx : x < nM τ) (ho : o < nM τ) : Cr l yX1_isMetByChance cX1_isMetByChance 5 (some .boolean) 1 22 D cI cZ (pX b cI cZ) [.ref (b 17), .int (nI x), .int (nI o)] σ (b2i (Ifc τ o && !Ifc τ x && !Bel τ (Of τ x) (Of τ o))) := by
  refine Ct.of 2 (by decide) (by simp [Value.category]) (Nat.le_of_ble_eq_true rfl) ?_
  intro p e s m below meth c C
  have hTl := w0_tl (iW hI)
  have hMl := w0_ml (iW hI)
  have hXl := w0_xl (iW hI)
  have hof_x := w0_ofl (iW hI) hx
  have hof_o := w0_ofl (iW hI) ho
  refine g_aload_n C dX1_isMetByChance_0 rfl ?_
  refine gf_X1_35 C dX1_isMetByChance_1 ?_
  refine g_iload_n C dX1_isMetByChance_4 rfl ?_
  refine g_callVr 9 C (cr_X2_typeOf hI (by omega)) mw_X2_typeOf ml_X1_49 rfl rfl rfl rfl (Nat.le_of_ble_eq_true rfl) dX1_isMetByChance_5 ⟨Nat.le_of_ble_eq_true rfl, Nat.le_of_ble_eq_true rfl⟩ ⟨Nat.le_of_ble_eq_true rfl, Nat.le_of_ble_eq_true rfl⟩ ?_
  refine g_istore_n C dX1_isMetByChance_8 (by decide) ?_
  refine g_aload_n C dX1_isMetByChance_9 rfl ?_
  refine gf_X1_35 C dX1_isMetByChance_10 ?_
  refine g_iload_n C dX1_isMetByChance_13 rfl ?_
  refine g_callVr 9 C (cr_X2_typeOf hI (by omega)) mw_X2_typeOf ml_X1_49 rfl rfl rfl rfl (Nat.le_of_ble_eq_true rfl) dX1_isMetByChance_14 ⟨Nat.le_of_ble_eq_true rfl, Nat.le_of_ble_eq_true rfl⟩ ⟨Nat.le_of_ble_eq_true rfl, Nat.le_of_ble_eq_true rfl⟩ ?_
  refine g_istore C dX1_isMetByChance_17 (by decide) ?_
  refine g_aload_n C dX1_isMetByChance_19 rfl ?_
  refine gf_X1_27 C dX1_isMetByChance_20 ?_
  refine g_iload C dX1_isMetByChance_23 rfl ?_
  refine g_callVr 1 C (cr_X4_isInterface hI (by omega)) mw_X4_isInterface ml_X1_57 rfl rfl rfl rfl (Nat.le_of_ble_eq_true rfl) dX1_isMetByChance_25 ⟨Nat.le_of_ble_eq_true rfl, Nat.le_of_ble_eq_true rfl⟩ ⟨Nat.le_of_ble_eq_true rfl, Nat.le_of_ble_eq_true rfl⟩ ?_
  refine g_ifb_eq (tgt := 59) C dX1_isMetByChance_28 (by decide) (fun h28 => ?_) (fun h28 => ?_)
  · refine g_iconst (v := 0) C dX1_isMetByChance_59 (by decide) ?_
    exact g_zret C dX1_isMetByChance_60 nar_0 ⟨rt_f (by rw [Ifc, Ifc, h28]; simp), rfl⟩
  · refine g_aload_n C dX1_isMetByChance_31 rfl ?_
    refine gf_X1_27 C dX1_isMetByChance_32 ?_
    refine g_iload_n C dX1_isMetByChance_35 rfl ?_
    refine g_callVr 1 C (cr_X4_isInterface hI (by omega)) mw_X4_isInterface ml_X1_57 rfl rfl rfl rfl (Nat.le_of_ble_eq_true rfl) dX1_isMetByChance_36 ⟨Nat.le_of_ble_eq_true rfl, Nat.le_of_ble_eq_true rfl⟩ ⟨Nat.le_of_ble_eq_true rfl, Nat.le_of_ble_eq_true rfl⟩ ?_
    refine g_ifb_ne (tgt := 59) C dX1_isMetByChance_39 (by decide) (fun h39 => ?_) (fun h39 => ?_)
    · refine g_iconst (v := 0) C dX1_isMetByChance_59 (by decide) ?_
      exact g_zret C dX1_isMetByChance_60 nar_0 ⟨rt_f (by rw [Ifc, Ifc, h28, h39]; simp), rfl⟩
    · refine g_aload_n C dX1_isMetByChance_42 rfl ?_
      refine gf_X1_27 C dX1_isMetByChance_43 ?_
      refine g_iload_n C dX1_isMetByChance_46 rfl ?_
      refine g_iload C dX1_isMetByChance_47 rfl ?_
      refine g_callVr 1 C (cr_X4_isBelow hI (by omega) (by omega)) mw_X4_isBelow ml_X1_120 rfl rfl rfl rfl (Nat.le_of_ble_eq_true rfl) dX1_isMetByChance_49 ⟨Nat.le_of_ble_eq_true rfl, Nat.le_of_ble_eq_true rfl⟩ ⟨Nat.le_of_ble_eq_true rfl, Nat.le_of_ble_eq_true rfl⟩ ?_
      refine g_ifb_ne (tgt := 59) C dX1_isMetByChance_52 (by decide) (fun h52 => ?_) (fun h52 => ?_)
      · refine g_iconst (v := 0) C dX1_isMetByChance_59 (by decide) ?_
        exact g_zret C dX1_isMetByChance_60 nar_0 ⟨rt_f (by rw [Ifc, Ifc, h28, h39, h52]; rfl), rfl⟩
      · refine g_iconst (v := 1) C dX1_isMetByChance_55 (by decide) ?_
        refine g_goto (tgt := 60) C dX1_isMetByChance_56 (by decide) ?_
        exact g_zret C dX1_isMetByChance_60 nar_1 ⟨rt_t (by rw [Ifc, Ifc, h28, h39, h52]; rfl), rfl⟩
set_option maxRecDepth 100000 in
set_option maxHeartbeats 4000000 in
theorem ct_X1_noteChosen {l : Launch} {D : va_G} {cI cZ : ClassId} {b : Nat → Nat} {τ σ : St} (hI : Inv τ σ) {w : Int32} {L : List Ft} (hL : L.length + 300 < 100000) {t o : Nat} (ht : t < nT τ) (ho : o < nM τ) (hC : ChOk2 τ t o) : Ct l yX1_noteChosen cX1_noteChosen 4 none 3 69 D cI cZ (pX b cI cZ) [.ref (b 17), .int (nI t), .int (Chs τ t o), .int (nI o)] (fL σ w L) (fun r v => r = none ∧ v = fL σ w (L ++ inhL τ t o)) := by
  have hTl := w0_tl (iW hI)
  have hMl := w0_ml (iW hI)
  have hXl := w0_xl (iW hI)
  have hof_o := w0_ofl (iW hI) ho
  have hI1 : ∀ {L2 : List Ft}, Inv τ (fL σ w L2) := hI
  rcases hC with hC | ⟨n, hn, hC, hnt⟩
  · have eE : inhL τ t o = [(8, -1, nI o)] := by simp [inhL, hC]
    rw [eE, hC]
    refine Ct.of 0 (by decide) (by simp [Value.category]) (Nat.le_of_ble_eq_true rfl) ?_
    intro p e s m below meth c C
    refine g_iload_n C dX1_noteChosen_0 rfl ?_
    refine g_bipush (v := -5) C dX1_noteChosen_1 (by decide) ?_
    refine g_icmp_ne (tgt := 17) C dX1_noteChosen_3 (by decide) (fun h3 => ?_) (fun h3 => ?_)
    · exact absurd rfl h3
    · refine g_aload_n C dX1_noteChosen_6 rfl ?_
      refine g_bipush (v := 8) C dX1_noteChosen_7 (by decide) ?_
      refine g_iconst (v := -1) C dX1_noteChosen_9 (by decide) ?_
      refine g_iload_n C dX1_noteChosen_10 rfl ?_
      refine g_callV 17 C (ct_X1_note (by omega)) mw_X1_note ml_X1_66 rfl rfl rfl rfl (Nat.le_of_ble_eq_true rfl) dX1_noteChosen_11 ⟨Nat.le_of_ble_eq_true rfl, Nat.le_of_ble_eq_true rfl⟩ ⟨Nat.le_of_ble_eq_true rfl, Nat.le_of_ble_eq_true rfl⟩ ?_
      intro r v hv
      obtain ⟨rfl, rfl⟩ := hv
      refine g_goto (tgt := 86) C dX1_noteChosen_14 (by decide) ?_
      exact g_vret C dX1_noteChosen_86 ⟨rfl, rfl⟩
  have hof_n := w0_ofl (iW hI) hn
  have ec : chN τ t o = n := by rw [chN, hC]; exact nI_clamp (by omega)
  have h5 : ¬ Chs τ t o = -5 := by rw [hC]; exact nI_m5 (by omega)
  have eE := (rfl : inhL τ t o = inhL τ t o)
  conv at eE => rhs; rw [inhL, if_neg h5, ec]
  rw [eE, hC]
  refine Ct.of 0 (by decide) (by simp [Value.category]) (Nat.le_of_ble_eq_true rfl) ?_
  intro p e s m below meth c C
  refine g_iload_n C dX1_noteChosen_0 rfl ?_
  refine g_bipush (v := -5) C dX1_noteChosen_1 (by decide) ?_
  refine g_icmp_ne (tgt := 17) C dX1_noteChosen_3 (by decide) (fun h3 => ?_) (fun h3 => ?_)
  · refine g_iload_n C dX1_noteChosen_17 rfl ?_
    refine g_iconst (v := -1) C dX1_noteChosen_18 (by decide) ?_
    refine g_icmp_eq (tgt := 86) C dX1_noteChosen_19 (by decide) (fun h19 => ?_) (fun h19 => ?_)
    · exact absurd h19 (nI_m1 (by omega))
    · refine g_aload_n C dX1_noteChosen_22 rfl ?_
      refine gf_X1_35 C dX1_noteChosen_23 ?_
      refine g_iload_n C dX1_noteChosen_26 rfl ?_
      refine g_callVr 9 C (cr_X2_typeOf hI1 hn) mw_X2_typeOf ml_X1_49 rfl rfl rfl rfl (Nat.le_of_ble_eq_true rfl) dX1_noteChosen_27 ⟨Nat.le_of_ble_eq_true rfl, Nat.le_of_ble_eq_true rfl⟩ ⟨Nat.le_of_ble_eq_true rfl, Nat.le_of_ble_eq_true rfl⟩ ?_
      refine g_iload_n C dX1_noteChosen_30 rfl ?_
      refine g_icmpN_eq (tgt := 86) C (by omega) (by omega) dX1_noteChosen_31 (by decide) (fun h31 => ?_) (fun h31 => ?_)
      · exact g_vret C dX1_noteChosen_86 ⟨rfl, by have hb : Bel τ t (Of τ n) = false := (by cases e : Bel τ t (Of τ n) with | false => rfl | true => exact absurd (i_dn hI _ _ ht (by omega) e) (by omega)); simp [h31, hb]; rw [h31] at hb; simp [hb]⟩
      · refine g_aload_n C dX1_noteChosen_34 rfl ?_
        refine g_aload_n C dX1_noteChosen_35 rfl ?_
        refine gf_X1_27 C dX1_noteChosen_36 ?_
        refine g_iload_n C dX1_noteChosen_39 rfl ?_
        refine g_callVr 1 C (cr_X4_isPlainClass hI1 ht) mw_X4_isPlainClass ml_X1_91 rfl rfl rfl rfl (Nat.le_of_ble_eq_true rfl) dX1_noteChosen_40 ⟨Nat.le_of_ble_eq_true rfl, Nat.le_of_ble_eq_true rfl⟩ ⟨Nat.le_of_ble_eq_true rfl, Nat.le_of_ble_eq_true rfl⟩ ?_
        refine g_ifb_eq (tgt := 63) C dX1_noteChosen_43 (by decide) (fun h43 => ?_) (fun h43 => ?_)
        · refine g_iconst (v := 0) C dX1_noteChosen_63 (by decide) ?_
          refine g_bipush (v := 9) C dX1_noteChosen_64 (by decide) ?_
          refine g_iload_n C dX1_noteChosen_66 rfl ?_
          refine g_iload_n C dX1_noteChosen_67 rfl ?_
          refine g_callV 17 C (ct_X1_noteIf (q := false) (by first | omega | (simp only [List.length_append, cond_true, cond_false, List.length_cons, List.length_nil]; omega))) mw_X1_noteIf ml_X1_77 rfl rfl rfl rfl (Nat.le_of_ble_eq_true rfl) dX1_noteChosen_68 ⟨Nat.le_of_ble_eq_true rfl, Nat.le_of_ble_eq_true rfl⟩ ⟨Nat.le_of_ble_eq_true rfl, Nat.le_of_ble_eq_true rfl⟩ ?_
          intro r v hv
          obtain ⟨rfl, rfl⟩ := hv
          refine g_aload_n C dX1_noteChosen_71 rfl ?_
          refine g_iload_n C dX1_noteChosen_72 rfl ?_
          refine g_iload_n C dX1_noteChosen_73 rfl ?_
          refine g_callVr 17 C (cr_X1_isMetByChance hI1 hn ho) mw_X1_isMetByChance ml_X1_132 rfl rfl rfl rfl (Nat.le_of_ble_eq_true rfl) dX1_noteChosen_74 ⟨Nat.le_of_ble_eq_true rfl, Nat.le_of_ble_eq_true rfl⟩ ⟨Nat.le_of_ble_eq_true rfl, Nat.le_of_ble_eq_true rfl⟩ ?_
          refine g_ifb_eq (tgt := 86) C dX1_noteChosen_77 (by decide) (fun h77 => ?_) (fun h77 => ?_)
          · exact g_vret C dX1_noteChosen_86 ⟨rfl, by have hK : (Ifc τ o && !Ifc τ n && Bel τ t (Of τ n) && !Bel τ (Of τ n) (Of τ o)) = false := (by rw [show Bel τ t (Of τ n) = true from hnt.resolve_left h31, Bool.and_true]; exact h77); rw [hK]; simp [h31, show Bel τ t (Of τ n) = true from hnt.resolve_left h31, show ¬ τ 1 t = 0 from of_decide_eq_false h43]⟩
          · refine g_aload_n C dX1_noteChosen_80 rfl ?_
            refine g_iload_n C dX1_noteChosen_81 rfl ?_
            refine g_iload_n C dX1_noteChosen_82 rfl ?_
            refine g_callV 17 C (ct_X1_compare hI (by simp only [List.length_append, cond_true, cond_false, List.length_cons, List.length_nil]; omega) hn ho) mw_X1_compare ml_X1_87 rfl rfl rfl rfl (Nat.le_of_ble_eq_true rfl) dX1_noteChosen_83 ⟨Nat.le_of_ble_eq_true rfl, Nat.le_of_ble_eq_true rfl⟩ ⟨Nat.le_of_ble_eq_true rfl, Nat.le_of_ble_eq_true rfl⟩ ?_
            intro r v hv
            obtain ⟨rfl, rfl⟩ := hv
            exact g_vret C dX1_noteChosen_86 ⟨rfl, by have hK : (Ifc τ o && !Ifc τ n && Bel τ t (Of τ n) && !Bel τ (Of τ n) (Of τ o)) = true := (by rw [show Bel τ t (Of τ n) = true from hnt.resolve_left h31, Bool.and_true]; exact h77); rw [hK]; simp [h31, show Bel τ t (Of τ n) = true from hnt.resolve_left h31, show ¬ τ 1 t = 0 from of_decide_eq_false h43]⟩
        · refine g_aload_n C dX1_noteChosen_46 rfl ?_
          refine gf_X1_35 C dX1_noteChosen_47 ?_
          refine g_iload_n C dX1_noteChosen_50 rfl ?_
          refine g_bipush (v := 32) C dX1_noteChosen_51 (by decide) ?_
          refine g_callVr 9 C (cr_X2_hasMark hI1 hn) mw_X2_hasMark ml_X1_84 rfl rfl rfl rfl (Nat.le_of_ble_eq_true rfl) dX1_noteChosen_53 ⟨Nat.le_of_ble_eq_true rfl, Nat.le_of_ble_eq_true rfl⟩ ⟨Nat.le_of_ble_eq_true rfl, Nat.le_of_ble_eq_true rfl⟩ ?_
          refine g_ifb_eq (tgt := 63) C dX1_noteChosen_56 (by decide) (fun h56 => ?_) (fun h56 => ?_)
          · refine g_iconst (v := 0) C dX1_noteChosen_63 (by decide) ?_
            refine g_bipush (v := 9) C dX1_noteChosen_64 (by decide) ?_
            refine g_iload_n C dX1_noteChosen_66 rfl ?_
            refine g_iload_n C dX1_noteChosen_67 rfl ?_
            refine g_callV 17 C (ct_X1_noteIf (q := false) (by first | omega | (simp only [List.length_append, cond_true, cond_false, List.length_cons, List.length_nil]; omega))) mw_X1_noteIf ml_X1_77 rfl rfl rfl rfl (Nat.le_of_ble_eq_true rfl) dX1_noteChosen_68 ⟨Nat.le_of_ble_eq_true rfl, Nat.le_of_ble_eq_true rfl⟩ ⟨Nat.le_of_ble_eq_true rfl, Nat.le_of_ble_eq_true rfl⟩ ?_
            intro r v hv
            obtain ⟨rfl, rfl⟩ := hv
            refine g_aload_n C dX1_noteChosen_71 rfl ?_
            refine g_iload_n C dX1_noteChosen_72 rfl ?_
            refine g_iload_n C dX1_noteChosen_73 rfl ?_
            refine g_callVr 17 C (cr_X1_isMetByChance hI1 hn ho) mw_X1_isMetByChance ml_X1_132 rfl rfl rfl rfl (Nat.le_of_ble_eq_true rfl) dX1_noteChosen_74 ⟨Nat.le_of_ble_eq_true rfl, Nat.le_of_ble_eq_true rfl⟩ ⟨Nat.le_of_ble_eq_true rfl, Nat.le_of_ble_eq_true rfl⟩ ?_
            refine g_ifb_eq (tgt := 86) C dX1_noteChosen_77 (by decide) (fun h77 => ?_) (fun h77 => ?_)
            · exact g_vret C dX1_noteChosen_86 ⟨rfl, by rw [HX_hi (by decide)] at h56; have hK : (Ifc τ o && !Ifc τ n && Bel τ t (Of τ n) && !Bel τ (Of τ n) (Of τ o)) = false := (by rw [show Bel τ t (Of τ n) = true from hnt.resolve_left h31, Bool.and_true]; exact h77); rw [hK]; simp [h31, show Bel τ t (Of τ n) = true from hnt.resolve_left h31, show τ 1 t = 0 from of_decide_eq_true h43, h56]⟩
            · refine g_aload_n C dX1_noteChosen_80 rfl ?_
              refine g_iload_n C dX1_noteChosen_81 rfl ?_
              refine g_iload_n C dX1_noteChosen_82 rfl ?_
              refine g_callV 17 C (ct_X1_compare hI (by simp only [List.length_append, cond_true, cond_false, List.length_cons, List.length_nil]; omega) hn ho) mw_X1_compare ml_X1_87 rfl rfl rfl rfl (Nat.le_of_ble_eq_true rfl) dX1_noteChosen_83 ⟨Nat.le_of_ble_eq_true rfl, Nat.le_of_ble_eq_true rfl⟩ ⟨Nat.le_of_ble_eq_true rfl, Nat.le_of_ble_eq_true rfl⟩ ?_
              intro r v hv
              obtain ⟨rfl, rfl⟩ := hv
              exact g_vret C dX1_noteChosen_86 ⟨rfl, by rw [HX_hi (by decide)] at h56; have hK : (Ifc τ o && !Ifc τ n && Bel τ t (Of τ n) && !Bel τ (Of τ n) (Of τ o)) = true := (by rw [show Bel τ t (Of τ n) = true from hnt.resolve_left h31, Bool.and_true]; exact h77); rw [hK]; simp [h31, show Bel τ t (Of τ n) = true from hnt.resolve_left h31, show τ 1 t = 0 from of_decide_eq_true h43, h56]⟩
          · refine g_iconst (v := 1) C dX1_noteChosen_59 (by decide) ?_
            refine g_goto (tgt := 64) C dX1_noteChosen_60 (by decide) ?_
            refine g_bipush (v := 9) C dX1_noteChosen_64 (by decide) ?_
            refine g_iload_n C dX1_noteChosen_66 rfl ?_
            refine g_iload_n C dX1_noteChosen_67 rfl ?_
            refine g_callV 17 C (ct_X1_noteIf (q := true) (by first | omega | (simp only [List.length_append, cond_true, cond_false, List.length_cons, List.length_nil]; omega))) mw_X1_noteIf ml_X1_77 rfl rfl rfl rfl (Nat.le_of_ble_eq_true rfl) dX1_noteChosen_68 ⟨Nat.le_of_ble_eq_true rfl, Nat.le_of_ble_eq_true rfl⟩ ⟨Nat.le_of_ble_eq_true rfl, Nat.le_of_ble_eq_true rfl⟩ ?_
            intro r v hv
            obtain ⟨rfl, rfl⟩ := hv
            refine g_aload_n C dX1_noteChosen_71 rfl ?_
            refine g_iload_n C dX1_noteChosen_72 rfl ?_
            refine g_iload_n C dX1_noteChosen_73 rfl ?_
            refine g_callVr 17 C (cr_X1_isMetByChance hI1 hn ho) mw_X1_isMetByChance ml_X1_132 rfl rfl rfl rfl (Nat.le_of_ble_eq_true rfl) dX1_noteChosen_74 ⟨Nat.le_of_ble_eq_true rfl, Nat.le_of_ble_eq_true rfl⟩ ⟨Nat.le_of_ble_eq_true rfl, Nat.le_of_ble_eq_true rfl⟩ ?_
            refine g_ifb_eq (tgt := 86) C dX1_noteChosen_77 (by decide) (fun h77 => ?_) (fun h77 => ?_)
            · exact g_vret C dX1_noteChosen_86 ⟨rfl, by rw [HX_hi (by decide)] at h56; have hK : (Ifc τ o && !Ifc τ n && Bel τ t (Of τ n) && !Bel τ (Of τ n) (Of τ o)) = false := (by rw [show Bel τ t (Of τ n) = true from hnt.resolve_left h31, Bool.and_true]; exact h77); rw [hK]; simp [h31, show Bel τ t (Of τ n) = true from hnt.resolve_left h31, show τ 1 t = 0 from of_decide_eq_true h43, h56]⟩
            · refine g_aload_n C dX1_noteChosen_80 rfl ?_
              refine g_iload_n C dX1_noteChosen_81 rfl ?_
              refine g_iload_n C dX1_noteChosen_82 rfl ?_
              refine g_callV 17 C (ct_X1_compare hI (by simp only [List.length_append, cond_true, cond_false, List.length_cons, List.length_nil]; omega) hn ho) mw_X1_compare ml_X1_87 rfl rfl rfl rfl (Nat.le_of_ble_eq_true rfl) dX1_noteChosen_83 ⟨Nat.le_of_ble_eq_true rfl, Nat.le_of_ble_eq_true rfl⟩ ⟨Nat.le_of_ble_eq_true rfl, Nat.le_of_ble_eq_true rfl⟩ ?_
              intro r v hv
              obtain ⟨rfl, rfl⟩ := hv
              exact g_vret C dX1_noteChosen_86 ⟨rfl, by rw [HX_hi (by decide)] at h56; have hK : (Ifc τ o && !Ifc τ n && Bel τ t (Of τ n) && !Bel τ (Of τ n) (Of τ o)) = true := (by rw [show Bel τ t (Of τ n) = true from hnt.resolve_left h31, Bool.and_true]; exact h77); rw [hK]; simp [h31, show Bel τ t (Of τ n) = true from hnt.resolve_left h31, show τ 1 t = 0 from of_decide_eq_true h43, h56]⟩
  · exact absurd h3 (nI_m5 (by omega))
set_option maxRecDepth 100000 in
set_option maxHeartbeats 4000000 in
theorem ct_X1_walkInherited {l : Launch} {D : va_G} {cI cZ : ClassId} {b : Nat → Nat} {τ σ : St} (hI : Inv τ σ) {w : Int32} {L : List Ft} (hL : L.length + 1000 < 100000) {t : Nat} (ht : t < nT τ) : Ct l yX1_walkInherited cX1_walkInherited 3 none 4 101 D cI cZ (pX b cI cZ) [.ref (b 17), .int (nI t)] (fL σ w L) (fun r v => r = none ∧ v = fL σ w (L ++ inhO τ t (nM τ))) := by
  refine Ct.of 1 (by decide) (by simp [Value.category]) (Nat.le_of_ble_eq_true rfl) ?_
  intro p e s m below meth c C
  have hTl := w0_tl (iW hI)
  have hMl := w0_ml (iW hI)
  have hXl := w0_xl (iW hI)
  have hI1 : ∀ {L2 : List Ft}, Inv τ (fL σ w L2) := hI
  have loop : ∀ (n i : Nat), i ≤ nM τ → nM τ + 1 ≤ i + n → G p l e (rmo 4 101) s m ([.ref (b 17), .int (nI t)] : List Value).toArray below meth c D (va_A (pX b cI cZ (fL σ w L)) s.heap.size) 0 0 (Qe below ([.ref (b 17), .int (nI t)] : List Value).toArray s D (pX b cI cZ) (fL σ w L) (fun r v => r = none ∧ v = fL σ w (L ++ inhO τ t (nM τ)))) 3 (pX b cI cZ (fL σ w (L ++ inhO τ t i))) 2 [some (.ref (b 17)), some (.int (nI t)), some (.int (nI i))] [] := by
    intro n
    induction n with
    | zero => intro i h1 h2; omega
    | succ n ih =>
      intro i h1 h2
      have hlen := inhO_len (τ := τ) (t := t) i
      refine g_iload_n C dX1_walkInherited_2 rfl ?_
      refine g_aload_n C dX1_walkInherited_3 rfl ?_
      refine gf_X1_35 C dX1_walkInherited_4 ?_
      refine g_callVr 9 C (cr_X2_size hI1) mw_X2_size ml_X1_43 rfl rfl rfl rfl (Nat.le_of_ble_eq_true rfl) dX1_walkInherited_7 ⟨Nat.le_of_ble_eq_true rfl, Nat.le_of_ble_eq_true rfl⟩ ⟨Nat.le_of_ble_eq_true rfl, Nat.le_of_ble_eq_true rfl⟩ ?_
      refine g_icmpN_ge (tgt := 77) C (by omega) (by omega) dX1_walkInherited_10 (by decide) (fun h10 => ?_) (fun h10 => ?_)
      · exact g_vret C dX1_walkInherited_77 ⟨rfl, by rw [show i = nM τ by omega]⟩
      · refine g_aload_n C dX1_walkInherited_13 rfl ?_
        have hi : i < nM τ := (by omega)
        have hof_i := w0_ofl (iW hI) hi
        refine gf_X1_35 C dX1_walkInherited_14 ?_
        refine g_iload_n C dX1_walkInherited_17 rfl ?_
        refine g_callVr 9 C (cr_X2_isInheritable hI1 hi) mw_X2_isInheritable ml_X1_117 rfl rfl rfl rfl (Nat.le_of_ble_eq_true rfl) dX1_walkInherited_18 ⟨Nat.le_of_ble_eq_true rfl, Nat.le_of_ble_eq_true rfl⟩ ⟨Nat.le_of_ble_eq_true rfl, Nat.le_of_ble_eq_true rfl⟩ ?_
        refine g_ifb_eq (tgt := 71) C dX1_walkInherited_21 (by decide) (fun h21 => ?_) (fun h21 => ?_)
        · refine g_iincN C dX1_walkInherited_71 rfl (by decide) ?_
          refine g_goto (tgt := 2) C dX1_walkInherited_74 (by decide) ?_
          have hh := ih (i + 1) (by omega) (by omega); have hK : inhC τ t i = false := (by simp [inhC, h21]); rw [show L ++ inhO τ t (i + 1) = L ++ inhO τ t i from by rw [inhO, hK]; simp] at hh; exact hh
        · refine g_aload_n C dX1_walkInherited_24 rfl ?_
          refine gf_X1_35 C dX1_walkInherited_25 ?_
          refine g_iload_n C dX1_walkInherited_28 rfl ?_
          refine g_bipush (v := 96) C dX1_walkInherited_29 (by decide) ?_
          refine g_callVr 9 C (cr_X2_hasMark hI1 hi) mw_X2_hasMark ml_X1_84 rfl rfl rfl rfl (Nat.le_of_ble_eq_true rfl) dX1_walkInherited_31 ⟨Nat.le_of_ble_eq_true rfl, Nat.le_of_ble_eq_true rfl⟩ ⟨Nat.le_of_ble_eq_true rfl, Nat.le_of_ble_eq_true rfl⟩ ?_
          refine g_ifb_eq (tgt := 71) C dX1_walkInherited_34 (by decide) (fun h34 => ?_) (fun h34 => ?_)
          · refine g_iincN C dX1_walkInherited_71 rfl (by decide) ?_
            refine g_goto (tgt := 2) C dX1_walkInherited_74 (by decide) ?_
            have hh := ih (i + 1) (by omega) (by omega); have hK : inhC τ t i = false := (by rw [HX_96] at h34; rw [inhC, h34, Bool.and_false]); rw [show L ++ inhO τ t (i + 1) = L ++ inhO τ t i from by rw [inhO, hK]; simp] at hh; exact hh
          · refine g_aload_n C dX1_walkInherited_37 rfl ?_
            refine gf_X1_27 C dX1_walkInherited_38 ?_
            refine g_iload_n C dX1_walkInherited_41 rfl ?_
            refine g_aload_n C dX1_walkInherited_42 rfl ?_
            refine gf_X1_35 C dX1_walkInherited_43 ?_
            refine g_iload_n C dX1_walkInherited_46 rfl ?_
            refine g_callVr 9 C (cr_X2_typeOf hI1 hi) mw_X2_typeOf ml_X1_49 rfl rfl rfl rfl (Nat.le_of_ble_eq_true rfl) dX1_walkInherited_47 ⟨Nat.le_of_ble_eq_true rfl, Nat.le_of_ble_eq_true rfl⟩ ⟨Nat.le_of_ble_eq_true rfl, Nat.le_of_ble_eq_true rfl⟩ ?_
            refine g_callVr 1 C (cr_X4_isBelow hI1 ht (by omega)) mw_X4_isBelow ml_X1_120 rfl rfl rfl rfl (Nat.le_of_ble_eq_true rfl) dX1_walkInherited_50 ⟨Nat.le_of_ble_eq_true rfl, Nat.le_of_ble_eq_true rfl⟩ ⟨Nat.le_of_ble_eq_true rfl, Nat.le_of_ble_eq_true rfl⟩ ?_
            refine g_ifb_eq (tgt := 71) C dX1_walkInherited_53 (by decide) (fun h53 => ?_) (fun h53 => ?_)
            · refine g_iincN C dX1_walkInherited_71 rfl (by decide) ?_
              refine g_goto (tgt := 2) C dX1_walkInherited_74 (by decide) ?_
              have hh := ih (i + 1) (by omega) (by omega); have hK : inhC τ t i = false := (by rw [inhC, h53, Bool.and_false, Bool.false_and]); rw [show L ++ inhO τ t (i + 1) = L ++ inhO τ t i from by rw [inhO, hK]; simp] at hh; exact hh
            · refine g_aload_n C dX1_walkInherited_56 rfl ?_
              refine g_iload_n C dX1_walkInherited_57 rfl ?_
              refine g_aload_n C dX1_walkInherited_58 rfl ?_
              refine gf_X1_39 C dX1_walkInherited_59 ?_
              refine g_iload_n C dX1_walkInherited_62 rfl ?_
              refine g_iload_n C dX1_walkInherited_63 rfl ?_
              refine g_callVr 16 C (cr_X0_choose hI1 ht hi) mw_X0_choose ml_X1_123 rfl rfl rfl rfl (Nat.le_of_ble_eq_true rfl) dX1_walkInherited_64 ⟨Nat.le_of_ble_eq_true rfl, Nat.le_of_ble_eq_true rfl⟩ ⟨Nat.le_of_ble_eq_true rfl, Nat.le_of_ble_eq_true rfl⟩ ?_
              refine g_iload_n C dX1_walkInherited_67 rfl ?_
              refine g_callV 17 C (ct_X1_noteChosen hI (by simp only [List.length_append]; omega) ht hi (chOk2 hI ht hi (inhC_of (by have hK : inhC τ t i = true := (by rw [HX_96] at h34; rw [inhC, h21, h53, h34]; rfl); exact hK)).1 (inhC_of (by have hK : inhC τ t i = true := (by rw [HX_96] at h34; rw [inhC, h21, h53, h34]; rfl); exact hK)).2)) mw_X1_noteChosen ml_X1_129 rfl rfl rfl rfl (Nat.le_of_ble_eq_true rfl) dX1_walkInherited_68 ⟨Nat.le_of_ble_eq_true rfl, Nat.le_of_ble_eq_true rfl⟩ ⟨Nat.le_of_ble_eq_true rfl, Nat.le_of_ble_eq_true rfl⟩ ?_
              intro r v hv
              obtain ⟨rfl, rfl⟩ := hv
              refine g_iincN C dX1_walkInherited_71 rfl (by decide) ?_
              refine g_goto (tgt := 2) C dX1_walkInherited_74 (by decide) ?_
              have hh := ih (i + 1) (by omega) (by omega); have hK : inhC τ t i = true := (by rw [HX_96] at h34; rw [inhC, h21, h53, h34]; rfl); rw [show L ++ inhO τ t (i + 1) = (L ++ inhO τ t i) ++ inhL τ t i from by rw [inhO, if_pos hK, List.append_assoc]] at hh; exact hh
  have h0 := loop (nM τ + 1) 0 (by omega) (by omega)
  rw [show L ++ inhO τ t 0 = L from List.append_nil L] at h0
  refine g_iconstN 0 C dX1_walkInherited_0 (by decide) ?_
  refine g_istore_n C dX1_walkInherited_1 (by decide) ?_
  exact h0
set_option maxRecDepth 100000 in
set_option maxHeartbeats 4000000 in
theorem ct_X1_walk {l : Launch} {D : va_G} {cI cZ : ClassId} {b : Nat → Nat} {τ σ : St} (hI : Inv τ σ) {w : Int32} {t : Nat} (ht : t < nT τ) : Ct l yX1_walk cX1_walk 4 (some .int) 5 123 D cI cZ (pX b cI cZ) [.ref (b 17), .int (nI t), .int w] σ (fun r v => r = some (.int (nI (jdg τ t).length)) ∧ v = fL σ w (jdg τ t)) := by
  refine Ct.of 1 (by decide) (by simp [Value.category]) (Nat.le_of_ble_eq_true rfl) ?_
  intro p e s m below meth c C
  have hTl := w0_tl (iW hI)
  have hMl := w0_ml (iW hI)
  have hXl := w0_xl (iW hI)
  have hI1 : ∀ {L2 : List Ft}, Inv τ (fL σ w L2) := hI
  have j77 : G p l e (rmo 5 123) s m ([.ref (b 17), .int (nI t), .int w] : List Value).toArray below meth c D (va_A (pX b cI cZ σ) s.heap.size) 0 0 (Qe below ([.ref (b 17), .int (nI t), .int w] : List Value).toArray s D (pX b cI cZ) σ (fun r v => r = some (.int (nI (jdg τ t).length)) ∧ v = fL σ w (jdg τ t))) 4 (pX b cI cZ (fL σ w (jdg τ t))) 77 [some (.ref (b 17)), some (.int (nI t)), some (.int (w)), none] [] := by
    refine g_aload_n C dX1_walk_77 rfl ?_
    refine gn_X1_15 C (v := nI (jdg τ t).length) rfl dX1_walk_78 ?_
    exact g_iret C dX1_walk_81 ⟨rfl, rfl⟩
  have j61 : G p l e (rmo 5 123) s m ([.ref (b 17), .int (nI t), .int w] : List Value).toArray below meth c D (va_A (pX b cI cZ σ) s.heap.size) 0 0 (Qe below ([.ref (b 17), .int (nI t), .int w] : List Value).toArray s D (pX b cI cZ) σ (fun r v => r = some (.int (nI (jdg τ t).length)) ∧ v = fL σ w (jdg τ t))) 4 (pX b cI cZ (fL σ w (jdO τ t (nM τ)))) 61 [some (.ref (b 17)), some (.int (nI t)), some (.int (w)), none] [] := by
    have hlen := jdO_2000 hI (t := t) (Nat.le_refl (nM τ))
    refine g_aload_n C dX1_walk_61 rfl ?_
    refine gf_X1_27 C dX1_walk_62 ?_
    refine g_iload_n C dX1_walk_65 rfl ?_
    refine g_callVr 1 C (cr_X4_isInterface hI1 ht) mw_X4_isInterface ml_X1_57 rfl rfl rfl rfl (Nat.le_of_ble_eq_true rfl) dX1_walk_66 ⟨Nat.le_of_ble_eq_true rfl, Nat.le_of_ble_eq_true rfl⟩ ⟨Nat.le_of_ble_eq_true rfl, Nat.le_of_ble_eq_true rfl⟩ ?_
    refine g_ifb_ne (tgt := 77) C dX1_walk_69 (by decide) (fun h69 => ?_) (fun h69 => ?_)
    · have e : jdO τ t (nM τ) = jdg τ t := (by rw [jdg, if_neg (show ¬ τ 1 t < 2 by rw [of_decide_eq_true h69]; decide), List.append_nil]); rw [e]; exact j77
    · refine g_aload_n C dX1_walk_72 rfl ?_
      refine g_iload_n C dX1_walk_73 rfl ?_
      refine g_callV 17 C (ct_X1_walkInherited hI (by omega) ht) mw_X1_walkInherited ml_X1_63 rfl rfl rfl rfl (Nat.le_of_ble_eq_true rfl) dX1_walk_74 ⟨Nat.le_of_ble_eq_true rfl, Nat.le_of_ble_eq_true rfl⟩ ⟨Nat.le_of_ble_eq_true rfl, Nat.le_of_ble_eq_true rfl⟩ ?_
      intro r v hv
      obtain ⟨rfl, rfl⟩ := hv
      have e : jdO τ t (nM τ) ++ inhO τ t (nM τ) = jdg τ t := (by rw [jdg, if_pos (show τ 1 t < 2 by rcases i_kind hI ht with q | q | q <;> rw [q] at h69 ⊢ <;> first | decide | exact absurd h69 (by decide))]); rw [e]; exact j77
  have loop : ∀ (n i : Nat), i ≤ nM τ → nM τ + 1 ≤ i + n → G p l e (rmo 5 123) s m ([.ref (b 17), .int (nI t), .int w] : List Value).toArray below meth c D (va_A (pX b cI cZ σ) s.heap.size) 0 0 (Qe below ([.ref (b 17), .int (nI t), .int w] : List Value).toArray s D (pX b cI cZ) σ (fun r v => r = some (.int (nI (jdg τ t).length)) ∧ v = fL σ w (jdg τ t))) 4 (pX b cI cZ (fL σ w (jdO τ t i))) 27 [some (.ref (b 17)), some (.int (nI t)), some (.int (w)), some (.int (nI i))] [] := by
    intro n
    induction n with
    | zero => intro i h1 h2; omega
    | succ n ih =>
      intro i h1 h2
      have hlen := jdO_2000 hI (t := t) h1
      refine g_iload_n C dX1_walk_27 rfl ?_
      refine g_aload_n C dX1_walk_28 rfl ?_
      refine gf_X1_35 C dX1_walk_29 ?_
      refine g_callVr 9 C (cr_X2_size hI1) mw_X2_size ml_X1_43 rfl rfl rfl rfl (Nat.le_of_ble_eq_true rfl) dX1_walk_32 ⟨Nat.le_of_ble_eq_true rfl, Nat.le_of_ble_eq_true rfl⟩ ⟨Nat.le_of_ble_eq_true rfl, Nat.le_of_ble_eq_true rfl⟩ ?_
      refine g_icmpN_ge (tgt := 61) C (by omega) (by omega) dX1_walk_35 (by decide) (fun h35 => ?_) (fun h35 => ?_)
      · (obtain rfl : i = nM τ := (by omega)); exact j61.weak (by simp [lvle, lst])
      · refine g_aload_n C dX1_walk_38 rfl ?_
        have hof_i := w0_ofl (iW hI) (show i < nM τ by omega)
        refine gf_X1_35 C dX1_walk_39 ?_
        refine g_iload_n C dX1_walk_42 rfl ?_
        refine g_callVr 9 C (cr_X2_typeOf hI1 (show i < nM τ by omega)) mw_X2_typeOf ml_X1_49 rfl rfl rfl rfl (Nat.le_of_ble_eq_true rfl) dX1_walk_43 ⟨Nat.le_of_ble_eq_true rfl, Nat.le_of_ble_eq_true rfl⟩ ⟨Nat.le_of_ble_eq_true rfl, Nat.le_of_ble_eq_true rfl⟩ ?_
        refine g_iload_n C dX1_walk_46 rfl ?_
        refine g_icmpN_ne (tgt := 55) C (by omega) (by omega) dX1_walk_47 (by decide) (fun h47 => ?_) (fun h47 => ?_)
        · refine g_iincN C dX1_walk_55 rfl (by decide) ?_
          refine g_goto (tgt := 27) C dX1_walk_58 (by decide) ?_
          have hh := ih (i + 1) (by omega) (by omega); rw [show jdO τ t (i + 1) = jdO τ t i from by rw [jdO, ownL, if_neg h47, List.append_nil]] at hh; exact hh
        · refine g_aload_n C dX1_walk_50 rfl ?_
          refine g_iload_n C dX1_walk_51 rfl ?_
          refine g_callV 17 C (ct_X1_walkOwn hI (by omega) (show i < nM τ by omega)) mw_X1_walkOwn ml_X1_53 rfl rfl rfl rfl (Nat.le_of_ble_eq_true rfl) dX1_walk_52 ⟨Nat.le_of_ble_eq_true rfl, Nat.le_of_ble_eq_true rfl⟩ ⟨Nat.le_of_ble_eq_true rfl, Nat.le_of_ble_eq_true rfl⟩ ?_
          intro r v hv
          obtain ⟨rfl, rfl⟩ := hv
          refine g_iincN C dX1_walk_55 rfl (by decide) ?_
          refine g_goto (tgt := 27) C dX1_walk_58 (by decide) ?_
          have hh := ih (i + 1) (by omega) (by omega); rw [show jdO τ t (i + 1) = jdO τ t i ++ ownL τ (Of τ i) i from by rw [jdO, h47]] at hh; exact hh
  have h0 := loop (nM τ + 1) 0 (by omega) (by omega)
  have e0 : fL σ w (jdO τ t 0) = fS σ w 0 (-1) (-1) (-1) := by
    show fS σ w (nI 0) (pk w []).1 (pk w []).2.1 (pk w []).2.2 = _
    have : pk w [] = (-1, -1, -1) := by rw [pk]; split <;> simp
    rw [this]; rfl
  rw [e0] at h0
  have hsf : up2 σ 0 4 w = fS σ w (σ 0 5) (σ 0 6) (σ 0 7) (σ 0 8) := (congrArg (fun z => up2 z 0 4 w) (fS_of σ)).trans fS_up.1
  refine g_aload_n C dX1_walk_0 rfl ?_
  refine g_iload_n C dX1_walk_1 rfl ?_
  refine gp_X1_9 C dX1_walk_2 ?_
  rw [hsf]
  refine g_aload_n C dX1_walk_5 rfl ?_
  refine g_iconst (v := 0) C dX1_walk_6 (by decide) ?_
  refine gp_X1_15 C dX1_walk_7 ?_
  rw [fS_up.2.1]
  refine g_aload_n C dX1_walk_10 rfl ?_
  refine g_iconst (v := -1) C dX1_walk_11 (by decide) ?_
  refine gp_X1_18 C dX1_walk_12 ?_
  rw [fS_up.2.2.1]
  refine g_aload_n C dX1_walk_15 rfl ?_
  refine g_iconst (v := -1) C dX1_walk_16 (by decide) ?_
  refine gp_X1_21 C dX1_walk_17 ?_
  rw [fS_up.2.2.2.1]
  refine g_aload_n C dX1_walk_20 rfl ?_
  refine g_iconst (v := -1) C dX1_walk_21 (by decide) ?_
  refine gp_X1_24 C dX1_walk_22 ?_
  rw [fS_up.2.2.2.2]
  refine g_iconstN 0 C dX1_walk_25 (by decide) ?_
  refine g_istore_n C dX1_walk_26 (by decide) ?_
  exact h0
set_option maxRecDepth 100000 in
set_option maxHeartbeats 4000000 in
theorem cr_X1_pickedPart {l : Launch} {D : va_G} {cI cZ : ClassId} {b : Nat → Nat} {σ : St} {w x : Int32} {L : List Ft} : Cr l yX1_pickedPart cX1_pickedPart 2 (some .int) 0 0 D cI cZ (pX b cI cZ) [.ref (b 17), .int x] (fL σ w L) (fPick x (pk w L)) := by
  refine Ct.of 0 (by decide) (by simp [Value.category]) (Nat.le_of_ble_eq_true rfl) ?_
  intro p e s m below meth c C
  refine g_iload_n C dX1_pickedPart_0 rfl ?_
  refine g_if_ne (tgt := 9) C dX1_pickedPart_1 (by decide) (fun h1 => ?_) (fun h1 => ?_)
  · refine g_iload_n C dX1_pickedPart_9 rfl ?_
    refine g_iconst (v := 1) C dX1_pickedPart_10 (by decide) ?_
    refine g_icmp_ne (tgt := 21) C dX1_pickedPart_11 (by decide) (fun h11 => ?_) (fun h11 => ?_)
    · refine g_aload_n C dX1_pickedPart_21 rfl ?_
      refine gn_X1_24 C (v := (pk w L).2.2) rfl dX1_pickedPart_22 ?_
      exact g_iret C dX1_pickedPart_25 ⟨rt_i (by simp [fPick, h1, h11]), rfl⟩
    · refine g_aload_n C dX1_pickedPart_14 rfl ?_
      refine gn_X1_21 C (v := (pk w L).2.1) rfl dX1_pickedPart_15 ?_
      refine g_goto (tgt := 25) C dX1_pickedPart_18 (by decide) ?_
      exact g_iret C dX1_pickedPart_25 ⟨rt_i (by simp [fPick, h1, h11]), rfl⟩
  · refine g_aload_n C dX1_pickedPart_4 rfl ?_
    refine gn_X1_18 C (v := (pk w L).1) rfl dX1_pickedPart_5 ?_
    exact g_iret C dX1_pickedPart_8 ⟨rt_i (by simp [fPick, h1]), rfl⟩

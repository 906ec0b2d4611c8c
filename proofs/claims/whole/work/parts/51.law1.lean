/-! ===== the law: call by call ===== -/
set_option maxRecDepth 100000 in
set_option maxHeartbeats 4000000 in
theorem law_clear {p : Program} {l : Launch} {e : Env} {s : State} {m : MethodId} {below : List Frame} {meth : Method} {c : Code} {D : va_G} {cI cZ : ClassId} {b b2 : Nat → Nat} {b0 L : Nat} {xs : Nat → Int32} (C : Cx p s m #[Value.ref b0] meth c code 4 RL ret D cI cZ (fun q => s.heap.size ≤ q)) (hX : va_X b0 L xs s s.heap) (hbl : b0 < s.heap.size) (hbA : ¬ (fun q : Nat => s.heap.size ≤ q) b0) (hL : L ≤ 2560) {i : Nat} (hi : i + 5 ≤ L) {σ τ : St} (hI : Inv τ σ) (step : ∀ σ2 τ2 : St, Inv τ2 σ2 → GLw p l e s m below meth c D b0 (pX b cI cZ σ2 ++ pM b2 cI cZ τ2) 599 [some (.ref b0), some (.ref (b 0)), some (.ref (b2 0)), some (.int (nI i))] []) : GLw p l e s m below meth c D b0 (pX b cI cZ σ ++ pM b2 cI cZ τ) 108 [some (.ref b0), some (.ref (b 0)), some (.ref (b2 0)), some (.int (nI i))] [] := by
  refine g_aload_n C dL_law_108 rfl ?_
  refine gL_X C (ct_X5_clear hI) mw_X5_clear ml_L_13 rfl rfl rfl (Nat.le_of_ble_eq_true rfl) dL_law_109 ⟨(Nat.le_of_ble_eq_true rfl), (Nat.le_of_ble_eq_true rfl)⟩ ⟨(Nat.le_of_ble_eq_true rfl), (Nat.le_of_ble_eq_true rfl)⟩ (fun r u hu => ?_)
  obtain ⟨rfl, hu⟩ := hu
  refine g_aload_n C dL_law_112 rfl ?_
  refine gL_M C (ct_X6_clear) mw_X6_clear ml_L_17 rfl rfl rfl (Nat.le_of_ble_eq_true rfl) dL_law_113 ⟨(Nat.le_of_ble_eq_true rfl), (Nat.le_of_ble_eq_true rfl)⟩ ⟨(Nat.le_of_ble_eq_true rfl), (Nat.le_of_ble_eq_true rfl)⟩ (fun r v hv => ?_)
  obtain ⟨rfl, rfl⟩ := hv
  refine g_icmp_eq (tgt := 599) C dL_law_116 (by decide) (fun hq9 => ?_) (fun hq9 => ?_)
  · exact step _ _ (⟨W1_cl hI.1, hu⟩)
  · exact absurd rfl hq9
set_option maxRecDepth 100000 in
set_option maxHeartbeats 4000000 in
theorem law_type {p : Program} {l : Launch} {e : Env} {s : State} {m : MethodId} {below : List Frame} {meth : Method} {c : Code} {D : va_G} {cI cZ : ClassId} {b b2 : Nat → Nat} {b0 L : Nat} {xs : Nat → Int32} (C : Cx p s m #[Value.ref b0] meth c code 4 RL ret D cI cZ (fun q => s.heap.size ≤ q)) (hX : va_X b0 L xs s s.heap) (hbl : b0 < s.heap.size) (hbA : ¬ (fun q : Nat => s.heap.size ≤ q) b0) (hL : L ≤ 2560) {i : Nat} (hi : i + 5 ≤ L) {σ τ : St} (hI : Inv τ σ) (step : ∀ σ2 τ2 : St, Inv τ2 σ2 → GLw p l e s m below meth c D b0 (pX b cI cZ σ2 ++ pM b2 cI cZ τ2) 599 [some (.ref b0), some (.ref (b 0)), some (.ref (b2 0)), some (.int (nI i))] []) : GLw p l e s m below meth c D b0 (pX b cI cZ σ ++ pM b2 cI cZ τ) 121 [some (.ref b0), some (.ref (b 0)), some (.ref (b2 0)), some (.int (nI i))] [] := by
  refine g_aload_n C dL_law_121 rfl ?_
  refine g_aload_n C dL_law_122 rfl ?_
  refine g_iload_n C dL_law_123 rfl ?_
  refine g_iconstN 1 C dL_law_124 (by decide) ?_
  refine g_iaddN C dL_law_125 ?_
  refine g_sldN C hX hbl hbA (show i + 1 < L by omega) hL dL_law_126 ?_
  refine g_aload_n C dL_law_127 rfl ?_
  refine g_iload_n C dL_law_128 rfl ?_
  refine g_iconstN 2 C dL_law_129 (by decide) ?_
  refine g_iaddN C dL_law_130 ?_
  refine g_sldN C hX hbl hbA (show i + 2 < L by omega) hL dL_law_131 ?_
  refine g_aload_n C dL_law_132 rfl ?_
  refine g_iload_n C dL_law_133 rfl ?_
  refine g_iconstN 3 C dL_law_134 (by decide) ?_
  refine g_iaddN C dL_law_135 ?_
  refine g_sldN C hX hbl hbA (show i + 3 < L by omega) hL dL_law_136 ?_
  refine gL_X C (ct_X5_type hI) mw_X5_type ml_L_18 rfl rfl rfl (Nat.le_of_ble_eq_true rfl) dL_law_137 ⟨(Nat.le_of_ble_eq_true rfl), (Nat.le_of_ble_eq_true rfl)⟩ ⟨(Nat.le_of_ble_eq_true rfl), (Nat.le_of_ble_eq_true rfl)⟩ (fun r u hu => ?_)
  obtain ⟨rfl, hu⟩ := hu
  refine g_aload_n C dL_law_140 rfl ?_
  refine g_aload_n C dL_law_141 rfl ?_
  refine g_iload_n C dL_law_142 rfl ?_
  refine g_iconstN 1 C dL_law_143 (by decide) ?_
  refine g_iaddN C dL_law_144 ?_
  refine g_sldN C hX hbl hbA (show i + 1 < L by omega) hL dL_law_145 ?_
  refine g_aload_n C dL_law_146 rfl ?_
  refine g_iload_n C dL_law_147 rfl ?_
  refine g_iconstN 2 C dL_law_148 (by decide) ?_
  refine g_iaddN C dL_law_149 ?_
  refine g_sldN C hX hbl hbA (show i + 2 < L by omega) hL dL_law_150 ?_
  refine g_aload_n C dL_law_151 rfl ?_
  refine g_iload_n C dL_law_152 rfl ?_
  refine g_iconstN 3 C dL_law_153 (by decide) ?_
  refine g_iaddN C dL_law_154 ?_
  refine g_sldN C hX hbl hbA (show i + 3 < L by omega) hL dL_law_155 ?_
  refine gL_M C (ct_X6_type (iW hI)) mw_X6_type ml_L_22 rfl rfl rfl (Nat.le_of_ble_eq_true rfl) dL_law_156 ⟨(Nat.le_of_ble_eq_true rfl), (Nat.le_of_ble_eq_true rfl)⟩ ⟨(Nat.le_of_ble_eq_true rfl), (Nat.le_of_ble_eq_true rfl)⟩ (fun r v hv => ?_)
  obtain ⟨rfl, hv⟩ := hv
  refine g_icmp_eq (tgt := 599) C dL_law_159 (by decide) (fun hq9 => ?_) (fun hq9 => ?_)
  · exact step _ _ (Inv_ty hI hu hv)
  · exact absurd rfl hq9
set_option maxRecDepth 100000 in
set_option maxHeartbeats 4000000 in
theorem law_face {p : Program} {l : Launch} {e : Env} {s : State} {m : MethodId} {below : List Frame} {meth : Method} {c : Code} {D : va_G} {cI cZ : ClassId} {b b2 : Nat → Nat} {b0 L : Nat} {xs : Nat → Int32} (C : Cx p s m #[Value.ref b0] meth c code 4 RL ret D cI cZ (fun q => s.heap.size ≤ q)) (hX : va_X b0 L xs s s.heap) (hbl : b0 < s.heap.size) (hbA : ¬ (fun q : Nat => s.heap.size ≤ q) b0) (hL : L ≤ 2560) {i : Nat} (hi : i + 5 ≤ L) {σ τ : St} (hI : Inv τ σ) (step : ∀ σ2 τ2 : St, Inv τ2 σ2 → GLw p l e s m below meth c D b0 (pX b cI cZ σ2 ++ pM b2 cI cZ τ2) 599 [some (.ref b0), some (.ref (b 0)), some (.ref (b2 0)), some (.int (nI i))] []) : GLw p l e s m below meth c D b0 (pX b cI cZ σ ++ pM b2 cI cZ τ) 164 [some (.ref b0), some (.ref (b 0)), some (.ref (b2 0)), some (.int (nI i))] [] := by
  refine g_aload_n C dL_law_164 rfl ?_
  refine g_aload_n C dL_law_165 rfl ?_
  refine g_iload_n C dL_law_166 rfl ?_
  refine g_iconstN 1 C dL_law_167 (by decide) ?_
  refine g_iaddN C dL_law_168 ?_
  refine g_sldN C hX hbl hbA (show i + 1 < L by omega) hL dL_law_169 ?_
  refine g_aload_n C dL_law_170 rfl ?_
  refine g_iload_n C dL_law_171 rfl ?_
  refine g_iconstN 2 C dL_law_172 (by decide) ?_
  refine g_iaddN C dL_law_173 ?_
  refine g_sldN C hX hbl hbA (show i + 2 < L by omega) hL dL_law_174 ?_
  refine gL_X C (ct_X5_face hI) mw_X5_face ml_L_23 rfl rfl rfl (Nat.le_of_ble_eq_true rfl) dL_law_175 ⟨(Nat.le_of_ble_eq_true rfl), (Nat.le_of_ble_eq_true rfl)⟩ ⟨(Nat.le_of_ble_eq_true rfl), (Nat.le_of_ble_eq_true rfl)⟩ (fun r u hu => ?_)
  obtain ⟨rfl, hu⟩ := hu
  refine g_aload_n C dL_law_178 rfl ?_
  refine g_aload_n C dL_law_179 rfl ?_
  refine g_iload_n C dL_law_180 rfl ?_
  refine g_iconstN 1 C dL_law_181 (by decide) ?_
  refine g_iaddN C dL_law_182 ?_
  refine g_sldN C hX hbl hbA (show i + 1 < L by omega) hL dL_law_183 ?_
  refine g_aload_n C dL_law_184 rfl ?_
  refine g_iload_n C dL_law_185 rfl ?_
  refine g_iconstN 2 C dL_law_186 (by decide) ?_
  refine g_iaddN C dL_law_187 ?_
  refine g_sldN C hX hbl hbA (show i + 2 < L by omega) hL dL_law_188 ?_
  refine gL_M C (ct_X6_face (iW hI)) mw_X6_face ml_L_27 rfl rfl rfl (Nat.le_of_ble_eq_true rfl) dL_law_189 ⟨(Nat.le_of_ble_eq_true rfl), (Nat.le_of_ble_eq_true rfl)⟩ ⟨(Nat.le_of_ble_eq_true rfl), (Nat.le_of_ble_eq_true rfl)⟩ (fun r v hv => ?_)
  obtain ⟨rfl, hv⟩ := hv
  refine g_icmp_eq (tgt := 599) C dL_law_192 (by decide) (fun hq9 => ?_) (fun hq9 => ?_)
  · exact step _ _ (Inv_fc hI hu hv)
  · exact absurd rfl hq9
set_option maxRecDepth 100000 in
set_option maxHeartbeats 4000000 in
theorem law_thrown0_t {p : Program} {l : Launch} {e : Env} {s : State} {m : MethodId} {below : List Frame} {meth : Method} {c : Code} {D : va_G} {cI cZ : ClassId} {b b2 : Nat → Nat} {b0 L : Nat} {xs : Nat → Int32} (C : Cx p s m #[Value.ref b0] meth c code 4 RL ret D cI cZ (fun q => s.heap.size ≤ q)) (hX : va_X b0 L xs s s.heap) (hbl : b0 < s.heap.size) (hbA : ¬ (fun q : Nat => s.heap.size ≤ q) b0) (hL : L ≤ 2560) {i : Nat} (hi : i + 5 ≤ L) {σ τ : St} (hI : Inv τ σ) (hq : ¬ xs (i + 2) = 0) (step : ∀ σ2 τ2 : St, Inv τ2 σ2 → GLw p l e s m below meth c D b0 (pX b cI cZ σ2 ++ pM b2 cI cZ τ2) 599 [some (.ref b0), some (.ref (b 0)), some (.ref (b2 0)), some (.int (nI i))] []) : GLw p l e s m below meth c D b0 (pX b cI cZ σ ++ pM b2 cI cZ τ) 197 [some (.ref b0), some (.ref (b 0)), some (.ref (b2 0)), some (.int (nI i))] [] := by
  refine g_aload_n C dL_law_197 rfl ?_
  refine g_aload_n C dL_law_198 rfl ?_
  refine g_iload_n C dL_law_199 rfl ?_
  refine g_iconstN 1 C dL_law_200 (by decide) ?_
  refine g_iaddN C dL_law_201 ?_
  refine g_sldN C hX hbl hbA (show i + 1 < L by omega) hL dL_law_202 ?_
  refine g_aload_n C dL_law_203 rfl ?_
  refine g_iload_n C dL_law_204 rfl ?_
  refine g_iconstN 2 C dL_law_205 (by decide) ?_
  refine g_iaddN C dL_law_206 ?_
  refine g_sldN C hX hbl hbA (show i + 2 < L by omega) hL dL_law_207 ?_
  refine g_if_eq (tgt := 215) C dL_law_208 (by decide) (fun h208 => ?_) (fun h208 => ?_)
  · exact absurd h208 hq
  · refine g_iconst (v := 1) C dL_law_211 (by decide) ?_
    refine g_goto (tgt := 216) C dL_law_212 (by decide) ?_
    refine gL_X C (ct_X5_thrown0 (q := true) hI) mw_X5_thrown0 ml_L_28 rfl rfl rfl (Nat.le_of_ble_eq_true rfl) dL_law_216 ⟨(Nat.le_of_ble_eq_true rfl), (Nat.le_of_ble_eq_true rfl)⟩ ⟨(Nat.le_of_ble_eq_true rfl), (Nat.le_of_ble_eq_true rfl)⟩ (fun r u hu => ?_)
    obtain ⟨rfl, hu⟩ := hu
    refine g_aload_n C dL_law_219 rfl ?_
    refine g_aload_n C dL_law_220 rfl ?_
    refine g_iload_n C dL_law_221 rfl ?_
    refine g_iconstN 1 C dL_law_222 (by decide) ?_
    refine g_iaddN C dL_law_223 ?_
    refine g_sldN C hX hbl hbA (show i + 1 < L by omega) hL dL_law_224 ?_
    refine g_aload_n C dL_law_225 rfl ?_
    refine g_iload_n C dL_law_226 rfl ?_
    refine g_iconstN 2 C dL_law_227 (by decide) ?_
    refine g_iaddN C dL_law_228 ?_
    refine g_sldN C hX hbl hbA (show i + 2 < L by omega) hL dL_law_229 ?_
    refine g_if_eq (tgt := 237) C dL_law_230 (by decide) (fun h230 => ?_) (fun h230 => ?_)
    · exact absurd h230 hq
    · refine g_iconst (v := 1) C dL_law_233 (by decide) ?_
      refine g_goto (tgt := 238) C dL_law_234 (by decide) ?_
      refine gL_M C (ct_X6_thrown0 (q := true) (iW hI)) mw_X6_thrown0 ml_L_32 rfl rfl rfl (Nat.le_of_ble_eq_true rfl) dL_law_238 ⟨(Nat.le_of_ble_eq_true rfl), (Nat.le_of_ble_eq_true rfl)⟩ ⟨(Nat.le_of_ble_eq_true rfl), (Nat.le_of_ble_eq_true rfl)⟩ (fun r v hv => ?_)
      obtain ⟨rfl, hv⟩ := hv
      refine g_icmp_eq (tgt := 599) C dL_law_241 (by decide) (fun hq9 => ?_) (fun hq9 => ?_)
      · exact step _ _ (Inv_th hI hu hv)
      · exact absurd rfl hq9
set_option maxRecDepth 100000 in
set_option maxHeartbeats 4000000 in
theorem law_thrown0_f {p : Program} {l : Launch} {e : Env} {s : State} {m : MethodId} {below : List Frame} {meth : Method} {c : Code} {D : va_G} {cI cZ : ClassId} {b b2 : Nat → Nat} {b0 L : Nat} {xs : Nat → Int32} (C : Cx p s m #[Value.ref b0] meth c code 4 RL ret D cI cZ (fun q => s.heap.size ≤ q)) (hX : va_X b0 L xs s s.heap) (hbl : b0 < s.heap.size) (hbA : ¬ (fun q : Nat => s.heap.size ≤ q) b0) (hL : L ≤ 2560) {i : Nat} (hi : i + 5 ≤ L) {σ τ : St} (hI : Inv τ σ) (hq : xs (i + 2) = 0) (step : ∀ σ2 τ2 : St, Inv τ2 σ2 → GLw p l e s m below meth c D b0 (pX b cI cZ σ2 ++ pM b2 cI cZ τ2) 599 [some (.ref b0), some (.ref (b 0)), some (.ref (b2 0)), some (.int (nI i))] []) : GLw p l e s m below meth c D b0 (pX b cI cZ σ ++ pM b2 cI cZ τ) 197 [some (.ref b0), some (.ref (b 0)), some (.ref (b2 0)), some (.int (nI i))] [] := by
  refine g_aload_n C dL_law_197 rfl ?_
  refine g_aload_n C dL_law_198 rfl ?_
  refine g_iload_n C dL_law_199 rfl ?_
  refine g_iconstN 1 C dL_law_200 (by decide) ?_
  refine g_iaddN C dL_law_201 ?_
  refine g_sldN C hX hbl hbA (show i + 1 < L by omega) hL dL_law_202 ?_
  refine g_aload_n C dL_law_203 rfl ?_
  refine g_iload_n C dL_law_204 rfl ?_
  refine g_iconstN 2 C dL_law_205 (by decide) ?_
  refine g_iaddN C dL_law_206 ?_
  refine g_sldN C hX hbl hbA (show i + 2 < L by omega) hL dL_law_207 ?_
  refine g_if_eq (tgt := 215) C dL_law_208 (by decide) (fun h208 => ?_) (fun h208 => ?_)
  · refine g_iconst (v := 0) C dL_law_215 (by decide) ?_
    refine gL_X C (ct_X5_thrown0 (q := false) hI) mw_X5_thrown0 ml_L_28 rfl rfl rfl (Nat.le_of_ble_eq_true rfl) dL_law_216 ⟨(Nat.le_of_ble_eq_true rfl), (Nat.le_of_ble_eq_true rfl)⟩ ⟨(Nat.le_of_ble_eq_true rfl), (Nat.le_of_ble_eq_true rfl)⟩ (fun r u hu => ?_)
    obtain ⟨rfl, hu⟩ := hu
    refine g_aload_n C dL_law_219 rfl ?_
    refine g_aload_n C dL_law_220 rfl ?_
    refine g_iload_n C dL_law_221 rfl ?_
    refine g_iconstN 1 C dL_law_222 (by decide) ?_
    refine g_iaddN C dL_law_223 ?_
    refine g_sldN C hX hbl hbA (show i + 1 < L by omega) hL dL_law_224 ?_
    refine g_aload_n C dL_law_225 rfl ?_
    refine g_iload_n C dL_law_226 rfl ?_
    refine g_iconstN 2 C dL_law_227 (by decide) ?_
    refine g_iaddN C dL_law_228 ?_
    refine g_sldN C hX hbl hbA (show i + 2 < L by omega) hL dL_law_229 ?_
    refine g_if_eq (tgt := 237) C dL_law_230 (by decide) (fun h230 => ?_) (fun h230 => ?_)
    · refine g_iconst (v := 0) C dL_law_237 (by decide) ?_
      refine gL_M C (ct_X6_thrown0 (q := false) (iW hI)) mw_X6_thrown0 ml_L_32 rfl rfl rfl (Nat.le_of_ble_eq_true rfl) dL_law_238 ⟨(Nat.le_of_ble_eq_true rfl), (Nat.le_of_ble_eq_true rfl)⟩ ⟨(Nat.le_of_ble_eq_true rfl), (Nat.le_of_ble_eq_true rfl)⟩ (fun r v hv => ?_)
      obtain ⟨rfl, hv⟩ := hv
      refine g_icmp_eq (tgt := 599) C dL_law_241 (by decide) (fun hq9 => ?_) (fun hq9 => ?_)
      · exact step _ _ (Inv_th hI hu hv)
      · exact absurd rfl hq9
    · exact absurd hq h230
  · exact absurd hq h208
set_option maxRecDepth 100000 in
set_option maxHeartbeats 4000000 in
theorem law_member {p : Program} {l : Launch} {e : Env} {s : State} {m : MethodId} {below : List Frame} {meth : Method} {c : Code} {D : va_G} {cI cZ : ClassId} {b b2 : Nat → Nat} {b0 L : Nat} {xs : Nat → Int32} (C : Cx p s m #[Value.ref b0] meth c code 4 RL ret D cI cZ (fun q => s.heap.size ≤ q)) (hX : va_X b0 L xs s s.heap) (hbl : b0 < s.heap.size) (hbA : ¬ (fun q : Nat => s.heap.size ≤ q) b0) (hL : L ≤ 2560) {i : Nat} (hi : i + 5 ≤ L) {σ τ : St} (hI : Inv τ σ) (step : ∀ σ2 τ2 : St, Inv τ2 σ2 → GLw p l e s m below meth c D b0 (pX b cI cZ σ2 ++ pM b2 cI cZ τ2) 599 [some (.ref b0), some (.ref (b 0)), some (.ref (b2 0)), some (.int (nI i))] []) : GLw p l e s m below meth c D b0 (pX b cI cZ σ ++ pM b2 cI cZ τ) 246 [some (.ref b0), some (.ref (b 0)), some (.ref (b2 0)), some (.int (nI i))] [] := by
  refine g_aload_n C dL_law_246 rfl ?_
  refine g_aload_n C dL_law_247 rfl ?_
  refine g_iload_n C dL_law_248 rfl ?_
  refine g_iconstN 1 C dL_law_249 (by decide) ?_
  refine g_iaddN C dL_law_250 ?_
  refine g_sldN C hX hbl hbA (show i + 1 < L by omega) hL dL_law_251 ?_
  refine g_aload_n C dL_law_252 rfl ?_
  refine g_iload_n C dL_law_253 rfl ?_
  refine g_iconstN 2 C dL_law_254 (by decide) ?_
  refine g_iaddN C dL_law_255 ?_
  refine g_sldN C hX hbl hbA (show i + 2 < L by omega) hL dL_law_256 ?_
  refine g_aload_n C dL_law_257 rfl ?_
  refine g_iload_n C dL_law_258 rfl ?_
  refine g_iconstN 3 C dL_law_259 (by decide) ?_
  refine g_iaddN C dL_law_260 ?_
  refine g_sldN C hX hbl hbA (show i + 3 < L by omega) hL dL_law_261 ?_
  refine g_aload_n C dL_law_262 rfl ?_
  refine g_iload_n C dL_law_263 rfl ?_
  refine g_iconstN 4 C dL_law_264 (by decide) ?_
  refine g_iaddN C dL_law_265 ?_
  refine g_sldN C hX hbl hbA (show i + 4 < L by omega) hL dL_law_266 ?_
  refine gL_X C (ct_X5_member hI) mw_X5_member ml_L_33 rfl rfl rfl (Nat.le_of_ble_eq_true rfl) dL_law_267 ⟨(Nat.le_of_ble_eq_true rfl), (Nat.le_of_ble_eq_true rfl)⟩ ⟨(Nat.le_of_ble_eq_true rfl), (Nat.le_of_ble_eq_true rfl)⟩ (fun r u hu => ?_)
  obtain ⟨rfl, hu⟩ := hu
  refine g_aload_n C dL_law_270 rfl ?_
  refine g_aload_n C dL_law_271 rfl ?_
  refine g_iload_n C dL_law_272 rfl ?_
  refine g_iconstN 1 C dL_law_273 (by decide) ?_
  refine g_iaddN C dL_law_274 ?_
  refine g_sldN C hX hbl hbA (show i + 1 < L by omega) hL dL_law_275 ?_
  refine g_aload_n C dL_law_276 rfl ?_
  refine g_iload_n C dL_law_277 rfl ?_
  refine g_iconstN 2 C dL_law_278 (by decide) ?_
  refine g_iaddN C dL_law_279 ?_
  refine g_sldN C hX hbl hbA (show i + 2 < L by omega) hL dL_law_280 ?_
  refine g_aload_n C dL_law_281 rfl ?_
  refine g_iload_n C dL_law_282 rfl ?_
  refine g_iconstN 3 C dL_law_283 (by decide) ?_
  refine g_iaddN C dL_law_284 ?_
  refine g_sldN C hX hbl hbA (show i + 3 < L by omega) hL dL_law_285 ?_
  refine g_aload_n C dL_law_286 rfl ?_
  refine g_iload_n C dL_law_287 rfl ?_
  refine g_iconstN 4 C dL_law_288 (by decide) ?_
  refine g_iaddN C dL_law_289 ?_
  refine g_sldN C hX hbl hbA (show i + 4 < L by omega) hL dL_law_290 ?_
  refine gL_M C (ct_X6_member (iW hI) (i_dn hI)) mw_X6_member ml_L_37 rfl rfl rfl (Nat.le_of_ble_eq_true rfl) dL_law_291 ⟨(Nat.le_of_ble_eq_true rfl), (Nat.le_of_ble_eq_true rfl)⟩ ⟨(Nat.le_of_ble_eq_true rfl), (Nat.le_of_ble_eq_true rfl)⟩ (fun r v hv => ?_)
  obtain ⟨rfl, hv⟩ := hv
  refine g_icmp_eq (tgt := 599) C dL_law_294 (by decide) (fun hq9 => ?_) (fun hq9 => ?_)
  · exact step _ _ (Inv_mb hI hu hv)
  · exact absurd rfl hq9
set_option maxRecDepth 100000 in
set_option maxHeartbeats 4000000 in
theorem law_throws0 {p : Program} {l : Launch} {e : Env} {s : State} {m : MethodId} {below : List Frame} {meth : Method} {c : Code} {D : va_G} {cI cZ : ClassId} {b b2 : Nat → Nat} {b0 L : Nat} {xs : Nat → Int32} (C : Cx p s m #[Value.ref b0] meth c code 4 RL ret D cI cZ (fun q => s.heap.size ≤ q)) (hX : va_X b0 L xs s s.heap) (hbl : b0 < s.heap.size) (hbA : ¬ (fun q : Nat => s.heap.size ≤ q) b0) (hL : L ≤ 2560) {i : Nat} (hi : i + 5 ≤ L) {σ τ : St} (hI : Inv τ σ) (step : ∀ σ2 τ2 : St, Inv τ2 σ2 → GLw p l e s m below meth c D b0 (pX b cI cZ σ2 ++ pM b2 cI cZ τ2) 599 [some (.ref b0), some (.ref (b 0)), some (.ref (b2 0)), some (.int (nI i))] []) : GLw p l e s m below meth c D b0 (pX b cI cZ σ ++ pM b2 cI cZ τ) 299 [some (.ref b0), some (.ref (b 0)), some (.ref (b2 0)), some (.int (nI i))] [] := by
  refine g_aload_n C dL_law_299 rfl ?_
  refine g_aload_n C dL_law_300 rfl ?_
  refine g_iload_n C dL_law_301 rfl ?_
  refine g_iconstN 1 C dL_law_302 (by decide) ?_
  refine g_iaddN C dL_law_303 ?_
  refine g_sldN C hX hbl hbA (show i + 1 < L by omega) hL dL_law_304 ?_
  refine g_aload_n C dL_law_305 rfl ?_
  refine g_iload_n C dL_law_306 rfl ?_
  refine g_iconstN 2 C dL_law_307 (by decide) ?_
  refine g_iaddN C dL_law_308 ?_
  refine g_sldN C hX hbl hbA (show i + 2 < L by omega) hL dL_law_309 ?_
  refine gL_X C (ct_X5_throws0 hI) mw_X5_throws0 ml_L_38 rfl rfl rfl (Nat.le_of_ble_eq_true rfl) dL_law_310 ⟨(Nat.le_of_ble_eq_true rfl), (Nat.le_of_ble_eq_true rfl)⟩ ⟨(Nat.le_of_ble_eq_true rfl), (Nat.le_of_ble_eq_true rfl)⟩ (fun r u hu => ?_)
  obtain ⟨rfl, hu⟩ := hu
  refine g_aload_n C dL_law_313 rfl ?_
  refine g_aload_n C dL_law_314 rfl ?_
  refine g_iload_n C dL_law_315 rfl ?_
  refine g_iconstN 1 C dL_law_316 (by decide) ?_
  refine g_iaddN C dL_law_317 ?_
  refine g_sldN C hX hbl hbA (show i + 1 < L by omega) hL dL_law_318 ?_
  refine g_aload_n C dL_law_319 rfl ?_
  refine g_iload_n C dL_law_320 rfl ?_
  refine g_iconstN 2 C dL_law_321 (by decide) ?_
  refine g_iaddN C dL_law_322 ?_
  refine g_sldN C hX hbl hbA (show i + 2 < L by omega) hL dL_law_323 ?_
  refine gL_M C (ct_X6_throws0 (iW hI)) mw_X6_throws0 ml_L_41 rfl rfl rfl (Nat.le_of_ble_eq_true rfl) dL_law_324 ⟨(Nat.le_of_ble_eq_true rfl), (Nat.le_of_ble_eq_true rfl)⟩ ⟨(Nat.le_of_ble_eq_true rfl), (Nat.le_of_ble_eq_true rfl)⟩ (fun r v hv => ?_)
  obtain ⟨rfl, hv⟩ := hv
  refine g_icmp_eq (tgt := 599) C dL_law_327 (by decide) (fun hq9 => ?_) (fun hq9 => ?_)
  · exact step _ _ (Inv_to hI hu hv)
  · exact absurd rfl hq9
set_option maxRecDepth 100000 in
set_option maxHeartbeats 4000000 in
theorem law_overrides {p : Program} {l : Launch} {e : Env} {s : State} {m : MethodId} {below : List Frame} {meth : Method} {c : Code} {D : va_G} {cI cZ : ClassId} {b b2 : Nat → Nat} {b0 L : Nat} {xs : Nat → Int32} (C : Cx p s m #[Value.ref b0] meth c code 4 RL ret D cI cZ (fun q => s.heap.size ≤ q)) (hX : va_X b0 L xs s s.heap) (hbl : b0 < s.heap.size) (hbA : ¬ (fun q : Nat => s.heap.size ≤ q) b0) (hL : L ≤ 2560) {i : Nat} (hi : i + 5 ≤ L) {σ τ : St} (hI : Inv τ σ) (step : ∀ σ2 τ2 : St, Inv τ2 σ2 → GLw p l e s m below meth c D b0 (pX b cI cZ σ2 ++ pM b2 cI cZ τ2) 599 [some (.ref b0), some (.ref (b 0)), some (.ref (b2 0)), some (.int (nI i))] []) : GLw p l e s m below meth c D b0 (pX b cI cZ σ ++ pM b2 cI cZ τ) 332 [some (.ref b0), some (.ref (b 0)), some (.ref (b2 0)), some (.int (nI i))] [] := by
  refine g_aload_n C dL_law_332 rfl ?_
  refine g_aload_n C dL_law_333 rfl ?_
  refine g_iload_n C dL_law_334 rfl ?_
  refine g_iconstN 1 C dL_law_335 (by decide) ?_
  refine g_iaddN C dL_law_336 ?_
  refine g_sldN C hX hbl hbA (show i + 1 < L by omega) hL dL_law_337 ?_
  refine g_aload_n C dL_law_338 rfl ?_
  refine g_iload_n C dL_law_339 rfl ?_
  refine g_iconstN 2 C dL_law_340 (by decide) ?_
  refine g_iaddN C dL_law_341 ?_
  refine g_sldN C hX hbl hbA (show i + 2 < L by omega) hL dL_law_342 ?_
  refine gL_X C (cr_X5_overrides hI) mw_X5_overrides ml_L_42 rfl rfl rfl (Nat.le_of_ble_eq_true rfl) dL_law_343 ⟨(Nat.le_of_ble_eq_true rfl), (Nat.le_of_ble_eq_true rfl)⟩ ⟨(Nat.le_of_ble_eq_true rfl), (Nat.le_of_ble_eq_true rfl)⟩ (fun r u hu => ?_)
  obtain ⟨rfl, rfl⟩ := hu
  refine g_aload_n C dL_law_346 rfl ?_
  refine g_aload_n C dL_law_347 rfl ?_
  refine g_iload_n C dL_law_348 rfl ?_
  refine g_iconstN 1 C dL_law_349 (by decide) ?_
  refine g_iaddN C dL_law_350 ?_
  refine g_sldN C hX hbl hbA (show i + 1 < L by omega) hL dL_law_351 ?_
  refine g_aload_n C dL_law_352 rfl ?_
  refine g_iload_n C dL_law_353 rfl ?_
  refine g_iconstN 2 C dL_law_354 (by decide) ?_
  refine g_iaddN C dL_law_355 ?_
  refine g_sldN C hX hbl hbA (show i + 2 < L by omega) hL dL_law_356 ?_
  refine gL_M C (cr_X6_overrides (iW hI)) mw_X6_overrides ml_L_45 rfl rfl rfl (Nat.le_of_ble_eq_true rfl) dL_law_357 ⟨(Nat.le_of_ble_eq_true rfl), (Nat.le_of_ble_eq_true rfl)⟩ ⟨(Nat.le_of_ble_eq_true rfl), (Nat.le_of_ble_eq_true rfl)⟩ (fun r v hv => ?_)
  obtain ⟨rfl, rfl⟩ := hv
  refine g_icmp_eq (tgt := 599) C dL_law_360 (by decide) (fun hq9 => ?_) (fun hq9 => ?_)
  · exact step _ _ (hI)
  · exact absurd rfl hq9
set_option maxRecDepth 100000 in
set_option maxHeartbeats 4000000 in
theorem law_hides {p : Program} {l : Launch} {e : Env} {s : State} {m : MethodId} {below : List Frame} {meth : Method} {c : Code} {D : va_G} {cI cZ : ClassId} {b b2 : Nat → Nat} {b0 L : Nat} {xs : Nat → Int32} (C : Cx p s m #[Value.ref b0] meth c code 4 RL ret D cI cZ (fun q => s.heap.size ≤ q)) (hX : va_X b0 L xs s s.heap) (hbl : b0 < s.heap.size) (hbA : ¬ (fun q : Nat => s.heap.size ≤ q) b0) (hL : L ≤ 2560) {i : Nat} (hi : i + 5 ≤ L) {σ τ : St} (hI : Inv τ σ) (step : ∀ σ2 τ2 : St, Inv τ2 σ2 → GLw p l e s m below meth c D b0 (pX b cI cZ σ2 ++ pM b2 cI cZ τ2) 599 [some (.ref b0), some (.ref (b 0)), some (.ref (b2 0)), some (.int (nI i))] []) : GLw p l e s m below meth c D b0 (pX b cI cZ σ ++ pM b2 cI cZ τ) 365 [some (.ref b0), some (.ref (b 0)), some (.ref (b2 0)), some (.int (nI i))] [] := by
  refine g_aload_n C dL_law_365 rfl ?_
  refine g_aload_n C dL_law_366 rfl ?_
  refine g_iload_n C dL_law_367 rfl ?_
  refine g_iconstN 1 C dL_law_368 (by decide) ?_
  refine g_iaddN C dL_law_369 ?_
  refine g_sldN C hX hbl hbA (show i + 1 < L by omega) hL dL_law_370 ?_
  refine g_aload_n C dL_law_371 rfl ?_
  refine g_iload_n C dL_law_372 rfl ?_
  refine g_iconstN 2 C dL_law_373 (by decide) ?_
  refine g_iaddN C dL_law_374 ?_
  refine g_sldN C hX hbl hbA (show i + 2 < L by omega) hL dL_law_375 ?_
  refine gL_X C (cr_X5_hides hI) mw_X5_hides ml_L_46 rfl rfl rfl (Nat.le_of_ble_eq_true rfl) dL_law_376 ⟨(Nat.le_of_ble_eq_true rfl), (Nat.le_of_ble_eq_true rfl)⟩ ⟨(Nat.le_of_ble_eq_true rfl), (Nat.le_of_ble_eq_true rfl)⟩ (fun r u hu => ?_)
  obtain ⟨rfl, rfl⟩ := hu
  refine g_aload_n C dL_law_379 rfl ?_
  refine g_aload_n C dL_law_380 rfl ?_
  refine g_iload_n C dL_law_381 rfl ?_
  refine g_iconstN 1 C dL_law_382 (by decide) ?_
  refine g_iaddN C dL_law_383 ?_
  refine g_sldN C hX hbl hbA (show i + 1 < L by omega) hL dL_law_384 ?_
  refine g_aload_n C dL_law_385 rfl ?_
  refine g_iload_n C dL_law_386 rfl ?_
  refine g_iconstN 2 C dL_law_387 (by decide) ?_
  refine g_iaddN C dL_law_388 ?_
  refine g_sldN C hX hbl hbA (show i + 2 < L by omega) hL dL_law_389 ?_
  refine gL_M C (cr_X6_hides (iW hI)) mw_X6_hides ml_L_49 rfl rfl rfl (Nat.le_of_ble_eq_true rfl) dL_law_390 ⟨(Nat.le_of_ble_eq_true rfl), (Nat.le_of_ble_eq_true rfl)⟩ ⟨(Nat.le_of_ble_eq_true rfl), (Nat.le_of_ble_eq_true rfl)⟩ (fun r v hv => ?_)
  obtain ⟨rfl, rfl⟩ := hv
  refine g_icmp_eq (tgt := 599) C dL_law_393 (by decide) (fun hq9 => ?_) (fun hq9 => ?_)
  · exact step _ _ (hI)
  · exact absurd rfl hq9
set_option maxRecDepth 100000 in
set_option maxHeartbeats 4000000 in
theorem law_chosen {p : Program} {l : Launch} {e : Env} {s : State} {m : MethodId} {below : List Frame} {meth : Method} {c : Code} {D : va_G} {cI cZ : ClassId} {b b2 : Nat → Nat} {b0 L : Nat} {xs : Nat → Int32} (C : Cx p s m #[Value.ref b0] meth c code 4 RL ret D cI cZ (fun q => s.heap.size ≤ q)) (hX : va_X b0 L xs s s.heap) (hbl : b0 < s.heap.size) (hbA : ¬ (fun q : Nat => s.heap.size ≤ q) b0) (hL : L ≤ 2560) {i : Nat} (hi : i + 5 ≤ L) {σ τ : St} (hI : Inv τ σ) (step : ∀ σ2 τ2 : St, Inv τ2 σ2 → GLw p l e s m below meth c D b0 (pX b cI cZ σ2 ++ pM b2 cI cZ τ2) 599 [some (.ref b0), some (.ref (b 0)), some (.ref (b2 0)), some (.int (nI i))] []) : GLw p l e s m below meth c D b0 (pX b cI cZ σ ++ pM b2 cI cZ τ) 398 [some (.ref b0), some (.ref (b 0)), some (.ref (b2 0)), some (.int (nI i))] [] := by
  refine g_aload_n C dL_law_398 rfl ?_
  refine g_aload_n C dL_law_399 rfl ?_
  refine g_iload_n C dL_law_400 rfl ?_
  refine g_iconstN 1 C dL_law_401 (by decide) ?_
  refine g_iaddN C dL_law_402 ?_
  refine g_sldN C hX hbl hbA (show i + 1 < L by omega) hL dL_law_403 ?_
  refine g_aload_n C dL_law_404 rfl ?_
  refine g_iload_n C dL_law_405 rfl ?_
  refine g_iconstN 2 C dL_law_406 (by decide) ?_
  refine g_iaddN C dL_law_407 ?_
  refine g_sldN C hX hbl hbA (show i + 2 < L by omega) hL dL_law_408 ?_
  refine gL_X C (cr_X5_chosen hI) mw_X5_chosen ml_L_50 rfl rfl rfl (Nat.le_of_ble_eq_true rfl) dL_law_409 ⟨(Nat.le_of_ble_eq_true rfl), (Nat.le_of_ble_eq_true rfl)⟩ ⟨(Nat.le_of_ble_eq_true rfl), (Nat.le_of_ble_eq_true rfl)⟩ (fun r u hu => ?_)
  obtain ⟨rfl, rfl⟩ := hu
  refine g_aload_n C dL_law_412 rfl ?_
  refine g_aload_n C dL_law_413 rfl ?_
  refine g_iload_n C dL_law_414 rfl ?_
  refine g_iconstN 1 C dL_law_415 (by decide) ?_
  refine g_iaddN C dL_law_416 ?_
  refine g_sldN C hX hbl hbA (show i + 1 < L by omega) hL dL_law_417 ?_
  refine g_aload_n C dL_law_418 rfl ?_
  refine g_iload_n C dL_law_419 rfl ?_
  refine g_iconstN 2 C dL_law_420 (by decide) ?_
  refine g_iaddN C dL_law_421 ?_
  refine g_sldN C hX hbl hbA (show i + 2 < L by omega) hL dL_law_422 ?_
  refine gL_M C (cr_X6_chosen (iW hI)) mw_X6_chosen ml_L_53 rfl rfl rfl (Nat.le_of_ble_eq_true rfl) dL_law_423 ⟨(Nat.le_of_ble_eq_true rfl), (Nat.le_of_ble_eq_true rfl)⟩ ⟨(Nat.le_of_ble_eq_true rfl), (Nat.le_of_ble_eq_true rfl)⟩ (fun r v hv => ?_)
  obtain ⟨rfl, rfl⟩ := hv
  refine g_icmp_eq (tgt := 599) C dL_law_426 (by decide) (fun hq9 => ?_) (fun hq9 => ?_)
  · exact step _ _ (hI)
  · exact absurd rfl hq9
set_option maxRecDepth 100000 in
set_option maxHeartbeats 4000000 in
theorem law_sub {p : Program} {l : Launch} {e : Env} {s : State} {m : MethodId} {below : List Frame} {meth : Method} {c : Code} {D : va_G} {cI cZ : ClassId} {b b2 : Nat → Nat} {b0 L : Nat} {xs : Nat → Int32} (C : Cx p s m #[Value.ref b0] meth c code 4 RL ret D cI cZ (fun q => s.heap.size ≤ q)) (hX : va_X b0 L xs s s.heap) (hbl : b0 < s.heap.size) (hbA : ¬ (fun q : Nat => s.heap.size ≤ q) b0) (hL : L ≤ 2560) {i : Nat} (hi : i + 5 ≤ L) {σ τ : St} (hI : Inv τ σ) (step : ∀ σ2 τ2 : St, Inv τ2 σ2 → GLw p l e s m below meth c D b0 (pX b cI cZ σ2 ++ pM b2 cI cZ τ2) 599 [some (.ref b0), some (.ref (b 0)), some (.ref (b2 0)), some (.int (nI i))] []) : GLw p l e s m below meth c D b0 (pX b cI cZ σ ++ pM b2 cI cZ τ) 431 [some (.ref b0), some (.ref (b 0)), some (.ref (b2 0)), some (.int (nI i))] [] := by
  refine g_aload_n C dL_law_431 rfl ?_
  refine g_aload_n C dL_law_432 rfl ?_
  refine g_iload_n C dL_law_433 rfl ?_
  refine g_iconstN 1 C dL_law_434 (by decide) ?_
  refine g_iaddN C dL_law_435 ?_
  refine g_sldN C hX hbl hbA (show i + 1 < L by omega) hL dL_law_436 ?_
  refine g_aload_n C dL_law_437 rfl ?_
  refine g_iload_n C dL_law_438 rfl ?_
  refine g_iconstN 2 C dL_law_439 (by decide) ?_
  refine g_iaddN C dL_law_440 ?_
  refine g_sldN C hX hbl hbA (show i + 2 < L by omega) hL dL_law_441 ?_
  refine gL_X C (cr_X5_sub hI) mw_X5_sub ml_L_54 rfl rfl rfl (Nat.le_of_ble_eq_true rfl) dL_law_442 ⟨(Nat.le_of_ble_eq_true rfl), (Nat.le_of_ble_eq_true rfl)⟩ ⟨(Nat.le_of_ble_eq_true rfl), (Nat.le_of_ble_eq_true rfl)⟩ (fun r u hu => ?_)
  obtain ⟨rfl, rfl⟩ := hu
  refine g_aload_n C dL_law_445 rfl ?_
  refine g_aload_n C dL_law_446 rfl ?_
  refine g_iload_n C dL_law_447 rfl ?_
  refine g_iconstN 1 C dL_law_448 (by decide) ?_
  refine g_iaddN C dL_law_449 ?_
  refine g_sldN C hX hbl hbA (show i + 1 < L by omega) hL dL_law_450 ?_
  refine g_aload_n C dL_law_451 rfl ?_
  refine g_iload_n C dL_law_452 rfl ?_
  refine g_iconstN 2 C dL_law_453 (by decide) ?_
  refine g_iaddN C dL_law_454 ?_
  refine g_sldN C hX hbl hbA (show i + 2 < L by omega) hL dL_law_455 ?_
  refine gL_M C (cr_X6_sub (iW hI)) mw_X6_sub ml_L_57 rfl rfl rfl (Nat.le_of_ble_eq_true rfl) dL_law_456 ⟨(Nat.le_of_ble_eq_true rfl), (Nat.le_of_ble_eq_true rfl)⟩ ⟨(Nat.le_of_ble_eq_true rfl), (Nat.le_of_ble_eq_true rfl)⟩ (fun r v hv => ?_)
  obtain ⟨rfl, rfl⟩ := hv
  refine g_icmp_eq (tgt := 599) C dL_law_459 (by decide) (fun hq9 => ?_) (fun hq9 => ?_)
  · exact step _ _ (hI)
  · exact absurd rfl hq9
set_option maxRecDepth 100000 in
set_option maxHeartbeats 4000000 in
theorem law_check {p : Program} {l : Launch} {e : Env} {s : State} {m : MethodId} {below : List Frame} {meth : Method} {c : Code} {D : va_G} {cI cZ : ClassId} {b b2 : Nat → Nat} {b0 L : Nat} {xs : Nat → Int32} (C : Cx p s m #[Value.ref b0] meth c code 4 RL ret D cI cZ (fun q => s.heap.size ≤ q)) (hX : va_X b0 L xs s s.heap) (hbl : b0 < s.heap.size) (hbA : ¬ (fun q : Nat => s.heap.size ≤ q) b0) (hL : L ≤ 2560) {i : Nat} (hi : i + 5 ≤ L) {σ τ : St} (hI : Inv τ σ) (step : ∀ σ2 τ2 : St, Inv τ2 σ2 → GLw p l e s m below meth c D b0 (pX b cI cZ σ2 ++ pM b2 cI cZ τ2) 599 [some (.ref b0), some (.ref (b 0)), some (.ref (b2 0)), some (.int (nI i))] []) : GLw p l e s m below meth c D b0 (pX b cI cZ σ ++ pM b2 cI cZ τ) 464 [some (.ref b0), some (.ref (b 0)), some (.ref (b2 0)), some (.int (nI i))] [] := by
  refine g_aload_n C dL_law_464 rfl ?_
  refine g_aload_n C dL_law_465 rfl ?_
  refine g_iload_n C dL_law_466 rfl ?_
  refine g_iconstN 1 C dL_law_467 (by decide) ?_
  refine g_iaddN C dL_law_468 ?_
  refine g_sldN C hX hbl hbA (show i + 1 < L by omega) hL dL_law_469 ?_
  refine gL_X C (ct_X5_check hI) mw_X5_check ml_L_58 rfl rfl rfl (Nat.le_of_ble_eq_true rfl) dL_law_470 ⟨(Nat.le_of_ble_eq_true rfl), (Nat.le_of_ble_eq_true rfl)⟩ ⟨(Nat.le_of_ble_eq_true rfl), (Nat.le_of_ble_eq_true rfl)⟩ (fun r u hu => ?_)
  obtain ⟨rfl, hu⟩ := hu
  refine g_aload_n C dL_law_473 rfl ?_
  refine g_aload_n C dL_law_474 rfl ?_
  refine g_iload_n C dL_law_475 rfl ?_
  refine g_iconstN 1 C dL_law_476 (by decide) ?_
  refine g_iaddN C dL_law_477 ?_
  refine g_sldN C hX hbl hbA (show i + 1 < L by omega) hL dL_law_478 ?_
  refine gL_M C (ct_X6_check (iW hI) (jok hI)) mw_X6_check ml_L_62 rfl rfl rfl (Nat.le_of_ble_eq_true rfl) dL_law_479 ⟨(Nat.le_of_ble_eq_true rfl), (Nat.le_of_ble_eq_true rfl)⟩ ⟨(Nat.le_of_ble_eq_true rfl), (Nat.le_of_ble_eq_true rfl)⟩ (fun r v hv => ?_)
  obtain ⟨rfl, hv⟩ := hv
  refine g_icmp_eq (tgt := 599) C dL_law_482 (by decide) (fun hq9 => ?_) (fun hq9 => ?_)
  · exact step _ _ (Inv_sm hI hu hv)
  · exact absurd rfl hq9
set_option maxRecDepth 100000 in
set_option maxHeartbeats 4000000 in
theorem law_fault {p : Program} {l : Launch} {e : Env} {s : State} {m : MethodId} {below : List Frame} {meth : Method} {c : Code} {D : va_G} {cI cZ : ClassId} {b b2 : Nat → Nat} {b0 L : Nat} {xs : Nat → Int32} (C : Cx p s m #[Value.ref b0] meth c code 4 RL ret D cI cZ (fun q => s.heap.size ≤ q)) (hX : va_X b0 L xs s s.heap) (hbl : b0 < s.heap.size) (hbA : ¬ (fun q : Nat => s.heap.size ≤ q) b0) (hL : L ≤ 2560) {i : Nat} (hi : i + 5 ≤ L) {σ τ : St} (hI : Inv τ σ) (step : ∀ σ2 τ2 : St, Inv τ2 σ2 → GLw p l e s m below meth c D b0 (pX b cI cZ σ2 ++ pM b2 cI cZ τ2) 599 [some (.ref b0), some (.ref (b 0)), some (.ref (b2 0)), some (.int (nI i))] []) : GLw p l e s m below meth c D b0 (pX b cI cZ σ ++ pM b2 cI cZ τ) 487 [some (.ref b0), some (.ref (b 0)), some (.ref (b2 0)), some (.int (nI i))] [] := by
  refine g_aload_n C dL_law_487 rfl ?_
  refine g_aload_n C dL_law_488 rfl ?_
  refine g_iload_n C dL_law_489 rfl ?_
  refine g_iconstN 1 C dL_law_490 (by decide) ?_
  refine g_iaddN C dL_law_491 ?_
  refine g_sldN C hX hbl hbA (show i + 1 < L by omega) hL dL_law_492 ?_
  refine g_aload_n C dL_law_493 rfl ?_
  refine g_iload_n C dL_law_494 rfl ?_
  refine g_iconstN 2 C dL_law_495 (by decide) ?_
  refine g_iaddN C dL_law_496 ?_
  refine g_sldN C hX hbl hbA (show i + 2 < L by omega) hL dL_law_497 ?_
  refine g_aload_n C dL_law_498 rfl ?_
  refine g_iload_n C dL_law_499 rfl ?_
  refine g_iconstN 3 C dL_law_500 (by decide) ?_
  refine g_iaddN C dL_law_501 ?_
  refine g_sldN C hX hbl hbA (show i + 3 < L by omega) hL dL_law_502 ?_
  refine gL_X C (ct_X5_fault hI) mw_X5_fault ml_L_63 rfl rfl rfl (Nat.le_of_ble_eq_true rfl) dL_law_503 ⟨(Nat.le_of_ble_eq_true rfl), (Nat.le_of_ble_eq_true rfl)⟩ ⟨(Nat.le_of_ble_eq_true rfl), (Nat.le_of_ble_eq_true rfl)⟩ (fun r u hu => ?_)
  obtain ⟨rfl, hu⟩ := hu
  refine g_aload_n C dL_law_506 rfl ?_
  refine g_aload_n C dL_law_507 rfl ?_
  refine g_iload_n C dL_law_508 rfl ?_
  refine g_iconstN 1 C dL_law_509 (by decide) ?_
  refine g_iaddN C dL_law_510 ?_
  refine g_sldN C hX hbl hbA (show i + 1 < L by omega) hL dL_law_511 ?_
  refine g_aload_n C dL_law_512 rfl ?_
  refine g_iload_n C dL_law_513 rfl ?_
  refine g_iconstN 2 C dL_law_514 (by decide) ?_
  refine g_iaddN C dL_law_515 ?_
  refine g_sldN C hX hbl hbA (show i + 2 < L by omega) hL dL_law_516 ?_
  refine g_aload_n C dL_law_517 rfl ?_
  refine g_iload_n C dL_law_518 rfl ?_
  refine g_iconstN 3 C dL_law_519 (by decide) ?_
  refine g_iaddN C dL_law_520 ?_
  refine g_sldN C hX hbl hbA (show i + 3 < L by omega) hL dL_law_521 ?_
  refine gL_M C (ct_X6_fault (iW hI) (jok hI)) mw_X6_fault ml_L_66 rfl rfl rfl (Nat.le_of_ble_eq_true rfl) dL_law_522 ⟨(Nat.le_of_ble_eq_true rfl), (Nat.le_of_ble_eq_true rfl)⟩ ⟨(Nat.le_of_ble_eq_true rfl), (Nat.le_of_ble_eq_true rfl)⟩ (fun r v hv => ?_)
  obtain ⟨rfl, hv⟩ := hv
  refine g_icmp_eq (tgt := 599) C dL_law_525 (by decide) (fun hq9 => ?_) (fun hq9 => ?_)
  · exact step _ _ (Inv_sm hI hu hv)
  · exact absurd rfl hq9
set_option maxRecDepth 100000 in
set_option maxHeartbeats 4000000 in
theorem law_bridges {p : Program} {l : Launch} {e : Env} {s : State} {m : MethodId} {below : List Frame} {meth : Method} {c : Code} {D : va_G} {cI cZ : ClassId} {b b2 : Nat → Nat} {b0 L : Nat} {xs : Nat → Int32} (C : Cx p s m #[Value.ref b0] meth c code 4 RL ret D cI cZ (fun q => s.heap.size ≤ q)) (hX : va_X b0 L xs s s.heap) (hbl : b0 < s.heap.size) (hbA : ¬ (fun q : Nat => s.heap.size ≤ q) b0) (hL : L ≤ 2560) {i : Nat} (hi : i + 5 ≤ L) {σ τ : St} (hI : Inv τ σ) (step : ∀ σ2 τ2 : St, Inv τ2 σ2 → GLw p l e s m below meth c D b0 (pX b cI cZ σ2 ++ pM b2 cI cZ τ2) 599 [some (.ref b0), some (.ref (b 0)), some (.ref (b2 0)), some (.int (nI i))] []) : GLw p l e s m below meth c D b0 (pX b cI cZ σ ++ pM b2 cI cZ τ) 530 [some (.ref b0), some (.ref (b 0)), some (.ref (b2 0)), some (.int (nI i))] [] := by
  refine g_aload_n C dL_law_530 rfl ?_
  refine g_aload_n C dL_law_531 rfl ?_
  refine g_iload_n C dL_law_532 rfl ?_
  refine g_iconstN 1 C dL_law_533 (by decide) ?_
  refine g_iaddN C dL_law_534 ?_
  refine g_sldN C hX hbl hbA (show i + 1 < L by omega) hL dL_law_535 ?_
  refine gL_X C (cr_X5_bridges hI) mw_X5_bridges ml_L_67 rfl rfl rfl (Nat.le_of_ble_eq_true rfl) dL_law_536 ⟨(Nat.le_of_ble_eq_true rfl), (Nat.le_of_ble_eq_true rfl)⟩ ⟨(Nat.le_of_ble_eq_true rfl), (Nat.le_of_ble_eq_true rfl)⟩ (fun r u hu => ?_)
  obtain ⟨rfl, rfl⟩ := hu
  refine g_aload_n C dL_law_539 rfl ?_
  refine g_aload_n C dL_law_540 rfl ?_
  refine g_iload_n C dL_law_541 rfl ?_
  refine g_iconstN 1 C dL_law_542 (by decide) ?_
  refine g_iaddN C dL_law_543 ?_
  refine g_sldN C hX hbl hbA (show i + 1 < L by omega) hL dL_law_544 ?_
  refine gL_M C (cr_X6_bridges (iW hI)) mw_X6_bridges ml_L_70 rfl rfl rfl (Nat.le_of_ble_eq_true rfl) dL_law_545 ⟨(Nat.le_of_ble_eq_true rfl), (Nat.le_of_ble_eq_true rfl)⟩ ⟨(Nat.le_of_ble_eq_true rfl), (Nat.le_of_ble_eq_true rfl)⟩ (fun r v hv => ?_)
  obtain ⟨rfl, rfl⟩ := hv
  refine g_icmp_eq (tgt := 599) C dL_law_548 (by decide) (fun hq9 => ?_) (fun hq9 => ?_)
  · exact step _ _ (hI)
  · exact absurd rfl hq9
set_option maxRecDepth 100000 in
set_option maxHeartbeats 4000000 in
theorem law_first {p : Program} {l : Launch} {e : Env} {s : State} {m : MethodId} {below : List Frame} {meth : Method} {c : Code} {D : va_G} {cI cZ : ClassId} {b b2 : Nat → Nat} {b0 L : Nat} {xs : Nat → Int32} (C : Cx p s m #[Value.ref b0] meth c code 4 RL ret D cI cZ (fun q => s.heap.size ≤ q)) (hX : va_X b0 L xs s s.heap) (hbl : b0 < s.heap.size) (hbA : ¬ (fun q : Nat => s.heap.size ≤ q) b0) (hL : L ≤ 2560) {i : Nat} (hi : i + 5 ≤ L) {σ τ : St} (hI : Inv τ σ) (step : ∀ σ2 τ2 : St, Inv τ2 σ2 → GLw p l e s m below meth c D b0 (pX b cI cZ σ2 ++ pM b2 cI cZ τ2) 599 [some (.ref b0), some (.ref (b 0)), some (.ref (b2 0)), some (.int (nI i))] []) : GLw p l e s m below meth c D b0 (pX b cI cZ σ ++ pM b2 cI cZ τ) 553 [some (.ref b0), some (.ref (b 0)), some (.ref (b2 0)), some (.int (nI i))] [] := by
  refine g_aload_n C dL_law_553 rfl ?_
  refine g_aload_n C dL_law_554 rfl ?_
  refine g_iload_n C dL_law_555 rfl ?_
  refine g_iconstN 1 C dL_law_556 (by decide) ?_
  refine g_iaddN C dL_law_557 ?_
  refine g_sldN C hX hbl hbA (show i + 1 < L by omega) hL dL_law_558 ?_
  refine gL_X C (cr_X5_first hI) mw_X5_first ml_L_71 rfl rfl rfl (Nat.le_of_ble_eq_true rfl) dL_law_559 ⟨(Nat.le_of_ble_eq_true rfl), (Nat.le_of_ble_eq_true rfl)⟩ ⟨(Nat.le_of_ble_eq_true rfl), (Nat.le_of_ble_eq_true rfl)⟩ (fun r u hu => ?_)
  obtain ⟨rfl, rfl⟩ := hu
  refine g_aload_n C dL_law_562 rfl ?_
  refine g_aload_n C dL_law_563 rfl ?_
  refine g_iload_n C dL_law_564 rfl ?_
  refine g_iconstN 1 C dL_law_565 (by decide) ?_
  refine g_iaddN C dL_law_566 ?_
  refine g_sldN C hX hbl hbA (show i + 1 < L by omega) hL dL_law_567 ?_
  refine gL_M C (cr_X6_first (iW hI)) mw_X6_first ml_L_74 rfl rfl rfl (Nat.le_of_ble_eq_true rfl) dL_law_568 ⟨(Nat.le_of_ble_eq_true rfl), (Nat.le_of_ble_eq_true rfl)⟩ ⟨(Nat.le_of_ble_eq_true rfl), (Nat.le_of_ble_eq_true rfl)⟩ (fun r v hv => ?_)
  obtain ⟨rfl, rfl⟩ := hv
  refine g_icmp_eq (tgt := 599) C dL_law_571 (by decide) (fun hq9 => ?_) (fun hq9 => ?_)
  · exact step _ _ (hI)
  · exact absurd rfl hq9
set_option maxRecDepth 100000 in
set_option maxHeartbeats 4000000 in
theorem law_told {p : Program} {l : Launch} {e : Env} {s : State} {m : MethodId} {below : List Frame} {meth : Method} {c : Code} {D : va_G} {cI cZ : ClassId} {b b2 : Nat → Nat} {b0 L : Nat} {xs : Nat → Int32} (C : Cx p s m #[Value.ref b0] meth c code 4 RL ret D cI cZ (fun q => s.heap.size ≤ q)) (hX : va_X b0 L xs s s.heap) (hbl : b0 < s.heap.size) (hbA : ¬ (fun q : Nat => s.heap.size ≤ q) b0) (hL : L ≤ 2560) {i : Nat} (hi : i + 5 ≤ L) {σ τ : St} (hI : Inv τ σ) (step : ∀ σ2 τ2 : St, Inv τ2 σ2 → GLw p l e s m below meth c D b0 (pX b cI cZ σ2 ++ pM b2 cI cZ τ2) 599 [some (.ref b0), some (.ref (b 0)), some (.ref (b2 0)), some (.int (nI i))] []) : GLw p l e s m below meth c D b0 (pX b cI cZ σ ++ pM b2 cI cZ τ) 576 [some (.ref b0), some (.ref (b 0)), some (.ref (b2 0)), some (.int (nI i))] [] := by
  refine g_aload_n C dL_law_576 rfl ?_
  refine g_aload_n C dL_law_577 rfl ?_
  refine g_iload_n C dL_law_578 rfl ?_
  refine g_iconstN 1 C dL_law_579 (by decide) ?_
  refine g_iaddN C dL_law_580 ?_
  refine g_sldN C hX hbl hbA (show i + 1 < L by omega) hL dL_law_581 ?_
  refine gL_X C (ct_X5_told hI) mw_X5_told ml_L_75 rfl rfl rfl (Nat.le_of_ble_eq_true rfl) dL_law_582 ⟨(Nat.le_of_ble_eq_true rfl), (Nat.le_of_ble_eq_true rfl)⟩ ⟨(Nat.le_of_ble_eq_true rfl), (Nat.le_of_ble_eq_true rfl)⟩ (fun r u hu => ?_)
  obtain ⟨rfl, hu⟩ := hu
  refine g_aload_n C dL_law_585 rfl ?_
  refine g_aload_n C dL_law_586 rfl ?_
  refine g_iload_n C dL_law_587 rfl ?_
  refine g_iconstN 1 C dL_law_588 (by decide) ?_
  refine g_iaddN C dL_law_589 ?_
  refine g_sldN C hX hbl hbA (show i + 1 < L by omega) hL dL_law_590 ?_
  refine gL_M C (ct_X6_told (iW hI) (jok hI)) mw_X6_told ml_L_78 rfl rfl rfl (Nat.le_of_ble_eq_true rfl) dL_law_591 ⟨(Nat.le_of_ble_eq_true rfl), (Nat.le_of_ble_eq_true rfl)⟩ ⟨(Nat.le_of_ble_eq_true rfl), (Nat.le_of_ble_eq_true rfl)⟩ (fun r v hv => ?_)
  obtain ⟨rfl, hv⟩ := hv
  refine g_icmp_eq (tgt := 599) C dL_law_594 (by decide) (fun hq9 => ?_) (fun hq9 => ?_)
  · exact step _ _ (Inv_sm hI hu hv)
  · exact absurd rfl hq9

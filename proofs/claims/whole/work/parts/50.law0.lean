/-! ===== the law: what stands ahead of its walk ===== -/
def R_law : String := "OverrideRulesLaw"
def lw_P (b : Addr) (xs : List Int32) (args : Array Value) (s : State) : Prop := args = #[.ref b] ∧ s.IntsAt b xs ∧ xs.length ≤ 2560 ∧ (Jvm.Cond.and given_1 narrow_1).before args s = true
def lw_Q (_ : Array Value) (s : State) (o : Outcome) (t : State) : Prop := o = .returned (some (.int 1)) ∧ Framed s o t [] 36 12054
def lw_Z (below : List Frame) (a : Array Value) (s : State) : State → Prop := fun t => ∃ o, t.status = .running ∧ Ended t below o ∧ lw_Q a s o t
/-- the law's own end, with 1 on the stack, nothing written that was there before, its room as the claim has it -/
theorem lw_ret {p : Program} {l : Launch} {e : Env} {s : State} {m : MethodId} {below : List Frame} {meth : Method} {c : Code} {b : Nat} (hx : p.tables.exec = Jvm.exec) (hb : c.code = code) (hr : meth.sig.returnType = ret) (hlocks : meth.locks = false) {pc : Nat} {H : Heap} {ls : Array Slot} (hdg : decode code pc = .ok (.ireturn, 1)) : W p l e room_1 s m #[Value.ref b] below meth c H [] 36 12054 (lw_Z below #[Value.ref b] s) (F0 m pc ls [.int 1]) := by
  intro T hT X
  obtain ⟨fs, hret, hrun, hended, hW, hframe⟩ := X.leave (v := some (.int 1)) (hlocks := hlocks) (fun h => by rw [hr] at h; cases h)
  have hmeth' : T.vm.method? m = some meth := X.method'
  refine ⟨T.setFrames fs, ?_, .returned (some (.int 1)), hrun, hended, rfl, ⟨_, rfl⟩, hW, hframe⟩
  jvm_step X.here [X.here.top, hx, hb, hdg, hmeth', hr, ret, narrow_b1]
  (try refine ⟨rfl, ?_⟩); (try refine ⟨rfl, ?_⟩)
  first | (intro acts; rw [hret _ acts rfl rfl rfl]) | rw [hret _ _ rfl rfl rfl]
  exact Steps.refl _
/-- what holds at the law's entry: the machine, the code, the tables' words (any of lw_tbl by 'hts w (by decide +kernel)'), the script of L ints xs at the cell b, what the Statement gives of the start (any of its parts by flat_of_before) -/
def lw_At (p : Program) (s : State) (m : MethodId) (meth : Method) (c : Code) (b L : Nat) (xs : Nat → Int32) : Prop :=
  p.tables.exec = Jvm.exec ∧ c.code = code ∧ meth.sig.returnType = ret ∧ c.maxLocals = 4 ∧ s.vm.findClass R_law = some m.cls ∧ (∀ w ∈ lw_tbl, w.before #[Value.ref b] s = true) ∧ va_X b L xs s s.heap ∧ b < s.heap.size ∧ meth.locks = false ∧ (Jvm.Cond.and given_1 narrow_1).before #[Value.ref b] s = true
section GL
variable {p : Program} {l : Launch} {e : Env} {R : Room} {s : State} {m : MethodId} {args : Array Value} {below : List Frame} {meth : Method} {c : Code} {D : va_G} {A : Nat → Prop} {kc ks : Nat} {Q : State → Prop} {nL : Nat} {ws : va_W} {pc : Nat} {lv : List (Option Value)} {st : List Value} {cc : ByteArray} {own : String} {ret ret0 : Option FieldType} {cI cZ : ClassId} {y : MethodName} {yc : ByteArray} {n f k na index : Nat} {As rest : List Value}
theorem gL_X {b b2 : Nat → Nat} {σ τ : St} {post : Option Value → St → Prop} (C : Cx p s m args meth c cc nL own ret D cI cZ A) (hM : Ct l y yc n ret0 f k D cI cZ (pX b cI cZ) (.ref (b 0) :: As) σ post) (hw : Mw y yc n ret0 na) (hl : Cond.methodLink own index y ∈ lw_all) (hc : vwCl[5]? = some (y.cls, TX5, 5)) (hst : st = As.reverse ++ .ref (b 0) :: rest) (hn : As.length = na) (hcat : (rest.map fun v => v.category).sum ≤ 8) (hd : decode cc pc = .ok (.invokevirtual index, 3)) (hR : f + 1 ≤ R.frames ∧ 8 + (n + 11) + k ≤ R.locals) (hR2 : kc ≤ R.cells ∧ ks ≤ R.slots)
    (kk : ∀ (r : Option Value) (u : St), post r u → G p l e R s m args below meth c D A kc ks Q nL (pM b2 cI cZ τ ++ pX b cI cZ u) (pc + 3) lv (r.toList ++ rest)) : G p l e R s m args below meth c D A kc ks Q nL (pX b cI cZ σ ++ pM b2 cI cZ τ) pc lv st :=
  g_callVF (wr := pM b2 cI cZ τ) 0 [0, 1, 2, 3, 4, 5, 6, 7, 8, 9, 10, 11, 12, 13, 14, 15, 16, 17] [18, 19, 20, 21, 22, 23, 24, 25, 26, 27, 28, 29, 30, 31, 32, 33, 34, 35] C hM hw hl rfl rfl rfl rfl rfl (by decide) rfl hc hst hn hcat hd hR hR2 kk
theorem gL_M {b b2 : Nat → Nat} {σ τ : St} {post : Option Value → St → Prop} (C : Cx p s m args meth c cc nL own ret D cI cZ A) (hM : Ct l y yc n ret0 f k D cI cZ (pM b2 cI cZ) (.ref (b2 0) :: As) τ post) (hw : Mw y yc n ret0 na) (hl : Cond.methodLink own index y ∈ lw_all) (hc : vwCl[6]? = some (y.cls, TX6, 21)) (hst : st = As.reverse ++ .ref (b2 0) :: rest) (hn : As.length = na) (hcat : (rest.map fun v => v.category).sum ≤ 8) (hd : decode cc pc = .ok (.invokevirtual index, 3)) (hR : f + 1 ≤ R.frames ∧ 8 + (n + 11) + k ≤ R.locals) (hR2 : kc ≤ R.cells ∧ ks ≤ R.slots)
    (kk : ∀ (r : Option Value) (u : St), post r u → G p l e R s m args below meth c D A kc ks Q nL (pX b cI cZ σ ++ pM b2 cI cZ u) (pc + 3) lv (r.toList ++ rest)) : G p l e R s m args below meth c D A kc ks Q nL (pM b2 cI cZ τ ++ pX b cI cZ σ) pc lv st :=
  g_callVF (wr := pX b cI cZ σ) 0 [0, 1, 2, 3, 4, 5, 6, 7, 8, 9, 10, 11, 12, 13, 14, 15, 16, 17] [18, 19, 20, 21, 22, 23, 24, 25, 26, 27, 28, 29, 30, 31, 32, 33, 34, 35] C hM hw hl rfl rfl rfl rfl rfl (by decide) rfl hc hst hn hcat hd hR hR2 kk
theorem g_sldN {b0 L j : Nat} {xs : Nat → Int32} (C : Cx p s m args meth c cc nL own ret D cI cZ A) (hX : va_X b0 L xs s s.heap) (hbl : b0 < s.heap.size) (hbA : ¬ A b0) (hj : j < L) (hL : L ≤ 2560) (hd : decode cc pc = .ok (.iaload, 1)) (kk : G p l e R s m args below meth c D A kc ks Q nL ws (pc + 1) lv (.int (xs j) :: st)) : G p l e R s m args below meth c D A kc ks Q nL ws pc lv (.int (nI j) :: .ref b0 :: st) :=
  g_sld C hX hbl hbA (vp_in_nI hj (by omega)) hd (by rw [nI_clamp (by omega)]; exact kk)
end GL
theorem and15 (x : Int32) : ∃ j, j ≤ 15 ∧ x &&& 15 = nI j := by
  obtain ⟨n, hn, rfl⟩ := nI_of32 x
  exact ⟨n &&& 15, Nat.and_le_right, nx_and n 15⟩
theorem law_in {L i : Nat} (hL : L ≤ 2560) (hi : i ≤ L) (h : ¬ (nI L - nI 5 < nI i)) : i + 5 ≤ L := by
  rw [Int32.lt_iff_toInt_lt, pk_sub_toInt (by omega) (by omega), nI_toInt (by omega)] at h
  omega
section IK
variable {τ σ u v : St}
theorem Inv_ty {k p pa : Int32} (hI : Inv τ σ) (h1 : if goT τ k p pa = true then RX (tyS τ k p pa) u else u = σ) (h2 : if goT τ k p pa = true then Done (tyS τ k p pa) v else v = τ) : Inv v u := by
  by_cases hg : goT τ k p pa = true
  · rw [if_pos hg] at h1 h2
    refine ⟨W1_ty hI.1 hg h2, ?_⟩
    obtain ⟨A1, O1, rfl, -⟩ := h2
    exact h1
  · rw [if_neg hg] at h1 h2
    rw [h1, h2]; exact hI
theorem Inv_fc {x y : Int32} (hI : Inv τ σ) (h1 : if goF τ x y = true then RX (fcS τ (nN x) (nN y)) u else u = σ) (h2 : if goF τ x y = true then Done (fcS τ (nN x) (nN y)) v else v = τ) : Inv v u := by
  by_cases hg : goF τ x y = true
  · rw [if_pos hg] at h1 h2
    obtain ⟨t, o, rfl, rfl, ht, ho, hko, hfo, hf⟩ := goF_of (iW hI) hg
    have hTl := w0_tl (iW hI)
    have et : nN (nI t) = t := nI_clamp (by omega)
    have eo : nN (nI o) = o := nI_clamp (by omega)
    rw [et, eo] at h1 h2
    refine ⟨W1_fc hI.1 ht ho hko hfo hf h2, ?_⟩
    obtain ⟨A1, O1, rfl, -⟩ := h2
    exact h1
  · rw [if_neg hg] at h1 h2
    rw [h1, h2]; exact hI
theorem Inv_mb {x nm rs mk : Int32} (hI : Inv τ σ) (h1 : if goM τ x nm rs mk = true then RX (mbS τ (nN x) nm rs mk) u else u = σ) (h2 : if goM τ x nm rs mk = true then Done14 (mbS τ (nN x) nm rs mk) v else v = τ) : Inv v u := by
  by_cases hg : goM τ x nm rs mk = true
  · rw [if_pos hg] at h1 h2
    obtain ⟨t, n, r, rfl, rfl, rfl, ht, hn, hr, hr2, hmk, hno, hm60⟩ := goM_of (iW hI) hg
    have hTl := w0_tl (iW hI)
    have et : nN (nI t) = t := nI_clamp (by omega)
    rw [et] at h1 h2
    refine ⟨W1_mb hI.1 ht hn hr hr2 hmk hno hm60 h2, ?_⟩
    obtain ⟨O1, rfl, -⟩ := h2
    exact h1
  · rw [if_neg hg] at h1 h2
    rw [h1, h2]; exact hI
theorem Inv_th {pa : Int32} {q : Bool} (hI : Inv τ σ) (h1 : if goX τ pa = true then RX (thS τ pa q) u else u = σ) (h2 : if goX τ pa = true then v = thS τ pa q else v = τ) : Inv v u := by
  by_cases hg : goX τ pa = true
  · rw [if_pos hg] at h1 h2
    rw [h2]
    simp only [goX, unX, Bool.and_eq_true, Bool.or_eq_true, decide_eq_true_eq, Bool.not_eq_true', decide_eq_false_iff_not] at hg
    have hXl := w0_xl (iW hI)
    refine ⟨W1_th hI.1 (by omega) ?_, h1⟩
    rcases hg.1 with h | h
    · exact Or.inl h
    · obtain ⟨w, hw, e⟩ := isX_get hI h
      exact Or.inr ⟨w, hw, e⟩
  · rw [if_neg hg] at h1 h2
    rw [h1, h2]; exact hI
theorem Inv_to {x y : Int32} (hI : Inv τ σ) (h1 : if (isM τ x && isX τ y) = true then RX (toS τ (nN x) (nN y)) u else u = σ) (h2 : if (isM τ x && isX τ y) = true then v = toS τ (nN x) (nN y) else v = τ) : Inv v u := by
  by_cases hg : (isM τ x && isX τ y) = true
  · rw [if_pos hg] at h1 h2
    rw [h2]; exact ⟨W1_to hI.1, h1⟩
  · rw [if_neg hg] at h1 h2
    rw [h1, h2]; exact hI
theorem Inv_sm (hI : Inv τ σ) (h1 : RX τ u) (h2 : Sm τ v) : Inv v u := ⟨W1_sm hI.1 h2, RX_sm h1 h2⟩
end IK
/-- the law's goal at a place -/
abbrev GLw (p : Program) (l : Launch) (e : Env) (s : State) (m : MethodId) (below : List Frame) (meth : Method) (c : Code) (D : va_G) (b0 : Nat) (ws : va_W) (pc : Nat) (lv : List (Option Value)) (st : List Value) : Prop := G p l e room_1 s m #[Value.ref b0] below meth c D (fun q => s.heap.size ≤ q) 36 12054 (lw_Z below #[Value.ref b0] s) 4 ws pc lv st

/-! ===== constructors: rows, contracts, calls with a frame ===== -/
def rmn (f k mc ms : Nat) : Room := { frames := f, cells := mc, slots := ms, locals := k }
def Qn (D : va_G) (w0 : va_W) (sz : Nat) (post : va_W → Prop) : Array Value → State → Outcome → State → Prop := fun _ st oc t =>
  (∃ w : va_W, oc = .returned none ∧ post w ∧ va_P D vwCl w t.heap ∧ va_D (va_A w0 sz) w) ∧ va_F (va_A w0 sz) st t
/-- THE CONTRACT of a constructor: from the world w0 (its object) it returns, with 'post new-world' -/
def Cn (l : Launch) (y : MethodName) (yc : ByteArray) (n f k mc ms : Nat) (D : va_G) (cI cZ : ClassId) (av : List Value) (w0 : va_W) (post : va_W → Prop) : Prop :=
  ∀ sz : Nat, Met l y (Cond.code y yc n none :: lw_all) (rmn f k mc ms) (va_Pc av (fun U => U.heap.size = sz ∧ va_P D vwCl w0 U.heap ∧ KK D cI cZ U ∧ va_D (fun _ => True) w0)) (Qn D w0 sz post) mc ms (va_A w0 sz)
def Qne (below : List Frame) (args : Array Value) (s : State) (D : va_G) (w0 : va_W) (post : va_W → Prop) (mc ms : Nat) : State → Prop := MQ below (Qn D w0 s.heap.size post) args s mc ms (va_A w0 s.heap.size)
theorem Cn.of {l : Launch} {y : MethodName} {yc : ByteArray} {n f k mc ms : Nat} {D : va_G} {cI cZ : ClassId} {av : List Value} {w0 : va_W} {post : va_W → Prop} (j : Nat) (hy : plainName y.cls = true) (hyn : y.name = "<init>") (hc : ∀ w ∈ av, w.category = 1) (hlen : (lg_sl av).length ≤ n)
    (body : ∀ (p : Program) (e : Env) (s : State) (m : MethodId) (below : List Frame) (meth : Method) (c : Code), Cx p s m av.toArray meth c yc n y.cls none D cI cZ (va_A w0 s.heap.size) → meth.name = "<init>" → G p l e (rmn f k mc ms) s m av.toArray below meth c D (va_A w0 s.heap.size) 0 0 (Qne below av.toArray s D w0 post mc ms) n w0 0 (av.map some ++ List.replicate j none) []) : Cn l y yc n f k mc ms D cI cZ av w0 post := by
  intro sz
  refine Met.ofW (cc := yc) (maxL := n) (ret := none) hy rfl ?_
  intro p e s m args below meth c s₁ B hml hv
  obtain ⟨rfl, hsz, hP, hK, hD0⟩ := hv
  subst hsz
  have hts := atoms_spec (ws := Cond.code y yc n none :: lw_all) B.pre
  have hown : s.vm.findClass y.cls = some m.cls := findClass_of_methodNamed B.named
  have hin : meth.name = "<init>" := (name_of_methodNamed B.named B.method).1.trans hyn
  have C : Cx p s m av.toArray meth c yc n y.cls none D cI cZ (va_A w0 s.heap.size) := ⟨B.exec, B.bytes, hml, hown, fun w hw => hts w (List.mem_cons_of_mem _ hw), hK, fun q h => Or.inr h, B.notSynchronized, B.returns⟩
  rw [lg_entry_eq]
  exact body p e s m below meth c C hin s.heap [] _ hP (hD0.self (sz := s.heap.size)) va_S.rf (lh_entry av j n hlen hc)
/-- what the tables say of a constructor -/
def Mi (y : MethodName) (yc : ByteArray) (n na : Nat) : Prop :=
  Cond.instanceMethod y ∈ lw_all ∧ Cond.initialized y.cls ∈ lw_all ∧ Cond.code y yc n none ∈ lw_all ∧ y.name = "<init>" ∧ (y.cls ≠ "java/lang/invoke/MethodHandle" ∧ y.cls ≠ "java/lang/invoke/VarHandle" ∧ (parseMethodDescriptor y.desc).map (fun d => d.parameters.length) = some na)
section GK
variable {p : Program} {l : Launch} {e : Env} {R : Room} {s : State} {m : MethodId} {args : Array Value} {below : List Frame} {meth : Method} {c : Code} {D : va_G} {A : Nat → Prop} {kc ks : Nat} {Q : State → Prop} {nL : Nat} {ws : va_W} {pc : Nat} {lv : List (Option Value)} {st : List Value} {cc : ByteArray} {own : String} {ret : Option FieldType} {cI cZ : ClassId}
theorem G.perm {ws' : va_W} (is : List Nat) (hn : va_nd is = true) (h1 : is.filterMap (fun i => ws[i]?) = ws') (h2 : is.map (fun i => ws[i]?) = ws'.map some) (kk : G p l e R s m args below meth c D A kc ks Q nL ws' pc lv st) : G p l e R s m args below meth c D A kc ks Q nL ws pc lv st :=
  fun H locs ls hP hD hS hl => kk H locs ls (hP.sub is h1) (hD.sub is hn h2) hS hl
theorem g_new {ci N index : Nat} {Cn : String} {T : u_T} {fs : List Value} {ty : Nat → FieldType} (ws' : Nat → va_W) (hin : ∀ w ∈ u_ws Cn T N, w ∈ lw_all) (hty : ∀ k, k < N → parseFieldDescriptor (T k).2.2.1 = some (ty k)) (hcl : Cond.classLink own index Cn ∈ lw_all) (hinst : Cond.instantiable Cn N ∈ lw_all) (hini : Cond.initialized Cn ∈ lw_all) (hc : vwCl[ci]? = some (Cn, T, N)) (hfs : ∀ j, j < N → defaultValue (ty j) = vp_V fs j) (C : Cx p s m args meth c cc nL own ret D cI cZ A) (hw : ∀ q, ws ++ [(q, .inr (ci, fs))] = ws' q) (hcells : kc + 1 ≤ R.cells) (hslots : ks + N ≤ R.slots) (hd : decode cc pc = .ok (.new index, 3))
    (kk : ∀ q : Nat, G p l e R s m args below meth c D A (kc + 1) (ks + N) Q nL (ws' q) (pc + 3) lv (.ref q :: st)) : G p l e R s m args below meth c D A kc ks Q nL ws pc lv st :=
  fun H locs ls hP hD hS hl => va_new C.1 C.2.1 (Ts := lw_all) C.2.2.2.2.1 hin ty hty C.2.2.2.1 (C.2.2.2.2.1 _ hcl) (C.2.2.2.2.1 _ hinst) (C.2.2.2.2.1 _ hini) C.2.2.2.2.2.1.1 hP hD hS C.2.2.2.2.2.2.1 hc hfs hcells hslots hd (fun q H1 hP1 hD1 hS1 => kk q H1 locs ls (by rw [← hw q]; exact hP1) (by rw [← hw q]; exact hD1) hS1 hl)
theorem g_newi {N : Nat} (ws' : Nat → va_W) (C : Cx p s m args meth c cc nL own ret D cI cZ A) (hw : ∀ q, ws ++ [(q, .inl (cI, N, .inl (fun _ => 0)))] = ws' q) (hN : N < 10000) (hcells : kc + 1 ≤ R.cells) (hslots : ks + N ≤ R.slots) (hd : decode cc pc = .ok (.newarray .int, 2))
    (kk : ∀ q : Nat, G p l e R s m args below meth c D A (kc + 1) (ks + N) Q nL (ws' q) (pc + 2) lv (.ref q :: st)) : G p l e R s m args below meth c D A kc ks Q nL ws pc lv (.int (nI N) :: st) :=
  fun H locs ls hP hD hS hl => va_newa C.1 C.2.1 (atype := .int) (ty := .int) (C.2.2.2.2.1 _ ac_int) rfl C.2.2.2.2.2.1.1 hP hD hS C.2.2.2.2.2.2.1 (n := nI N) (N' := N) (a0 := (N, .inl (fun _ => 0))) (fun _ => rfl) (nI_pos (by omega)) (nI_clamp (by omega)) (by show N * 4 ≤ 536870912; omega) hcells hslots hd (fun q cA H1 hK1 hP1 hD1 hS1 => by
    have h1 : s.vm.findClass ("[" ++ FieldType.int.toString) = some cA := (hK1.2 2 (cA, .int) rfl).2
    have h2 : s.vm.findClass ("[" ++ FieldType.int.toString) = some cI := (C.2.2.2.2.2.1.1.2 0 (cI, .int) rfl).2
    have e : cA = cI := Option.some.inj (h1.symm.trans h2)
    subst e
    exact kk q H1 locs ls (by rw [← hw q]; exact hP1) (by rw [← hw q]; exact hD1) hS1 hl)
theorem g_newz {N : Nat} (ws' : Nat → va_W) (C : Cx p s m args meth c cc nL own ret D cI cZ A) (hw : ∀ q, ws ++ [(q, .inl (cZ, N, .inl (fun _ => 0)))] = ws' q) (hN : N < 10000) (hcells : kc + 1 ≤ R.cells) (hslots : ks + N ≤ R.slots) (hd : decode cc pc = .ok (.newarray .boolean, 2))
    (kk : ∀ q : Nat, G p l e R s m args below meth c D A (kc + 1) (ks + N) Q nL (ws' q) (pc + 2) lv (.ref q :: st)) : G p l e R s m args below meth c D A kc ks Q nL ws pc lv (.int (nI N) :: st) :=
  fun H locs ls hP hD hS hl => va_newa C.1 C.2.1 (atype := .boolean) (ty := .boolean) (C.2.2.2.2.1 _ ac_boolean) rfl C.2.2.2.2.2.1.1 hP hD hS C.2.2.2.2.2.2.1 (n := nI N) (N' := N) (a0 := (N, .inl (fun _ => 0))) (fun _ => rfl) (nI_pos (by omega)) (nI_clamp (by omega)) (by show N * 1 ≤ 536870912; omega) hcells hslots hd (fun q cA H1 hK1 hP1 hD1 hS1 => by
    have h1 : s.vm.findClass ("[" ++ FieldType.boolean.toString) = some cA := (hK1.2 2 (cA, .boolean) rfl).2
    have h2 : s.vm.findClass ("[" ++ FieldType.boolean.toString) = some cZ := (C.2.2.2.2.2.1.1.2 1 (cZ, .boolean) rfl).2
    have e : cA = cZ := Option.some.inj (h1.symm.trans h2)
    subst e
    exact kk q H1 locs ls (by rw [← hw q]; exact hP1) (by rw [← hw q]; exact hD1) hS1 hl)
theorem g_objI {a0 index : Nat} (C : Cx p s m args meth c cc nL own ret D cI cZ A) (hl : Cond.methodLink own index objectInit ∈ lw_all) (hd : decode cc pc = .ok (.invokespecial index, 3)) (hf : 1 ≤ R.frames) (hlo : (st.map fun v => v.category).sum + 12 ≤ R.locals) (kk : G p l e R s m args below meth c D A kc ks Q nL ws (pc + 3) lv st) : G p l e R s m args below meth c D A kc ks Q nL ws pc lv (.ref a0 :: st) :=
  fun H locs ls hP hD hS hl2 => W.objInit C.1 C.2.1 C.2.2.2.1 (C.2.2.2.2.1 _ hl) (C.2.2.2.2.1 _ im_obj) (C.2.2.2.2.1 _ co_obj) (g := F0 m pc ls (.ref a0 :: st)) rfl (by rw [C.2.2.1]; exact hl2.1.1) rfl hd hf (by show 2 * 0 + (st.map fun v => v.category).sum + 12 ≤ R.locals; omega) (kk H locs ls hP hD hS hl2)
theorem g_putF {a0 ci N index : Nat} {fs : List Value} {Cn ref : String} {T : u_T} {v : Value} {ws' : va_W} {ty0 : Nat → FieldType} {ty : FieldType} (q0 k : Nat) (hin : ∀ w ∈ u_ws Cn T N, w ∈ lw_all) (hty : ∀ k, k < N → parseFieldDescriptor (T k).2.2.1 = some (ty0 k)) (hnm : ∀ a, a < N → ∀ b, b < N → a ≠ b → (T a).2.1 ≠ (T b).2.1) (hlink : Cond.fieldLink own index ref (T k).2.1 (T k).2.2.1 ∈ lw_all) (hc : vwCl[ci]? = some (Cn, T, N)) (hk : k < N) (href : ref = (T k).1) (hfin : (T k).2.2.2 = true) (hin2 : meth.name = "<init>") (hdecl : (T k).1 = own) (hpd : parseFieldDescriptor (T k).2.2.1 = some ty) (hn : narrow ty v = v) (hfit : fits ty v = true) (C : Cx p s m args meth c cc nL own ret D cI cZ A) (he : ws[q0]? = some (a0, .inr (ci, fs))) (hlen : k < fs.length) (hw : ws.set q0 (a0, .inr (ci, fs.set k v)) = ws') (hd : decode cc pc = .ok (.putfield index, 3)) (kk : G p l e R s m args below meth c D A kc ks Q nL ws' (pc + 3) lv st) : G p l e R s m args below meth c D A kc ks Q nL ws pc lv (v :: .ref a0 :: st) := by
  subst hw
  exact fun H locs ls hP hD hS hl => va_putF C.1 C.2.1 (Ts := lw_all) C.2.2.2.2.1 hin ty0 hty hnm C.2.2.2.1 C.2.2.2.2.2.1.1 hP hD hS q0 he hc k hk (C.2.2.2.2.1 _ hlink) (by subst href; exact fun _ h => h) hfin hin2 hdecl hpd hn hfit hlen hd (fun H1 locs1 hP1 hD1 hS1 => kk H1 locs1 ls hP1 hD1 hS1 hl)
theorem g_nret {w0 : va_W} {post : va_W → Prop} (C : Cx p s m args meth c cc nL own none D cI cZ (va_A w0 s.heap.size)) (hd : decode cc pc = .ok (.return_, 1)) (hp : post ws) : G p l e R s m args below meth c D (va_A w0 s.heap.size) kc ks (Qne below args s D w0 post kc ks) nL ws pc lv [] :=
  fun H locs ls hP hD hS hl => W.vret C.1 C.2.1 C.2.2.2.2.2.2.2.2 (fun t ht hW => ⟨⟨ws, rfl, hp, by rw [ht]; exact hP, hD⟩, hS.F ht⟩) hS.2.2 hd C.2.2.2.2.2.2.2.1
/-- behind the call of a constructor -/
theorem g_behindN {w0 : va_W} {post : va_W → Prop} {mc ms : Nat} {rest st0 : List Value} {a : Array Value} {ls : Array Slot} {H : Heap} {locs : List Loc} {cells slots : Nat} (hr : va_Run p l e R s m args below meth c H locs cells slots mc ms (F0 m pc ls st0) rest (Qn D w0 H.size post a) (va_A w0 H.size)) (hS : va_S A s.heap H locs) (hA : ∀ q, va_A w0 H.size q → A q)
    (kk : ∀ (w : va_W) (H1 : Heap) (locs1 : List Loc), post w → va_P D vwCl w H1 → va_D (va_A w0 H.size) w → H.size ≤ H1.size → (∀ q : Nat, q < H.size → ¬ va_A w0 H.size q → H1[q]? = H[q]?) → va_S A s.heap H1 locs1 → W p l e R s m args below meth c H1 locs1 (cells + mc) (slots + ms) Q (F0 m (pc + 3) ls rest)) : W p l e R s m args below meth c H locs cells slots Q (F0 m pc ls st0) := by
  intro T hT X
  obtain ⟨v, st₀, t, T', L, h0, X', hL, e1, e2, ⟨⟨w, hv, hp, hb, hd⟩, hz, hk⟩, stp⟩ := hr T hT X
  cases hv
  rw [h0] at hz hk
  obtain ⟨t2, a1, b1⟩ := kk w T'.heap (locs ++ L) hp (by rw [e1]; exact hb) hd (by rw [e1]; exact hz) (fun q h1 h2 => by rw [e1]; exact hk q h1 h2)
    ⟨Nat.le_trans hS.1 (by rw [e1]; exact hz), fun q h1 h2 => by rw [e1, hk q (Nat.lt_of_lt_of_le h1 hS.1) (fun z => h2 (hA q z))]; exact hS.2.1 q h1 h2, fun q hq => by
      rcases List.mem_append.mp hq with h | h
      · exact hS.2.2 q h
      · exact hA _ (hL q h)⟩ T' rfl X'
  exact ⟨t2, stp t2 a1, b1⟩
variable {y : MethodName} {yc : ByteArray} {n f k na index a0 mc ms : Nat} {As rest : List Value} {wc wr : va_W} {post : va_W → Prop}
/-- a constructor's call: its object's cells wc, the rest wr stays -/
theorem g_callI (isC isR : List Nat) (C : Cx p s m args meth c cc nL own ret D cI cZ A) (hM : Cn l y yc n f k mc ms D cI cZ (.ref a0 :: As) wc post) (hw : Mi y yc n na) (hl : Cond.methodLink own index y ∈ lw_all) (hC1 : isC.filterMap (fun i => ws[i]?) = wc) (hC : isC.map (fun i => ws[i]?) = wc.map some) (hRr : isR.map (fun i => ws[i]?) = wr.map some) (hnC : va_nd isC = true) (hnR : va_nd isR = true) (hdis : ∀ i ∈ isR, i ∉ isC) (hst : st = As.reverse ++ .ref a0 :: rest) (hn : As.length = na) (hcat : (rest.map fun v => v.category).sum ≤ 8) (hd : decode cc pc = .ok (.invokespecial index, 3)) (hR : f + 1 ≤ R.frames ∧ 8 + (n + 11) + k ≤ R.locals) (hR2 : kc + mc ≤ R.cells ∧ ks + ms ≤ R.slots)
    (kk : ∀ w : va_W, post w → G p l e R s m args below meth c D A (kc + mc) (ks + ms) Q nL (wr ++ w) (pc + 3) lv rest) : G p l e R s m args below meth c D A kc ks Q nL ws pc lv st := by
  intro H locs ls hP hD hS hl2
  subst hst
  have hts := C.2.2.2.2.1
  have hPc := hP.sub isC hC1
  have hDc := hD.sub isC hnC hC
  have hFc := va_free (wc := wc) hD hS C.2.2.2.2.2.2.1 isC hC
  refine g_behindN (va_runI (As := As) (rest := rest) ⟨C.1, C.2.1, C.2.2.1, C.2.2.2.1, hts⟩ (hM H.size) (cwI na hts (good_all hw.2.2.1) rfl rfl rfl (hts _ hw.2.1) (hts _ hl) (hts _ hw.1) hw.2.2.2.1 hw.2.2.2.2 hR) ⟨pc_blind, fun U hU hW => ⟨rfl, by rw [hU], by rw [hU]; exact hPc, C.2.2.2.2.2.1.warm hW, hDc.true⟩⟩ rfl hn hl2.1.1 rfl (lv_room hcat) hd hR2) hS hFc (fun w H1 locs1 hp hP1 hD1 hz hk1 hS1 => ?_)
  obtain ⟨hP2, hD2⟩ := va_join (wr := wr) (w1 := w) hP hD isC isR hC hRr hnR hdis hk1 hFc hP1 hD1
  exact kk w hp H1 locs1 ls hP2 hD2 hS1 hl2
theorem g_callIN {host : String} (isC isR : List Nat) (C : Cx p s m args meth c cc nL own ret D cI cZ A) (hM : Cn l y yc n f k mc ms D cI cZ (.ref a0 :: As) wc post) (hw : Mi y yc n na) (hl : Cond.methodLinkNest own index y host ∈ lw_nest) (hC1 : isC.filterMap (fun i => ws[i]?) = wc) (hC : isC.map (fun i => ws[i]?) = wc.map some) (hRr : isR.map (fun i => ws[i]?) = wr.map some) (hnC : va_nd isC = true) (hnR : va_nd isR = true) (hdis : ∀ i ∈ isR, i ∉ isC) (hst : st = As.reverse ++ .ref a0 :: rest) (hn : As.length = na) (hcat : (rest.map fun v => v.category).sum ≤ 8) (hd : decode cc pc = .ok (.invokespecial index, 3)) (hR : f + 1 ≤ R.frames ∧ 8 + (n + 11) + k ≤ R.locals) (hR2 : kc + mc ≤ R.cells ∧ ks + ms ≤ R.slots)
    (kk : ∀ w : va_W, post w → G p l e R s m args below meth c D A (kc + mc) (ks + ms) Q nL (wr ++ w) (pc + 3) lv rest) : G p l e R s m args below meth c D A kc ks Q nL ws pc lv st := by
  intro H locs ls hP hD hS hl2
  subst hst
  have hts := C.2.2.2.2.1
  have hPc := hP.sub isC hC1
  have hDc := hD.sub isC hnC hC
  have hFc := va_free (wc := wc) hD hS C.2.2.2.2.2.2.1 isC hC
  have cw := va_cnB (R := R) (own := own) (host := host) (index := index) (maxL := n) (mc := mc) (ms := ms) (y := y) (bytes := yc) (ret := none) (rm := rmn f k mc ms) na hts (good_all hw.2.2.1) rfl rfl rfl (C.2.2.2.2.2.1.2 _ hl) (hts _ hw.2.1) hw.2.2.2.2 hR
  refine g_behindN (va_runIN (As := As) (rest := rest) (host := host) ⟨C.1, C.2.1, C.2.2.1, C.2.2.2.1, hts⟩ (hM H.size) ⟨cw, hw.2.2.2.1, hts _ hw.1⟩ ⟨pc_blind, fun U hU hW => ⟨rfl, by rw [hU], by rw [hU]; exact hPc, C.2.2.2.2.2.1.warm hW, hDc.true⟩⟩ rfl hn hl2.1.1 rfl (lv_room hcat) hd hR2) hS hFc (fun w H1 locs1 hp hP1 hD1 hz hk1 hS1 => ?_)
  obtain ⟨hP2, hD2⟩ := va_join (wr := wr) (w1 := w) hP hD isC isR hC hRr hnR hdis hk1 hFc hP1 hD1
  exact kk w hp H1 locs1 ls hP2 hD2 hS1 hl2
/-- a call of an instance method whose world is a part of the caller's -/
theorem g_callVF {ret0 : Option FieldType} {pic : St → va_W} {σ : St} {post : Option Value → St → Prop} {ci N : Nat} {T : u_T} {fs : List Value} (q0 : Nat) (isC isR : List Nat) (C : Cx p s m args meth c cc nL own ret D cI cZ A) (hM : Ct l y yc n ret0 f k D cI cZ pic (.ref a0 :: As) σ post) (hw : Mw y yc n ret0 na) (hl : Cond.methodLink own index y ∈ lw_all) (hC1 : isC.filterMap (fun i => ws[i]?) = pic σ) (hC : isC.map (fun i => ws[i]?) = (pic σ).map some) (hRr : isR.map (fun i => ws[i]?) = wr.map some) (hnC : va_nd isC = true) (hnR : va_nd isR = true) (hdis : ∀ i ∈ isR, i ∉ isC) (he : (pic σ)[q0]? = some (a0, .inr (ci, fs))) (hc : vwCl[ci]? = some (y.cls, T, N)) (hst : st = As.reverse ++ .ref a0 :: rest) (hn : As.length = na) (hcat : (rest.map fun v => v.category).sum ≤ 8) (hd : decode cc pc = .ok (.invokevirtual index, 3)) (hR : f + 1 ≤ R.frames ∧ 8 + (n + 11) + k ≤ R.locals) (hR2 : kc ≤ R.cells ∧ ks ≤ R.slots)
    (kk : ∀ (r : Option Value) (u : St), post r u → G p l e R s m args below meth c D A kc ks Q nL (wr ++ pic u) (pc + 3) lv (r.toList ++ rest)) : G p l e R s m args below meth c D A kc ks Q nL ws pc lv st := by
  intro H locs ls hP hD hS hl2
  subst hst
  have hts := C.2.2.2.2.1
  have hPc := hP.sub isC hC1
  have hDc := hD.sub isC hnC hC
  have hFc := va_free (wc := pic σ) hD hS C.2.2.2.2.2.2.1 isC hC
  have cw : CallW R s args own y.cls index y yc n ret0 (Cond.code y yc n ret0 :: lw_all) (rmo f k) 0 0 na := ⟨callB_of na hts (good_all hw.2.2.2.1) rfl rfl rfl (hts _ hw.2.2.1) (hts _ hl) hw.2.2.2.2 hR, hts _ hw.1, hts _ hw.2.1⟩
  refine g_behind (va_runV (As := As) (rest := rest) (C := y.cls) ⟨C.1, C.2.1, C.2.2.1, C.2.2.2.1, hts⟩ (hM H.size) cw ⟨pc_blind, va_recv C.2.2.2.2.2.1.1 hPc (q := (y.cls, T, N)) hc he, fun U hU hW => ⟨rfl, by rw [hU], by rw [hU]; exact hPc, C.2.2.2.2.2.1.warm hW, hDc.true⟩⟩ rfl hn hl2.1.1 rfl (lv_room hcat) hd ⟨hR2.1, hR2.2⟩) hS hFc (fun r u H1 locs1 hp hP1 hD1 hz hk1 hS1 => ?_)
  obtain ⟨hP2, hD2⟩ := va_join (wr := wr) (w1 := pic u) hP hD isC isR hC hRr hnR hdis hk1 hFc hP1 hD1
  exact kk r u hp H1 locs1 ls hP2 hD2 hS1 hl2
theorem g_sld {b0 L : Nat} {xs : Nat → Int32} {i : Int32} (C : Cx p s m args meth c cc nL own ret D cI cZ A) (hX : va_X b0 L xs s s.heap) (hbl : b0 < s.heap.size) (hbA : ¬ A b0) (hi : vp_in i L) (hd : decode cc pc = .ok (.iaload, 1)) (kk : G p l e R s m args below meth c D A kc ks Q nL ws (pc + 1) lv (.int (xs i.toNatClampNeg) :: st)) : G p l e R s m args below meth c D A kc ks Q nL ws pc lv (.int i :: .ref b0 :: st) :=
  fun H locs ls hP hD hS hl => va_sld C.1 C.2.1 hX hbl hbA hS hi hd (kk H locs ls hP hD hS hl)
theorem g_slen {b0 L : Nat} {xs : Nat → Int32} (C : Cx p s m args meth c cc nL own ret D cI cZ A) (hX : va_X b0 L xs s s.heap) (hbl : b0 < s.heap.size) (hbA : ¬ A b0) (hd : decode cc pc = .ok (.arraylength, 1)) (kk : G p l e R s m args below meth c D A kc ks Q nL ws (pc + 1) lv (.int (nI L) :: st)) : G p l e R s m args below meth c D A kc ks Q nL ws pc lv (.ref b0 :: st) :=
  fun H locs ls hP hD hS hl => va_slen C.1 C.2.1 hX hbl hbA hS hd (kk H locs ls hP hD hS hl)
end GK

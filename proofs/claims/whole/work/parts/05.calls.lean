/-! ===== fields, arrays, calls, returns ===== -/
section GF
variable {p : Program} {l : Launch} {e : Env} {R : Room} {s : State} {m : MethodId} {args : Array Value} {below : List Frame} {meth : Method} {c : Code} {D : va_G} {A : Nat → Prop} {kc ks : Nat} {Q : State → Prop} {nL : Nat} {ws : va_W} {pc : Nat} {lv : List (Option Value)} {st : List Value} {cc : ByteArray} {own : String} {ret : Option FieldType} {cI cZ : ClassId}
theorem g_getf {a0 ci N index : Nat} {fs : List Value} {Cn ref : String} {T : u_T} {v : Value} (q0 k : Nat) (hin : ∀ w ∈ u_ws Cn T N, w ∈ lw_all) (hlink : Cond.fieldLink own index ref (T k).2.1 (T k).2.2.1 ∈ lw_all) (hc : vwCl[ci]? = some (Cn, T, N)) (hk : k < N) (href : ref = (T k).1) (C : Cx p s m args meth c cc nL own ret D cI cZ A) (he : ws[q0]? = some (a0, .inr (ci, fs))) (hv : fs[k]? = some v) (hd : decode cc pc = .ok (.getfield index, 3)) (kk : G p l e R s m args below meth c D A kc ks Q nL ws (pc + 3) lv (v :: st)) : G p l e R s m args below meth c D A kc ks Q nL ws pc lv (.ref a0 :: st) :=
  fun H locs ls hP hD hS hl => va_get C.1 C.2.1 (Ts := lw_all) C.2.2.2.2.1 hin C.2.2.2.1 C.2.2.2.2.2.1.1 hP q0 he hc k hk (C.2.2.2.2.1 _ hlink) (by subst href; exact fun _ h => h) hv hd (kk H locs ls hP hD hS hl)
theorem g_putf {a0 ci N index : Nat} {fs : List Value} {Cn ref : String} {T : u_T} {v : Value} {ws' : va_W} {ty0 : Nat → FieldType} {ty : FieldType} (q0 k : Nat) (hin : ∀ w ∈ u_ws Cn T N, w ∈ lw_all) (hty : ∀ k, k < N → parseFieldDescriptor (T k).2.2.1 = some (ty0 k)) (hnm : ∀ a, a < N → ∀ b, b < N → a ≠ b → (T a).2.1 ≠ (T b).2.1) (hlink : Cond.fieldLink own index ref (T k).2.1 (T k).2.2.1 ∈ lw_all) (hc : vwCl[ci]? = some (Cn, T, N)) (hk : k < N) (href : ref = (T k).1) (hfin : (T k).2.2.2 = false) (hpd : parseFieldDescriptor (T k).2.2.1 = some ty) (hn : narrow ty v = v) (hfit : fits ty v = true) (C : Cx p s m args meth c cc nL own ret D cI cZ A) (he : ws[q0]? = some (a0, .inr (ci, fs))) (hlen : k < fs.length) (hw : ws.set q0 (a0, .inr (ci, fs.set k v)) = ws') (hd : decode cc pc = .ok (.putfield index, 3)) (kk : G p l e R s m args below meth c D A kc ks Q nL ws' (pc + 3) lv st) : G p l e R s m args below meth c D A kc ks Q nL ws pc lv (v :: .ref a0 :: st) := by
  subst hw
  exact fun H locs ls hP hD hS hl => va_put C.1 C.2.1 (Ts := lw_all) C.2.2.2.2.1 hin ty0 hty hnm C.2.2.2.1 C.2.2.2.2.2.1.1 hP hD hS q0 he hc k hk (C.2.2.2.2.1 _ hlink) (by subst href; exact fun _ h => h) hfin hpd hn hfit hlen hd (fun H1 locs1 hP1 hD1 hS1 => kk H1 locs1 ls hP1 hD1 hS1 hl)
theorem g_iald {a0 n : Nat} {f : Nat → Int32} {i : Int32} (q0 : Nat) (C : Cx p s m args meth c cc nL own ret D cI cZ A) (he : ws[q0]? = some (a0, .inl (cI, n, .inl f))) (hi : vp_in i n) (hd : decode cc pc = .ok (.iaload, 1)) (kk : G p l e R s m args below meth c D A kc ks Q nL ws (pc + 1) lv (.int (f i.toNatClampNeg) :: st)) : G p l e R s m args below meth c D A kc ks Q nL ws pc lv (.int i :: .ref a0 :: st) :=
  fun H locs ls hP hD hS hl => va_iald C.1 C.2.1 C.2.2.2.2.2.1.1 hP q0 0 he rfl hi hd (kk H locs ls hP hD hS hl)
theorem g_zald {a0 n : Nat} {f : Nat → Int32} {i : Int32} (q0 : Nat) (C : Cx p s m args meth c cc nL own ret D cI cZ A) (he : ws[q0]? = some (a0, .inl (cZ, n, .inl f))) (hi : vp_in i n) (hd : decode cc pc = .ok (.baload, 1)) (kk : G p l e R s m args below meth c D A kc ks Q nL ws (pc + 1) lv (.int (f i.toNatClampNeg) :: st)) : G p l e R s m args below meth c D A kc ks Q nL ws pc lv (.int i :: .ref a0 :: st) :=
  fun H locs ls hP hD hS hl => va_zald C.1 C.2.1 C.2.2.2.2.2.1.1 hP q0 1 he rfl hi hd (kk H locs ls hP hD hS hl)
theorem g_iast {a0 n : Nat} {f : Nat → Int32} {i x : Int32} {ws' : va_W} (q0 : Nat) (C : Cx p s m args meth c cc nL own ret D cI cZ A) (he : ws[q0]? = some (a0, .inl (cI, n, .inl f))) (hi : vp_in i n) (hw : ws.set q0 (a0, .inl (cI, n, .inl (upd f i.toNatClampNeg x))) = ws') (hd : decode cc pc = .ok (.iastore, 1)) (kk : G p l e R s m args below meth c D A kc ks Q nL ws' (pc + 1) lv st) : G p l e R s m args below meth c D A kc ks Q nL ws pc lv (.int x :: .int i :: .ref a0 :: st) := by
  subst hw
  exact fun H locs ls hP hD hS hl => va_iast C.1 C.2.1 C.2.2.2.2.2.1.1 hP hD hS q0 0 he rfl hi hd (fun H1 locs1 hP1 hD1 hS1 => kk H1 locs1 ls hP1 hD1 hS1 hl)
theorem g_zast {a0 n : Nat} {f : Nat → Int32} {i x : Int32} {ws' : va_W} (q0 : Nat) (C : Cx p s m args meth c cc nL own ret D cI cZ A) (he : ws[q0]? = some (a0, .inl (cZ, n, .inl f))) (hi : vp_in i n) (hx : vp_nar .boolean x = x) (hw : ws.set q0 (a0, .inl (cZ, n, .inl (upd f i.toNatClampNeg x))) = ws') (hd : decode cc pc = .ok (.bastore, 1)) (kk : G p l e R s m args below meth c D A kc ks Q nL ws' (pc + 1) lv st) : G p l e R s m args below meth c D A kc ks Q nL ws pc lv (.int x :: .int i :: .ref a0 :: st) := by
  subst hw
  exact fun H locs ls hP hD hS hl => va_zast C.1 C.2.1 C.2.2.2.2.2.1.1 hP hD hS q0 1 he rfl hi hd (fun H1 locs1 hP1 hD1 hS1 => kk H1 locs1 ls (by rw [hx] at hP1; exact hP1) (by rw [hx] at hD1; exact hD1) hS1 hl)
theorem g_alen {a0 n : Nat} {f : Nat → Int32} {v : Int32} (q0 : Nat) (C : Cx p s m args meth c cc nL own ret D cI cZ A) (he : ws[q0]? = some (a0, .inl (cI, n, .inl f))) (hv : Int32.ofNat n = v) (hd : decode cc pc = .ok (.arraylength, 1)) (kk : G p l e R s m args below meth c D A kc ks Q nL ws (pc + 1) lv (.int v :: st)) : G p l e R s m args below meth c D A kc ks Q nL ws pc lv (.ref a0 :: st) :=
  fun H locs ls hP hD hS hl => va_alen C.1 C.2.1 C.2.2.2.2.2.1.1 hP q0 0 he rfl hv hd (kk H locs ls hP hD hS hl)
end GF
theorem b2i_vp (b : Bool) : vp_nar .boolean (b2i b) = b2i b := by cases b <;> decide +kernel
/-- the end of a contract: the answer, the new state, its world -/
def Qt (D : va_G) (pic : St → va_W) (σ : St) (sz : Nat) (post : Option Value → St → Prop) : Array Value → State → Outcome → State → Prop := fun _ st oc t =>
  (∃ (r : Option Value) (u : St), oc = .returned r ∧ post r u ∧ va_P D vwCl (pic u) t.heap ∧ va_D (va_A (pic σ) sz) (pic u)) ∧ va_F (va_A (pic σ) sz) st t
def rmo (f k : Nat) : Room := { frames := f, cells := 0, slots := 0, locals := k }
/-- THE CONTRACT of a method that makes nothing: from the world of σ it returns, with 'post answer new-state' -/
def Ct (l : Launch) (y : MethodName) (yc : ByteArray) (n : Nat) (ret : Option FieldType) (f k : Nat) (D : va_G) (cI cZ : ClassId) (pic : St → va_W) (av : List Value) (σ : St) (post : Option Value → St → Prop) : Prop :=
  ∀ sz : Nat, Met l y (Cond.code y yc n ret :: lw_all) (rmo f k) (va_Pc av (fun U => U.heap.size = sz ∧ va_P D vwCl (pic σ) U.heap ∧ KK D cI cZ U ∧ va_D (fun _ => True) (pic σ))) (Qt D pic σ sz post) 0 0 (va_A (pic σ) sz)
/-- where a walk under a contract ends -/
def Qe (below : List Frame) (args : Array Value) (s : State) (D : va_G) (pic : St → va_W) (σ : St) (post : Option Value → St → Prop) : State → Prop := MQ below (Qt D pic σ s.heap.size post) args s 0 0 (va_A (pic σ) s.heap.size)
theorem Ct.of {l : Launch} {y : MethodName} {yc : ByteArray} {n : Nat} {ret : Option FieldType} {f k : Nat} {D : va_G} {cI cZ : ClassId} {pic : St → va_W} {av : List Value} {σ : St} {post : Option Value → St → Prop} (j : Nat) (hy : plainName y.cls = true) (hc : ∀ w ∈ av, w.category = 1) (hlen : (lg_sl av).length ≤ n)
    (body : ∀ (p : Program) (e : Env) (s : State) (m : MethodId) (below : List Frame) (meth : Method) (c : Code), Cx p s m av.toArray meth c yc n y.cls ret D cI cZ (va_A (pic σ) s.heap.size) → G p l e (rmo f k) s m av.toArray below meth c D (va_A (pic σ) s.heap.size) 0 0 (Qe below av.toArray s D pic σ post) n (pic σ) 0 (av.map some ++ List.replicate j none) []) : Ct l y yc n ret f k D cI cZ pic av σ post := by
  intro sz
  refine Met.ofW (cc := yc) (maxL := n) (ret := ret) hy rfl ?_
  intro p e s m args below meth c s₁ B hml hv
  obtain ⟨rfl, hsz, hP, hK, hD0⟩ := hv
  subst hsz
  have hts := atoms_spec (ws := Cond.code y yc n ret :: lw_all) B.pre
  have hown : s.vm.findClass y.cls = some m.cls := findClass_of_methodNamed B.named
  have C : Cx p s m av.toArray meth c yc n y.cls ret D cI cZ (va_A (pic σ) s.heap.size) := ⟨B.exec, B.bytes, hml, hown, fun w hw => hts w (List.mem_cons_of_mem _ hw), hK, fun q h => Or.inr h, B.notSynchronized, B.returns⟩
  rw [lg_entry_eq]
  exact body p e s m below meth c C s.heap [] _ hP (hD0.self (sz := s.heap.size)) va_S.rf (lh_entry av j n hlen hc)
section GC
variable {p : Program} {l : Launch} {e : Env} {R : Room} {s : State} {m : MethodId} {args : Array Value} {below : List Frame} {meth : Method} {c : Code} {D : va_G} {A : Nat → Prop} {kc ks : Nat} {Q : State → Prop} {nL : Nat} {ws : va_W} {pc : Nat} {lv : List (Option Value)} {st : List Value} {cc : ByteArray} {own : String} {ret : Option FieldType} {cI cZ : ClassId}
variable {pic : St → va_W} {σ σ' : St} {post : Option Value → St → Prop}
theorem g_iret {v : Int32} (C : Cx p s m args meth c cc nL own (some .int) D cI cZ (va_A (pic σ) s.heap.size)) (hd : decode cc pc = .ok (.ireturn, 1)) (hp : post (some (.int v)) σ') : G p l e R s m args below meth c D (va_A (pic σ) s.heap.size) 0 0 (Qe below args s D pic σ post) nL (pic σ') pc lv [.int v] :=
  fun H locs ls hP hD hS hl => W.iret (v := v) C.1 C.2.1 C.2.2.2.2.2.2.2.2 (fun t ht hW => ⟨⟨some (.int v), σ', rfl, hp, by rw [ht]; exact hP, hD⟩, hS.F ht⟩) hS.2.2 hd C.2.2.2.2.2.2.2.1
theorem g_zret {v : Int32} (C : Cx p s m args meth c cc nL own (some .boolean) D cI cZ (va_A (pic σ) s.heap.size)) (hd : decode cc pc = .ok (.ireturn, 1)) (hn : narrow .boolean (.int v) = .int v) (hp : post (some (.int v)) σ') : G p l e R s m args below meth c D (va_A (pic σ) s.heap.size) 0 0 (Qe below args s D pic σ post) nL (pic σ') pc lv [.int v] :=
  fun H locs ls hP hD hS hl => W.zret (v := v) C.1 C.2.1 C.2.2.2.2.2.2.2.2 hn (fun t ht hW => ⟨⟨some (.int v), σ', rfl, hp, by rw [ht]; exact hP, hD⟩, hS.F ht⟩) hS.2.2 hd C.2.2.2.2.2.2.2.1
theorem g_vret (C : Cx p s m args meth c cc nL own none D cI cZ (va_A (pic σ) s.heap.size)) (hd : decode cc pc = .ok (.return_, 1)) (hp : post none σ') : G p l e R s m args below meth c D (va_A (pic σ) s.heap.size) 0 0 (Qe below args s D pic σ post) nL (pic σ') pc lv [] :=
  fun H locs ls hP hD hS hl => W.vret C.1 C.2.1 C.2.2.2.2.2.2.2.2 (fun t ht hW => ⟨⟨none, σ', rfl, hp, by rw [ht]; exact hP, hD⟩, hS.F ht⟩) hS.2.2 hd C.2.2.2.2.2.2.2.1
/-- behind a call that keeps to a contract -/
theorem g_behind {pic : St → va_W} {σ : St} {post : Option Value → St → Prop} {mc ms : Nat} {rest st0 : List Value} {a : Array Value} {ls : Array Slot} {H : Heap} {locs : List Loc} {cells slots : Nat} (hr : va_Run p l e R s m args below meth c H locs cells slots mc ms (F0 m pc ls st0) rest (Qt D pic σ H.size post a) (va_A (pic σ) H.size)) (hS : va_S A s.heap H locs) (hA : ∀ q, va_A (pic σ) H.size q → A q)
    (kk : ∀ (r : Option Value) (u : St) (H1 : Heap) (locs1 : List Loc), post r u → va_P D vwCl (pic u) H1 → va_D (va_A (pic σ) H.size) (pic u) → H.size ≤ H1.size → (∀ q : Nat, q < H.size → ¬ va_A (pic σ) H.size q → H1[q]? = H[q]?) → va_S A s.heap H1 locs1 → W p l e R s m args below meth c H1 locs1 (cells + mc) (slots + ms) Q (F0 m (pc + 3) ls (r.toList ++ rest))) : W p l e R s m args below meth c H locs cells slots Q (F0 m pc ls st0) := by
  intro T hT X
  obtain ⟨v, st₀, t, T', L, h0, X', hL, e1, e2, ⟨⟨r, u, hv, hp, hb, hd⟩, hz, hk⟩, stp⟩ := hr T hT X
  cases hv
  rw [h0] at hz hk
  obtain ⟨t2, a1, b1⟩ := kk v u T'.heap (locs ++ L) hp (by rw [e1]; exact hb) hd (by rw [e1]; exact hz) (fun q h1 h2 => by rw [e1]; exact hk q h1 h2)
    ⟨Nat.le_trans hS.1 (by rw [e1]; exact hz), fun q h1 h2 => by rw [e1, hk q (Nat.lt_of_lt_of_le h1 hS.1) (fun z => h2 (hA q z))]; exact hS.2.1 q h1 h2, fun q hq => by
      rcases List.mem_append.mp hq with h | h
      · exact hS.2.2 q h
      · exact hA _ (hL q h)⟩ T' rfl X'
  exact ⟨t2, stp t2 a1, b1⟩
end GC
/-- what the tables say of an instance method -/
def Mw (y : MethodName) (yc : ByteArray) (n : Nat) (ret : Option FieldType) (na : Nat) : Prop :=
  Cond.instanceMethod y ∈ lw_all ∧ Cond.selects y.cls y y ∈ lw_all ∧ Cond.initialized y.cls ∈ lw_all ∧ Cond.code y yc n ret ∈ lw_all ∧ (y.cls ≠ "java/lang/invoke/MethodHandle" ∧ y.cls ≠ "java/lang/invoke/VarHandle" ∧ (parseMethodDescriptor y.desc).map (fun d => d.parameters.length) = some na)
def Ms (y : MethodName) (yc : ByteArray) (n : Nat) (ret : Option FieldType) (na : Nat) : Prop :=
  Cond.static y ∈ lw_all ∧ Cond.initialized y.cls ∈ lw_all ∧ Cond.code y yc n ret ∈ lw_all ∧ (y.cls ≠ "java/lang/invoke/MethodHandle" ∧ y.cls ≠ "java/lang/invoke/VarHandle" ∧ (parseMethodDescriptor y.desc).map (fun d => d.parameters.length) = some na)
theorem good_all {y : MethodName} {yc : ByteArray} {n : Nat} {ret : Option FieldType} (h : Cond.code y yc n ret ∈ lw_all) : GoodIn lw_all (Cond.code y yc n ret :: lw_all) := by
  intro w hw
  rcases List.mem_cons.mp hw with rfl | hw
  · exact ⟨h, good_of_word (lw_all_good _ h)⟩
  · exact ⟨hw, good_of_word (lw_all_good _ hw)⟩
theorem va_D.true {A : Nat → Prop} {ws : va_W} (h : va_D A ws) : va_D (fun _ => True) ws := h.weaken (fun _ _ _ _ => trivial)
theorem va_A_free {A : Nat → Prop} {ws : va_W} {H0 H : Heap} {locs : List Loc} (hD : va_D A ws) (hS : va_S A H0 H locs) (hA : ∀ q, H0.size ≤ q → A q) : ∀ q, va_A ws H.size q → A q := by
  intro q h
  rcases h with ⟨k, e, h⟩ | h
  · exact hD.2 k (q, e) h
  · exact hA q (Nat.le_trans hS.1 h)
theorem pc_blind {av : List Value} {D : va_G} {cI cZ : ClassId} {ws : va_W} {sz : Nat} : FrameBlind (va_Pc av (fun U => U.heap.size = sz ∧ va_P D vwCl ws U.heap ∧ KK D cI cZ U ∧ va_D (fun _ => True) ws)) := by
  intro a U g mk q
  obtain ⟨q0, q1, qP, qK, qD⟩ := q
  exact ⟨q0, q1, qP, qK.calling, qD⟩
section GV
variable {p : Program} {l : Launch} {e : Env} {R : Room} {s : State} {m : MethodId} {args : Array Value} {below : List Frame} {meth : Method} {c : Code} {D : va_G} {A : Nat → Prop} {kc ks : Nat} {Q : State → Prop} {nL : Nat} {pc : Nat} {lv : List (Option Value)} {cc : ByteArray} {own : String} {ret ret0 : Option FieldType} {cI cZ : ClassId}
variable {pic : St → va_W} {σ : St} {post : Option Value → St → Prop} {y : MethodName} {yc : ByteArray} {n f k na index a0 ci N : Nat} {T : u_T} {fs As rest st : List Value}
/-- a call of an instance method, whose world is the caller's -/
theorem g_callV (q0 : Nat) (C : Cx p s m args meth c cc nL own ret0 D cI cZ A) (hM : Ct l y yc n ret f k D cI cZ pic (.ref a0 :: As) σ post) (hw : Mw y yc n ret na) (hl : Cond.methodLink own index y ∈ lw_all) (he : (pic σ)[q0]? = some (a0, .inr (ci, fs))) (hc : vwCl[ci]? = some (y.cls, T, N)) (hst : st = As.reverse ++ .ref a0 :: rest) (hn : As.length = na) (hcat : (rest.map fun v => v.category).sum ≤ 8) (hd : decode cc pc = .ok (.invokevirtual index, 3)) (hR : f + 1 ≤ R.frames ∧ 8 + (n + 11) + k ≤ R.locals) (hR2 : kc ≤ R.cells ∧ ks ≤ R.slots)
    (kk : ∀ (r : Option Value) (u : St), post r u → G p l e R s m args below meth c D A kc ks Q nL (pic u) (pc + 3) lv (r.toList ++ rest)) : G p l e R s m args below meth c D A kc ks Q nL (pic σ) pc lv st := by
  intro H locs ls hP hD hS hl2
  subst hst
  have hts := C.2.2.2.2.1
  have hA := va_A_free hD hS C.2.2.2.2.2.2.1
  have cw : CallW R s args own y.cls index y yc n ret (Cond.code y yc n ret :: lw_all) (rmo f k) 0 0 na := ⟨callB_of na hts (good_all hw.2.2.2.1) rfl rfl rfl (hts _ hw.2.2.1) (hts _ hl) hw.2.2.2.2 hR, hts _ hw.1, hts _ hw.2.1⟩
  refine g_behind (va_runV (As := As) (rest := rest) (C := y.cls) ⟨C.1, C.2.1, C.2.2.1, C.2.2.2.1, hts⟩ (hM H.size) cw ⟨pc_blind, va_recv C.2.2.2.2.2.1.1 hP (q := (y.cls, T, N)) hc he, fun U hU hW => ⟨rfl, by rw [hU], by rw [hU]; exact hP, C.2.2.2.2.2.1.warm hW, hD.true⟩⟩ rfl hn hl2.1.1 rfl (lv_room hcat) hd ⟨hR2.1, hR2.2⟩) hS hA (fun r u H1 locs1 hp hP1 hD1 hz hk1 hS1 => ?_)
  exact kk r u hp H1 locs1 ls hP1 (hD1.weaken (fun _ q _ h => hA q.1 h)) hS1 hl2
/-- a call of a static method of the same class -/
theorem g_callS (C : Cx p s m args meth c cc nL own ret0 D cI cZ A) (hM : Ct l y yc n ret f k D cI cZ pic As σ post) (hw : Ms y yc n ret na) (hl : Cond.methodLink own index y ∈ lw_all) (hst : st = As.reverse ++ rest) (hn : As.length = na) (hcat : (rest.map fun v => v.category).sum ≤ 8) (hd : decode cc pc = .ok (.invokestatic index, 3)) (hR : f + 1 ≤ R.frames ∧ 8 + (n + 11) + k ≤ R.locals) (hR2 : kc ≤ R.cells ∧ ks ≤ R.slots)
    (kk : ∀ (r : Option Value) (u : St), post r u → G p l e R s m args below meth c D A kc ks Q nL (pic u) (pc + 3) lv (r.toList ++ rest)) : G p l e R s m args below meth c D A kc ks Q nL (pic σ) pc lv st := by
  intro H locs ls hP hD hS hl2
  subst hst
  have hts := C.2.2.2.2.1
  have hA := va_A_free hD hS C.2.2.2.2.2.2.1
  have cw : CallB R s args own index y yc n ret (Cond.code y yc n ret :: lw_all) (rmo f k) 0 0 na ∧ (Cond.static y).before args s = true := ⟨callB_of na hts (good_all hw.2.2.1) rfl rfl rfl (hts _ hw.2.1) (hts _ hl) hw.2.2.2 hR, hts _ hw.1⟩
  refine g_behind (va_runS (As := As) (rest := rest) ⟨C.1, C.2.1, C.2.2.1, C.2.2.2.1, hts⟩ (hM H.size) cw ⟨pc_blind, fun U hU hW => ⟨rfl, by rw [hU], by rw [hU]; exact hP, C.2.2.2.2.2.1.warm hW, hD.true⟩⟩ rfl hn hl2.1.1 rfl (lv_room hcat) hd ⟨hR2.1, hR2.2⟩) hS hA (fun r u H1 locs1 hp hP1 hD1 hz hk1 hS1 => ?_)
  exact kk r u hp H1 locs1 ls hP1 (hD1.weaken (fun _ q _ h => hA q.1 h)) hS1 hl2
/-- a call of a private static method of a nest mate -/
theorem g_callSN {host : String} (C : Cx p s m args meth c cc nL own ret0 D cI cZ A) (hM : Ct l y yc n ret f k D cI cZ pic As σ post) (hw : Ms y yc n ret na) (hl : Cond.methodLinkNest own index y host ∈ lw_nest) (hst : st = As.reverse ++ rest) (hn : As.length = na) (hcat : (rest.map fun v => v.category).sum ≤ 8) (hd : decode cc pc = .ok (.invokestatic index, 3)) (hR : f + 1 ≤ R.frames ∧ 8 + (n + 11) + k ≤ R.locals) (hR2 : kc ≤ R.cells ∧ ks ≤ R.slots)
    (kk : ∀ (r : Option Value) (u : St), post r u → G p l e R s m args below meth c D A kc ks Q nL (pic u) (pc + 3) lv (r.toList ++ rest)) : G p l e R s m args below meth c D A kc ks Q nL (pic σ) pc lv st := by
  intro H locs ls hP hD hS hl2
  subst hst
  have hts := C.2.2.2.2.1
  have hA := va_A_free hD hS C.2.2.2.2.2.2.1
  have cw := va_cnB (R := R) (own := own) (host := host) (index := index) (maxL := n) (mc := 0) (ms := 0) (y := y) (bytes := yc) (ret := ret) (rm := rmo f k) na hts (good_all hw.2.2.1) rfl rfl rfl (C.2.2.2.2.2.1.2 _ hl) (hts _ hw.2.1) hw.2.2.2 hR
  refine g_behind (va_runSN (As := As) (rest := rest) (host := host) ⟨C.1, C.2.1, C.2.2.1, C.2.2.2.1, hts⟩ (hM H.size) ⟨cw, hts _ hw.1, trivial⟩ ⟨pc_blind, fun U hU hW => ⟨rfl, by rw [hU], by rw [hU]; exact hP, C.2.2.2.2.2.1.warm hW, hD.true⟩⟩ rfl hn hl2.1.1 rfl (lv_room hcat) hd ⟨hR2.1, hR2.2⟩) hS hA (fun r u H1 locs1 hp hP1 hD1 hz hk1 hS1 => ?_)
  exact kk r u hp H1 locs1 ls hP1 (hD1.weaken (fun _ q _ h => hA q.1 h)) hS1 hl2
end GV

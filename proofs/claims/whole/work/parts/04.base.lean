/-! ===== the words of states, locals and walks ===== -/
abbrev St : Type := Nat → Nat → Int32
/-- one place of a state gets another number -/
def up2 (σ : St) (k j : Nat) (v : Int32) : St := fun i => bif Nat.beq i k then upd (σ i) j v else σ i
def b2i (b : Bool) : Int32 := bif b then 1 else 0
theorem b2i_nar (b : Bool) : narrow .boolean (.int (b2i b)) = .int (b2i b) := by cases b <;> decide +kernel
theorem b2i_inj {a b : Bool} : b2i a = b2i b ↔ a = b := by cases a <;> cases b <;> decide
theorem b2i_0 {b : Bool} : b2i b = 0 ↔ b = false := by cases b <;> decide
theorem b2i_t : b2i true = 1 := rfl
theorem b2i_f : b2i false = 0 := rfl
def lgt : List (Option Value) → Nat → Option Value
  | [], _ => none
  | a :: _, 0 => a
  | _ :: l, n + 1 => lgt l n
def lst : List (Option Value) → Nat → Value → List (Option Value)
  | [], _, _ => []
  | _ :: l, 0, v => some v :: l
  | a :: l, n + 1, v => a :: lst l n v
theorem lgt_lst (lv : List (Option Value)) (i j : Nat) (v w : Value) (h : lgt (lst lv i v) j = some w) : (j = i ∧ w = v) ∨ (j ≠ i ∧ lgt lv j = some w) := by
  induction lv generalizing i j with
  | nil => simp [lst, lgt] at h
  | cons a l ih =>
    cases i with
    | zero =>
      cases j with
      | zero => simp [lst, lgt] at h; exact Or.inl ⟨rfl, h.symm⟩
      | succ j => simp [lst, lgt] at h; exact Or.inr ⟨by omega, by simpa [lgt] using h⟩
    | succ i =>
      cases j with
      | zero => simp [lst, lgt] at h; exact Or.inr ⟨by omega, by simpa [lgt] using h⟩
      | succ j =>
        simp [lst, lgt] at h
        rcases ih i j h with ⟨e1, e2⟩ | ⟨e1, e2⟩
        · exact Or.inl ⟨by omega, e2⟩
        · exact Or.inr ⟨by omega, by simpa [lgt] using e2⟩
def prs (lv : List (Option Value)) : List (Nat × Value) := (List.range lv.length).filterMap (fun i => (lgt lv i).map (fun v => (i, v)))
theorem lgt_lt {lv : List (Option Value)} {i : Nat} {v : Value} (h : lgt lv i = some v) : i < lv.length := by
  induction lv generalizing i with
  | nil => simp [lgt] at h
  | cons a l ih =>
    cases i with
    | zero => simp
    | succ i => simp [lgt] at h; have := ih h; simp; omega
theorem prs_mem {lv : List (Option Value)} {q : Nat × Value} : q ∈ prs lv ↔ lgt lv q.1 = some q.2 := by
  constructor
  · intro h
    obtain ⟨i, -, h2⟩ := List.mem_filterMap.mp h
    cases hg : lgt lv i with
    | none => rw [hg] at h2; simp at h2
    | some v => rw [hg] at h2; simp at h2; subst h2; exact hg
  · intro h
    refine List.mem_filterMap.mpr ⟨q.1, List.mem_range.mpr (lgt_lt h), ?_⟩
    rw [h]; rfl
/-- the locals: what is known of each, all of one word -/
def lh (ls : Array Slot) (nL : Nat) (lv : List (Option Value)) : Prop := lv_has ls nL (prs lv) ∧ ∀ i v, lgt lv i = some v → v.category = 1
theorem lh.at {ls : Array Slot} {nL : Nat} {lv : List (Option Value)} (h : lh ls nL lv) {i : Nat} {v : Value} (hv : lgt lv i = some v) : ls[i]? = some (.val v) := h.1.2.2 (i, v) (prs_mem.mpr hv)
theorem lh.put {ls ls' : Array Slot} {nL i : Nat} {lv : List (Option Value)} {v : Value} (h : lh ls nL lv) (hc : v.category = 1) (h' : lv_has ls' nL ((i, v) :: (prs lv).filter (fun q => !(q.1 == i) && !(q.1 + 1 == i && q.2.category == 2)))) : lh ls' nL (lst lv i v) := by
  refine ⟨⟨h'.1, h'.2.1, fun q hq => ?_⟩, fun j w hw => ?_⟩
  · rcases lgt_lst lv i q.1 v q.2 (prs_mem.mp hq) with ⟨e1, e2⟩ | ⟨e1, e2⟩
    · have := h'.2.2 (i, v) List.mem_cons_self
      rw [e1, e2]; exact this
    · refine h'.2.2 q (List.mem_cons_of_mem _ (List.mem_filter.mpr ⟨prs_mem.mpr e2, ?_⟩))
      simp [e1, h.2 _ _ e2]
  · rcases lgt_lst lv i j v w hw with ⟨e1, e2⟩ | ⟨e1, e2⟩
    · rw [e2]; exact hc
    · exact h.2 _ _ e2
theorem lh_args (vs : List Value) (k : Nat) : ∀ (i : Nat) (v : Value), lgt (vs.map some ++ List.replicate k none) i = some v → (∀ w ∈ vs, w.category = 1) → ∀ n, (n + i, v) ∈ lv_args n vs ∧ v.category = 1 := by
  induction vs with
  | nil =>
    intro i v h
    exfalso
    have hn : ∀ (k i : Nat), lgt (List.replicate k none) i = none := by
      intro k
      induction k with
      | zero => intro i; rfl
      | succ k ih => intro i; cases i with
        | zero => rfl
        | succ i => exact ih i
    rw [List.map_nil, List.nil_append, hn] at h
    cases h
  | cons a l ih =>
    intro i v h hc n
    cases i with
    | zero =>
      simp [lgt] at h
      subst h
      exact ⟨by simp [lv_args], hc _ List.mem_cons_self⟩
    | succ i =>
      have h2 : lgt (l.map some ++ List.replicate k none) i = some v := h
      have ha : a.category = 1 := hc a List.mem_cons_self
      obtain ⟨h3, h4⟩ := ih i v h2 (fun w hw => hc w (List.mem_cons_of_mem _ hw)) (n + 1)
      refine ⟨?_, h4⟩
      simp only [lv_args, ha]
      refine List.mem_cons_of_mem _ ?_
      have e : n + 1 + i = n + (i + 1) := by omega
      rw [e] at h3
      simpa using h3
theorem lh_entry (vs : List Value) (k n : Nat) (h : (lg_sl vs).length ≤ n) (hc : ∀ w ∈ vs, w.category = 1) : lh ((lg_sl vs ++ List.replicate (n - (lg_sl vs).length) Slot.unset).toArray) n (vs.map some ++ List.replicate k none) := by
  have h1 := lv_entry vs h
  refine ⟨⟨h1.1, h1.2.1, fun q hq => ?_⟩, fun i v hv => (lh_args vs k i v hv hc 0).2⟩
  have := (lh_args vs k q.1 q.2 (prs_mem.mp hq) hc 0).1
  rw [Nat.zero_add] at this
  exact h1.2.2 _ this
/-- what the tables say, with the links of nest mates -/
def KK (D : va_G) (cI cZ : ClassId) (U : State) : Prop := va_K D vwCl [(cI, .int), (cZ, .boolean)] U ∧ ∀ w ∈ lw_nest, va_Nw w U
theorem lw_nest_form : ∀ w ∈ lw_nest, ∃ a i x h, w = Cond.methodLinkNest a i x h := by
  intro w hw
  simp only [lw_nest, List.mem_cons, List.not_mem_nil, or_false] at hw
  rcases hw with rfl | rfl | rfl | rfl | rfl | rfl | rfl <;> exact ⟨_, _, _, _, rfl⟩
theorem KK.warm {D : va_G} {cI cZ : ClassId} {s U : State} (hW : s.WarmedH U.vm) (h : KK D cI cZ s) : KK D cI cZ U := by
  refine ⟨va_K.moved hW.alike h.1, fun w hw => ?_⟩
  obtain ⟨a, i, x, hh, rfl⟩ := lw_nest_form w hw
  exact va_Nw.warmM hW (h.2 _ hw)
theorem KK.calling {D : va_G} {cI cZ : ClassId} {U : State} {g : JFrame} {mk : MethodId} {a : Array Value} (h : KK D cI cZ U) : KK D cI cZ (U.calling g mk a) := by
  refine ⟨va_K.moved (u := U) (U := U.calling g mk a) (Vm.Alike.refl U.vm) h.1, fun w hw => ?_⟩
  obtain ⟨a, i, x, hh, rfl⟩ := lw_nest_form w hw
  exact va_Nw.same rfl (rfl : U.vm = (U.calling g mk _).vm) (h.2 _ hw)
/-- what stands through a walk -/
def Cx (p : Program) (s : State) (m : MethodId) (args : Array Value) (meth : Method) (c : Code) (cc : ByteArray) (nL : Nat) (own : String) (ret : Option FieldType) (D : va_G) (cI cZ : ClassId) (A : Nat → Prop) : Prop :=
  p.tables.exec = Jvm.exec ∧ c.code = cc ∧ c.maxLocals = nL ∧ s.vm.findClass own = some m.cls ∧ (∀ w ∈ lw_all, w.before args s = true) ∧ KK D cI cZ s ∧ (∀ q, s.heap.size ≤ q → A q) ∧ meth.locks = false ∧ meth.sig.returnType = ret
/-- from here, with any heap that holds the world ws, the machine comes to Q -/
def G (p : Program) (l : Launch) (e : Env) (R : Room) (s : State) (m : MethodId) (args : Array Value) (below : List Frame) (meth : Method) (c : Code) (D : va_G) (A : Nat → Prop) (kc ks : Nat) (Q : State → Prop) (nL : Nat) (ws : va_W) (pc : Nat) (lv : List (Option Value)) (st : List Value) : Prop :=
  ∀ (H : Heap) (locs : List Loc) (ls : Array Slot), va_P D vwCl ws H → va_D A ws → va_S A s.heap H locs → lh ls nL lv → W p l e R s m args below meth c H locs kc ks Q (F0 m pc ls st)
section GR
variable {p : Program} {l : Launch} {e : Env} {R : Room} {s : State} {m : MethodId} {args : Array Value} {below : List Frame} {meth : Method} {c : Code} {D : va_G} {A : Nat → Prop} {kc ks : Nat} {Q : State → Prop} {nL : Nat} {ws : va_W} {pc : Nat} {lv : List (Option Value)} {st : List Value} {cc : ByteArray} {own : String} {ret : Option FieldType} {cI cZ : ClassId}
theorem G.eq {st2 : List Value} {lv2 : List (Option Value)} (h : G p l e R s m args below meth c D A kc ks Q nL ws pc lv2 st2) (h1 : st = st2) (h2 : lv = lv2) : G p l e R s m args below meth c D A kc ks Q nL ws pc lv st := by
  rw [h1, h2]; exact h
theorem g_iconst {n : Int} {v : Int32} (C : Cx p s m args meth c cc nL own ret D cI cZ A) (hd : decode cc pc = .ok (.iconst n, 1)) (hv : Int32.ofInt n = v) (kk : G p l e R s m args below meth c D A kc ks Q nL ws (pc + 1) lv (.int v :: st)) : G p l e R s m args below meth c D A kc ks Q nL ws pc lv st :=
  fun H locs ls hP hD hS hl => lv_iconst C.1 C.2.1 hd hv (kk H locs ls hP hD hS hl)
theorem g_bipush {n : Int} {v : Int32} (C : Cx p s m args meth c cc nL own ret D cI cZ A) (hd : decode cc pc = .ok (.bipush n, 2)) (hv : (Int8.ofInt n).toInt32 = v) (kk : G p l e R s m args below meth c D A kc ks Q nL ws (pc + 2) lv (.int v :: st)) : G p l e R s m args below meth c D A kc ks Q nL ws pc lv st :=
  fun H locs ls hP hD hS hl => lv_bipush C.1 C.2.1 hd hv (kk H locs ls hP hD hS hl)
theorem g_sipush {n : Int} {v : Int32} (C : Cx p s m args meth c cc nL own ret D cI cZ A) (hd : decode cc pc = .ok (.sipush n, 3)) (hv : (Int16.ofInt n).toInt32 = v) (kk : G p l e R s m args below meth c D A kc ks Q nL ws (pc + 3) lv (.int v :: st)) : G p l e R s m args below meth c D A kc ks Q nL ws pc lv st :=
  fun H locs ls hP hD hS hl => lv_sipush C.1 C.2.1 hd hv (kk H locs ls hP hD hS hl)
theorem g_ldcw {index : Nat} {v : Int32} (C : Cx p s m args meth c cc nL own ret D cI cZ A) (hw : Cond.constant own index v ∈ lw_all) (hd : decode cc pc = .ok (.ldc_w index, 3)) (kk : G p l e R s m args below meth c D A kc ks Q nL ws (pc + 3) lv (.int v :: st)) : G p l e R s m args below meth c D A kc ks Q nL ws pc lv st :=
  fun H locs ls hP hD hS hl => lv_ldcw C.1 C.2.1 C.2.2.2.1 (C.2.2.2.2.1 _ hw) hd (kk H locs ls hP hD hS hl)
theorem g_iload_n {k : Fin 4} {x : Int32} (C : Cx p s m args meth c cc nL own ret D cI cZ A) (hd : decode cc pc = .ok (.iload_n k, 1)) (hv : lgt lv (k : Nat) = some (.int x)) (kk : G p l e R s m args below meth c D A kc ks Q nL ws (pc + 1) lv (.int x :: st)) : G p l e R s m args below meth c D A kc ks Q nL ws pc lv st :=
  fun H locs ls hP hD hS hl => lv_iload_n C.1 C.2.1 hd rfl (hl.at hv) (kk H locs ls hP hD hS hl)
theorem g_iload {k : Nat} {x : Int32} (C : Cx p s m args meth c cc nL own ret D cI cZ A) (hd : decode cc pc = .ok (.iload k, 2)) (hv : lgt lv k = some (.int x)) (kk : G p l e R s m args below meth c D A kc ks Q nL ws (pc + 2) lv (.int x :: st)) : G p l e R s m args below meth c D A kc ks Q nL ws pc lv st :=
  fun H locs ls hP hD hS hl => lv_iload C.1 C.2.1 hd (hl.at hv) (kk H locs ls hP hD hS hl)
theorem g_aload_n {k : Fin 4} {x : Nat} (C : Cx p s m args meth c cc nL own ret D cI cZ A) (hd : decode cc pc = .ok (.aload_n k, 1)) (hv : lgt lv (k : Nat) = some (.ref x)) (kk : G p l e R s m args below meth c D A kc ks Q nL ws (pc + 1) lv (.ref x :: st)) : G p l e R s m args below meth c D A kc ks Q nL ws pc lv st :=
  fun H locs ls hP hD hS hl => lv_aload_n C.1 C.2.1 hd rfl (hl.at hv) (kk H locs ls hP hD hS hl)
theorem g_aload {k : Nat} {x : Nat} (C : Cx p s m args meth c cc nL own ret D cI cZ A) (hd : decode cc pc = .ok (.aload k, 2)) (hv : lgt lv k = some (.ref x)) (kk : G p l e R s m args below meth c D A kc ks Q nL ws (pc + 2) lv (.ref x :: st)) : G p l e R s m args below meth c D A kc ks Q nL ws pc lv st :=
  fun H locs ls hP hD hS hl => lv_aload C.1 C.2.1 hd (hl.at hv) (kk H locs ls hP hD hS hl)
theorem g_istore_n {k : Fin 4} {x : Int32} (C : Cx p s m args meth c cc nL own ret D cI cZ A) (hd : decode cc pc = .ok (.istore_n k, 1)) (hn : (k : Nat) < nL) (kk : G p l e R s m args below meth c D A kc ks Q nL ws (pc + 1) (lst lv (k : Nat) (.int x)) st) : G p l e R s m args below meth c D A kc ks Q nL ws pc lv (.int x :: st) :=
  fun H locs ls hP hD hS hl => lv_istore_n C.1 C.2.1 hd rfl hl.1 hn rfl (fun ls' hl' => kk H locs ls' hP hD hS (hl.put rfl hl'))
theorem g_istore {k : Nat} {x : Int32} (C : Cx p s m args meth c cc nL own ret D cI cZ A) (hd : decode cc pc = .ok (.istore k, 2)) (hn : k < nL) (kk : G p l e R s m args below meth c D A kc ks Q nL ws (pc + 2) (lst lv k (.int x)) st) : G p l e R s m args below meth c D A kc ks Q nL ws pc lv (.int x :: st) :=
  fun H locs ls hP hD hS hl => lv_istore C.1 C.2.1 hd hl.1 hn rfl (fun ls' hl' => kk H locs ls' hP hD hS (hl.put rfl hl'))
theorem g_astore_n {k : Fin 4} {x : Nat} (C : Cx p s m args meth c cc nL own ret D cI cZ A) (hd : decode cc pc = .ok (.astore_n k, 1)) (hn : (k : Nat) < nL) (kk : G p l e R s m args below meth c D A kc ks Q nL ws (pc + 1) (lst lv (k : Nat) (.ref x)) st) : G p l e R s m args below meth c D A kc ks Q nL ws pc lv (.ref x :: st) :=
  fun H locs ls hP hD hS hl => lv_astore_n C.1 C.2.1 hd rfl hl.1 hn rfl (fun ls' hl' => kk H locs ls' hP hD hS (hl.put rfl hl'))
theorem g_iinc {k : Nat} {n : Int} {x v : Int32} (C : Cx p s m args meth c cc nL own ret D cI cZ A) (hd : decode cc pc = .ok (.iinc k n, 3)) (hg : lgt lv k = some (.int x)) (hv : Int32.ofInt n = v) (hn : k < nL) (kk : G p l e R s m args below meth c D A kc ks Q nL ws (pc + 3) (lst lv k (.int (x + v))) st) : G p l e R s m args below meth c D A kc ks Q nL ws pc lv st :=
  fun H locs ls hP hD hS hl => by
    obtain ⟨j, hj⟩ := List.getElem?_of_mem (prs_mem (q := (k, .int x)).mpr hg)
    exact lv_iinc C.1 C.2.1 hd hl.1 hj (by rw [hv]) hn rfl (fun ls' hl' => kk H locs ls' hP hD hS (hl.put rfl hl'))
theorem g_iadd {x y : Int32} (C : Cx p s m args meth c cc nL own ret D cI cZ A) (hd : decode cc pc = .ok (.iadd, 1)) (kk : G p l e R s m args below meth c D A kc ks Q nL ws (pc + 1) lv (.int (x + y) :: st)) : G p l e R s m args below meth c D A kc ks Q nL ws pc lv (.int y :: .int x :: st) :=
  fun H locs ls hP hD hS hl => lv_iadd C.1 C.2.1 hd (kk H locs ls hP hD hS hl)
theorem g_isub {x y : Int32} (C : Cx p s m args meth c cc nL own ret D cI cZ A) (hd : decode cc pc = .ok (.isub, 1)) (kk : G p l e R s m args below meth c D A kc ks Q nL ws (pc + 1) lv (.int (x - y) :: st)) : G p l e R s m args below meth c D A kc ks Q nL ws pc lv (.int y :: .int x :: st) :=
  fun H locs ls hP hD hS hl => lv_isub C.1 C.2.1 hd (kk H locs ls hP hD hS hl)
theorem g_imul {x y : Int32} (C : Cx p s m args meth c cc nL own ret D cI cZ A) (hd : decode cc pc = .ok (.imul, 1)) (kk : G p l e R s m args below meth c D A kc ks Q nL ws (pc + 1) lv (.int (x * y) :: st)) : G p l e R s m args below meth c D A kc ks Q nL ws pc lv (.int y :: .int x :: st) :=
  fun H locs ls hP hD hS hl => lv_imul C.1 C.2.1 hd (kk H locs ls hP hD hS hl)
theorem g_iand {x y : Int32} (C : Cx p s m args meth c cc nL own ret D cI cZ A) (hd : decode cc pc = .ok (.iand, 1)) (kk : G p l e R s m args below meth c D A kc ks Q nL ws (pc + 1) lv (.int (x &&& y) :: st)) : G p l e R s m args below meth c D A kc ks Q nL ws pc lv (.int y :: .int x :: st) :=
  fun H locs ls hP hD hS hl => lv_iand C.1 C.2.1 hd (kk H locs ls hP hD hS hl)
theorem g_ior {x y : Int32} (C : Cx p s m args meth c cc nL own ret D cI cZ A) (hd : decode cc pc = .ok (.ior, 1)) (kk : G p l e R s m args below meth c D A kc ks Q nL ws (pc + 1) lv (.int (x ||| y) :: st)) : G p l e R s m args below meth c D A kc ks Q nL ws pc lv (.int y :: .int x :: st) :=
  fun H locs ls hP hD hS hl => lv_ior C.1 C.2.1 hd (kk H locs ls hP hD hS hl)
theorem g_ixor {x y : Int32} (C : Cx p s m args meth c cc nL own ret D cI cZ A) (hd : decode cc pc = .ok (.ixor, 1)) (kk : G p l e R s m args below meth c D A kc ks Q nL ws (pc + 1) lv (.int (x ^^^ y) :: st)) : G p l e R s m args below meth c D A kc ks Q nL ws pc lv (.int y :: .int x :: st) :=
  fun H locs ls hP hD hS hl => lv_ixor C.1 C.2.1 hd (kk H locs ls hP hD hS hl)
theorem g_ishl {x y : Int32} (C : Cx p s m args meth c cc nL own ret D cI cZ A) (hd : decode cc pc = .ok (.ishl, 1)) (kk : G p l e R s m args below meth c D A kc ks Q nL ws (pc + 1) lv (.int (x <<< (y &&& 31)) :: st)) : G p l e R s m args below meth c D A kc ks Q nL ws pc lv (.int y :: .int x :: st) :=
  fun H locs ls hP hD hS hl => lv_ishl C.1 C.2.1 hd (kk H locs ls hP hD hS hl)
theorem g_ishr {x y : Int32} (C : Cx p s m args meth c cc nL own ret D cI cZ A) (hd : decode cc pc = .ok (.ishr, 1)) (kk : G p l e R s m args below meth c D A kc ks Q nL ws (pc + 1) lv (.int (x >>> (y &&& 31)) :: st)) : G p l e R s m args below meth c D A kc ks Q nL ws pc lv (.int y :: .int x :: st) :=
  fun H locs ls hP hD hS hl => lv_ishr C.1 C.2.1 hd (kk H locs ls hP hD hS hl)
theorem g_iushr {x y : Int32} (C : Cx p s m args meth c cc nL own ret D cI cZ A) (hd : decode cc pc = .ok (.iushr, 1)) (kk : G p l e R s m args below meth c D A kc ks Q nL ws (pc + 1) lv (.int ((x.toUInt32 >>> (y.toUInt32 &&& Int32.toUInt32 31)).toInt32) :: st)) : G p l e R s m args below meth c D A kc ks Q nL ws pc lv (.int y :: .int x :: st) :=
  fun H locs ls hP hD hS hl => lv_iushr C.1 C.2.1 hd rfl (kk H locs ls hP hD hS hl)
theorem g_dup {v : Value} (C : Cx p s m args meth c cc nL own ret D cI cZ A) (hd : decode cc pc = .ok (.dup, 1)) (hc : v.category = 1) (kk : G p l e R s m args below meth c D A kc ks Q nL ws (pc + 1) lv (v :: v :: st)) : G p l e R s m args below meth c D A kc ks Q nL ws pc lv (v :: st) :=
  fun H locs ls hP hD hS hl => lv_dup C.1 C.2.1 hd hc (kk H locs ls hP hD hS hl)
theorem g_dup2 {v w : Value} (C : Cx p s m args meth c cc nL own ret D cI cZ A) (hd : decode cc pc = .ok (.dup2, 1)) (hc : v.category = 1) (hc2 : w.category = 1) (kk : G p l e R s m args below meth c D A kc ks Q nL ws (pc + 1) lv (v :: w :: v :: w :: st)) : G p l e R s m args below meth c D A kc ks Q nL ws pc lv (v :: w :: st) :=
  fun H locs ls hP hD hS hl => lv_dup2_11 C.1 C.2.1 hd hc hc2 (kk H locs ls hP hD hS hl)
theorem g_pop {v : Value} (C : Cx p s m args meth c cc nL own ret D cI cZ A) (hd : decode cc pc = .ok (.pop, 1)) (hc : v.category = 1) (kk : G p l e R s m args below meth c D A kc ks Q nL ws (pc + 1) lv st) : G p l e R s m args below meth c D A kc ks Q nL ws pc lv (v :: st) :=
  fun H locs ls hP hD hS hl => lv_pop C.1 C.2.1 hd hc (kk H locs ls hP hD hS hl)
theorem g_goto {off : Int} {tgt : Nat} (C : Cx p s m args meth c cc nL own ret D cI cZ A) (hd : decode cc pc = .ok (.goto off, 3)) (ht : (pc : Int) + off = (tgt : Int)) (kk : G p l e R s m args below meth c D A kc ks Q nL ws tgt lv st) : G p l e R s m args below meth c D A kc ks Q nL ws pc lv st :=
  fun H locs ls hP hD hS hl => lv_goto C.1 C.2.1 hd ht (kk H locs ls hP hD hS hl)
theorem g_if_eq {x : Int32} {off : Int} {tgt : Nat} (C : Cx p s m args meth c cc nL own ret D cI cZ A) (hd : decode cc pc = .ok (.ifCond .eq off, 3)) (ht : (pc : Int) + off = (tgt : Int)) (kt : x = 0 → G p l e R s m args below meth c D A kc ks Q nL ws tgt lv st) (kf : ¬ x = 0 → G p l e R s m args below meth c D A kc ks Q nL ws (pc + 3) lv st) : G p l e R s m args below meth c D A kc ks Q nL ws pc lv (.int x :: st) :=
  fun H locs ls hP hD hS hl => lv_if_eq C.1 C.2.1 hd ht (fun h => kt h H locs ls hP hD hS hl) (fun h => kf h H locs ls hP hD hS hl)
theorem g_icmp_eq {x y : Int32} {off : Int} {tgt : Nat} (C : Cx p s m args meth c cc nL own ret D cI cZ A) (hd : decode cc pc = .ok (.if_icmp .eq off, 3)) (ht : (pc : Int) + off = (tgt : Int)) (kt : x = y → G p l e R s m args below meth c D A kc ks Q nL ws tgt lv st) (kf : ¬ x = y → G p l e R s m args below meth c D A kc ks Q nL ws (pc + 3) lv st) : G p l e R s m args below meth c D A kc ks Q nL ws pc lv (.int y :: .int x :: st) :=
  fun H locs ls hP hD hS hl => lv_icmp_eq C.1 C.2.1 hd ht (fun h => kt h H locs ls hP hD hS hl) (fun h => kf h H locs ls hP hD hS hl)
theorem g_if_ne {x : Int32} {off : Int} {tgt : Nat} (C : Cx p s m args meth c cc nL own ret D cI cZ A) (hd : decode cc pc = .ok (.ifCond .ne off, 3)) (ht : (pc : Int) + off = (tgt : Int)) (kt : ¬ x = 0 → G p l e R s m args below meth c D A kc ks Q nL ws tgt lv st) (kf : x = 0 → G p l e R s m args below meth c D A kc ks Q nL ws (pc + 3) lv st) : G p l e R s m args below meth c D A kc ks Q nL ws pc lv (.int x :: st) :=
  fun H locs ls hP hD hS hl => lv_if_ne C.1 C.2.1 hd ht (fun h => kt h H locs ls hP hD hS hl) (fun h => kf h H locs ls hP hD hS hl)
theorem g_icmp_ne {x y : Int32} {off : Int} {tgt : Nat} (C : Cx p s m args meth c cc nL own ret D cI cZ A) (hd : decode cc pc = .ok (.if_icmp .ne off, 3)) (ht : (pc : Int) + off = (tgt : Int)) (kt : ¬ x = y → G p l e R s m args below meth c D A kc ks Q nL ws tgt lv st) (kf : x = y → G p l e R s m args below meth c D A kc ks Q nL ws (pc + 3) lv st) : G p l e R s m args below meth c D A kc ks Q nL ws pc lv (.int y :: .int x :: st) :=
  fun H locs ls hP hD hS hl => lv_icmp_ne C.1 C.2.1 hd ht (fun h => kt h H locs ls hP hD hS hl) (fun h => kf h H locs ls hP hD hS hl)
theorem g_if_lt {x : Int32} {off : Int} {tgt : Nat} (C : Cx p s m args meth c cc nL own ret D cI cZ A) (hd : decode cc pc = .ok (.ifCond .lt off, 3)) (ht : (pc : Int) + off = (tgt : Int)) (kt : x < 0 → G p l e R s m args below meth c D A kc ks Q nL ws tgt lv st) (kf : ¬ x < 0 → G p l e R s m args below meth c D A kc ks Q nL ws (pc + 3) lv st) : G p l e R s m args below meth c D A kc ks Q nL ws pc lv (.int x :: st) :=
  fun H locs ls hP hD hS hl => lv_if_lt C.1 C.2.1 hd ht (fun h => kt h H locs ls hP hD hS hl) (fun h => kf h H locs ls hP hD hS hl)
theorem g_icmp_lt {x y : Int32} {off : Int} {tgt : Nat} (C : Cx p s m args meth c cc nL own ret D cI cZ A) (hd : decode cc pc = .ok (.if_icmp .lt off, 3)) (ht : (pc : Int) + off = (tgt : Int)) (kt : x < y → G p l e R s m args below meth c D A kc ks Q nL ws tgt lv st) (kf : ¬ x < y → G p l e R s m args below meth c D A kc ks Q nL ws (pc + 3) lv st) : G p l e R s m args below meth c D A kc ks Q nL ws pc lv (.int y :: .int x :: st) :=
  fun H locs ls hP hD hS hl => lv_icmp_lt C.1 C.2.1 hd ht (fun h => kt h H locs ls hP hD hS hl) (fun h => kf h H locs ls hP hD hS hl)
theorem g_if_ge {x : Int32} {off : Int} {tgt : Nat} (C : Cx p s m args meth c cc nL own ret D cI cZ A) (hd : decode cc pc = .ok (.ifCond .ge off, 3)) (ht : (pc : Int) + off = (tgt : Int)) (kt : 0 ≤ x → G p l e R s m args below meth c D A kc ks Q nL ws tgt lv st) (kf : ¬ 0 ≤ x → G p l e R s m args below meth c D A kc ks Q nL ws (pc + 3) lv st) : G p l e R s m args below meth c D A kc ks Q nL ws pc lv (.int x :: st) :=
  fun H locs ls hP hD hS hl => lv_if_ge C.1 C.2.1 hd ht (fun h => kt h H locs ls hP hD hS hl) (fun h => kf h H locs ls hP hD hS hl)
theorem g_icmp_ge {x y : Int32} {off : Int} {tgt : Nat} (C : Cx p s m args meth c cc nL own ret D cI cZ A) (hd : decode cc pc = .ok (.if_icmp .ge off, 3)) (ht : (pc : Int) + off = (tgt : Int)) (kt : y ≤ x → G p l e R s m args below meth c D A kc ks Q nL ws tgt lv st) (kf : ¬ y ≤ x → G p l e R s m args below meth c D A kc ks Q nL ws (pc + 3) lv st) : G p l e R s m args below meth c D A kc ks Q nL ws pc lv (.int y :: .int x :: st) :=
  fun H locs ls hP hD hS hl => lv_icmp_ge C.1 C.2.1 hd ht (fun h => kt h H locs ls hP hD hS hl) (fun h => kf h H locs ls hP hD hS hl)
theorem g_if_gt {x : Int32} {off : Int} {tgt : Nat} (C : Cx p s m args meth c cc nL own ret D cI cZ A) (hd : decode cc pc = .ok (.ifCond .gt off, 3)) (ht : (pc : Int) + off = (tgt : Int)) (kt : 0 < x → G p l e R s m args below meth c D A kc ks Q nL ws tgt lv st) (kf : ¬ 0 < x → G p l e R s m args below meth c D A kc ks Q nL ws (pc + 3) lv st) : G p l e R s m args below meth c D A kc ks Q nL ws pc lv (.int x :: st) :=
  fun H locs ls hP hD hS hl => lv_if_gt C.1 C.2.1 hd ht (fun h => kt h H locs ls hP hD hS hl) (fun h => kf h H locs ls hP hD hS hl)
theorem g_icmp_gt {x y : Int32} {off : Int} {tgt : Nat} (C : Cx p s m args meth c cc nL own ret D cI cZ A) (hd : decode cc pc = .ok (.if_icmp .gt off, 3)) (ht : (pc : Int) + off = (tgt : Int)) (kt : y < x → G p l e R s m args below meth c D A kc ks Q nL ws tgt lv st) (kf : ¬ y < x → G p l e R s m args below meth c D A kc ks Q nL ws (pc + 3) lv st) : G p l e R s m args below meth c D A kc ks Q nL ws pc lv (.int y :: .int x :: st) :=
  fun H locs ls hP hD hS hl => lv_icmp_gt C.1 C.2.1 hd ht (fun h => kt h H locs ls hP hD hS hl) (fun h => kf h H locs ls hP hD hS hl)
theorem g_if_le {x : Int32} {off : Int} {tgt : Nat} (C : Cx p s m args meth c cc nL own ret D cI cZ A) (hd : decode cc pc = .ok (.ifCond .le off, 3)) (ht : (pc : Int) + off = (tgt : Int)) (kt : x ≤ 0 → G p l e R s m args below meth c D A kc ks Q nL ws tgt lv st) (kf : ¬ x ≤ 0 → G p l e R s m args below meth c D A kc ks Q nL ws (pc + 3) lv st) : G p l e R s m args below meth c D A kc ks Q nL ws pc lv (.int x :: st) :=
  fun H locs ls hP hD hS hl => lv_if_le C.1 C.2.1 hd ht (fun h => kt h H locs ls hP hD hS hl) (fun h => kf h H locs ls hP hD hS hl)
theorem g_icmp_le {x y : Int32} {off : Int} {tgt : Nat} (C : Cx p s m args meth c cc nL own ret D cI cZ A) (hd : decode cc pc = .ok (.if_icmp .le off, 3)) (ht : (pc : Int) + off = (tgt : Int)) (kt : x ≤ y → G p l e R s m args below meth c D A kc ks Q nL ws tgt lv st) (kf : ¬ x ≤ y → G p l e R s m args below meth c D A kc ks Q nL ws (pc + 3) lv st) : G p l e R s m args below meth c D A kc ks Q nL ws pc lv (.int y :: .int x :: st) :=
  fun H locs ls hP hD hS hl => lv_icmp_le C.1 C.2.1 hd ht (fun h => kt h H locs ls hP hD hS hl) (fun h => kf h H locs ls hP hD hS hl)
theorem g_ifb_eq {x : Bool} {off : Int} {tgt : Nat} (C : Cx p s m args meth c cc nL own ret D cI cZ A) (hd : decode cc pc = .ok (.ifCond .eq off, 3)) (ht : (pc : Int) + off = (tgt : Int)) (kt : x = false → G p l e R s m args below meth c D A kc ks Q nL ws tgt lv st) (kf : x = true → G p l e R s m args below meth c D A kc ks Q nL ws (pc + 3) lv st) : G p l e R s m args below meth c D A kc ks Q nL ws pc lv (.int (b2i x) :: st) :=
  g_if_eq C hd ht (fun h => kt (b2i_0.mp h)) (fun h => kf (by cases x <;> simp_all [b2i]))
theorem g_ifb_ne {x : Bool} {off : Int} {tgt : Nat} (C : Cx p s m args meth c cc nL own ret D cI cZ A) (hd : decode cc pc = .ok (.ifCond .ne off, 3)) (ht : (pc : Int) + off = (tgt : Int)) (kt : x = true → G p l e R s m args below meth c D A kc ks Q nL ws tgt lv st) (kf : x = false → G p l e R s m args below meth c D A kc ks Q nL ws (pc + 3) lv st) : G p l e R s m args below meth c D A kc ks Q nL ws pc lv (.int (b2i x) :: st) :=
  g_if_ne C hd ht (fun h => kt (by cases x <;> simp_all [b2i])) (fun h => kf (by cases x <;> simp_all [b2i]))
end GR

/-! ===== rows over natural numbers, contracts that only read ===== -/
section GN
variable {p : Program} {l : Launch} {e : Env} {R : Room} {s : State} {m : MethodId} {args : Array Value} {below : List Frame} {meth : Method} {c : Code} {D : va_G} {A : Nat → Prop} {kc ks : Nat} {Q : State → Prop} {nL : Nat} {ws : va_W} {pc : Nat} {lv : List (Option Value)} {st : List Value} {cc : ByteArray} {own : String} {ret : Option FieldType} {cI cZ : ClassId}
theorem g_iconstN {n : Int} (k : Nat) (C : Cx p s m args meth c cc nL own ret D cI cZ A) (hd : decode cc pc = .ok (.iconst n, 1)) (hv : Int32.ofInt n = nI k) (kk : G p l e R s m args below meth c D A kc ks Q nL ws (pc + 1) lv (.int (nI k) :: st)) : G p l e R s m args below meth c D A kc ks Q nL ws pc lv st := g_iconst C hd hv kk
theorem g_bipushN {n : Int} (k : Nat) (C : Cx p s m args meth c cc nL own ret D cI cZ A) (hd : decode cc pc = .ok (.bipush n, 2)) (hv : (Int8.ofInt n).toInt32 = nI k) (kk : G p l e R s m args below meth c D A kc ks Q nL ws (pc + 2) lv (.int (nI k) :: st)) : G p l e R s m args below meth c D A kc ks Q nL ws pc lv st := g_bipush C hd hv kk
theorem g_sipushN {n : Int} (k : Nat) (C : Cx p s m args meth c cc nL own ret D cI cZ A) (hd : decode cc pc = .ok (.sipush n, 3)) (hv : (Int16.ofInt n).toInt32 = nI k) (kk : G p l e R s m args below meth c D A kc ks Q nL ws (pc + 3) lv (.int (nI k) :: st)) : G p l e R s m args below meth c D A kc ks Q nL ws pc lv st := g_sipush C hd hv kk
theorem g_iaddN {x y : Nat} (C : Cx p s m args meth c cc nL own ret D cI cZ A) (hd : decode cc pc = .ok (.iadd, 1)) (kk : G p l e R s m args below meth c D A kc ks Q nL ws (pc + 1) lv (.int (nI (x + y)) :: st)) : G p l e R s m args below meth c D A kc ks Q nL ws pc lv (.int (nI y) :: .int (nI x) :: st) := g_iadd C hd (by rw [nI_add]; exact kk)
theorem g_imulN {x y : Nat} (C : Cx p s m args meth c cc nL own ret D cI cZ A) (hd : decode cc pc = .ok (.imul, 1)) (kk : G p l e R s m args below meth c D A kc ks Q nL ws (pc + 1) lv (.int (nI (x * y)) :: st)) : G p l e R s m args below meth c D A kc ks Q nL ws pc lv (.int (nI y) :: .int (nI x) :: st) := g_imul C hd (by rw [pk_mul]; exact kk)
theorem g_isubN {x y : Nat} (C : Cx p s m args meth c cc nL own ret D cI cZ A) (h : y ≤ x) (hd : decode cc pc = .ok (.isub, 1)) (kk : G p l e R s m args below meth c D A kc ks Q nL ws (pc + 1) lv (.int (nI (x - y)) :: st)) : G p l e R s m args below meth c D A kc ks Q nL ws pc lv (.int (nI y) :: .int (nI x) :: st) := g_isub C hd (by rw [pk_sub h]; exact kk)
theorem g_iincN {k x : Nat} (C : Cx p s m args meth c cc nL own ret D cI cZ A) (hd : decode cc pc = .ok (.iinc k 1, 3)) (hg : lgt lv k = some (.int (nI x))) (hn : k < nL) (kk : G p l e R s m args below meth c D A kc ks Q nL ws (pc + 3) (lst lv k (.int (nI (x + 1)))) st) : G p l e R s m args below meth c D A kc ks Q nL ws pc lv st := g_iinc (v := 1) C hd hg (by decide) hn (by rw [nI_1]; exact kk)
theorem g_icmpN_eq {x y : Nat} {off : Int} {tgt : Nat} (C : Cx p s m args meth c cc nL own ret D cI cZ A) (hx : x < 2 ^ 31) (hy : y < 2 ^ 31) (hd : decode cc pc = .ok (.if_icmp .eq off, 3)) (ht : (pc : Int) + off = (tgt : Int)) (kt : x = y → G p l e R s m args below meth c D A kc ks Q nL ws tgt lv st) (kf : x ≠ y → G p l e R s m args below meth c D A kc ks Q nL ws (pc + 3) lv st) : G p l e R s m args below meth c D A kc ks Q nL ws pc lv (.int (nI y) :: .int (nI x) :: st) := g_icmp_eq C hd ht (fun h => kt ((nI_eq hx hy).mp h)) (fun h => kf (fun q => h ((nI_eq hx hy).mpr q)))
theorem g_icmpN_ne {x y : Nat} {off : Int} {tgt : Nat} (C : Cx p s m args meth c cc nL own ret D cI cZ A) (hx : x < 2 ^ 31) (hy : y < 2 ^ 31) (hd : decode cc pc = .ok (.if_icmp .ne off, 3)) (ht : (pc : Int) + off = (tgt : Int)) (kt : x ≠ y → G p l e R s m args below meth c D A kc ks Q nL ws tgt lv st) (kf : x = y → G p l e R s m args below meth c D A kc ks Q nL ws (pc + 3) lv st) : G p l e R s m args below meth c D A kc ks Q nL ws pc lv (.int (nI y) :: .int (nI x) :: st) := g_icmp_ne C hd ht (fun h => kt (fun q => h ((nI_eq hx hy).mpr q))) (fun h => kf ((nI_eq hx hy).mp h))
theorem g_icmpN_lt {x y : Nat} {off : Int} {tgt : Nat} (C : Cx p s m args meth c cc nL own ret D cI cZ A) (hx : x < 2 ^ 31) (hy : y < 2 ^ 31) (hd : decode cc pc = .ok (.if_icmp .lt off, 3)) (ht : (pc : Int) + off = (tgt : Int)) (kt : x < y → G p l e R s m args below meth c D A kc ks Q nL ws tgt lv st) (kf : y ≤ x → G p l e R s m args below meth c D A kc ks Q nL ws (pc + 3) lv st) : G p l e R s m args below meth c D A kc ks Q nL ws pc lv (.int (nI y) :: .int (nI x) :: st) := g_icmp_lt C hd ht (fun h => kt ((nI_ltI hx hy).mp h)) (fun h => kf (Nat.le_of_not_lt (fun q => h ((nI_ltI hx hy).mpr q))))
theorem g_icmpN_ge {x y : Nat} {off : Int} {tgt : Nat} (C : Cx p s m args meth c cc nL own ret D cI cZ A) (hx : x < 2 ^ 31) (hy : y < 2 ^ 31) (hd : decode cc pc = .ok (.if_icmp .ge off, 3)) (ht : (pc : Int) + off = (tgt : Int)) (kt : y ≤ x → G p l e R s m args below meth c D A kc ks Q nL ws tgt lv st) (kf : x < y → G p l e R s m args below meth c D A kc ks Q nL ws (pc + 3) lv st) : G p l e R s m args below meth c D A kc ks Q nL ws pc lv (.int (nI y) :: .int (nI x) :: st) := g_icmp_ge C hd ht (fun h => kt ((nI_leI hy hx).mp h)) (fun h => kf (Nat.lt_of_not_le (fun q => h ((nI_leI hy hx).mpr q))))
theorem g_icmpN_gt {x y : Nat} {off : Int} {tgt : Nat} (C : Cx p s m args meth c cc nL own ret D cI cZ A) (hx : x < 2 ^ 31) (hy : y < 2 ^ 31) (hd : decode cc pc = .ok (.if_icmp .gt off, 3)) (ht : (pc : Int) + off = (tgt : Int)) (kt : y < x → G p l e R s m args below meth c D A kc ks Q nL ws tgt lv st) (kf : x ≤ y → G p l e R s m args below meth c D A kc ks Q nL ws (pc + 3) lv st) : G p l e R s m args below meth c D A kc ks Q nL ws pc lv (.int (nI y) :: .int (nI x) :: st) := g_icmp_gt C hd ht (fun h => kt ((nI_ltI hy hx).mp h)) (fun h => kf (Nat.le_of_not_lt (fun q => h ((nI_ltI hy hx).mpr q))))
theorem g_icmpN_le {x y : Nat} {off : Int} {tgt : Nat} (C : Cx p s m args meth c cc nL own ret D cI cZ A) (hx : x < 2 ^ 31) (hy : y < 2 ^ 31) (hd : decode cc pc = .ok (.if_icmp .le off, 3)) (ht : (pc : Int) + off = (tgt : Int)) (kt : x ≤ y → G p l e R s m args below meth c D A kc ks Q nL ws tgt lv st) (kf : y < x → G p l e R s m args below meth c D A kc ks Q nL ws (pc + 3) lv st) : G p l e R s m args below meth c D A kc ks Q nL ws pc lv (.int (nI y) :: .int (nI x) :: st) := g_icmp_le C hd ht (fun h => kt ((nI_leI hx hy).mp h)) (fun h => kf (Nat.lt_of_not_le (fun q => h ((nI_leI hx hy).mpr q))))
end GN
/-- a contract that only reads: the answer is v, the state as it was -/
def Cr (l : Launch) (y : MethodName) (yc : ByteArray) (n : Nat) (ret : Option FieldType) (f k : Nat) (D : va_G) (cI cZ : ClassId) (pic : St → va_W) (av : List Value) (σ : St) (v : Int32) : Prop :=
  Ct l y yc n ret f k D cI cZ pic av σ (fun r u => r = some (.int v) ∧ u = σ)
section GVr
variable {p : Program} {l : Launch} {e : Env} {R : Room} {s : State} {m : MethodId} {args : Array Value} {below : List Frame} {meth : Method} {c : Code} {D : va_G} {A : Nat → Prop} {kc ks : Nat} {Q : State → Prop} {nL : Nat} {pc : Nat} {lv : List (Option Value)} {cc : ByteArray} {own : String} {ret ret0 : Option FieldType} {cI cZ : ClassId}
variable {pic : St → va_W} {σ : St} {v : Int32} {y : MethodName} {yc : ByteArray} {n f k na index a0 ci N : Nat} {T : u_T} {fs As rest st : List Value}
theorem g_callVr (q0 : Nat) (C : Cx p s m args meth c cc nL own ret0 D cI cZ A) (hM : Cr l y yc n ret f k D cI cZ pic (.ref a0 :: As) σ v) (hw : Mw y yc n ret na) (hl : Cond.methodLink own index y ∈ lw_all) (he : (pic σ)[q0]? = some (a0, .inr (ci, fs))) (hc : vwCl[ci]? = some (y.cls, T, N)) (hst : st = As.reverse ++ .ref a0 :: rest) (hn : As.length = na) (hcat : (rest.map fun v => v.category).sum ≤ 8) (hd : decode cc pc = .ok (.invokevirtual index, 3)) (hR : f + 1 ≤ R.frames ∧ 8 + (n + 11) + k ≤ R.locals) (hR2 : kc ≤ R.cells ∧ ks ≤ R.slots)
    (kk : G p l e R s m args below meth c D A kc ks Q nL (pic σ) (pc + 3) lv (.int v :: rest)) : G p l e R s m args below meth c D A kc ks Q nL (pic σ) pc lv st :=
  g_callV q0 C hM hw hl he hc hst hn hcat hd hR hR2 (fun r u h => by rw [h.1, h.2]; exact kk)
theorem g_callSr (C : Cx p s m args meth c cc nL own ret0 D cI cZ A) (hM : Cr l y yc n ret f k D cI cZ pic As σ v) (hw : Ms y yc n ret na) (hl : Cond.methodLink own index y ∈ lw_all) (hst : st = As.reverse ++ rest) (hn : As.length = na) (hcat : (rest.map fun v => v.category).sum ≤ 8) (hd : decode cc pc = .ok (.invokestatic index, 3)) (hR : f + 1 ≤ R.frames ∧ 8 + (n + 11) + k ≤ R.locals) (hR2 : kc ≤ R.cells ∧ ks ≤ R.slots)
    (kk : G p l e R s m args below meth c D A kc ks Q nL (pic σ) (pc + 3) lv (.int v :: rest)) : G p l e R s m args below meth c D A kc ks Q nL (pic σ) pc lv st :=
  g_callS C hM hw hl hst hn hcat hd hR hR2 (fun r u h => by rw [h.1, h.2]; exact kk)
theorem g_callSNr {host : String} (C : Cx p s m args meth c cc nL own ret0 D cI cZ A) (hM : Cr l y yc n ret f k D cI cZ pic As σ v) (hw : Ms y yc n ret na) (hl : Cond.methodLinkNest own index y host ∈ lw_nest) (hst : st = As.reverse ++ rest) (hn : As.length = na) (hcat : (rest.map fun v => v.category).sum ≤ 8) (hd : decode cc pc = .ok (.invokestatic index, 3)) (hR : f + 1 ≤ R.frames ∧ 8 + (n + 11) + k ≤ R.locals) (hR2 : kc ≤ R.cells ∧ ks ≤ R.slots)
    (kk : G p l e R s m args below meth c D A kc ks Q nL (pic σ) (pc + 3) lv (.int v :: rest)) : G p l e R s m args below meth c D A kc ks Q nL (pic σ) pc lv st :=
  g_callSN C hM hw hl hst hn hcat hd hR hR2 (fun r u h => by rw [h.1, h.2]; exact kk)
end GVr
theorem rt_t {B : Bool} (h : B = true) : some (Value.int 1) = some (Value.int (b2i B)) := by rw [h]; rfl
theorem rt_f {B : Bool} (h : B = false) : some (Value.int 0) = some (Value.int (b2i B)) := by rw [h]; rfl
theorem rt_b {A B : Bool} (h : A = B) : some (Value.int (b2i A)) = some (Value.int (b2i B)) := by rw [h]
theorem rt_i {a b : Int32} (h : a = b) : some (Value.int a) = some (Value.int b) := by rw [h]
theorem nar_0 : narrow .boolean (.int 0) = .int 0 := by decide +kernel
theorem nar_1 : narrow .boolean (.int 1) = .int 1 := by decide +kernel
/-! ===== the reference's state, read as numbers ===== -/
def nT (τ : St) : Nat := (τ 0 0).toNatClampNeg
def nX (τ : St) : Nat := (τ 0 1).toNatClampNeg
def nM (τ : St) : Nat := (τ 0 2).toNatClampNeg
def nF (τ : St) (t : Nat) : Nat := (τ 4 t).toNatClampNeg
def Fc (τ : St) (t k : Nat) : Nat := (τ 5 (3 * t + k)).toNatClampNeg
def Bel (τ : St) (t u : Nat) : Bool := decide (¬ τ 6 (16 * t + u) = 0)
def Ckd (τ : St) (x : Nat) : Bool := decide (¬ τ 8 x = 0)
def Of (τ : St) (m : Nat) : Nat := (τ 9 m).toNatClampNeg
def Rs (τ : St) (m : Nat) : Nat := (τ 11 m).toNatClampNeg
def Ov (τ : St) (m o : Nat) : Bool := decide (¬ τ 14 (60 * m + o) = 0)
/-- a number that names a lesser one, or none -/
def lessOr (x : Int32) (t : Nat) : Prop := x = -1 ∨ ∃ p : Nat, p < t ∧ x = nI p
/-- what makes the reference's walks safe -/
def W0 (τ : St) : Prop := (τ 0 0 = nI (nT τ) ∧ nT τ ≤ 16) ∧ (τ 0 1 = nI (nX τ) ∧ nX τ ≤ 8) ∧ (τ 0 2 = nI (nM τ) ∧ nM τ ≤ 60) ∧
  (∀ t, t < nT τ → lessOr (τ 3 t) t ∧ (τ 4 t = nI (nF τ t) ∧ nF τ t ≤ 3) ∧ ∀ k, k < nF τ t → τ 5 (3 * t + k) = nI (Fc τ t k) ∧ Fc τ t k < t) ∧
  (∀ x, x < nX τ → lessOr (τ 7 x) x) ∧ (∀ m, m < nM τ → (τ 9 m = nI (Of τ m) ∧ Of τ m < nT τ) ∧ τ 11 m = nI (Rs τ m) ∧ Rs τ m < 20) ∧
  (∀ j, τ 6 j = 0 ∨ τ 6 j = 1) ∧ (∀ j, τ 8 j = 0 ∨ τ 8 j = 1) ∧ (∀ j, τ 14 j = 0 ∨ τ 14 j = 1)
theorem bz {x : Int32} (h : x = 0 ∨ x = 1) : x = b2i (decide (¬ x = 0)) := by rcases h with rfl | rfl <;> decide
theorem w0_t {τ : St} (h : W0 τ) : τ 0 0 = nI (nT τ) := h.1.1
theorem w0_tl {τ : St} (h : W0 τ) : nT τ ≤ 16 := h.1.2
theorem w0_x {τ : St} (h : W0 τ) : τ 0 1 = nI (nX τ) := h.2.1.1
theorem w0_xl {τ : St} (h : W0 τ) : nX τ ≤ 8 := h.2.1.2
theorem w0_m {τ : St} (h : W0 τ) : τ 0 2 = nI (nM τ) := h.2.2.1.1
theorem w0_ml {τ : St} (h : W0 τ) : nM τ ≤ 60 := h.2.2.1.2
theorem w0_pa {τ : St} (h : W0 τ) {t : Nat} (ht : t < nT τ) : lessOr (τ 3 t) t := (h.2.2.2.1 t ht).1
theorem w0_f {τ : St} (h : W0 τ) {t : Nat} (ht : t < nT τ) : τ 4 t = nI (nF τ t) := (h.2.2.2.1 t ht).2.1.1
theorem w0_fl {τ : St} (h : W0 τ) {t : Nat} (ht : t < nT τ) : nF τ t ≤ 3 := (h.2.2.2.1 t ht).2.1.2
theorem w0_fc {τ : St} (h : W0 τ) {t k : Nat} (ht : t < nT τ) (hk : k < nF τ t) : τ 5 (3 * t + k) = nI (Fc τ t k) := ((h.2.2.2.1 t ht).2.2 k hk).1
theorem w0_fcl {τ : St} (h : W0 τ) {t k : Nat} (ht : t < nT τ) (hk : k < nF τ t) : Fc τ t k < t := ((h.2.2.2.1 t ht).2.2 k hk).2
theorem w0_tp {τ : St} (h : W0 τ) {x : Nat} (hx : x < nX τ) : lessOr (τ 7 x) x := h.2.2.2.2.1 x hx
theorem w0_of {τ : St} (h : W0 τ) {m : Nat} (hm : m < nM τ) : τ 9 m = nI (Of τ m) := (h.2.2.2.2.2.1 m hm).1.1
theorem w0_ofl {τ : St} (h : W0 τ) {m : Nat} (hm : m < nM τ) : Of τ m < nT τ := (h.2.2.2.2.2.1 m hm).1.2
theorem w0_rs {τ : St} (h : W0 τ) {m : Nat} (hm : m < nM τ) : τ 11 m = nI (Rs τ m) := (h.2.2.2.2.2.1 m hm).2.1
theorem w0_rsl {τ : St} (h : W0 τ) {m : Nat} (hm : m < nM τ) : Rs τ m < 20 := (h.2.2.2.2.2.1 m hm).2.2
theorem w0_b6 {τ : St} (h : W0 τ) (j : Nat) : τ 6 j = b2i (decide (¬ τ 6 j = 0)) := bz (h.2.2.2.2.2.2.1 j)
theorem w0_b8 {τ : St} (h : W0 τ) (j : Nat) : τ 8 j = b2i (decide (¬ τ 8 j = 0)) := bz (h.2.2.2.2.2.2.2.1 j)
theorem w0_b14 {τ : St} (h : W0 τ) (j : Nat) : τ 14 j = b2i (decide (¬ τ 14 j = 0)) := bz (h.2.2.2.2.2.2.2.2 j)

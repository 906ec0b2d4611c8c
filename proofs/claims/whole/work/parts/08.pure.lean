/-! ===== small pure words ===== -/
def anyN : Nat → (Nat → Bool) → Bool
  | 0, _ => false
  | n + 1, f => anyN n f || f n
theorem anyN_t {n x : Nat} {f : Nat → Bool} (hx : x < n) (h : f x = true) : anyN n f = true := by
  induction n with
  | zero => omega
  | succ n ih =>
    rcases Nat.lt_or_ge x n with q | q
    · simp [anyN, ih q]
    · have : x = n := by omega
      subst this
      simp [anyN, h]
theorem anyN_f {n : Nat} {f : Nat → Bool} (h : ∀ x, x < n → f x = false) : anyN n f = false := by
  induction n with
  | zero => rfl
  | succ n ih => simp [anyN, ih (fun x hx => h x (by omega)), h n (by omega)]
theorem anyN_iff {n : Nat} {f : Nat → Bool} : anyN n f = true ↔ ∃ x, x < n ∧ f x = true := by
  constructor
  · intro h
    induction n with
    | zero => simp [anyN] at h
    | succ n ih =>
      simp only [anyN, Bool.or_eq_true] at h
      rcases h with h | h
      · obtain ⟨x, hx, hf⟩ := ih h; exact ⟨x, by omega, hf⟩
      · exact ⟨n, by omega, h⟩
  · rintro ⟨x, hx, hf⟩; exact anyN_t hx hf
/-- fewer known locals -/
def lvle : List (Option Value) → List (Option Value) → Prop
  | [], _ => True
  | none :: l, _ :: r => lvle l r
  | none :: l, [] => lvle l []
  | some v :: l, w :: r => w = some v ∧ lvle l r
  | some _ :: _, [] => False
theorem lvle_get : ∀ (l r : List (Option Value)), lvle l r → ∀ i v, lgt l i = some v → lgt r i = some v
  | [], _, _, i, v, h => by simp [lgt] at h
  | none :: l, w :: r, hl, i, v, h => by
    cases i with
    | zero => simp [lgt] at h
    | succ i => exact lvle_get l r hl i v h
  | none :: l, [], hl, i, v, h => by
    cases i with
    | zero => simp [lgt] at h
    | succ i => have := lvle_get l [] hl i v h; simp [lgt] at this
  | some u :: l, w :: r, hl, i, v, h => by
    cases i with
    | zero => rw [hl.1]; exact h
    | succ i => exact lvle_get l r hl.2 i v h
theorem lh.weak {ls : Array Slot} {nL : Nat} {l r : List (Option Value)} (h : lh ls nL r) (hl : lvle l r) : lh ls nL l :=
  ⟨⟨h.1.1, h.1.2.1, fun q hq => h.at (lvle_get l r hl _ _ (prs_mem.mp hq))⟩, fun i v hv => h.2 i v (lvle_get l r hl i v hv)⟩
theorem G.weak {p : Program} {l : Launch} {e : Env} {R : Room} {s : State} {m : MethodId} {args : Array Value} {below : List Frame} {meth : Method} {c : Code} {D : va_G} {A : Nat → Prop} {kc ks : Nat} {Q : State → Prop} {nL : Nat} {ws : va_W} {pc : Nat} {lv lv2 : List (Option Value)} {st : List Value} (kk : G p l e R s m args below meth c D A kc ks Q nL ws pc lv2 st) (hl : lvle lv2 lv) : G p l e R s m args below meth c D A kc ks Q nL ws pc lv st :=
  fun H locs ls hP hD hS hlh => kk H locs ls hP hD hS (hlh.weak hl)
def fstN : Nat → (Nat → Bool) → Option Nat
  | 0, _ => none
  | n + 1, f => match fstN n f with
    | some x => some x
    | none => if f n = true then some n else none
theorem fstN_none {n : Nat} {f : Nat → Bool} (h : ∀ x, x < n → f x = false) : fstN n f = none := by
  induction n with
  | zero => rfl
  | succ n ih => simp [fstN, ih (fun x hx => h x (by omega)), h n (by omega)]
theorem fstN_some {n x : Nat} {f : Nat → Bool} (hx : x < n) (hf : f x = true) (h : ∀ z, z < x → f z = false) : fstN n f = some x := by
  induction n with
  | zero => omega
  | succ n ih =>
    rcases Nat.lt_or_ge x n with q | q
    · simp [fstN, ih q]
    · have : x = n := by omega
      subst this
      simp [fstN, fstN_none h, hf]
theorem fstN_is {n x : Nat} {f : Nat → Bool} (h : fstN n f = some x) : x < n ∧ f x = true ∧ ∀ z, z < x → f z = false := by
  induction n with
  | zero => simp [fstN] at h
  | succ n ih =>
    simp only [fstN] at h
    cases hq : fstN n f with
    | some y =>
      rw [hq] at h
      simp at h
      subst h
      obtain ⟨a, b, c⟩ := ih hq
      exact ⟨by omega, b, c⟩
    | none =>
      rw [hq] at h
      by_cases hf : f n = true
      · simp [hf] at h
        subst h
        refine ⟨by omega, hf, fun z hz => ?_⟩
        cases hz2 : f z with
        | false => rfl
        | true =>
          exfalso
          have : ∀ k, z < k → k ≤ n → fstN k f ≠ none := by
            intro k
            induction k with
            | zero => omega
            | succ k ihk =>
              intro h1 h2 h3
              simp only [fstN] at h3
              rcases Nat.lt_or_ge z k with q | q
              · cases h4 : fstN k f with
                | some y => rw [h4] at h3; simp at h3
                | none => exact ihk q (by omega) h4
              · have : z = k := by omega
                subst this
                cases h4 : fstN z f with
                | some y => rw [h4] at h3; simp at h3
                | none => rw [h4, hz2] at h3; simp at h3
          exact this n hz (Nat.le_refl n) hq
      · simp [hf] at h
/-- something holds on the chain from y up -/
def chF (pa : Nat → Int32) (f : Nat → Bool) : Nat → Nat → Bool
  | 0, _ => false
  | n + 1, y => f y || (if pa y = -1 then false else chF pa f n (pa y).toNatClampNeg)
def chV (pa : Nat → Int32) (f : Nat → Bool) (y : Int32) : Bool := if y = -1 then false else chF pa f 17 y.toNatClampNeg
theorem nI_m1 {t : Nat} (h : t < 2 ^ 31) : ¬ nI t = -1 := by
  intro q
  have := nI_pos (n := t) h
  rw [q] at this
  exact this (by decide)
theorem lessOr.mono {x : Int32} {a b : Nat} (h : lessOr x a) (hab : a ≤ b) : lessOr x b := by
  rcases h with h | ⟨p, hp, h⟩
  · exact Or.inl h
  · exact Or.inr ⟨p, by omega, h⟩
theorem chF_st {pa : Nat → Int32} {f : Nat → Bool} {N : Nat} (hN : N ≤ 16) (h : ∀ x, x < N → lessOr (pa x) x) : ∀ (y : Nat), y < N → ∀ n m, y < n → y < m → chF pa f n y = chF pa f m y := by
  intro y
  induction y using Nat.strongRecOn with
  | ind y ih =>
    intro hy n m hn hm
    match n, m, hn, hm with
    | n + 1, m + 1, hn, hm =>
      simp only [chF]
      rcases h y hy with q | ⟨p, hp, q⟩
      · simp [q]
      · have h1 : ¬ pa y = -1 := by rw [q]; exact nI_m1 (by omega)
        rw [if_neg h1, if_neg h1, q, nI_clamp (by omega), ih p hp (by omega) n m (by omega) (by omega)]
theorem chF_step {pa : Nat → Int32} {f : Nat → Bool} {N y : Nat} (hN : N ≤ 16) (h : ∀ x, x < N → lessOr (pa x) x) (hy : y < N) : chV pa f (nI y) = (f y || chV pa f (pa y)) := by
  have e : chV pa f (nI y) = chF pa f 17 y := by simp only [chV, if_neg (nI_m1 (t := y) (by omega)), nI_clamp (n := y) (by omega)]
  rw [e]
  show (f y || _) = _
  congr 1
  rcases h y hy with q | ⟨p, hp, q⟩
  · simp [chV, q]
  · have h1 : ¬ pa y = -1 := by rw [q]; exact nI_m1 (by omega)
    rw [if_neg h1, chV, if_neg h1, q, nI_clamp (by omega)]
    exact chF_st hN h p (by omega) 16 17 (by omega) (by omega)
/-- the first answer on the chain from t up -/
def chC (pa : Nat → Int32) (g : Nat → Option Nat) : Nat → Nat → Option Nat
  | 0, _ => none
  | k + 1, t => match g t with
    | some n => some n
    | none => if pa t = -1 then none else chC pa g k (pa t).toNatClampNeg
def chO (pa : Nat → Int32) (g : Nat → Option Nat) (y : Int32) : Option Nat := if y = -1 then none else chC pa g 17 y.toNatClampNeg
theorem chC_st {pa : Nat → Int32} {g : Nat → Option Nat} {N : Nat} (hN : N ≤ 16) (h : ∀ x, x < N → lessOr (pa x) x) : ∀ (y : Nat), y < N → ∀ n m, y < n → y < m → chC pa g n y = chC pa g m y := by
  intro y
  induction y using Nat.strongRecOn with
  | ind y ih =>
    intro hy n m hn hm
    match n, m, hn, hm with
    | n + 1, m + 1, hn, hm =>
      simp only [chC]
      cases hg : g y with
      | some v => rfl
      | none =>
        rcases h y hy with q | ⟨p, hp, q⟩
        · simp [q]
        · have h1 : ¬ pa y = -1 := by rw [q]; exact nI_m1 (by omega)
          simp only [if_neg h1]
          rw [q, nI_clamp (by omega), ih p hp (by omega) n m (by omega) (by omega)]
theorem chC_step {pa : Nat → Int32} {g : Nat → Option Nat} {N y : Nat} (hN : N ≤ 16) (h : ∀ x, x < N → lessOr (pa x) x) (hy : y < N) : chO pa g (nI y) = match g y with
    | some n => some n
    | none => chO pa g (pa y) := by
  have e : chO pa g (nI y) = chC pa g 17 y := by simp only [chO, if_neg (nI_m1 (t := y) (by omega)), nI_clamp (n := y) (by omega)]
  rw [e]
  simp only [chC]
  cases hg : g y with
  | some v => rfl
  | none =>
    rcases h y hy with q | ⟨p, hp, q⟩
    · simp [chO, q]
    · have h1 : ¬ pa y = -1 := by rw [q]; exact nI_m1 (by omega)
      simp only [chO, if_neg h1]
      rw [q, nI_clamp (by omega)]
      exact chC_st hN h p (by omega) 16 17 (by omega) (by omega)
theorem nbeq {k n : Nat} (h : ¬ k = n) : Nat.beq k n = false := by
  cases e : Nat.beq k n with
  | false => rfl
  | true => exact absurd (Nat.eq_of_beq_eq_true e) h

/-! ===== small pure words ===== -/
def anyN : Nat → (Nat → Bool) → Bool
  | 0, _ => false
  | n + 1, f => anyN n f || f n
theorem anyN_t {n x : Nat} {f : Nat → Bool} (hx : x < n) (h : f x = true) : anyN n f = true := by
  induction n with
  | zero => omega
  | succ n ih =>
    rcases Nat.lt_or_ge x n with q | q
    · simp [anyN, ih q]
    · have : x = n := by omega
      subst this
      simp [anyN, h]
theorem anyN_f {n : Nat} {f : Nat → Bool} (h : ∀ x, x < n → f x = false) : anyN n f = false := by
  induction n with
  | zero => rfl
  | succ n ih => simp [anyN, ih (fun x hx => h x (by omega)), h n (by omega)]
theorem anyN_iff {n : Nat} {f : Nat → Bool} : anyN n f = true ↔ ∃ x, x < n ∧ f x = true := by
  constructor
  · intro h
    induction n with
    | zero => simp [anyN] at h
    | succ n ih =>
      simp only [anyN, Bool.or_eq_true] at h
      rcases h with h | h
      · obtain ⟨x, hx, hf⟩ := ih h; exact ⟨x, by omega, hf⟩
      · exact ⟨n, by omega, h⟩
  · rintro ⟨x, hx, hf⟩; exact anyN_t hx hf
/-- fewer known locals -/
def lvle : List (Option Value) → List (Option Value) → Prop
  | [], _ => True
  | none :: l, _ :: r => lvle l r
  | none :: l, [] => lvle l []
  | some v :: l, w :: r => w = some v ∧ lvle l r
  | some _ :: _, [] => False
theorem lvle_get : ∀ (l r : List (Option Value)), lvle l r → ∀ i v, lgt l i = some v → lgt r i = some v
  | [], _, _, i, v, h => by simp [lgt] at h
  | none :: l, w :: r, hl, i, v, h => by
    cases i with
    | zero => simp [lgt] at h
    | succ i => exact lvle_get l r hl i v h
  | none :: l, [], hl, i, v, h => by
    cases i with
    | zero => simp [lgt] at h
    | succ i => have := lvle_get l [] hl i v h; simp [lgt] at this
  | some u :: l, w :: r, hl, i, v, h => by
    cases i with
    | zero => rw [hl.1]; exact h
    | succ i => exact lvle_get l r hl.2 i v h
theorem lh.weak {ls : Array Slot} {nL : Nat} {l r : List (Option Value)} (h : lh ls nL r) (hl : lvle l r) : lh ls nL l :=
  ⟨⟨h.1.1, h.1.2.1, fun q hq => h.at (lvle_get l r hl _ _ (prs_mem.mp hq))⟩, fun i v hv => h.2 i v (lvle_get l r hl i v hv)⟩
theorem G.weak {p : Program} {l : Launch} {e : Env} {R : Room} {s : State} {m : MethodId} {args : Array Value} {below : List Frame} {meth : Method} {c : Code} {D : va_G} {A : Nat → Prop} {kc ks : Nat} {Q : State → Prop} {nL : Nat} {ws : va_W} {pc : Nat} {lv lv2 : List (Option Value)} {st : List Value} (kk : G p l e R s m args below meth c D A kc ks Q nL ws pc lv2 st) (hl : lvle lv2 lv) : G p l e R s m args below meth c D A kc ks Q nL ws pc lv st :=
  fun H locs ls hP hD hS hlh => kk H locs ls hP hD hS (hlh.weak hl)

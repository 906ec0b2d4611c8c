/-! ===== who is chosen: pure ===== -/
theorem cnt_pos {f : Nat → Bool} : ∀ {N x : Nat}, x < N → f x = true → 1 ≤ cntN N f
  | N + 1, x, hx, h => by
    simp only [cntN]
    by_cases e : x = N
    · subst e; rw [h]; simp
    · have := cnt_pos (f := f) (N := N) (x := x) (by omega) h; omega
theorem cnt_inj {f : Nat → Bool} {φ : Nat → Nat} {M : Nat} : ∀ (N : Nat) (g : Nat → Bool), (∀ x, x < N → f x = true → φ x < M ∧ g (φ x) = true) → (∀ x y, x < N → y < N → f x = true → f y = true → φ x = φ y → x = y) → cntN N f ≤ cntN M g
  | 0, g, _, _ => by simp [cntN]
  | N + 1, g, h1, h2 => by
    simp only [cntN]
    cases hf : f N with
    | false =>
      have := cnt_inj N g (fun x hx => h1 x (by omega)) (fun x y hx hy => h2 x y (by omega) (by omega))
      simpa using this
    | true =>
      obtain ⟨a, b⟩ := h1 N (by omega) hf
      have ih := cnt_inj N (fun i => g i && !decide (φ N = i)) (fun x hx hfx => by
        obtain ⟨c, d⟩ := h1 x (by omega) hfx
        refine ⟨c, ?_⟩
        have : ¬ φ N = φ x := fun q => by have := h2 N x (by omega) (by omega) hf hfx q; omega
        simp [d, this]) (fun x y hx hy => h2 x y (by omega) (by omega))
      have e := cnt_add (g := fun i => g i && !decide (φ N = i)) (j := φ N) (by simp) M a
      have e2 : cntN M (fun i => (g i && !decide (φ N = i)) || decide (φ N = i)) = cntN M g := cntN_congr (fun i hi => by
        by_cases q : φ N = i
        · subst q; simp [b]
        · simp [q])
      rw [e2] at e
      simp only [cond_true]
      omega
theorem choF_1 {f h : Nat → Bool} : ∀ n, (choF f h n).1 = cntN n f
  | 0 => rfl
  | n + 1 => by
    have ih := choF_1 (f := f) (h := h) n
    simp only [choF, cntN]
    cases hf : f n <;> simp [ih]
theorem choF_3 {f h : Nat → Bool} : ∀ n, (choF f h n).2.2 = anyN n (fun i => f i && h i)
  | 0 => rfl
  | n + 1 => by
    have ih := choF_3 (f := f) (h := h) n
    simp only [choF, anyN]
    cases hf : f n <;> simp [ih]
theorem choF_2 {f h : Nat → Bool} : ∀ n, n < 2 ^ 31 → (choF f h n).2.1 = match fstN n f with
    | some k => nI k
    | none => -1
  | 0, _ => rfl
  | n + 1, hn => by
    have ih := choF_2 (f := f) (h := h) n (by omega)
    simp only [choF, fstN]
    cases hq : fstN n f with
    | none =>
      rw [hq] at ih
      cases hf : f n <;> simp [ih]
    | some k =>
      rw [hq] at ih
      have hk := (fstN_is hq).1
      cases hf : f n <;> simp [ih, nI_m1 (t := k) (by omega)]
def minI (a c : Int32) : Int32 := if a = -1 then c else if c < a then c else a
/-- the least and the defaults, type by type -/
def lfF (τ : St) (nm : Int32) (S : Nat → Bool) : Nat → Int32 × Bool
  | 0 => (-1, false)
  | u + 1 => if S u = true then (match atO τ u nm with
    | some n => (minI (lfF τ nm S u).1 (nI n), (lfF τ nm S u).2 || HX τ n 64)
    | none => lfF τ nm S u) else lfF τ nm S u
/-- the set's members -/
def lfM (τ : St) (nm : Int32) (S : Nat → Bool) (u n : Nat) : Prop := ∃ v, v < u ∧ S v = true ∧ atO τ v nm = some n
theorem lfF_1 {τ σ : St} (h : Inv τ σ) {nm : Int32} {S : Nat → Bool} : ∀ u, ((lfF τ nm S u).1 = -1 ∧ ∀ n, ¬ lfM τ nm S u n) ∨ ∃ n, (lfF τ nm S u).1 = nI n ∧ lfM τ nm S u n ∧ ∀ n', lfM τ nm S u n' → n ≤ n'
  | 0 => Or.inl ⟨rfl, fun n ⟨v, hv, _⟩ => by omega⟩
  | u + 1 => by
    have hMl := w0_ml (iW h)
    have up : ∀ n, lfM τ nm S u n → lfM τ nm S (u + 1) n := fun n ⟨v, hv, a⟩ => ⟨v, by omega, a⟩
    have dn : ∀ n, lfM τ nm S (u + 1) n → lfM τ nm S u n ∨ (S u = true ∧ atO τ u nm = some n) := fun n ⟨v, hv, a, b⟩ => by
      rcases Nat.lt_or_eq_of_le (Nat.le_of_lt_succ hv) with q | rfl
      · exact Or.inl ⟨v, q, a, b⟩
      · exact Or.inr ⟨a, b⟩
    have ih := lfF_1 h (nm := nm) (S := S) u
    simp only [lfF]
    by_cases hS : S u = true
    · rw [if_pos hS]
      cases hA : atO τ u nm with
      | none =>
        rcases ih with ⟨a, b⟩ | ⟨n, a, b, c⟩
        · exact Or.inl ⟨a, fun n q => (dn n q).elim (b n) (fun z => by rw [hA] at z; cases z.2)⟩
        · exact Or.inr ⟨n, a, up n b, fun n' q => (dn n' q).elim (c n') (fun z => by rw [hA] at z; cases z.2)⟩
      | some k =>
        obtain ⟨hk, -⟩ := atO_some h hA
        right
        rcases ih with ⟨a, b⟩ | ⟨n, a, b, c⟩
        · refine ⟨k, by simp only [minI, a, if_true], ⟨u, by omega, hS, hA⟩, fun n' q => (dn n' q).elim (fun z => absurd z (b n')) (fun z => by rw [hA] at z; cases z.2; exact Nat.le_refl _)⟩
        · obtain ⟨v, hv, -, hvA⟩ := id b
          obtain ⟨hn, -⟩ := atO_some h hvA
          by_cases q : k < n
          · refine ⟨k, ?_, ⟨u, by omega, hS, hA⟩, fun n' z => (dn n' z).elim (fun z => by have := c n' z; omega) (fun z => by rw [hA] at z; cases z.2; exact Nat.le_refl _)⟩
            simp only [minI, a, if_neg (nI_m1 (t := n) (by omega)), if_pos (nI_lt q (by omega))]
          · refine ⟨n, ?_, up n b, fun n' z => (dn n' z).elim (c n') (fun z => by rw [hA] at z; cases z.2; omega)⟩
            simp only [minI, a, if_neg (nI_m1 (t := n) (by omega)), if_neg (nI_nlt (a := k) (b := n) (by omega) (by omega))]
    · rw [if_neg hS]
      rcases ih with ⟨a, b⟩ | ⟨n, a, b, c⟩
      · exact Or.inl ⟨a, fun n q => (dn n q).elim (b n) (fun z => absurd z.1 hS)⟩
      · exact Or.inr ⟨n, a, up n b, fun n' q => (dn n' q).elim (c n') (fun z => absurd z.1 hS)⟩
theorem lfF_2 {τ : St} {nm : Int32} {S : Nat → Bool} : ∀ u, ((lfF τ nm S u).2 = true ↔ ∃ n, lfM τ nm S u n ∧ HX τ n 64 = true)
  | 0 => by
    constructor
    · intro h; cases h
    · rintro ⟨n, ⟨v, hv, _⟩, _⟩; omega
  | u + 1 => by
    have ih := lfF_2 (τ := τ) (nm := nm) (S := S) u
    have up : ∀ n, lfM τ nm S u n → lfM τ nm S (u + 1) n := fun n ⟨v, hv, a⟩ => ⟨v, by omega, a⟩
    have dn : ∀ n, lfM τ nm S (u + 1) n → lfM τ nm S u n ∨ (S u = true ∧ atO τ u nm = some n) := fun n ⟨v, hv, a, b⟩ => by
      rcases Nat.lt_or_eq_of_le (Nat.le_of_lt_succ hv) with q | rfl
      · exact Or.inl ⟨v, q, a, b⟩
      · exact Or.inr ⟨a, b⟩
    simp only [lfF]
    by_cases hS : S u = true
    · rw [if_pos hS]
      cases hA : atO τ u nm with
      | none =>
        simp only
        rw [ih]
        constructor
        · rintro ⟨n, a, b⟩; exact ⟨n, up n a, b⟩
        · rintro ⟨n, a, b⟩
          rcases dn n a with q | q
          · exact ⟨n, q, b⟩
          · rw [hA] at q; cases q.2
      | some k =>
        simp only [Bool.or_eq_true]
        rw [ih]
        constructor
        · rintro (⟨n, a, b⟩ | b)
          · exact ⟨n, up n a, b⟩
          · exact ⟨k, ⟨u, by omega, hS, hA⟩, b⟩
        · rintro ⟨n, a, b⟩
          rcases dn n a with q | q
          · exact Or.inl ⟨n, q, b⟩
          · rw [hA] at q; cases q.2; exact Or.inr b
    · rw [if_neg hS, ih]
      constructor
      · rintro ⟨n, a, b⟩; exact ⟨n, up n a, b⟩
      · rintro ⟨n, a, b⟩
        rcases dn n a with q | q
        · exact ⟨n, q, b⟩
        · exact absurd q.1 hS
/-- interfaces above t that have a plain member of the name -/
def hav (τ : St) (t : Nat) (nm : Int32) (u : Nat) : Bool := decide (τ 1 u = 2) && Bel τ t u && (match atO τ u nm with
  | some n => Pln τ n
  | none => false)
def setB (τ : St) (t : Nat) (nm : Int32) (u : Nat) : Bool := decide (u < t) && hav τ t nm u && !anyN t (fun v => hav τ t nm v && BelS τ v u)
theorem hav_of {τ : St} {t u : Nat} {nm : Int32} (h : hav τ t nm u = true) : τ 1 u = 2 ∧ Bel τ t u = true ∧ ∃ n, atO τ u nm = some n ∧ Pln τ n = true := by
  simp only [hav, Bool.and_eq_true, decide_eq_true_eq] at h
  refine ⟨h.1.1, h.1.2, ?_⟩
  have := h.2
  cases hA : atO τ u nm with
  | none => rw [hA] at this; cases this
  | some n => rw [hA] at this; exact ⟨n, rfl, this⟩
theorem hav_mk {τ σ : St} (h : Inv τ σ) {t n : Nat} {nm : Int32} (hn : n < nM τ) (e : τ 10 n = nm) (hp : Pln τ n = true) (hi : Ifc τ n = true) (hb : Bel τ t (Of τ n) = true) : hav τ t nm (Of τ n) = true := by
  have hA := atO_is h hn
  rw [e] at hA
  have hi2 : τ 1 (Of τ n) = 2 := by simpa [Ifc] using hi
  simp [hav, hi2, hb, hA, hp]
theorem las_ok {τ σ : St} (h : Inv τ σ) {t n : Nat} (ht : t < nT τ) (hn : n < nM τ) : LasB τ t n = !anyN t (fun v => hav τ t (τ 10 n) v && BelS τ v (Of τ n)) := by
  have hTl := w0_tl (iW h)
  have hof := w0_ofl (iW h) hn
  rw [LasB]
  congr 1
  rw [Bool.eq_iff_iff, anyN_iff, anyN_iff]
  constructor
  · rintro ⟨x, hx, q⟩
    have hxo := w0_ofl (iW h) hx
    simp only [LasX, Bool.and_eq_true, decide_eq_true_eq] at q
    obtain ⟨⟨⟨⟨a, b⟩, c⟩, d⟩, f⟩ := q
    refine ⟨Of τ x, i_dn h _ _ ht (by omega) d, ?_⟩
    rw [hav_mk h hx a b c d, ← i_bel h hxo (by omega), f]; rfl
  · rintro ⟨v, hv, q⟩
    rw [Bool.and_eq_true] at q
    obtain ⟨a, b, x, hA, hp⟩ := hav_of q.1
    obtain ⟨hx, hxv, hxn⟩ := atO_some h hA
    subst hxv
    have hxo := w0_ofl (iW h) hx
    refine ⟨x, hx, ?_⟩
    have q2 := q.2
    rw [← i_bel h hxo (by omega)] at q2
    simp [LasX, hxn, hp, Ifc, a, b, q2]
theorem chi_set {τ σ : St} (h : Inv τ σ) {t o n : Nat} (ht : t < nT τ) (hn : n < nM τ) : ChI τ t o n = true ↔ (setB τ t (τ 10 o) (Of τ n) = true ∧ atO τ (Of τ n) (τ 10 o) = some n) := by
  have hTl := w0_tl (iW h)
  have hof := w0_ofl (iW h) hn
  constructor
  · intro q
    simp only [ChI, Bool.and_eq_true, decide_eq_true_eq] at q
    obtain ⟨⟨⟨⟨a, b⟩, c⟩, d⟩, f⟩ := q
    have hA := atO_is h hn
    rw [a] at hA
    refine ⟨?_, hA⟩
    rw [las_ok h ht hn, a] at f
    rw [setB, hav_mk h hn a b c d, f]
    simp [i_dn h _ _ ht (by omega) d]
  · rintro ⟨q, hA⟩
    simp only [setB, Bool.and_eq_true] at q
    obtain ⟨a, b, x, hA2, hp⟩ := hav_of q.1.2
    rw [hA] at hA2
    cases hA2
    obtain ⟨-, -, hxn⟩ := atO_some h hA
    have e := las_ok h ht hn
    rw [hxn, q.2] at e
    simp [ChI, hxn, hp, Ifc, a, b, e]
theorem set_lt {τ : St} {t u : Nat} {nm : Int32} (h : setB τ t nm u = true) : u < t ∧ ∃ n, atO τ u nm = some n := by
  simp only [setB, Bool.and_eq_true, decide_eq_true_eq] at h
  obtain ⟨-, -, n, hA, -⟩ := hav_of h.1.2
  exact ⟨h.1.1, n, hA⟩
/-- what leastOrFight answers is what the reference chooses among interfaces -/
theorem lf_ok {τ σ : St} (h : Inv τ σ) {t o : Nat} (ht : t < nT τ) {q : Int32} (hq : ∀ u, u < 32 → bt q u = setB τ t (τ 10 o) u) : (if ((lfF τ (τ 10 o) (fun u => bt q u) (nT τ)).2 = true ∧ 1 < pcI q) then -5 else (lfF τ (τ 10 o) (fun u => bt q u) (nT τ)).1) = ChsI τ t o := by
  have hTl := w0_tl (iW h)
  have hMl := w0_ml (iW h)
  have M : ∀ n, lfM τ (τ 10 o) (fun u => bt q u) (nT τ) n ↔ (n < nM τ ∧ ChI τ t o n = true) := by
    intro n
    constructor
    · rintro ⟨v, hv, a, b⟩
      obtain ⟨hn, hvn, -⟩ := atO_some h b
      subst hvn
      refine ⟨hn, (chi_set h ht hn).mpr ⟨?_, b⟩⟩
      rw [← hq _ (by omega)]; exact a
    · rintro ⟨hn, a⟩
      obtain ⟨b, c⟩ := (chi_set h ht hn).mp a
      have hof := w0_ofl (iW h) hn
      refine ⟨Of τ n, hof, ?_, c⟩
      show bt q (Of τ n) = true
      rw [hq _ (by omega)]; exact b
  have e1 : (lfF τ (τ 10 o) (fun u => bt q u) (nT τ)).1 = (choI τ t o (nM τ)).2.1 := by
    show _ = (choF (ChI τ t o) (fun i => Hs τ i 64) (nM τ)).2.1
    rw [choF_2 _ (by omega)]
    rcases lfF_1 h (nm := τ 10 o) (S := fun u => bt q u) (nT τ) with ⟨a, b⟩ | ⟨n, a, b, c⟩
    · rw [a, fstN_none (fun x hx => by
        cases e : ChI τ t o x with
        | false => rfl
        | true => exact absurd ((M x).mpr ⟨hx, e⟩) (b x))]
    · obtain ⟨hn, hc⟩ := (M n).mp b
      rw [a, fstN_some hn hc (fun z hz => by
        cases e : ChI τ t o z with
        | false => rfl
        | true => have := c z ((M z).mpr ⟨by omega, e⟩); omega)]
  have e2 : (lfF τ (τ 10 o) (fun u => bt q u) (nT τ)).2 = (choI τ t o (nM τ)).2.2 := by
    show _ = (choF (ChI τ t o) (fun i => Hs τ i 64) (nM τ)).2.2
    rw [choF_3, Bool.eq_iff_iff, lfF_2, anyN_iff]
    constructor
    · rintro ⟨n, a, b⟩
      obtain ⟨hn, hc⟩ := (M n).mp a
      rw [HX_hi (by decide)] at b
      exact ⟨n, hn, by simp [hc, b]⟩
    · rintro ⟨n, hn, a⟩
      simp only [Bool.and_eq_true] at a
      exact ⟨n, (M n).mpr ⟨hn, a.1⟩, by rw [HX_hi (by decide)]; exact a.2⟩
  have e3 : (1 < pcI q) ↔ 1 < (choI τ t o (nM τ)).1 := by
    show _ ↔ 1 < (choF (ChI τ t o) (fun i => Hs τ i 64) (nM τ)).1
    rw [choF_1, pcI_cnt]
    have c1 : cntN (nM τ) (ChI τ t o) ≤ cntN 32 (bt q) := cnt_inj (φ := Of τ) (nM τ) (bt q) (fun x hx hc => by
      obtain ⟨b, c⟩ := (chi_set h ht hx).mp hc
      have hof := w0_ofl (iW h) hx
      exact ⟨by omega, by rw [hq _ (by omega)]; exact b⟩) (fun x y hx hy hcx hcy e => by
      obtain ⟨-, c⟩ := (chi_set h ht hx).mp hcx
      obtain ⟨-, c'⟩ := (chi_set h ht hy).mp hcy
      rw [e, c'] at c
      exact (Option.some.inj c).symm)
    have c2 : cntN 32 (bt q) ≤ cntN (nM τ) (ChI τ t o) := cnt_inj (φ := fun u => (atO τ u (τ 10 o)).getD 0) 32 (ChI τ t o) (fun u hu hc => by
      rw [hq u hu] at hc
      obtain ⟨hut, n, hA⟩ := set_lt hc
      obtain ⟨hn, hnu, -⟩ := atO_some h hA
      simp only [hA, Option.getD_some]
      subst hnu
      exact ⟨hn, (chi_set h ht hn).mpr ⟨hc, hA⟩⟩) (fun u v hu hv hcu hcv e => by
      rw [hq u hu] at hcu
      rw [hq v hv] at hcv
      obtain ⟨-, n, hA⟩ := set_lt hcu
      obtain ⟨-, n', hA'⟩ := set_lt hcv
      simp only [hA, hA', Option.getD_some] at e
      subst e
      rw [← (atO_some h hA).2.1, ← (atO_some h hA').2.1])
    have c3 := cntN_le (bt q) 32
    rw [show (1 : Int32) = nI 1 by decide, nI_ltI (by omega) (by omega)]
    omega
  rw [ChsI, e1, e2]
  by_cases g1 : (choI τ t o (nM τ)).2.2 = true <;> by_cases g2 : 1 < (choI τ t o (nM τ)).1
  · rw [if_pos ⟨g1, e3.mpr g2⟩, if_pos ⟨g2, g1⟩]
  · rw [if_neg (fun z => g2 (e3.mp z.2)), if_neg (fun z => g2 z.1)]
  · rw [if_neg (fun z => g1 z.1), if_neg (fun z => g1 z.2)]
  · rw [if_neg (fun z => g1 z.1), if_neg (fun z => g1 z.2)]
/-- the class's test at a type on the chain -/
theorem chx_at {τ σ : St} (h : Inv τ σ) {o u : Nat} (ho : o < nM τ) : fstN (nM τ) (ChX τ o u) = match atO τ u (τ 10 o) with
    | some k => if (Pln τ k && (Ifc τ o || decide (k = o) || Ov τ k o)) = true then some k else none
    | none => none := by
  cases hA : atO τ u (τ 10 o) with
  | none =>
    refine fstN_none (fun x hx => ?_)
    have := atO_none hA hx
    cases e : ChX τ o u x with
    | false => rfl
    | true =>
      simp only [ChX, Bool.and_eq_true, decide_eq_true_eq] at e
      exact absurd ⟨e.1.1.1, e.1.1.2⟩ this
  | some k =>
    obtain ⟨hk, hku, hkn⟩ := atO_some h hA
    have only : ∀ x, x < nM τ → ChX τ o u x = true → x = k := fun x hx e => by
      simp only [ChX, Bool.and_eq_true, decide_eq_true_eq] at e
      exact i_uni h hx hk (e.1.1.1.trans hku.symm) (e.1.1.2.trans hkn.symm)
    have hv : ChX τ o u k = (Pln τ k && (Ifc τ o || decide (k = o) || Ov τ k o)) := by
      simp only [ChX, hku, hkn, decide_true, Bool.true_and]
      cases Pln τ k <;> cases Ifc τ o <;> cases decide (k = o) <;> cases Ov τ k o <;> rfl
    simp only
    by_cases q : (Pln τ k && (Ifc τ o || decide (k = o) || Ov τ k o)) = true
    · rw [if_pos q]
      exact fstN_some hk (hv.trans q) (fun z hz => by
        cases e : ChX τ o u z with
        | false => rfl
        | true => have := only z (by omega) e; omega)
    · rw [if_neg q]
      refine fstN_none (fun x hx => ?_)
      cases e : ChX τ o u x with
      | false => rfl
      | true =>
        have := only x hx e
        subst this
        exact absurd (hv.symm.trans e) q

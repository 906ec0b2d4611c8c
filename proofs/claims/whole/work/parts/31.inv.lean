/-! ===== what holds of the reference's state between calls, and how the class's state goes with it ===== -/
def W1 (τ : St) : Prop := W0 τ ∧
  (∀ t, t < nT τ → (τ 1 t = 0 ∨ τ 1 t = 1 ∨ τ 1 t = 2) ∧ (∃ p, p < 4 ∧ τ 2 t = nI p) ∧ (¬ τ 3 t = -1 → ¬ τ 1 t = 2 ∧ ¬ τ 1 (nN (τ 3 t)) = 2) ∧ (∀ k, k < nF τ t → τ 1 (Fc τ t k) = 2) ∧ ∀ k k', k < nF τ t → k' < nF τ t → Fc τ t k = Fc τ t k' → k = k') ∧
  (∀ t u, t < nT τ → u < 16 → Bel τ t u = BelS τ t u) ∧
  (∀ m, m < nM τ → (∃ n, n < 8 ∧ τ 10 m = nI n) ∧ mayB (τ 1 (Of τ m)) (τ 12 m) = true ∧ (Rs τ m < 16 → Rs τ m < nT τ)) ∧
  (∀ m m', m < nM τ → m' < nM τ → Of τ m = Of τ m' → τ 10 m = τ 10 m' → m = m') ∧
  (∀ m o, m < nM τ → o < nM τ → Ov τ m o = OvS τ m o)
def mkX (τ : St) (m : Nat) : Int32 := if (Ifc τ m && !Hs τ m 4) = true then τ 12 m ||| 1 else τ 12 m
def slV (τ : St) (t n : Nat) : Int32 := match fstN (nM τ) (mbHas τ t (nI n)) with
  | some m => nI (m + 1)
  | none => 0
def RX (τ σ : St) : Prop := (σ 0 0 = τ 0 0 ∧ σ 0 2 = τ 0 1 ∧ σ 0 3 = τ 0 2) ∧
  (∀ t, t < nT τ → (σ 2 t = τ 1 t ∧ σ 3 t = τ 2 t ∧ σ 4 t = τ 3 t) ∧ (∀ i, i < 32 → bt (σ 5 t) i = anyN (nF τ t) (fcHas τ t i)) ∧ ∀ i, i < 32 → bt (σ 6 t) i = BelS τ t i) ∧
  ((∀ w, w < nX τ → ∀ i, i < 32 → bt (σ 8 w) i = chV (τ 7) (fun y => decide (y = i)) (nI w)) ∧ ∀ i, i < 32 → bt (σ 0 1) i = (decide (i < nX τ) && Ckd τ i)) ∧
  (∀ m, m < nM τ → σ 10 m = τ 9 m ∧ σ 11 m = τ 10 m ∧ σ 12 m = τ 11 m ∧ σ 13 m = mkX τ m ∧ σ 14 m = τ 13 m) ∧
  ∀ t n, t < 16 → n < 8 → σ 15 (t * 8 + n) = slV τ t n
def Inv (τ σ : St) : Prop := W1 τ ∧ RX τ σ
section IV
variable {τ σ : St}
theorem iW (h : Inv τ σ) : W0 τ := h.1.1
theorem i_t (h : Inv τ σ) : σ 0 0 = nI (nT τ) := by rw [h.2.1.1]; exact w0_t (iW h)
theorem i_x (h : Inv τ σ) : σ 0 2 = nI (nX τ) := by rw [h.2.1.2.1]; exact w0_x (iW h)
theorem i_m (h : Inv τ σ) : σ 0 3 = nI (nM τ) := by rw [h.2.1.2.2]; exact w0_m (iW h)
theorem i_k (h : Inv τ σ) {t : Nat} (ht : t < nT τ) : σ 2 t = τ 1 t := (h.2.2.1 t ht).1.1
theorem i_p (h : Inv τ σ) {t : Nat} (ht : t < nT τ) : σ 3 t = τ 2 t := (h.2.2.1 t ht).1.2.1
theorem i_pa (h : Inv τ σ) {t : Nat} (ht : t < nT τ) : σ 4 t = τ 3 t := (h.2.2.1 t ht).1.2.2
theorem i_f (h : Inv τ σ) {t : Nat} (ht : t < nT τ) {i : Nat} (hi : i < 32) : bt (σ 5 t) i = anyN (nF τ t) (fcHas τ t i) := (h.2.2.1 t ht).2.1 i hi
theorem i_a (h : Inv τ σ) {t : Nat} (ht : t < nT τ) {i : Nat} (hi : i < 32) : bt (σ 6 t) i = BelS τ t i := (h.2.2.1 t ht).2.2 i hi
theorem i_ab (h : Inv τ σ) {t : Nat} (ht : t < nT τ) {i : Nat} (hi : i < 16) : bt (σ 6 t) i = Bel τ t i := by rw [i_a h ht (by omega), h.1.2.2.1 t i ht hi]
theorem i_of (h : Inv τ σ) {m : Nat} (hm : m < nM τ) : σ 10 m = nI (Of τ m) := by rw [(h.2.2.2.2.1 m hm).1]; exact w0_of (iW h) hm
theorem i_nm (h : Inv τ σ) {m : Nat} (hm : m < nM τ) : σ 11 m = τ 10 m := (h.2.2.2.2.1 m hm).2.1
theorem i_rs (h : Inv τ σ) {m : Nat} (hm : m < nM τ) : σ 12 m = nI (Rs τ m) := by rw [(h.2.2.2.2.1 m hm).2.2.1]; exact w0_rs (iW h) hm
theorem i_mk (h : Inv τ σ) {m : Nat} (hm : m < nM τ) : σ 13 m = mkX τ m := (h.2.2.2.2.1 m hm).2.2.2.1
theorem i_th (h : Inv τ σ) {m : Nat} (hm : m < nM τ) : σ 14 m = τ 13 m := (h.2.2.2.2.1 m hm).2.2.2.2
theorem i_sl (h : Inv τ σ) {t n : Nat} (ht : t < 16) (hn : n < 8) : σ 15 (t * 8 + n) = slV τ t n := h.2.2.2.2.2 t n ht hn
theorem i_st (h : Inv τ σ) {w i : Nat} (hw : w < nX τ) (hi : i < 32) : bt (σ 8 w) i = chV (τ 7) (fun y => decide (y = i)) (nI w) := h.2.2.2.1.1 w hw i hi
theorem i_ck (h : Inv τ σ) {i : Nat} (hi : i < 32) : bt (σ 0 1) i = (decide (i < nX τ) && Ckd τ i) := h.2.2.2.1.2 i hi
theorem i_name (h : Inv τ σ) {m : Nat} (hm : m < nM τ) : ∃ n, n < 8 ∧ τ 10 m = nI n := (h.1.2.2.2.1 m hm).1
theorem i_may (h : Inv τ σ) {m : Nat} (hm : m < nM τ) : mayB (τ 1 (Of τ m)) (τ 12 m) = true := (h.1.2.2.2.1 m hm).2.1
theorem i_res (h : Inv τ σ) {m : Nat} (hm : m < nM τ) : Rs τ m < 16 → Rs τ m < nT τ := (h.1.2.2.2.1 m hm).2.2
theorem i_uni (h : Inv τ σ) {m o : Nat} (hm : m < nM τ) (ho : o < nM τ) (h1 : Of τ m = Of τ o) (h2 : τ 10 m = τ 10 o) : m = o := h.1.2.2.2.2.1 m o hm ho h1 h2
theorem i_ov (h : Inv τ σ) {m o : Nat} (hm : m < nM τ) (ho : o < nM τ) : Ov τ m o = OvS τ m o := h.1.2.2.2.2.2 m o hm ho
theorem i_bel (h : Inv τ σ) {t u : Nat} (ht : t < nT τ) (hu : u < 16) : Bel τ t u = BelS τ t u := h.1.2.2.1 t u ht hu
theorem i_dn (h : Inv τ σ) : BelDn τ := fun t u ht hu hb => BelS_lt (iW h) t ht (by rw [← i_bel h ht hu]; exact hb)
end IV
/-- has: two ways to say it -/
theorem inB_lt {x : Int32} {n : Nat} (hn : n ≤ 60) : inB x 0 (nI n - 1) = (decide (0 ≤ x) && decide (x < nI n)) := by
  rcases inB_cases (x := x) hn with h | ⟨t, ht, rfl⟩
  · rw [h]
    by_cases h0 : x < 0
    · simp [Int32.not_le.mpr h0]
    · obtain ⟨j, hj, rfl⟩ := nI_of h0
      by_cases q : j < n
      · rw [nI_lo q hn] at h; cases h
      · simp [nI_nlt (a := j) (b := n) (by omega) hj]
  · rw [nI_lo ht hn]
    simp [nI_pos' (n := t) (by omega), nI_lt (a := t) (b := n) ht (by omega)]
/-- marks: what hasMark answers -/
def HX (τ : St) (m : Nat) (k : Int32) : Bool := decide (¬ (mkX τ m &&& k) = 0)
theorem and_or0 (v a c : Int32) : v &&& (a ||| c) = 0 ↔ (v &&& a = 0 ∧ v &&& c = 0) := by
  simp only [b_zero, b_and, b_or]
  constructor
  · intro h
    refine ⟨fun i hi => ?_, fun i hi => ?_⟩ <;> have := h i hi <;> revert this <;> cases bt v i <;> cases bt a i <;> cases bt c i <;> simp
  · rintro ⟨h1, h2⟩ i hi
    have a1 := h1 i hi
    have a2 := h2 i hi
    revert a1 a2
    cases bt v i <;> cases bt a i <;> cases bt c i <;> simp
theorem or1_and {v k : Int32} (hk : k &&& 1 = 0) : (v ||| 1) &&& k = v &&& k := by
  refine b_ext (fun i hi => ?_)
  rw [b_and, b_or, b_and]
  have := b_zero.mp hk i hi
  rw [b_and] at this
  revert this
  cases bt v i <;> cases bt 1 i <;> cases bt k i <;> simp
theorem HX_hi {τ : St} {m : Nat} {k : Int32} (hk : k &&& 1 = 0) : HX τ m k = Hs τ m k := by
  rw [HX, Hs, mkX]
  by_cases h : (Ifc τ m && !Hs τ m 4) = true
  · rw [if_pos h, or1_and hk]
  · rw [if_neg h]
theorem HX_1 {τ : St} {m : Nat} : HX τ m 1 = (Hs τ m 1 || (Ifc τ m && !Hs τ m 4)) := by
  rw [HX, mkX]
  by_cases h : (Ifc τ m && !Hs τ m 4) = true
  · rw [if_pos h]
    have e : (τ 12 m ||| 1) &&& 1 = 1 := by
      refine b_ext (fun i hi => ?_)
      rw [b_and, b_or]
      cases bt (τ 12 m) i <;> cases bt 1 i <;> simp
    rw [e, h]; simp
  · rw [if_neg h]
    have : (Ifc τ m && !Hs τ m 4) = false := by simpa using h
    rw [this, Bool.or_false]; rfl
theorem HX_or {τ : St} {m : Nat} {a c : Int32} : HX τ m (a ||| c) = (HX τ m a || HX τ m c) := by
  simp only [HX, and_or0]
  by_cases h1 : mkX τ m &&& a = 0 <;> by_cases h2 : mkX τ m &&& c = 0 <;> simp [h1, h2]
theorem HX_3 {τ : St} {m : Nat} : HX τ m 3 = (Hs τ m 1 || (Ifc τ m && !Hs τ m 4) || Hs τ m 2) := by
  rw [show (3 : Int32) = 1 ||| 2 by decide, HX_or, HX_1, HX_hi (by decide)]
theorem HX_12 {τ : St} {m : Nat} : (!HX τ m 12) = Pln τ m := by
  rw [show (12 : Int32) = 8 ||| 4 by decide, HX_or, HX_hi (by decide), HX_hi (by decide), Pln, Bool.not_or]
theorem HX_96 {τ : St} {m : Nat} : HX τ m 96 = (Hs τ m 32 || Hs τ m 64) := by
  rw [show (96 : Int32) = 32 ||| 64 by decide, HX_or, HX_hi (by decide), HX_hi (by decide)]
theorem HX_40 {τ : St} {m : Nat} : HX τ m 40 = (Hs τ m 8 || Hs τ m 32) := by
  rw [show (40 : Int32) = 8 ||| 32 by decide, HX_or, HX_hi (by decide), HX_hi (by decide)]
theorem one01 (v k : Int32) : one0 v k = b2i (decide (¬ (v &&& k) = 0)) := by
  by_cases h : v &&& k = 0 <;> simp [one0, h, b2i]
/-- PUBLIC, PROTECTED, PRIVATE: one at most; PROTECTED in no interface -/
theorem may_acc {kd v : Int32} (h : mayB kd v = true) : (¬ (v &&& 2) = 0 → (v &&& 1) = 0 ∧ (v &&& 4) = 0 ∧ (¬ kd < 2 → False)) := by
  simp only [mayB, Bool.and_eq_true, decide_eq_true_eq, one01] at h
  obtain ⟨⟨h1, h2⟩, h3⟩ := h
  intro hv
  have e2 : decide (¬ (v &&& 2) = 0) = true := by simpa using hv
  rw [e2] at h2 h3
  refine ⟨?_, ?_, ?_⟩
  · cases q : decide (¬ (v &&& 1) = 0) with
    | false => simpa using q
    | true => rw [q] at h2; exfalso; revert h2; cases decide (¬ (v &&& 4) = 0) <;> decide
  · cases q : decide (¬ (v &&& 4) = 0) with
    | false => simpa using q
    | true => rw [q] at h2; exfalso; revert h2; cases decide (¬ (v &&& 1) = 0) <;> decide
  · intro hk
    rw [if_neg hk] at h3
    simp only [Bool.and_eq_true, decide_eq_true_eq] at h3
    exfalso
    have := h3.1
    revert this
    cases decide (¬ (v &&& 16) = 0) <;> decide
/-- accessOf and ACCESS -/
def accX (τ : St) (m : Nat) : Int32 := bif HX τ m 4 then 0 else bif HX τ m 2 then 2 else bif HX τ m 1 then 3 else 1
theorem acc_ok {τ σ : St} (hI : Inv τ σ) {m : Nat} (hm : m < nM τ) : accX τ m = Acc τ m := by
  have hmay := may_acc (i_may hI hm)
  rw [accX, Acc, HX_hi (k := 4) (by decide), HX_hi (k := 2) (by decide), HX_1]
  cases h4 : Hs τ m 4 with
  | true => rfl
  | false =>
    cases h2 : Hs τ m 2 with
    | false => simp
    | true =>
      have hv : ¬ (τ 12 m &&& 2) = 0 := by simpa [Hs] using h2
      obtain ⟨a1, a2, a3⟩ := hmay hv
      have h1 : Hs τ m 1 = false := by simp [Hs, a1]
      have hi : Ifc τ m = false := by
        cases q : Ifc τ m with
        | false => rfl
        | true =>
          exfalso
          apply a3
          have : τ 1 (Of τ m) = 2 := by simpa [Ifc] using q
          rw [this]; decide
      simp [h1, hi]
theorem seen_ok {τ : St} {m o : Nat} (h : Hs τ o 4 = false) : Seen τ m o = (HX τ o 3 || decide (τ 2 (Of τ m) = τ 2 (Of τ o))) := by
  rw [Seen, HX_3, Acc, h]
  congr 1
  cases Hs τ o 1 <;> cases Ifc τ o <;> cases Hs τ o 2 <;> simp <;> decide

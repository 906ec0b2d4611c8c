/-! ===== Int32 by its bits: bt x i ===== -/
def bt (x : Int32) (i : Nat) : Bool := x.toBitVec.getLsbD i
theorem b_ext {x y : Int32} (h : ∀ i, i < 32 → bt x i = bt y i) : x = y := Int32.toBitVec_inj.mp (BitVec.eq_of_getLsbD_eq (fun i hi => h i hi))
theorem b_or (x y : Int32) (i : Nat) : bt (x ||| y) i = (bt x i || bt y i) := by unfold bt; rw [Int32.toBitVec_or, BitVec.getLsbD_or]
theorem b_and (x y : Int32) (i : Nat) : bt (x &&& y) i = (bt x i && bt y i) := by unfold bt; rw [Int32.toBitVec_and, BitVec.getLsbD_and]
theorem b_xor (x y : Int32) (i : Nat) : bt (x ^^^ y) i = (bt x i ^^ bt y i) := by unfold bt; rw [Int32.toBitVec_xor, BitVec.getLsbD_xor]
theorem b_big {x : Int32} {i : Nat} (h : 32 ≤ i) : bt x i = false := BitVec.getLsbD_of_ge _ _ h
theorem b_255 (i : Nat) : bt 255 i = decide (i < 8) := by
  rcases Nat.lt_or_ge i 32 with h | h
  · exact (by decide +kernel : ∀ i, i < 32 → bt 255 i = decide (i < 8)) i h
  · rw [b_big h, decide_eq_false (by omega)]
theorem b_65535 (i : Nat) : bt 65535 i = decide (i < 16) := by
  rcases Nat.lt_or_ge i 32 with h | h
  · exact (by decide +kernel : ∀ i, i < 32 → bt 65535 i = decide (i < 16)) i h
  · rw [b_big h, decide_eq_false (by omega)]
theorem b_m1 : ∀ i, i < 32 → bt (-1) i = true := by decide +kernel
theorem b_0 (i : Nat) : bt 0 i = false := BitVec.getLsbD_zero
theorem s_l : ∀ n, n < 32 → ((nI n &&& 31).toBitVec.smod 32).toNat = n := by decide +kernel
theorem s_u : ∀ n, n < 32 → (((nI n).toUInt32 &&& Int32.toUInt32 31).toBitVec % 32).toNat = n := by decide +kernel
theorem b_shl (n : Nat) (hn : n < 32) (x : Int32) {i : Nat} (hi : i < 32) : bt (x <<< (nI n &&& 31)) i = (decide (n ≤ i) && bt x (i - n)) := by
  unfold bt
  rw [Int32.toBitVec_shiftLeft]
  show (x.toBitVec <<< ((nI n &&& 31).toBitVec.smod 32).toNat).getLsbD i = _
  rw [s_l n hn, BitVec.getLsbD_shiftLeft]
  rcases Nat.lt_or_ge i n with h | h
  · simp [h, Nat.not_le.mpr h]
  · simp [hi, h, Nat.not_lt.mpr h]
theorem b_ushr (n : Nat) (hn : n < 32) (x : Int32) (i : Nat) : bt ((x.toUInt32 >>> ((nI n).toUInt32 &&& Int32.toUInt32 31)).toInt32) i = bt x (n + i) := by
  show (x.toUInt32 >>> ((nI n).toUInt32 &&& Int32.toUInt32 31)).toBitVec.getLsbD i = x.toUInt32.toBitVec.getLsbD (n + i)
  rw [UInt32.toBitVec_shiftRight]
  show (x.toUInt32.toBitVec >>> (((nI n).toUInt32 &&& Int32.toUInt32 31).toBitVec % 32).toNat).getLsbD i = _
  rw [s_u n hn, BitVec.getLsbD_ushiftRight]
theorem b_sshr (n : Nat) (hn : n < 32) (x : Int32) {i : Nat} (hi : i < 32) : bt (x >>> (nI n &&& 31)) i = if n + i < 32 then bt x (n + i) else bt x 31 := by
  unfold bt
  rw [Int32.toBitVec_shiftRight]
  show (x.toBitVec.sshiftRight ((nI n &&& 31).toBitVec.smod 32).toNat).getLsbD i = _
  rw [s_l n hn, BitVec.getLsbD_sshiftRight, BitVec.msb_eq_getLsbD_last]
  simp [hi]
theorem nx_and (a b : Nat) : nI a &&& nI b = nI (a &&& b) := by
  apply Int32.toBitVec_inj.1
  show BitVec.ofNat 32 a &&& BitVec.ofNat 32 b = BitVec.ofNat 32 (a &&& b)
  apply BitVec.eq_of_getLsbD_eq
  intro i hi
  simp [hi]
theorem b_1 (i : Nat) : bt 1 i = decide (i = 0) := by
  rcases Nat.lt_or_ge i 32 with h | h
  · exact (by decide +kernel : ∀ i, i < 32 → bt 1 i = decide (i = 0)) i h
  · rw [b_big h, decide_eq_false (by omega)]
theorem b_zero {x : Int32} : x = 0 ↔ ∀ i, i < 32 → bt x i = false := by
  constructor
  · intro h i _; rw [h, b_0]
  · intro h; exact b_ext (fun i hi => by rw [h i hi, b_0])
/-- one bit of a set -/
def hbV (s n : Int32) : Bool := decide (¬ ((s >>> (n &&& 31)) &&& 1) = 0)
theorem hb_low (x : Int32) : (x &&& 1 = 0) ↔ bt x 0 = false := by
  rw [b_zero]
  constructor
  · intro h
    have := h 0 (by omega)
    rw [b_and, b_1] at this
    simpa using this
  · intro h i hi
    rw [b_and, b_1]
    by_cases e : i = 0
    · subst e; simp [h]
    · simp [e]
theorem hbV_bt {s : Int32} {i : Nat} (hi : i < 32) : hbV s (nI i) = bt s i := by
  have h1 : bt (s >>> (nI i &&& 31)) 0 = bt s i := by rw [b_sshr i hi s (by omega)]; simp [hi]
  rw [hbV]
  cases h : bt s i with
  | false => rw [h] at h1; simp [(hb_low _).mpr h1]
  | true =>
    have : ¬ (s >>> (nI i &&& 31)) &&& 1 = 0 := fun q => by rw [(hb_low _).mp q] at h1; rw [h] at h1; cases h1
    simp [this]
theorem bitB_bt {s : Int32} {i : Nat} (hi : i < 32) : bitB s i = bt s i := by
  rw [← hbV_bt hi, bitB, hbV]
  have key : ∀ y : Int32, (y &&& 1 = 1) ↔ ¬ (y &&& 1 = 0) := by
    intro y
    have h2 : y &&& 1 = 0 ∨ y &&& 1 = 1 := by
      by_cases h : bt y 0 = true
      · right
        refine b_ext (fun i hi => ?_)
        rw [b_and, b_1]
        by_cases e : i = 0
        · subst e; simp [h]
        · simp [e]
      · left; rw [hb_low]; simpa using h
    rcases h2 with h | h <;> rw [h] <;> decide
  by_cases h : (s >>> (nI i &&& 31)) &&& 1 = 0
  · simp [h]
  · simp [h, (key _).mpr h]
theorem bt_bit1 {w i : Nat} (hw : w < 32) (hi : i < 32) : bt (bit1 w) i = decide (i = w) := by
  rw [bit1, b_shl w hw 1 hi, b_1]
  by_cases e : i = w
  · subst e; simp
  · by_cases h : w ≤ i
    · simp [h, e, show ¬ i - w = 0 by omega]
    · simp [h, e]
theorem and_bit1 {x : Int32} {w : Nat} (hw : w < 32) : ((x &&& bit1 w) = 0) ↔ bt x w = false := by
  rw [b_zero]
  constructor
  · intro h
    have := h w hw
    rw [b_and, bt_bit1 hw hw] at this
    simpa using this
  · intro h i hi
    rw [b_and, bt_bit1 hw hi]
    by_cases e : i = w
    · subst e; simp [h]
    · simp [e]
/-! ===== counting bits ===== -/
def ev (s : Nat) : List Nat → Nat
  | [] => 0
  | v :: l => 2 ^ s * ev s l + v
theorem and2 {s a b c d : Nat} (ha : a < 2 ^ s) (hc : c < 2 ^ s) : (2 ^ s * b + a) &&& (2 ^ s * d + c) = 2 ^ s * (b &&& d) + (a &&& c) := by
  have hac : a &&& c < 2 ^ s := Nat.lt_of_le_of_lt Nat.and_le_left ha
  apply Nat.eq_of_testBit_eq
  intro i
  rw [Nat.testBit_and, Nat.testBit_two_pow_mul_add _ ha, Nat.testBit_two_pow_mul_add _ hc, Nat.testBit_two_pow_mul_add _ hac]
  by_cases h : i < s
  · simp [h]
  · simp [h]
theorem shm2 {s r a b m M : Nat} (hr : r ≤ s) (ha : a < 2 ^ s) (hm : m < 2 ^ (s - r)) : ((2 ^ s * b + a) >>> r) &&& (2 ^ s * M + m) = 2 ^ s * ((b >>> r) &&& M) + ((a >>> r) &&& m) := by
  have hms : m < 2 ^ s := Nat.lt_of_lt_of_le hm (Nat.pow_le_pow_right (by omega) (by omega))
  have ham : (a >>> r) &&& m < 2 ^ s := Nat.lt_of_le_of_lt Nat.and_le_right hms
  apply Nat.eq_of_testBit_eq
  intro i
  rw [Nat.testBit_and, Nat.testBit_shiftRight, Nat.testBit_two_pow_mul_add _ ha, Nat.testBit_two_pow_mul_add _ hms, Nat.testBit_two_pow_mul_add _ ham]
  by_cases h : i < s
  · by_cases h2 : r + i < s
    · simp [h, h2, Nat.testBit_shiftRight]
    · have hz : m.testBit i = false := Nat.testBit_lt_two_pow (Nat.lt_of_lt_of_le hm (Nat.pow_le_pow_right (by omega) (by omega)))
      simp [h, hz]
  · have h2 : ¬ r + i < s := by omega
    simp [h, h2, Nat.testBit_shiftRight, show r + i - s = r + (i - s) by omega]
theorem ev8 (a0 a1 a2 a3 a4 a5 a6 a7 : Nat) : ev 4 [a0, a1, a2, a3, a4, a5, a6, a7] = a0 + 16 * a1 + 256 * a2 + 4096 * a3 + 65536 * a4 + 1048576 * a5 + 16777216 * a6 + 268435456 * a7 := by
  simp only [ev]; omega
theorem and8 {a0 a1 a2 a3 a4 a5 a6 a7 c0 c1 c2 c3 c4 c5 c6 c7 : Nat} (h0 : a0 < 16) (h1 : a1 < 16) (h2 : a2 < 16) (h3 : a3 < 16) (h4 : a4 < 16) (h5 : a5 < 16) (h6 : a6 < 16) (h7 : a7 < 16) (g0 : c0 < 16) (g1 : c1 < 16) (g2 : c2 < 16) (g3 : c3 < 16) (g4 : c4 < 16) (g5 : c5 < 16) (g6 : c6 < 16) (g7 : c7 < 16) : ev 4 [a0, a1, a2, a3, a4, a5, a6, a7] &&& ev 4 [c0, c1, c2, c3, c4, c5, c6, c7] = ev 4 [a0 &&& c0, a1 &&& c1, a2 &&& c2, a3 &&& c3, a4 &&& c4, a5 &&& c5, a6 &&& c6, a7 &&& c7] := by
  simp only [ev]
  rw [and2 h0 g0, and2 h1 g1, and2 h2 g2, and2 h3 g3, and2 h4 g4, and2 h5 g5, and2 h6 g6, and2 h7 g7]
  simp
theorem shm8 {r a0 a1 a2 a3 a4 a5 a6 a7 m : Nat} (hr : r ≤ 4) (hm : m < 2 ^ (4 - r)) (h0 : a0 < 16) (h1 : a1 < 16) (h2 : a2 < 16) (h3 : a3 < 16) (h4 : a4 < 16) (h5 : a5 < 16) (h6 : a6 < 16) (h7 : a7 < 16) : (ev 4 [a0, a1, a2, a3, a4, a5, a6, a7] >>> r) &&& ev 4 [m, m, m, m, m, m, m, m] = ev 4 [(a0 >>> r) &&& m, (a1 >>> r) &&& m, (a2 >>> r) &&& m, (a3 >>> r) &&& m, (a4 >>> r) &&& m, (a5 >>> r) &&& m, (a6 >>> r) &&& m, (a7 >>> r) &&& m] := by
  simp only [ev]
  rw [shm2 hr h0 hm, shm2 hr h1 hm, shm2 hr h2 hm, shm2 hr h3 hm, shm2 hr h4 hm, shm2 hr h5 hm, shm2 hr h6 hm, shm2 hr h7 hm]
  simp
def pop4 (n : Nat) : Nat := n % 2 + n / 2 % 2 + n / 4 % 2 + n / 8 % 2
theorem f1_ok : ∀ n, n < 16 → (n >>> 1) &&& 5 ≤ n ∧ ((n - ((n >>> 1) &&& 5)) &&& 3) + (((n - ((n >>> 1) &&& 5)) >>> 2) &&& 3) = pop4 n ∧ n - ((n >>> 1) &&& 5) < 16 := by decide +kernel
theorem pop4_le (n : Nat) : pop4 n ≤ 4 := by unfold pop4; omega
def swar (x : Nat) : Nat :=
  let i1 := x - ((x >>> 1) &&& 1431655765)
  let i2 := (i1 &&& 858993459) + ((i1 >>> 2) &&& 858993459)
  let i3 := (i2 + (i2 >>> 4)) &&& 252645135
  let i4 := i3 + (i3 >>> 8)
  let i5 := i4 + (i4 >>> 16)
  i5 &&& 63
set_option maxRecDepth 20000 in
theorem swar_ok {a0 a1 a2 a3 a4 a5 a6 a7 : Nat} (h0 : a0 < 16) (h1 : a1 < 16) (h2 : a2 < 16) (h3 : a3 < 16) (h4 : a4 < 16) (h5 : a5 < 16) (h6 : a6 < 16) (h7 : a7 < 16) : swar (ev 4 [a0, a1, a2, a3, a4, a5, a6, a7]) = pop4 a0 + pop4 a1 + pop4 a2 + pop4 a3 + pop4 a4 + pop4 a5 + pop4 a6 + pop4 a7 := by
  obtain ⟨l0, s0, k0⟩ := f1_ok a0 h0
  obtain ⟨l1, s1, k1⟩ := f1_ok a1 h1
  obtain ⟨l2, s2, k2⟩ := f1_ok a2 h2
  obtain ⟨l3, s3, k3⟩ := f1_ok a3 h3
  obtain ⟨l4, s4, k4⟩ := f1_ok a4 h4
  obtain ⟨l5, s5, k5⟩ := f1_ok a5 h5
  obtain ⟨l6, s6, k6⟩ := f1_ok a6 h6
  obtain ⟨l7, s7, k7⟩ := f1_ok a7 h7
  have e5 : (1431655765 : Nat) = ev 4 [5, 5, 5, 5, 5, 5, 5, 5] := by decide +kernel
  have e3 : (858993459 : Nat) = ev 4 [3, 3, 3, 3, 3, 3, 3, 3] := by decide +kernel
  have ef : (252645135 : Nat) = ev 4 [15, 0, 15, 0, 15, 0, 15, 0] := by decide +kernel
  have i1e : ev 4 [a0, a1, a2, a3, a4, a5, a6, a7] - ((ev 4 [a0, a1, a2, a3, a4, a5, a6, a7] >>> 1) &&& 1431655765) = ev 4 [a0 - ((a0 >>> 1) &&& 5), a1 - ((a1 >>> 1) &&& 5), a2 - ((a2 >>> 1) &&& 5), a3 - ((a3 >>> 1) &&& 5), a4 - ((a4 >>> 1) &&& 5), a5 - ((a5 >>> 1) &&& 5), a6 - ((a6 >>> 1) &&& 5), a7 - ((a7 >>> 1) &&& 5)] := by
    rw [e5, shm8 (by omega) (by decide) h0 h1 h2 h3 h4 h5 h6 h7, ev8, ev8, ev8]
    generalize (a0 >>> 1) &&& 5 = y0 at *
    generalize (a1 >>> 1) &&& 5 = y1 at *
    generalize (a2 >>> 1) &&& 5 = y2 at *
    generalize (a3 >>> 1) &&& 5 = y3 at *
    generalize (a4 >>> 1) &&& 5 = y4 at *
    generalize (a5 >>> 1) &&& 5 = y5 at *
    generalize (a6 >>> 1) &&& 5 = y6 at *
    generalize (a7 >>> 1) &&& 5 = y7 at *
    clear s0 s1 s2 s3 s4 s5 s6 s7
    omega
  have p0 := pop4_le a0
  have p1 := pop4_le a1
  have p2 := pop4_le a2
  have p3 := pop4_le a3
  have p4 := pop4_le a4
  have p5 := pop4_le a5
  have p6 := pop4_le a6
  have p7 := pop4_le a7
  have i2e : (ev 4 [a0 - ((a0 >>> 1) &&& 5), a1 - ((a1 >>> 1) &&& 5), a2 - ((a2 >>> 1) &&& 5), a3 - ((a3 >>> 1) &&& 5), a4 - ((a4 >>> 1) &&& 5), a5 - ((a5 >>> 1) &&& 5), a6 - ((a6 >>> 1) &&& 5), a7 - ((a7 >>> 1) &&& 5)] &&& 858993459) + ((ev 4 [a0 - ((a0 >>> 1) &&& 5), a1 - ((a1 >>> 1) &&& 5), a2 - ((a2 >>> 1) &&& 5), a3 - ((a3 >>> 1) &&& 5), a4 - ((a4 >>> 1) &&& 5), a5 - ((a5 >>> 1) &&& 5), a6 - ((a6 >>> 1) &&& 5), a7 - ((a7 >>> 1) &&& 5)] >>> 2) &&& 858993459) = ev 4 [pop4 a0, pop4 a1, pop4 a2, pop4 a3, pop4 a4, pop4 a5, pop4 a6, pop4 a7] := by
    rw [e3, and8 k0 k1 k2 k3 k4 k5 k6 k7 (by omega) (by omega) (by omega) (by omega) (by omega) (by omega) (by omega) (by omega), shm8 (by omega) (by decide) k0 k1 k2 k3 k4 k5 k6 k7, ev8, ev8, ev8, ← s0, ← s1, ← s2, ← s3, ← s4, ← s5, ← s6, ← s7]
    omega
  have sh4 : ev 4 [pop4 a0, pop4 a1, pop4 a2, pop4 a3, pop4 a4, pop4 a5, pop4 a6, pop4 a7] >>> 4 = ev 4 [pop4 a1, pop4 a2, pop4 a3, pop4 a4, pop4 a5, pop4 a6, pop4 a7, 0] := by
    rw [Nat.shiftRight_eq_div_pow, ev8, ev8]
    omega
  have i3e : (ev 4 [pop4 a0, pop4 a1, pop4 a2, pop4 a3, pop4 a4, pop4 a5, pop4 a6, pop4 a7] + ev 4 [pop4 a1, pop4 a2, pop4 a3, pop4 a4, pop4 a5, pop4 a6, pop4 a7, 0]) &&& 252645135 = ev 4 [pop4 a0 + pop4 a1, 0, pop4 a2 + pop4 a3, 0, pop4 a4 + pop4 a5, 0, pop4 a6 + pop4 a7, 0] := by
    have : ev 4 [pop4 a0, pop4 a1, pop4 a2, pop4 a3, pop4 a4, pop4 a5, pop4 a6, pop4 a7] + ev 4 [pop4 a1, pop4 a2, pop4 a3, pop4 a4, pop4 a5, pop4 a6, pop4 a7, 0] = ev 4 [pop4 a0 + pop4 a1, pop4 a1 + pop4 a2, pop4 a2 + pop4 a3, pop4 a3 + pop4 a4, pop4 a4 + pop4 a5, pop4 a5 + pop4 a6, pop4 a6 + pop4 a7, pop4 a7] := by
      rw [ev8, ev8, ev8]; omega
    rw [this, ef, and8 (by omega) (by omega) (by omega) (by omega) (by omega) (by omega) (by omega) (by omega) (by omega) (by omega) (by omega) (by omega) (by omega) (by omega) (by omega) (by omega)]
    have m15 : ∀ n, n < 16 → n &&& 15 = n := by decide +kernel
    rw [m15 _ (by omega), m15 _ (by omega), m15 _ (by omega), m15 _ (by omega)]
    simp
  simp only [swar]
  rw [i1e, i2e, sh4, i3e]
  generalize pop4 a0 = q0 at *
  generalize pop4 a1 = q1 at *
  generalize pop4 a2 = q2 at *
  generalize pop4 a3 = q3 at *
  generalize pop4 a4 = q4 at *
  generalize pop4 a5 = q5 at *
  generalize pop4 a6 = q6 at *
  generalize pop4 a7 = q7 at *
  clear i1e i2e sh4 i3e s0 s1 s2 s3 s4 s5 s6 s7 l0 l1 l2 l3 l4 l5 l6 l7 k0 k1 k2 k3 k4 k5 k6 k7 e5 e3 ef
  rw [ev8, show (63 : Nat) = 2 ^ 6 - 1 by decide, Nat.and_two_pow_sub_one_eq_mod, Nat.shiftRight_eq_div_pow, Nat.shiftRight_eq_div_pow]
  obtain ⟨B0, hB0⟩ : ∃ z, z = q0 + q1 := ⟨_, rfl⟩
  obtain ⟨B1, hB1⟩ : ∃ z, z = q2 + q3 := ⟨_, rfl⟩
  obtain ⟨B2, hB2⟩ : ∃ z, z = q4 + q5 := ⟨_, rfl⟩
  obtain ⟨B3, hB3⟩ : ∃ z, z = q6 + q7 := ⟨_, rfl⟩
  rw [← hB0, ← hB1, ← hB2, ← hB3]
  have e1 : B0 + 16 * 0 + 256 * B1 + 4096 * 0 + 65536 * B2 + 1048576 * 0 + 16777216 * B3 + 268435456 * 0 = B0 + 256 * (B1 + 256 * B2 + 65536 * B3) := by omega
  have e2 : (B0 + 256 * (B1 + 256 * B2 + 65536 * B3)) / 2 ^ 8 = B1 + 256 * B2 + 65536 * B3 := by omega
  have e3 : B0 + 256 * (B1 + 256 * B2 + 65536 * B3) + (B1 + 256 * B2 + 65536 * B3) = (B0 + B1 + 256 * (B1 + B2)) + 65536 * (B2 + B3 + 256 * B3) := by omega
  have e4 : ((B0 + B1 + 256 * (B1 + B2)) + 65536 * (B2 + B3 + 256 * B3)) / 2 ^ 16 = B2 + B3 + 256 * B3 := by omega
  rw [e1, e2, e3, e4]
  have e5 : B0 + B1 + 256 * (B1 + B2) + 65536 * (B2 + B3 + 256 * B3) + (B2 + B3 + 256 * B3) = (B0 + B1 + B2 + B3) + 64 * (4 * (B1 + B2) + 1024 * (B2 + B3 + 256 * B3) + 4 * B3) := by omega
  rw [e5]
  omega
/-! from numbers to Int32 and back -/
theorem nI_of32 (x : Int32) : ∃ n, n < 2 ^ 32 ∧ x = nI n := ⟨x.toBitVec.toNat, x.toBitVec.isLt, by
  apply Int32.toBitVec_inj.1
  show x.toBitVec = BitVec.ofNat 32 x.toBitVec.toNat
  simp⟩
theorem bt_nI {n i : Nat} (hi : i < 32) : bt (nI n) i = n.testBit i := by
  show (BitVec.ofNat 32 n).getLsbD i = _
  rw [BitVec.getLsbD_ofNat]
  simp [hi]
theorem ev_of {n : Nat} (h : n < 2 ^ 32) : n = ev 4 [n / 2 ^ 0 % 16, n / 2 ^ 4 % 16, n / 2 ^ 8 % 16, n / 2 ^ 12 % 16, n / 2 ^ 16 % 16, n / 2 ^ 20 % 16, n / 2 ^ 24 % 16, n / 2 ^ 28 % 16] := by
  rw [ev8]; omega
theorem tb_div (n k : Nat) : (bif n.testBit k then 1 else 0) = n / 2 ^ k % 2 := by
  rw [Nat.testBit_eq_decide_div_mod_eq]
  have := Nat.mod_two_eq_zero_or_one (n / 2 ^ k)
  rcases this with h | h <;> simp [h]
theorem pop4_at (n k : Nat) : pop4 (n / 2 ^ k % 16) = (bif n.testBit k then 1 else 0) + (bif n.testBit (k + 1) then 1 else 0) + (bif n.testBit (k + 2) then 1 else 0) + (bif n.testBit (k + 3) then 1 else 0) := by
  rw [tb_div, tb_div, tb_div, tb_div]
  have e1 : n / 2 ^ (k + 1) = n / 2 ^ k / 2 := by rw [Nat.pow_succ, Nat.div_div_eq_div_mul]
  have e2 : n / 2 ^ (k + 2) = n / 2 ^ k / 4 := by rw [Nat.pow_add, Nat.div_div_eq_div_mul]
  have e3 : n / 2 ^ (k + 3) = n / 2 ^ k / 8 := by rw [Nat.pow_add, Nat.div_div_eq_div_mul]
  rw [e1, e2, e3]
  generalize n / 2 ^ k = z
  unfold pop4
  omega
theorem cnt4 (f : Nat → Bool) (k : Nat) : cntN (k + 4) f = cntN k f + ((bif f k then 1 else 0) + (bif f (k + 1) then 1 else 0) + (bif f (k + 2) then 1 else 0) + (bif f (k + 3) then 1 else 0)) := by
  simp only [cntN]; omega
theorem pop_cnt {n : Nat} : pop4 (n / 2 ^ 0 % 16) + pop4 (n / 2 ^ 4 % 16) + pop4 (n / 2 ^ 8 % 16) + pop4 (n / 2 ^ 12 % 16) + pop4 (n / 2 ^ 16 % 16) + pop4 (n / 2 ^ 20 % 16) + pop4 (n / 2 ^ 24 % 16) + pop4 (n / 2 ^ 28 % 16) = cntN 32 (fun i => n.testBit i) := by
  rw [cnt4 _ 28, cnt4 _ 24, cnt4 _ 20, cnt4 _ 16, cnt4 _ 12, cnt4 _ 8, cnt4 _ 4, cnt4 _ 0, pop4_at, pop4_at, pop4_at, pop4_at, pop4_at, pop4_at, pop4_at, pop4_at]
  simp only [cntN]
  omega
theorem cntN_congr {f g : Nat → Bool} : ∀ {n : Nat}, (∀ x, x < n → f x = g x) → cntN n f = cntN n g
  | 0, _ => rfl
  | n + 1, h => by
    have ih := cntN_congr (n := n) (fun x hx => h x (by omega))
    have hn := h n (by omega)
    simp only [cntN]
    rw [ih, hn]
/-- what bitCount computes -/
def pcI (x : Int32) : Int32 :=
  let u := fun (y s : Int32) => (y.toUInt32 >>> (s.toUInt32 &&& Int32.toUInt32 31)).toInt32
  let i1 := x - (u x 1 &&& 1431655765)
  let i2 := (i1 &&& 858993459) + (u i1 2 &&& 858993459)
  let i3 := (i2 + u i2 4) &&& 252645135
  let i4 := i3 + u i3 8
  let i5 := i4 + u i4 16
  i5 &&& 63
theorem nI_sub32 {a b : Nat} (h : b ≤ a) : nI a - nI b = nI (a - b) := pk_sub h
set_option maxRecDepth 20000 in
theorem pcI_nI {n : Nat} (h : n < 2 ^ 32) : pcI (nI n) = nI (swar n) := by
  have us : ∀ (a : Nat) (s : Int32) (k : Nat), a < 2 ^ 32 → ((s.toUInt32 &&& Int32.toUInt32 31).toBitVec % 32).toNat = k → ((nI a).toUInt32 >>> (s.toUInt32 &&& Int32.toUInt32 31)).toInt32 = nI (a >>> k) := fun a s k ha hs => by rw [pk_ushrN ha s k hs, Nat.shiftRight_eq_div_pow]
  have c5 : (1431655765 : Int32) = nI 1431655765 := by decide +kernel
  have c3 : (858993459 : Int32) = nI 858993459 := by decide +kernel
  have cf : (252645135 : Int32) = nI 252645135 := by decide +kernel
  have c63 : (63 : Int32) = nI 63 := by decide +kernel
  have l1 : (n >>> 1) &&& 1431655765 ≤ n := Nat.le_trans Nat.and_le_left (Nat.shiftRight_le n 1)
  simp only [pcI, swar]
  rw [us n 1 1 h (by decide +kernel), c5, nx_and, nI_sub32 l1, c3, nx_and]
  have b1 : n - ((n >>> 1) &&& 1431655765) < 2 ^ 32 := by omega
  rw [us _ 2 2 b1 (by decide +kernel), nx_and, nI_add]
  have b2 : ((n - ((n >>> 1) &&& 1431655765)) &&& 858993459) + (((n - ((n >>> 1) &&& 1431655765)) >>> 2) &&& 858993459) < 2 ^ 32 := by
    have h1 : (n - ((n >>> 1) &&& 1431655765)) &&& 858993459 ≤ 858993459 := Nat.and_le_right
    have h2 : ((n - ((n >>> 1) &&& 1431655765)) >>> 2) &&& 858993459 ≤ 858993459 := Nat.and_le_right
    omega
  generalize ((n - ((n >>> 1) &&& 1431655765)) &&& 858993459) + (((n - ((n >>> 1) &&& 1431655765)) >>> 2) &&& 858993459) = i2 at b2 ⊢
  rw [us i2 4 4 b2 (by decide +kernel), nI_add, cf, nx_and]
  have b3 : (i2 + i2 >>> 4) &&& 252645135 ≤ 252645135 := Nat.and_le_right
  generalize (i2 + i2 >>> 4) &&& 252645135 = i3 at b3 ⊢
  rw [us i3 8 8 (by omega) (by decide +kernel), nI_add]
  have b4 : i3 >>> 8 ≤ i3 := Nat.shiftRight_le i3 8
  generalize hi4 : i3 + i3 >>> 8 = i4
  rw [us i4 16 16 (by omega) (by decide +kernel), nI_add, c63, nx_and]
theorem pcI_cnt (x : Int32) : pcI x = nI (cntN 32 (bt x)) := by
  obtain ⟨n, hn, rfl⟩ := nI_of32 x
  rw [pcI_nI hn]
  congr 1
  have e := ev_of hn
  have hs := swar_ok (a0 := n / 2 ^ 0 % 16) (a1 := n / 2 ^ 4 % 16) (a2 := n / 2 ^ 8 % 16) (a3 := n / 2 ^ 12 % 16) (a4 := n / 2 ^ 16 % 16) (a5 := n / 2 ^ 20 % 16) (a6 := n / 2 ^ 24 % 16) (a7 := n / 2 ^ 28 % 16) (by omega) (by omega) (by omega) (by omega) (by omega) (by omega) (by omega) (by omega)
  rw [← e, pop_cnt] at hs
  rw [hs]
  exact cntN_congr (fun i hi => (bt_nI hi).symm)

/-! ===== the reference: what is above, who overrides ===== -/
def rwR (r : Nat) (τ : St) (A : Nat → Int32) : St := fun k => bif Nat.beq k r then A else τ k
theorem rwR_up {r : Nat} {τ : St} {A : Nat → Int32} {j : Nat} {x : Int32} : up2 (rwR r τ A) r j x = rwR r τ (upd A j x) := by
  funext k
  by_cases h : k = r
  · subst h
    have e : Nat.beq k k = true := Nat.beq_refl k
    simp only [up2, rwR, e, cond_true]
  · simp only [up2, rwR, nbeq h, cond_false]
theorem rwR_self {r : Nat} {τ : St} : rwR r τ (τ r) = τ := by
  funext k
  by_cases h : k = r
  · subst h
    have e : Nat.beq k k = true := Nat.beq_refl k
    simp only [rwR, e, cond_true]
  · simp only [rwR, nbeq h, cond_false]
def bool01 (A : Nat → Int32) : Prop := ∀ j, A j = 0 ∨ A j = 1
theorem bool01_upd {A : Nat → Int32} (h : bool01 A) {j : Nat} {x : Int32} (hx : x = 0 ∨ x = 1) : bool01 (upd A j x) := by
  intro k
  by_cases e : k = j
  · subst e; simpa [upd] using hx
  · simpa [upd, e] using h k
theorem W0_6 {τ : St} {A : Nat → Int32} (h : W0 τ) (hA : bool01 A) : W0 (rwR 6 τ A) := ⟨h.1, h.2.1, h.2.2.1, h.2.2.2.1, h.2.2.2.2.1, h.2.2.2.2.2.1, hA, h.2.2.2.2.2.2.2.1, h.2.2.2.2.2.2.2.2⟩
theorem W0_14 {τ : St} {A : Nat → Int32} (h : W0 τ) (hA : bool01 A) : W0 (rwR 14 τ A) := ⟨h.1, h.2.1, h.2.2.1, h.2.2.2.1, h.2.2.2.2.1, h.2.2.2.2.2.1, h.2.2.2.2.2.2.1, h.2.2.2.2.2.2.2.1, hA⟩
theorem anyN_congr {n : Nat} {f g : Nat → Bool} (h : ∀ x, x < n → f x = g x) : anyN n f = anyN n g := by
  induction n with
  | zero => rfl
  | succ n ih => simp only [anyN, ih (fun x hx => h x (by omega)), h n (by omega)]
def nz (x : Int32) : Bool := decide (¬ x = 0)
theorem nz_b2i (b : Bool) : nz (b2i b) = b := by cases b <;> decide
def lftV (A : Nat → Int32) (t o u : Nat) : Bool := nz (A (16 * t + u)) || decide (u = o) || nz (A (16 * o + u))
def LInv (A A1 : Nat → Int32) (t o i : Nat) : Prop := bool01 A1 ∧ (∀ j, (j < 16 * t ∨ 16 * t + 16 ≤ j) → A1 j = A j) ∧ (∀ u, u < i → u < 16 → A1 (16 * t + u) = b2i (lftV A t o u)) ∧ ∀ u, i ≤ u → u < 16 → A1 (16 * t + u) = if u = o then 1 else A (16 * t + u)
theorem LInv_step {A A1 : Nat → Int32} {t o i : Nat} (h : LInv A A1 t o i) (hi : i < 16) {x : Int32} (hx : x = b2i (lftV A t o i)) : LInv A (upd A1 (16 * t + i) x) t o (i + 1) := by
  obtain ⟨h1, h2, h3, h4⟩ := h
  refine ⟨bool01_upd h1 (by rw [hx]; cases lftV A t o i <;> simp [b2i]), fun j hj => ?_, fun u hu hu2 => ?_, fun u hu hu2 => ?_⟩
  · rw [show upd A1 (16 * t + i) x j = A1 j by simp [upd, show ¬ j = 16 * t + i by omega]]; exact h2 j hj
  · by_cases e : u = i
    · subst e; simp [upd, hx]
    · rw [show upd A1 (16 * t + i) x (16 * t + u) = A1 (16 * t + u) by simp [upd, e]]; exact h3 u (by omega) hu2
  · rw [show upd A1 (16 * t + i) x (16 * t + u) = A1 (16 * t + u) by simp [upd, show ¬ u = i by omega]]; exact h4 u (by omega) hu2
theorem LInv_val {A A1 : Nat → Int32} {t o i : Nat} (h : LInv A A1 t o i) (hi : i < 16) (ho : o < 16) (hto : o ≠ t) : (nz (A1 (16 * t + i)) || nz (A1 (16 * o + i))) = lftV A t o i := by
  obtain ⟨h1, h2, h3, h4⟩ := h
  rw [h4 i (Nat.le_refl i) hi, h2 (16 * o + i) (by omega)]
  by_cases e : i = o
  · subst e; simp [lftV, nz]
  · simp [lftV, e]
theorem LInv_0 {A : Nat → Int32} {t o : Nat} (hA : bool01 A) (ho : o < 16) : LInv A (upd A (16 * t + o) 1) t o 0 := by
  refine ⟨bool01_upd hA (Or.inr rfl), fun j hj => by simp [upd, show ¬ j = 16 * t + o by omega], fun u hu => by omega, fun u _ hu => ?_⟩
  by_cases e : u = o
  · subst e; simp [upd]
  · simp [upd, e]
/-- what lift does to the table -/
def LOk (A A' : Nat → Int32) (t o : Nat) : Prop := bool01 A' ∧ (∀ j, (j < 16 * t ∨ 16 * t + 16 ≤ j) → A' j = A j) ∧ ∀ u, u < 16 → A' (16 * t + u) = b2i (lftV A t o u)
theorem LInv.ok {A A1 : Nat → Int32} {t o i : Nat} (h : LInv A A1 t o i) (hi : 16 ≤ i) : LOk A A1 t o := ⟨h.1, h.2.1, fun u hu => h.2.2.1 u (by omega) hu⟩
/-- ABOVE, out of parents and faces -/
def AbF (pa : Nat → Int32) (nf : Nat → Nat) (fc : Nat → Nat → Nat) : Nat → Nat → Nat → Bool
  | 0, _, _ => false
  | d + 1, t, u => (if pa t = -1 then false else (decide (u = nN (pa t)) || AbF pa nf fc d (nN (pa t)) u)) || anyN (nf t) (fun q => decide (u = fc t q) || AbF pa nf fc d (fc t q) u)
theorem AbF_succ (pa : Nat → Int32) (nf : Nat → Nat) (fc : Nat → Nat → Nat) (d t u : Nat) : AbF pa nf fc (d + 1) t u = ((if pa t = -1 then false else (decide (u = nN (pa t)) || AbF pa nf fc d (nN (pa t)) u)) || anyN (nf t) (fun q => decide (u = fc t q) || AbF pa nf fc d (fc t q) u)) := rfl
def BelS (τ : St) (t u : Nat) : Bool := AbF (τ 3) (nF τ) (Fc τ) 17 t u
def upF (τ : St) (t u : Nat) : Bool := if τ 3 t = -1 then false else (decide (u = nN (τ 3 t)) || BelS τ (nN (τ 3 t)) u)
def fcF (τ : St) (t u : Nat) : Nat → Bool := fun q => decide (u = Fc τ t q) || BelS τ (Fc τ t q) u
theorem AbF_st {τ : St} (hW : W0 τ) {u : Nat} : ∀ (t : Nat), t < nT τ → ∀ n m, t < n → t < m → AbF (τ 3) (nF τ) (Fc τ) n t u = AbF (τ 3) (nF τ) (Fc τ) m t u := by
  intro t
  have hTl := w0_tl hW
  induction t using Nat.strongRecOn with
  | ind t ih =>
    intro ht n m hn hm
    match n, m, hn, hm with
    | n + 1, m + 1, hn, hm =>
      rw [AbF_succ, AbF_succ]
      congr 1
      · rcases w0_pa hW ht with q | ⟨p, hp, q⟩
        · simp [q]
        · have h1 : ¬ τ 3 t = -1 := by rw [q]; exact nI_m1 (by omega)
          rw [if_neg h1, if_neg h1, q, nN, nI_clamp (by omega), ih p hp (by omega) n m (by omega) (by omega)]
      · refine anyN_congr (fun k hk => ?_)
        have := w0_fcl hW ht hk
        rw [ih _ this (by omega) n m (by omega) (by omega)]
theorem BelS_eq {τ : St} (hW : W0 τ) {t u : Nat} (ht : t < nT τ) : BelS τ t u = (upF τ t u || anyN (nF τ t) (fcF τ t u)) := by
  have hTl := w0_tl hW
  obtain ⟨k, hk⟩ : ∃ k, k = 16 := ⟨_, rfl⟩
  have e : BelS τ t u = AbF (τ 3) (nF τ) (Fc τ) (k + 1) t u := by rw [hk]; rfl
  rw [e, AbF_succ]
  congr 1
  · rcases w0_pa hW ht with q | ⟨p, hp, q⟩
    · simp [upF, q]
    · have h1 : ¬ τ 3 t = -1 := by rw [q]; exact nI_m1 (by omega)
      have e1 : AbF (τ 3) (nF τ) (Fc τ) k p u = BelS τ p u := AbF_st hW p (by omega) k 17 (by omega) (by omega)
      rw [if_neg h1, upF, if_neg h1, q, nN, nI_clamp (by omega), e1]
  · refine anyN_congr (fun x hx => ?_)
    have := w0_fcl hW ht hx
    have e1 : AbF (τ 3) (nF τ) (Fc τ) k (Fc τ t x) u = BelS τ (Fc τ t x) u := AbF_st hW _ (by omega) k 17 (by omega) (by omega)
    simp only [fcF, e1]
theorem BelS_lt {τ : St} (hW : W0 τ) {u : Nat} : ∀ (t : Nat), t < nT τ → BelS τ t u = true → u < t := by
  intro t
  have hTl := w0_tl hW
  induction t using Nat.strongRecOn with
  | ind t ih =>
    intro ht h
    rw [BelS_eq hW ht, Bool.or_eq_true] at h
    rcases h with h | h
    · rcases w0_pa hW ht with q | ⟨p, hp, q⟩
      · simp [upF, q] at h
      · have h1 : ¬ τ 3 t = -1 := by rw [q]; exact nI_m1 (by omega)
        rw [upF, if_neg h1, q, nN, nI_clamp (by omega)] at h
        simp only [Bool.or_eq_true, decide_eq_true_eq] at h
        rcases h with rfl | h
        · exact hp
        · have := ih p hp (by omega) h; omega
    · obtain ⟨k, hk, hf⟩ := anyN_iff.mp h
      have hl := w0_fcl hW ht hk
      simp only [fcF, Bool.or_eq_true, decide_eq_true_eq] at hf
      rcases hf with rfl | hf
      · exact hl
      · have := ih _ hl (by omega) hf; omega
/-- OVERRIDES, by itself -/
def OvF (n : Nat) (base easy : Nat → Nat → Bool) (btw : Nat → Nat → Nat → Bool) : Nat → Nat → Nat → Bool
  | 0, _, _ => false
  | d + 1, m, o => base m o && (easy m o || anyN n (fun z => btw m o z && OvF n base easy btw d m z && OvF n base easy btw d z o))
theorem OvF_succ (n : Nat) (base easy : Nat → Nat → Bool) (btw : Nat → Nat → Nat → Bool) (d m o : Nat) : OvF n base easy btw (d + 1) m o = (base m o && (easy m o || anyN n (fun z => btw m o z && OvF n base easy btw d m z && OvF n base easy btw d z o))) := rfl
def ovB (τ : St) (m o : Nat) : Bool := Bel τ (Of τ m) (Of τ o) && decide (τ 10 m = τ 10 o) && !Hs τ m 8 && !Hs τ o 8 && !Hs τ o 4
def ovE (τ : St) (m o : Nat) : Bool := Ifc τ o || Seen τ m o
def ovW (τ : St) (m o z : Nat) : Bool := decide (τ 10 z = τ 10 m) && Bel τ (Of τ z) (Of τ o) && Bel τ (Of τ m) (Of τ z)
def OvS (τ : St) (m o : Nat) : Bool := OvF (nM τ) (ovB τ) (ovE τ) (ovW τ) 17 m o
def BelDn (τ : St) : Prop := ∀ t u, t < nT τ → u < 16 → Bel τ t u = true → u < t
theorem OvF_st {τ : St} (hW : W0 τ) (hB : BelDn τ) : ∀ (k m o : Nat), m < nM τ → o < nM τ → Of τ m - Of τ o ≤ k → ∀ n n', Of τ m - Of τ o < n → Of τ m - Of τ o < n' → OvF (nM τ) (ovB τ) (ovE τ) (ovW τ) n m o = OvF (nM τ) (ovB τ) (ovE τ) (ovW τ) n' m o := by
  intro k
  have hTl := w0_tl hW
  induction k with
  | zero =>
    intro m o hm ho hk n n' hn hn'
    have h1 := w0_ofl hW hm
    have h2 := w0_ofl hW ho
    have hb : ovB τ m o = false := by
      cases h : Bel τ (Of τ m) (Of τ o) with
      | false => simp [ovB, h]
      | true => have := hB _ _ h1 (by omega) h; omega
    match n, n', hn, hn' with
    | n + 1, n' + 1, _, _ => rw [OvF_succ, OvF_succ, hb, Bool.false_and, Bool.false_and]
  | succ k ih =>
    intro m o hm ho hk n n' hn hn'
    have h1 := w0_ofl hW hm
    have h2 := w0_ofl hW ho
    match n, n', hn, hn' with
    | n + 1, n' + 1, hn, hn' =>
      rw [OvF_succ, OvF_succ]
      congr 2
      refine anyN_congr (fun z hz => ?_)
      have h3 := w0_ofl hW hz
      cases hw : ovW τ m o z with
      | false => simp
      | true =>
        have hw2 := hw
        simp only [ovW, Bool.and_eq_true] at hw2
        have a1 := hB _ _ h3 (by omega) hw2.1.2
        have a2 := hB _ _ h1 (by omega) hw2.2
        rw [ih m z hm hz (by omega) n n' (by omega) (by omega), ih z o hz ho (by omega) n n' (by omega) (by omega)]
def ovX (τ : St) (m o z : Nat) : Bool := ovW τ m o z && OvS τ m z && OvS τ z o
theorem OvS_eq {τ : St} (hW : W0 τ) (hB : BelDn τ) {m o : Nat} (hm : m < nM τ) (ho : o < nM τ) : OvS τ m o = (ovB τ m o && (ovE τ m o || anyN (nM τ) (ovX τ m o))) := by
  have hTl := w0_tl hW
  have h1 := w0_ofl hW hm
  have h2 := w0_ofl hW ho
  obtain ⟨k, hk⟩ : ∃ k, k = 16 := ⟨_, rfl⟩
  have e : OvS τ m o = OvF (nM τ) (ovB τ) (ovE τ) (ovW τ) (k + 1) m o := by rw [hk]; rfl
  rw [e, OvF_succ]
  congr 2
  refine anyN_congr (fun z hz => ?_)
  have h3 := w0_ofl hW hz
  cases hw : ovW τ m o z with
  | false => simp [ovX, hw]
  | true =>
    have hw2 := hw
    simp only [ovW, Bool.and_eq_true] at hw2
    have a1 := hB _ _ h3 (by omega) hw2.1.2
    have a2 := hB _ _ h1 (by omega) hw2.2
    have e1 : OvF (nM τ) (ovB τ) (ovE τ) (ovW τ) k m z = OvS τ m z := OvF_st hW hB 16 m z hm hz (by omega) k 17 (by omega) (by omega)
    have e2 : OvF (nM τ) (ovB τ) (ovE τ) (ovW τ) k z o = OvS τ z o := OvF_st hW hB 16 z o hz ho (by omega) k 17 (by omega) (by omega)
    simp only [ovX, hw, e1, e2]
/-- the table of overridings, as far as pr says -/
def WInv (τ : St) (Ot : Nat → Int32) (pr : Nat → Nat → Bool) : Prop := bool01 Ot ∧ ∀ m o, m < nM τ → o < nM τ → Ot (60 * m + o) = b2i (OvS τ m o && pr m o)
theorem WInv.to {τ : St} {Ot : Nat → Int32} {pr pr' : Nat → Nat → Bool} (h : WInv τ Ot pr) (hp : ∀ m o, m < nM τ → o < nM τ → OvS τ m o = true → pr m o = pr' m o) : WInv τ Ot pr' := by
  refine ⟨h.1, fun m o hm ho => ?_⟩
  rw [h.2 m o hm ho]
  cases hv : OvS τ m o with
  | false => rfl
  | true => rw [hp m o hm ho hv]
theorem WInv_put {τ : St} {Ot : Nat → Int32} {pr : Nat → Nat → Bool} (h : WInv τ Ot pr) {m o : Nat} (hm : m < 60) (ho : o < 60) (hl : nM τ ≤ 60) {x : Int32} (hx : x = b2i (OvS τ m o)) : WInv τ (upd Ot (60 * m + o) x) (fun a c => pr a c || (decide (a = m) && decide (c = o))) := by
  refine ⟨bool01_upd h.1 (by rw [hx]; cases OvS τ m o <;> simp [b2i]), fun a c ha hc => ?_⟩
  by_cases e : a = m ∧ c = o
  · obtain ⟨rfl, rfl⟩ := e
    simp [upd, hx]
  · have : ¬ 60 * a + c = 60 * m + o := by omega
    rw [show upd Ot (60 * m + o) x (60 * a + c) = Ot (60 * a + c) by simp [upd, this], h.2 a c ha hc]
    have e2 : (decide (a = m) && decide (c = o)) = false := by
      cases h1 : (decide (a = m) && decide (c = o)) with
      | false => rfl
      | true => simp at h1; exact absurd h1 e
    show b2i (OvS τ a c && pr a c) = b2i (OvS τ a c && (pr a c || (decide (a = m) && decide (c = o))))
    rw [e2, Bool.or_false]
theorem nz_W {τ : St} {Ot : Nat → Int32} {pr : Nat → Nat → Bool} (h : WInv τ Ot pr) {m o : Nat} (hm : m < nM τ) (ho : o < nM τ) : Ov (rwR 14 τ Ot) m o = (OvS τ m o && pr m o) := by
  show nz (Ot (60 * m + o)) = _
  rw [h.2 m o hm ho, nz_b2i]
/-- what goesOver answers while the table grows -/
theorem GoB_W {τ : St} (hW : W0 τ) (hB : BelDn τ) {Ot : Nat → Int32} {pr : Nat → Nat → Bool} (h : WInv τ Ot pr) {m o : Nat} (hm : m < nM τ) (ho : o < nM τ) (hb : Bel τ (Of τ m) (Of τ o) = true) (h1 : ∀ z, z < nM τ → Of τ o < Of τ z → Of τ z < Of τ m → pr m z = true ∧ pr z o = true) :
    OvS τ m o = (decide (τ 10 m = τ 10 o) && !Hs τ m 8 && !Hs τ o 8 && !Hs τ o 4 && GoB (rwR 14 τ Ot) m o) := by
  have hTl := w0_tl hW
  have hm1 := w0_ofl hW hm
  have ho1 := w0_ofl hW ho
  have key : GoB (rwR 14 τ Ot) m o = (ovE τ m o || anyN (nM τ) (ovX τ m o)) := by
    show (ovE τ m o || anyN (nM τ) (GoX (rwR 14 τ Ot) m o)) = _
    congr 1
    refine anyN_congr (fun z hz => ?_)
    have hz1 := w0_ofl hW hz
    show (ovW τ m o z && Ov (rwR 14 τ Ot) m z && Ov (rwR 14 τ Ot) z o) = _
    rw [nz_W h hm hz, nz_W h hz ho, ovX]
    cases hw : ovW τ m o z with
    | false => simp
    | true =>
      have hw2 := hw
      simp only [ovW, Bool.and_eq_true] at hw2
      have a1 := hB _ _ hz1 (by omega) hw2.1.2
      have a2 := hB _ _ hm1 (by omega) hw2.2
      obtain ⟨b1, b2⟩ := h1 z hz a1 a2
      rw [b1, b2]; simp
  rw [key, OvS_eq hW hB hm ho, ovB, hb, Bool.true_and]
set_option maxRecDepth 100000 in
set_option maxHeartbeats 4000000 in
theorem ct_X6_lift {l : Launch} {D : va_G} {cI cZ : ClassId} {b : Nat → Nat} {τ : St} {A0 : Nat → Int32} (hA : bool01 A0) {t o : Nat} (ht : t < 16) (ho : o < 16) (hto : o ≠ t) : Ct l yX6_lift cX6_lift 4 none 0 0 D cI cZ (pM b cI cZ) [.ref (b 0), .int (nI t), .int (nI o)] (rwR 6 τ A0) (fun r v => r = none ∧ ∃ A1, v = rwR 6 τ A1 ∧ LOk A0 A1 t o) := by
  refine Ct.of 1 (by decide) (by simp [Value.category]) (Nat.le_of_ble_eq_true rfl) ?_
  intro p e s m below meth c C
  have loop : ∀ (n i : Nat) (A1 : Nat → Int32), i ≤ 16 → 17 ≤ i + n → LInv A0 A1 t o i → G p l e (rmo 0 0) s m ([.ref (b 0), .int (nI t), .int (nI o)] : List Value).toArray below meth c D (va_A (pM b cI cZ (rwR 6 τ A0)) s.heap.size) 0 0 (Qe below ([.ref (b 0), .int (nI t), .int (nI o)] : List Value).toArray s D (pM b cI cZ) (rwR 6 τ A0) (fun r v => r = none ∧ ∃ A1, v = rwR 6 τ A1 ∧ LOk A0 A1 t o)) 4 (pM b cI cZ (rwR 6 τ A1)) 14 [some (.ref (b 0)), some (.int (nI t)), some (.int (nI o)), some (.int (nI i))] [] := by
    intro n
    induction n with
    | zero => intro i A1 h1 h2; omega
    | succ n ih =>
      intro i A1 h1 h2 hI
      refine g_iload_n C dX6_lift_14 rfl ?_
      refine g_bipushN 16 C dX6_lift_15 (by decide) ?_
      refine g_icmpN_ge (tgt := 70) C (by omega) (by omega) dX6_lift_17 (by decide) (fun h17 => ?_) (fun h17 => ?_)
      · exact g_vret C dX6_lift_70 ⟨rfl, A1, rfl, hI.ok (by omega)⟩
      · refine g_aload_n C dX6_lift_20 rfl ?_
        refine gf_X6_25 C dX6_lift_21 ?_
        refine g_bipushN 16 C dX6_lift_24 (by decide) ?_
        refine g_iload_n C dX6_lift_26 rfl ?_
        refine g_imulN C dX6_lift_27 ?_
        refine g_iload_n C dX6_lift_28 rfl ?_
        refine g_iaddN C dX6_lift_29 ?_
        refine g_aload_n C dX6_lift_30 rfl ?_
        refine gf_X6_25 C dX6_lift_31 ?_
        refine g_bipushN 16 C dX6_lift_34 (by decide) ?_
        refine g_iload_n C dX6_lift_36 rfl ?_
        refine g_imulN C dX6_lift_37 ?_
        refine g_iload_n C dX6_lift_38 rfl ?_
        refine g_iaddN C dX6_lift_39 ?_
        refine gM_lv6 C (by omega) (bz (hI.1 _)) dX6_lift_40 ?_
        refine g_ifb_ne (tgt := 58) C dX6_lift_41 (by decide) (fun h41 => ?_) (fun h41 => ?_)
        · refine g_iconst (v := 1) C dX6_lift_58 (by decide) ?_
          refine g_goto (tgt := 63) C dX6_lift_59 (by decide) ?_
          refine gM_sn6 C (by omega) (by decide +kernel) dX6_lift_63 ?_
          rw [rwR_up]
          refine g_iincN C dX6_lift_64 rfl (by decide) ?_
          refine g_goto (tgt := 14) C dX6_lift_67 (by decide) ?_
          exact ih (i + 1) _ (by omega) (by omega) (LInv_step hI (by omega) (by rw [← LInv_val hI (by omega) ho hto]; rw [show nz (A1 (16 * t + i)) = true from h41]; rfl))
        · refine g_aload_n C dX6_lift_44 rfl ?_
          refine gf_X6_25 C dX6_lift_45 ?_
          refine g_bipushN 16 C dX6_lift_48 (by decide) ?_
          refine g_iload_n C dX6_lift_50 rfl ?_
          refine g_imulN C dX6_lift_51 ?_
          refine g_iload_n C dX6_lift_52 rfl ?_
          refine g_iaddN C dX6_lift_53 ?_
          refine gM_lv6 C (by omega) (bz (hI.1 _)) dX6_lift_54 ?_
          refine g_ifb_eq (tgt := 62) C dX6_lift_55 (by decide) (fun h55 => ?_) (fun h55 => ?_)
          · refine g_iconst (v := 0) C dX6_lift_62 (by decide) ?_
            refine gM_sn6 C (by omega) (by decide +kernel) dX6_lift_63 ?_
            rw [rwR_up]
            refine g_iincN C dX6_lift_64 rfl (by decide) ?_
            refine g_goto (tgt := 14) C dX6_lift_67 (by decide) ?_
            exact ih (i + 1) _ (by omega) (by omega) (LInv_step hI (by omega) (by rw [← LInv_val hI (by omega) ho hto]; rw [show nz (A1 (16 * t + i)) = false from h41, show nz (A1 (16 * o + i)) = false from h55]; rfl))
          · refine g_iconst (v := 1) C dX6_lift_58 (by decide) ?_
            refine g_goto (tgt := 63) C dX6_lift_59 (by decide) ?_
            refine gM_sn6 C (by omega) (by decide +kernel) dX6_lift_63 ?_
            rw [rwR_up]
            refine g_iincN C dX6_lift_64 rfl (by decide) ?_
            refine g_goto (tgt := 14) C dX6_lift_67 (by decide) ?_
            exact ih (i + 1) _ (by omega) (by omega) (LInv_step hI (by omega) (by rw [← LInv_val hI (by omega) ho hto]; rw [show nz (A1 (16 * t + i)) = false from h41, show nz (A1 (16 * o + i)) = true from h55]; rfl))
  refine g_aload_n C dX6_lift_0 rfl ?_
  refine gf_X6_25 C dX6_lift_1 ?_
  refine g_bipushN 16 C dX6_lift_4 (by decide) ?_
  refine g_iload_n C dX6_lift_6 rfl ?_
  refine g_imulN C dX6_lift_7 ?_
  refine g_iload_n C dX6_lift_8 rfl ?_
  refine g_iaddN C dX6_lift_9 ?_
  refine g_iconst (v := 1) C dX6_lift_10 (by decide) ?_
  refine gM_sn6 C (by omega) (by decide +kernel) dX6_lift_11 ?_
  rw [rwR_up]
  refine g_iconstN 0 C dX6_lift_12 (by decide) ?_
  refine g_istore_n C dX6_lift_13 (by decide) ?_
  exact loop 17 0 _ (by omega) (by omega) (LInv_0 hA ho)
set_option maxRecDepth 100000 in
set_option maxHeartbeats 4000000 in
theorem ct_X6_work {l : Launch} {D : va_G} {cI cZ : ClassId} {b : Nat → Nat} {τ : St} (hW : W0 τ) (hB : BelDn τ) : Ct l yX6_work cX6_work 5 none 4 88 D cI cZ (pM b cI cZ) [.ref (b 0)] τ (fun r v => r = none ∧ ∃ Ot, v = rwR 14 τ Ot ∧ bool01 Ot ∧ ∀ m o, m < nM τ → o < nM τ → Ot (60 * m + o) = b2i (OvS τ m o)) := by
  refine Ct.of 4 (by decide) (by simp [Value.category]) (Nat.le_of_ble_eq_true rfl) ?_
  intro p e s m below meth c C
  have hTl := w0_tl hW
  have hMl := w0_ml hW
  have lt : ∀ (n t : Nat) (O1 : Nat → Int32), t ≤ nT τ → nT τ + 1 ≤ t + n → WInv τ O1 (fun a c => decide (Of τ a < t)) → G p l e (rmo 4 88) s m ([.ref (b 0)] : List Value).toArray below meth c D (va_A (pM b cI cZ τ) s.heap.size) 0 0 (Qe below ([.ref (b 0)] : List Value).toArray s D (pM b cI cZ) τ (fun r v => r = none ∧ ∃ Ot, v = rwR 14 τ Ot ∧ bool01 Ot ∧ ∀ m o, m < nM τ → o < nM τ → Ot (60 * m + o) = b2i (OvS τ m o))) 5 (pM b cI cZ (rwR 14 τ O1)) 24 [some (.ref (b 0)), some (.int (nI t)), none, none, none] [] := by
    intro n
    induction n with
    | zero => intro t O1 h1 h2; omega
    | succ n ih =>
      intro t O1 ht1 ht2 hI
      have lu : t < nT τ → ∀ (u : Nat) (O1 : Nat → Int32), u ≤ t → WInv τ O1 (fun a c => decide (Of τ a < t) || (decide (Of τ a = t) && decide (u ≤ Of τ c))) → G p l e (rmo 4 88) s m ([.ref (b 0)] : List Value).toArray below meth c D (va_A (pM b cI cZ τ) s.heap.size) 0 0 (Qe below ([.ref (b 0)] : List Value).toArray s D (pM b cI cZ) τ (fun r v => r = none ∧ ∃ Ot, v = rwR 14 τ Ot ∧ bool01 Ot ∧ ∀ m o, m < nM τ → o < nM τ → Ot (60 * m + o) = b2i (OvS τ m o))) 5 (pM b cI cZ (rwR 14 τ O1)) 36 [some (.ref (b 0)), some (.int (nI t)), some (.int (nI u - 1)), none, none] [] := by
        intro ht u
        induction u with
        | zero =>
          intro O1 hu hI
          refine g_iload_n C dX6_work_36 rfl ?_
          refine g_if_lt (tgt := 179) C dX6_work_37 (by decide) (fun h37 => ?_) (fun h37 => ?_)
          · refine g_iincN C dX6_work_179 rfl (by decide) ?_
            refine g_goto (tgt := 24) C dX6_work_182 (by decide) ?_
            exact (ih (t + 1) O1 (by omega) (by omega) (hI.to (fun a c ha hc _ => by have := w0_ofl hW ha; simp; by_cases h : Of τ a < t <;> by_cases h2 : Of τ a = t <;> simp [h, h2] <;> omega))).weak (by simp [lvle, lst])
          · exact absurd (by decide) h37
        | succ u ihu =>
          intro O1 hu hI
          rw [show nI (u + 1) - 1 = nI u from nI_pred u]
          have lm : ∀ (k m1 : Nat) (O1 : Nat → Int32), m1 ≤ nM τ → nM τ + 1 ≤ m1 + k → WInv τ O1 (fun a c => decide (Of τ a < t) || (decide (Of τ a = t) && decide (u < Of τ c)) || (decide (Of τ a = t) && decide (Of τ c = u) && decide (a < m1))) → G p l e (rmo 4 88) s m ([.ref (b 0)] : List Value).toArray below meth c D (va_A (pM b cI cZ τ) s.heap.size) 0 0 (Qe below ([.ref (b 0)] : List Value).toArray s D (pM b cI cZ) τ (fun r v => r = none ∧ ∃ Ot, v = rwR 14 τ Ot ∧ bool01 Ot ∧ ∀ m o, m < nM τ → o < nM τ → Ot (60 * m + o) = b2i (OvS τ m o))) 5 (pM b cI cZ (rwR 14 τ O1)) 42 [some (.ref (b 0)), some (.int (nI t)), some (.int (nI u)), some (.int (nI m1)), none] [] := by
            intro k
            induction k with
            | zero => intro m1 O1 h1 h2; omega
            | succ k ihk =>
              intro m1 O1 hm1 hm2 hI
              have hW1 : W0 (rwR 14 τ O1) := W0_14 hW hI.1
              have j173 : WInv τ O1 (fun a c => decide (Of τ a < t) || (decide (Of τ a = t) && decide (u ≤ Of τ c))) → G p l e (rmo 4 88) s m ([.ref (b 0)] : List Value).toArray below meth c D (va_A (pM b cI cZ τ) s.heap.size) 0 0 (Qe below ([.ref (b 0)] : List Value).toArray s D (pM b cI cZ) τ (fun r v => r = none ∧ ∃ Ot, v = rwR 14 τ Ot ∧ bool01 Ot ∧ ∀ m o, m < nM τ → o < nM τ → Ot (60 * m + o) = b2i (OvS τ m o))) 5 (pM b cI cZ (rwR 14 τ O1)) 173 [some (.ref (b 0)), some (.int (nI t)), some (.int (nI u)), none, none] [] := by
                intro hI
                refine g_iinc (v := -1) C dX6_work_173 rfl (by decide) (by decide) ?_
                rw [show nI u + -1 = nI u - 1 from (Int32.sub_eq_add_neg ..).symm]
                refine g_goto (tgt := 36) C dX6_work_176 (by decide) ?_
                exact ihu O1 (by omega) hI
              have lo : m1 < nM τ → Bel τ t u = true → ∀ (q o1 : Nat) (O1 : Nat → Int32), o1 ≤ nM τ → nM τ + 1 ≤ o1 + q → WInv τ O1 (fun a c => decide (Of τ a < t) || (decide (Of τ a = t) && decide (u < Of τ c)) || (decide (Of τ a = t) && decide (Of τ c = u) && decide (a < m1)) || (decide (a = m1) && decide (Of τ a = t) && decide (Of τ c = u) && decide (c < o1))) → G p l e (rmo 4 88) s m ([.ref (b 0)] : List Value).toArray below meth c D (va_A (pM b cI cZ τ) s.heap.size) 0 0 (Qe below ([.ref (b 0)] : List Value).toArray s D (pM b cI cZ) τ (fun r v => r = none ∧ ∃ Ot, v = rwR 14 τ Ot ∧ bool01 Ot ∧ ∀ m o, m < nM τ → o < nM τ → Ot (60 * m + o) = b2i (OvS τ m o))) 5 (pM b cI cZ (rwR 14 τ O1)) 62 [some (.ref (b 0)), some (.int (nI t)), some (.int (nI u)), some (.int (nI m1)), some (.int (nI o1))] [] := by
                intro hm hb q
                have hofm := w0_ofl hW hm
                induction q with
                | zero => intro o1 O1 h1 h2; omega
                | succ q ihq =>
                  intro o1 O1 ho1 ho2 hI
                  have hW1 : W0 (rwR 14 τ O1) := W0_14 hW hI.1
                  have j167 : (Of τ m1 = t → o1 = nM τ) → G p l e (rmo 4 88) s m ([.ref (b 0)] : List Value).toArray below meth c D (va_A (pM b cI cZ τ) s.heap.size) 0 0 (Qe below ([.ref (b 0)] : List Value).toArray s D (pM b cI cZ) τ (fun r v => r = none ∧ ∃ Ot, v = rwR 14 τ Ot ∧ bool01 Ot ∧ ∀ m o, m < nM τ → o < nM τ → Ot (60 * m + o) = b2i (OvS τ m o))) 5 (pM b cI cZ (rwR 14 τ O1)) 167 [some (.ref (b 0)), some (.int (nI t)), some (.int (nI u)), some (.int (nI m1)), none] [] := by
                    intro he
                    refine g_iincN C dX6_work_167 rfl (by decide) ?_
                    refine g_goto (tgt := 42) C dX6_work_170 (by decide) ?_
                    exact ihk (m1 + 1) O1 (by omega) (by omega) (hI.to (fun a c ha hc _ => by rw [Bool.eq_iff_iff]; simp only [Bool.or_eq_true, Bool.and_eq_true, decide_eq_true_eq]; constructor <;> intro hh <;> (rcases (show a = m1 ∨ a ≠ m1 by omega) with h5 | h5) <;> first | (subst h5; omega) | omega))
                  have j161 : o1 < nM τ → ∀ (O2 : Nat → Int32), WInv τ O2 (fun a c => decide (Of τ a < t) || (decide (Of τ a = t) && decide (u < Of τ c)) || (decide (Of τ a = t) && decide (Of τ c = u) && decide (a < m1)) || (decide (a = m1) && decide (Of τ a = t) && decide (Of τ c = u) && decide (c < (o1 + 1)))) → G p l e (rmo 4 88) s m ([.ref (b 0)] : List Value).toArray below meth c D (va_A (pM b cI cZ τ) s.heap.size) 0 0 (Qe below ([.ref (b 0)] : List Value).toArray s D (pM b cI cZ) τ (fun r v => r = none ∧ ∃ Ot, v = rwR 14 τ Ot ∧ bool01 Ot ∧ ∀ m o, m < nM τ → o < nM τ → Ot (60 * m + o) = b2i (OvS τ m o))) 5 (pM b cI cZ (rwR 14 τ O2)) 161 [some (.ref (b 0)), some (.int (nI t)), some (.int (nI u)), some (.int (nI m1)), some (.int (nI o1))] [] := by
                    intro ho O2 hI
                    refine g_iincN C dX6_work_161 rfl (by decide) ?_
                    refine g_goto (tgt := 62) C dX6_work_164 (by decide) ?_
                    exact ihq (o1 + 1) O2 (by omega) (by omega) hI
                  refine g_iload C dX6_work_62 rfl ?_
                  refine g_aload_n C dX6_work_64 rfl ?_
                  refine gn_X6_70 C (v := nI (nM τ)) (show τ 0 2 = _ from w0_m hW) dX6_work_65 ?_
                  refine g_icmpN_ge (tgt := 167) C (by omega) (by omega) dX6_work_68 (by decide) (fun h68 => ?_) (fun h68 => ?_)
                  · exact (j167 (fun _ => by omega)).weak (by simp [lvle, lst])
                  · refine g_aload_n C dX6_work_71 rfl ?_
                    have ho : o1 < nM τ := ‹_›
                    have hofo := w0_ofl hW ho
                    refine gf_X6_35 C dX6_work_72 ?_
                    refine g_iload_n C dX6_work_75 rfl ?_
                    refine gM_lv9 C (by omega) (v := nI (Of τ _)) (show τ 9 _ = nI (Of τ _) from w0_of hW (by omega)) dX6_work_76 ?_
                    refine g_iload_n C dX6_work_77 rfl ?_
                    refine g_icmpN_ne (tgt := 167) C (by omega) (by omega) dX6_work_78 (by decide) (fun h78 => ?_) (fun h78 => ?_)
                    · exact (j167 (fun h => absurd h h78)).weak (by simp [lvle, lst])
                    · refine g_aload_n C dX6_work_81 rfl ?_
                      refine gf_X6_35 C dX6_work_82 ?_
                      refine g_iload C dX6_work_85 rfl ?_
                      refine gM_lv9 C (by omega) (v := nI (Of τ _)) (show τ 9 _ = nI (Of τ _) from w0_of hW (by omega)) dX6_work_87 ?_
                      refine g_iload_n C dX6_work_88 rfl ?_
                      refine g_icmpN_ne (tgt := 161) C (by omega) (by omega) dX6_work_89 (by decide) (fun h89 => ?_) (fun h89 => ?_)
                      · exact j161 ho O1 (hI.to (fun a c ha hc _ => by rw [Bool.eq_iff_iff]; simp only [Bool.or_eq_true, Bool.and_eq_true, decide_eq_true_eq]; constructor <;> intro hh <;> (rcases (show c = o1 ∨ c ≠ o1 by omega) with h5 | h5) <;> first | (subst h5; omega) | omega))
                      · refine g_aload_n C dX6_work_92 rfl ?_
                        refine gf_X6_50 C dX6_work_93 ?_
                        refine g_bipushN 60 C dX6_work_96 (by decide) ?_
                        refine g_iload_n C dX6_work_98 rfl ?_
                        refine g_imulN C dX6_work_99 ?_
                        refine g_iload C dX6_work_100 rfl ?_
                        refine g_iaddN C dX6_work_102 ?_
                        refine g_aload_n C dX6_work_103 rfl ?_
                        refine gf_X6_38 C dX6_work_104 ?_
                        refine g_iload_n C dX6_work_107 rfl ?_
                        refine gM_ln10 C (by omega) dX6_work_108 ?_
                        refine g_aload_n C dX6_work_109 rfl ?_
                        refine gf_X6_38 C dX6_work_110 ?_
                        refine g_iload C dX6_work_113 rfl ?_
                        refine gM_ln10 C (by omega) dX6_work_115 ?_
                        refine g_icmp_ne (tgt := 159) C dX6_work_116 (by decide) (fun h116 => ?_) (fun h116 => ?_)
                        · refine g_iconst (v := 0) C dX6_work_159 (by decide) ?_
                          refine gM_sn14 C (by omega) (by decide +kernel) dX6_work_160 ?_
                          rw [rwR_up]
                          exact j161 ho _ ((WInv_put hI (m := m1) (o := o1) (by omega) (by omega) hMl (by rw [GoB_W hW hB hI hm ho (by rw [show Of τ m1 = t from h78, show Of τ o1 = u from h89]; exact hb) (fun z hz h1 h2 => by rw [show Of τ m1 = t from h78] at h2 ⊢; rw [show Of τ o1 = u from h89] at h1 ⊢; simp [h1, h2, show Of τ m1 = t from h78])]; simp [show ¬ τ 10 m1 = τ 10 o1 from h116, b2i])).to (fun a c ha hc _ => by rw [Bool.eq_iff_iff]; simp only [Bool.or_eq_true, Bool.and_eq_true, decide_eq_true_eq]; have e1 : Of τ m1 = t := h78; have e2 : Of τ o1 = u := h89; constructor <;> intro hh <;> (rcases (show c = o1 ∨ c ≠ o1 by omega) with h5 | h5) <;> (rcases (show a = m1 ∨ a ≠ m1 by omega) with h6 | h6) <;> first | (subst h5; subst h6; omega) | (subst h5; omega) | (subst h6; omega) | omega))
                        · refine g_aload_n C dX6_work_119 rfl ?_
                          refine g_iload_n C dX6_work_120 rfl ?_
                          refine g_callVr 0 C (cr_X6_isStatic (by omega)) mw_X6_isStatic ml_X6_117 rfl rfl rfl rfl (Nat.le_of_ble_eq_true rfl) dX6_work_121 ⟨Nat.le_of_ble_eq_true rfl, Nat.le_of_ble_eq_true rfl⟩ ⟨Nat.le_of_ble_eq_true rfl, Nat.le_of_ble_eq_true rfl⟩ ?_
                          refine g_ifb_ne (tgt := 159) C dX6_work_124 (by decide) (fun h124 => ?_) (fun h124 => ?_)
                          · refine g_iconst (v := 0) C dX6_work_159 (by decide) ?_
                            refine gM_sn14 C (by omega) (by decide +kernel) dX6_work_160 ?_
                            rw [rwR_up]
                            exact j161 ho _ ((WInv_put hI (m := m1) (o := o1) (by omega) (by omega) hMl (by rw [GoB_W hW hB hI hm ho (by rw [show Of τ m1 = t from h78, show Of τ o1 = u from h89]; exact hb) (fun z hz h1 h2 => by rw [show Of τ m1 = t from h78] at h2 ⊢; rw [show Of τ o1 = u from h89] at h1 ⊢; simp [h1, h2, show Of τ m1 = t from h78])]; simp [show τ 10 m1 = τ 10 o1 from h116, show Hs τ m1 8 = true from h124, b2i])).to (fun a c ha hc _ => by rw [Bool.eq_iff_iff]; simp only [Bool.or_eq_true, Bool.and_eq_true, decide_eq_true_eq]; have e1 : Of τ m1 = t := h78; have e2 : Of τ o1 = u := h89; constructor <;> intro hh <;> (rcases (show c = o1 ∨ c ≠ o1 by omega) with h5 | h5) <;> (rcases (show a = m1 ∨ a ≠ m1 by omega) with h6 | h6) <;> first | (subst h5; subst h6; omega) | (subst h5; omega) | (subst h6; omega) | omega))
                          · refine g_aload_n C dX6_work_127 rfl ?_
                            refine g_iload C dX6_work_128 rfl ?_
                            refine g_callVr 0 C (cr_X6_isStatic (by omega)) mw_X6_isStatic ml_X6_117 rfl rfl rfl rfl (Nat.le_of_ble_eq_true rfl) dX6_work_130 ⟨Nat.le_of_ble_eq_true rfl, Nat.le_of_ble_eq_true rfl⟩ ⟨Nat.le_of_ble_eq_true rfl, Nat.le_of_ble_eq_true rfl⟩ ?_
                            refine g_ifb_ne (tgt := 159) C dX6_work_133 (by decide) (fun h133 => ?_) (fun h133 => ?_)
                            · refine g_iconst (v := 0) C dX6_work_159 (by decide) ?_
                              refine gM_sn14 C (by omega) (by decide +kernel) dX6_work_160 ?_
                              rw [rwR_up]
                              exact j161 ho _ ((WInv_put hI (m := m1) (o := o1) (by omega) (by omega) hMl (by rw [GoB_W hW hB hI hm ho (by rw [show Of τ m1 = t from h78, show Of τ o1 = u from h89]; exact hb) (fun z hz h1 h2 => by rw [show Of τ m1 = t from h78] at h2 ⊢; rw [show Of τ o1 = u from h89] at h1 ⊢; simp [h1, h2, show Of τ m1 = t from h78])]; simp [show τ 10 m1 = τ 10 o1 from h116, show Hs τ m1 8 = false from h124, show Hs τ o1 8 = true from h133, b2i])).to (fun a c ha hc _ => by rw [Bool.eq_iff_iff]; simp only [Bool.or_eq_true, Bool.and_eq_true, decide_eq_true_eq]; have e1 : Of τ m1 = t := h78; have e2 : Of τ o1 = u := h89; constructor <;> intro hh <;> (rcases (show c = o1 ∨ c ≠ o1 by omega) with h5 | h5) <;> (rcases (show a = m1 ∨ a ≠ m1 by omega) with h6 | h6) <;> first | (subst h5; subst h6; omega) | (subst h5; omega) | (subst h6; omega) | omega))
                            · refine g_aload_n C dX6_work_136 rfl ?_
                              refine g_iload C dX6_work_137 rfl ?_
                              refine g_callVr 0 C (cr_X6_isPrivate (by omega)) mw_X6_isPrivate ml_X6_120 rfl rfl rfl rfl (Nat.le_of_ble_eq_true rfl) dX6_work_139 ⟨Nat.le_of_ble_eq_true rfl, Nat.le_of_ble_eq_true rfl⟩ ⟨Nat.le_of_ble_eq_true rfl, Nat.le_of_ble_eq_true rfl⟩ ?_
                              refine g_ifb_ne (tgt := 159) C dX6_work_142 (by decide) (fun h142 => ?_) (fun h142 => ?_)
                              · refine g_iconst (v := 0) C dX6_work_159 (by decide) ?_
                                refine gM_sn14 C (by omega) (by decide +kernel) dX6_work_160 ?_
                                rw [rwR_up]
                                exact j161 ho _ ((WInv_put hI (m := m1) (o := o1) (by omega) (by omega) hMl (by rw [GoB_W hW hB hI hm ho (by rw [show Of τ m1 = t from h78, show Of τ o1 = u from h89]; exact hb) (fun z hz h1 h2 => by rw [show Of τ m1 = t from h78] at h2 ⊢; rw [show Of τ o1 = u from h89] at h1 ⊢; simp [h1, h2, show Of τ m1 = t from h78])]; simp [show τ 10 m1 = τ 10 o1 from h116, show Hs τ m1 8 = false from h124, show Hs τ o1 8 = false from h133, show Hs τ o1 4 = true from h142, b2i])).to (fun a c ha hc _ => by rw [Bool.eq_iff_iff]; simp only [Bool.or_eq_true, Bool.and_eq_true, decide_eq_true_eq]; have e1 : Of τ m1 = t := h78; have e2 : Of τ o1 = u := h89; constructor <;> intro hh <;> (rcases (show c = o1 ∨ c ≠ o1 by omega) with h5 | h5) <;> (rcases (show a = m1 ∨ a ≠ m1 by omega) with h6 | h6) <;> first | (subst h5; subst h6; omega) | (subst h5; omega) | (subst h6; omega) | omega))
                              · refine g_aload_n C dX6_work_145 rfl ?_
                                refine g_iload_n C dX6_work_146 rfl ?_
                                refine g_iload C dX6_work_147 rfl ?_
                                refine g_callVr 0 C (cr_X6_goesOver hW1 (x := m1) (o := o1) hm ho) mw_X6_goesOver ml_X6_123 rfl rfl rfl rfl (Nat.le_of_ble_eq_true rfl) dX6_work_149 ⟨Nat.le_of_ble_eq_true rfl, Nat.le_of_ble_eq_true rfl⟩ ⟨Nat.le_of_ble_eq_true rfl, Nat.le_of_ble_eq_true rfl⟩ ?_
                                refine g_ifb_eq (tgt := 159) C dX6_work_152 (by decide) (fun h152 => ?_) (fun h152 => ?_)
                                · refine g_iconst (v := 0) C dX6_work_159 (by decide) ?_
                                  refine gM_sn14 C (by omega) (by decide +kernel) dX6_work_160 ?_
                                  rw [rwR_up]
                                  exact j161 ho _ ((WInv_put hI (m := m1) (o := o1) (by omega) (by omega) hMl (by rw [GoB_W hW hB hI hm ho (by rw [show Of τ m1 = t from h78, show Of τ o1 = u from h89]; exact hb) (fun z hz h1 h2 => by rw [show Of τ m1 = t from h78] at h2 ⊢; rw [show Of τ o1 = u from h89] at h1 ⊢; simp [h1, h2, show Of τ m1 = t from h78])]; simp [show τ 10 m1 = τ 10 o1 from h116, show Hs τ m1 8 = false from h124, show Hs τ o1 8 = false from h133, show Hs τ o1 4 = false from h142, show GoB (rwR 14 τ O1) m1 o1 = false from h152, b2i])).to (fun a c ha hc _ => by rw [Bool.eq_iff_iff]; simp only [Bool.or_eq_true, Bool.and_eq_true, decide_eq_true_eq]; have e1 : Of τ m1 = t := h78; have e2 : Of τ o1 = u := h89; constructor <;> intro hh <;> (rcases (show c = o1 ∨ c ≠ o1 by omega) with h5 | h5) <;> (rcases (show a = m1 ∨ a ≠ m1 by omega) with h6 | h6) <;> first | (subst h5; subst h6; omega) | (subst h5; omega) | (subst h6; omega) | omega))
                                · refine g_iconst (v := 1) C dX6_work_155 (by decide) ?_
                                  refine g_goto (tgt := 160) C dX6_work_156 (by decide) ?_
                                  refine gM_sn14 C (by omega) (by decide +kernel) dX6_work_160 ?_
                                  rw [rwR_up]
                                  exact j161 ho _ ((WInv_put hI (m := m1) (o := o1) (by omega) (by omega) hMl (by rw [GoB_W hW hB hI hm ho (by rw [show Of τ m1 = t from h78, show Of τ o1 = u from h89]; exact hb) (fun z hz h1 h2 => by rw [show Of τ m1 = t from h78] at h2 ⊢; rw [show Of τ o1 = u from h89] at h1 ⊢; simp [h1, h2, show Of τ m1 = t from h78])]; simp [show τ 10 m1 = τ 10 o1 from h116, show Hs τ m1 8 = false from h124, show Hs τ o1 8 = false from h133, show Hs τ o1 4 = false from h142, show GoB (rwR 14 τ O1) m1 o1 = true from h152, b2i])).to (fun a c ha hc _ => by rw [Bool.eq_iff_iff]; simp only [Bool.or_eq_true, Bool.and_eq_true, decide_eq_true_eq]; have e1 : Of τ m1 = t := h78; have e2 : Of τ o1 = u := h89; constructor <;> intro hh <;> (rcases (show c = o1 ∨ c ≠ o1 by omega) with h5 | h5) <;> (rcases (show a = m1 ∨ a ≠ m1 by omega) with h6 | h6) <;> first | (subst h5; subst h6; omega) | (subst h5; omega) | (subst h6; omega) | omega))
              refine g_iload_n C dX6_work_42 rfl ?_
              refine g_aload_n C dX6_work_43 rfl ?_
              refine gn_X6_70 C (v := nI (nM τ)) (show τ 0 2 = _ from w0_m hW) dX6_work_44 ?_
              refine g_icmpN_ge (tgt := 173) C (by omega) (by omega) dX6_work_47 (by decide) (fun h47 => ?_) (fun h47 => ?_)
              · exact (j173 (hI.to (fun a c ha hc _ => by rw [Bool.eq_iff_iff]; simp only [Bool.or_eq_true, Bool.and_eq_true, decide_eq_true_eq]; omega))).weak (by simp [lvle, lst])
              · refine g_aload_n C dX6_work_50 rfl ?_
                refine g_iload_n C dX6_work_51 rfl ?_
                refine g_iload_n C dX6_work_52 rfl ?_
                refine g_callVr 0 C (cr_X6_isBelow hW1 (t := t) (u := u) (by omega) (by omega)) mw_X6_isBelow ml_X6_90 rfl rfl rfl rfl (Nat.le_of_ble_eq_true rfl) dX6_work_53 ⟨Nat.le_of_ble_eq_true rfl, Nat.le_of_ble_eq_true rfl⟩ ⟨Nat.le_of_ble_eq_true rfl, Nat.le_of_ble_eq_true rfl⟩ ?_
                refine g_ifb_eq (tgt := 173) C dX6_work_56 (by decide) (fun h56 => ?_) (fun h56 => ?_)
                · exact (j173 (hI.to (fun a c ha hc hv => by have h1 := w0_ofl hW ha; have h2 := w0_ofl hW hc; rw [OvS_eq hW hB ha hc] at hv; simp only [ovB, Bool.and_eq_true] at hv; have hv := hv.1.1.1.1.1; rw [Bool.eq_iff_iff]; simp only [Bool.or_eq_true, Bool.and_eq_true, decide_eq_true_eq]; have : ¬ (Of τ a = t ∧ Of τ c = u) := (fun h => by rw [h.1, h.2, show Bel τ t u = false from h56] at hv; cases hv); omega))).weak (by simp [lvle, lst])
                · refine g_iconstN 0 C dX6_work_59 (by decide) ?_
                  refine g_istore C dX6_work_60 (by decide) ?_
                  exact lo (by omega) (show Bel τ t u = true from h56) (nM τ + 1) 0 O1 (by omega) (by omega) (hI.to (fun a c ha hc _ => by simp))
          refine g_iload_n C dX6_work_36 rfl ?_
          refine g_if_lt (tgt := 179) C dX6_work_37 (by decide) (fun h37 => ?_) (fun h37 => ?_)
          · exact absurd h37 (nI_pos (by omega))
          · refine g_iconstN 0 C dX6_work_40 (by decide) ?_
            refine g_istore_n C dX6_work_41 (by decide) ?_
            exact (lm (nM τ + 1) 0 O1 (by omega) (by omega) (hI.to (fun a c ha hc _ => by rw [Bool.eq_iff_iff]; simp only [Bool.or_eq_true, Bool.and_eq_true, decide_eq_true_eq]; omega))).weak (by simp [lvle, lst])
      refine g_iload_n C dX6_work_24 rfl ?_
      refine g_aload_n C dX6_work_25 rfl ?_
      refine gn_X6_62 C (v := nI (nT τ)) (show τ 0 0 = _ from w0_t hW) dX6_work_26 ?_
      refine g_icmpN_ge (tgt := 185) C (by omega) (by omega) dX6_work_29 (by decide) (fun h29 => ?_) (fun h29 => ?_)
      · exact g_vret C dX6_work_185 ⟨rfl, O1, rfl, hI.1, fun a c ha hc => by rw [hI.2 a c ha hc]; have := w0_ofl hW ha; simp [show Of τ a < t by omega]⟩
      · refine g_iload_n C dX6_work_32 rfl ?_
        refine g_iconst (v := 1) C dX6_work_33 (by decide) ?_
        refine g_isub C dX6_work_34 ?_
        refine g_istore_n C dX6_work_35 (by decide) ?_
        exact lu (by omega) t O1 (by omega) (hI.to (fun a c ha hc hv => by have h1 := w0_ofl hW ha; have h2 := w0_ofl hW hc; rw [OvS_eq hW hB ha hc] at hv; simp only [ovB, Bool.and_eq_true] at hv; have hv := hB _ _ h1 (by omega) hv.1.1.1.1.1; rw [Bool.eq_iff_iff]; simp only [Bool.or_eq_true, Bool.and_eq_true, decide_eq_true_eq]; omega))
  have lz : ∀ (n i : Nat) (O1 : Nat → Int32), i ≤ 3600 → 3601 ≤ i + n → bool01 O1 → (∀ j, j < i → O1 j = 0) → G p l e (rmo 4 88) s m ([.ref (b 0)] : List Value).toArray below meth c D (va_A (pM b cI cZ τ) s.heap.size) 0 0 (Qe below ([.ref (b 0)] : List Value).toArray s D (pM b cI cZ) τ (fun r v => r = none ∧ ∃ Ot, v = rwR 14 τ Ot ∧ bool01 Ot ∧ ∀ m o, m < nM τ → o < nM τ → Ot (60 * m + o) = b2i (OvS τ m o))) 5 (pM b cI cZ (rwR 14 τ O1)) 2 [some (.ref (b 0)), some (.int (nI i)), none, none, none] [] := by
    intro n
    induction n with
    | zero => intro i O1 h1 h2; omega
    | succ n ih =>
      intro i O1 h1 h2 hb hz
      refine g_iload_n C dX6_work_2 rfl ?_
      refine g_sipushN 3600 C dX6_work_3 (by decide) ?_
      refine g_icmpN_ge (tgt := 22) C (by omega) (by omega) dX6_work_6 (by decide) (fun h6 => ?_) (fun h6 => ?_)
      · refine g_iconstN 0 C dX6_work_22 (by decide) ?_
        refine g_istore_n C dX6_work_23 (by decide) ?_
        exact lt (nT τ + 1) 0 O1 (by omega) (by omega) ⟨hb, fun a c ha hc => by rw [hz _ (by omega)]; simp [b2i]⟩
      · refine g_aload_n C dX6_work_9 rfl ?_
        refine gf_X6_50 C dX6_work_10 ?_
        refine g_iload_n C dX6_work_13 rfl ?_
        refine g_iconst (v := 0) C dX6_work_14 (by decide) ?_
        refine gM_sn14 C (by omega) (by decide +kernel) dX6_work_15 ?_
        rw [rwR_up]
        refine g_iincN C dX6_work_16 rfl (by decide) ?_
        refine g_goto (tgt := 2) C dX6_work_19 (by decide) ?_
        exact ih (i + 1) _ (by omega) (by omega) (bool01_upd hb (Or.inl rfl)) (fun j hj => by by_cases e : j = i <;> simp [upd, e]; exact hz j (by omega))
  have h0 : pM b cI cZ τ = pM b cI cZ (rwR 14 τ (τ 14)) := by rw [rwR_self]
  have hz0 := lz 3601 0 (τ 14) (by omega) (by omega) hW.2.2.2.2.2.2.2.2 (fun j hj => by omega)
  rw [← h0] at hz0
  refine g_iconstN 0 C dX6_work_0 (by decide) ?_
  refine g_istore_n C dX6_work_1 (by decide) ?_
  exact hz0

/-! ===== somebody is chosen; how many faults there can be ===== -/
section JD
variable {τ σ : St}
theorem chain_at (h : Inv τ σ) {o : Nat} (ho : o < nM τ) : ∀ (s : Nat), s < nT τ → ∀ n, chO (τ 3) (fun u => fstN (nM τ) (ChX τ o u)) (nI s) = some n → n < nM τ ∧ (Of τ n = s ∨ Bel τ s (Of τ n) = true) := by
  intro s
  have hTl := w0_tl (iW h)
  induction s using Nat.strongRecOn with
  | ind s ih =>
    intro hs n hn
    rw [chC_step (N := nT τ) (by omega) (fun z hz => w0_pa (iW h) hz) hs] at hn
    cases hf : fstN (nM τ) (ChX τ o s) with
    | some k =>
      rw [hf] at hn
      simp only at hn
      cases hn
      obtain ⟨a, b, -⟩ := fstN_is hf
      simp only [ChX, Bool.and_eq_true, decide_eq_true_eq] at b
      exact ⟨a, Or.inl b.1.1.1⟩
    | none =>
      rw [hf] at hn
      simp only at hn
      rcases w0_pa (iW h) hs with q | ⟨p, hp, q⟩
      · rw [q] at hn; simp [chO] at hn
      · rw [q] at hn
        obtain ⟨a, b⟩ := ih p hp (by omega) n hn
        refine ⟨a, Or.inr ?_⟩
        have hb := par_bel h hs q hp
        rcases b with b | b
        · rw [b]; exact hb
        · exact i_tr h hs (by omega) (w0_ofl (iW h) a) hb b
theorem chain_has (h : Inv τ σ) {o : Nat} (ho : o < nM τ) (hp : Pln τ o = true) (hc : ¬ τ 1 (Of τ o) = 2) : ∀ (s : Nat), s < nT τ → (s = Of τ o ∨ BelS τ s (Of τ o) = true) → chO (τ 3) (fun u => fstN (nM τ) (ChX τ o u)) (nI s) ≠ none := by
  intro s
  have hTl := w0_tl (iW h)
  induction s using Nat.strongRecOn with
  | ind s ih =>
    intro hs hso
    rw [chC_step (N := nT τ) (by omega) (fun z hz => w0_pa (iW h) hz) hs]
    cases hf : fstN (nM τ) (ChX τ o s) with
    | some k => simp
    | none =>
      simp only
      have hne : ¬ s = Of τ o := fun e => by
        have := fstN_nn hf o ho
        subst e
        simp [ChX, hp] at this
      have hb := hso.resolve_left hne
      obtain ⟨p, hpp, e, q⟩ := cls_par h hs hc hb
      rw [e]
      exact ih p hpp (by omega) (q.elim (fun z => Or.inl z.symm) Or.inr)
/-- there is a last one among the interfaces -/
theorem last_is (h : Inv τ σ) {t o : Nat} (ht : t < nT τ) (ho : o < nM τ) : ∀ (d x : Nat), 16 ≤ Of τ x + d → x < nM τ → τ 10 x = τ 10 o → Pln τ x = true → Ifc τ x = true → Bel τ t (Of τ x) = true → ∃ n, n < nM τ ∧ ChI τ t o n = true := by
  intro d
  have hTl := w0_tl (iW h)
  induction d with
  | zero => intro x hd hx; have := w0_ofl (iW h) hx; omega
  | succ d ih =>
    intro x hd hx h1 h2 h3 h4
    cases hl : LasB τ t x with
    | true => exact ⟨x, hx, by simp [ChI, h1, h2, h3, h4, hl]⟩
    | false =>
      rw [LasB, Bool.not_eq_false', anyN_iff] at hl
      obtain ⟨z, hz, q⟩ := hl
      simp only [LasX, Bool.and_eq_true, decide_eq_true_eq] at q
      have := i_dn h _ _ (w0_ofl (iW h) hz) (by have := w0_ofl (iW h) hx; omega) q.2
      exact ih z (by omega) hz (q.1.1.1.1.trans h1) q.1.1.1.2 q.1.1.2 q.1.2
def ChOk2 (τ : St) (t o : Nat) : Prop := Chs τ t o = -5 ∨ ∃ n, n < nM τ ∧ Chs τ t o = nI n ∧ (Of τ n = t ∨ Bel τ t (Of τ n) = true)
theorem chOk2 (h : Inv τ σ) {t o : Nat} (ht : t < nT τ) (ho : o < nM τ) (hp : Pln τ o = true) (hb : SubB τ t (Of τ o) = true) : ChOk2 τ t o := by
  have hTl := w0_tl (iW h)
  have hMl := w0_ml (iW h)
  have hof := w0_ofl (iW h) ho
  have hb2 : t = Of τ o ∨ Bel τ t (Of τ o) = true := by simpa [SubB] using hb
  cases hq : chO (τ 3) (fun u => fstN (nM τ) (ChX τ o u)) (nI t) with
  | some n =>
    obtain ⟨a, b⟩ := chain_at h ho t ht n hq
    exact Or.inr ⟨n, a, by simp only [Chs, hq], b⟩
  | none =>
    have e : Chs τ t o = ChsI τ t o := by simp only [Chs, hq]
    by_cases hi : τ 1 (Of τ o) = 2
    · have hne : ¬ t = Of τ o := fun z => by
        subst z
        have := chC_step (pa := τ 3) (g := fun u => fstN (nM τ) (ChX τ o u)) (N := nT τ) (by omega) (fun z hz => w0_pa (iW h) hz) ht
        rw [hq] at this
        cases hf : fstN (nM τ) (ChX τ o (Of τ o)) with
        | some k => rw [hf] at this; simp at this
        | none =>
          have := fstN_nn hf o ho
          simp [ChX, hp] at this
      have hbb := hb2.resolve_left hne
      obtain ⟨n0, hn0, hc0⟩ := last_is h ht ho 16 o (by omega) ho rfl hp (by simp [Ifc, hi]) hbb
      rw [ChOk2, e]
      by_cases g : 1 < (choI τ t o (nM τ)).1 ∧ (choI τ t o (nM τ)).2.2 = true
      · left; rw [ChsI, if_pos g]
      · right
        have e2 : ChsI τ t o = (choF (ChI τ t o) (fun i => Hs τ i 64) (nM τ)).2.1 := by rw [ChsI, if_neg g]
        rw [choF_2 _ (by omega)] at e2
        cases hf : fstN (nM τ) (ChI τ t o) with
        | none => have := fstN_nn hf n0 hn0; rw [hc0] at this; cases this
        | some k =>
          rw [hf] at e2
          obtain ⟨a, b, -⟩ := fstN_is hf
          simp only [ChI, Bool.and_eq_true] at b
          exact ⟨k, a, e2, Or.inr b.1.2⟩
    · exfalso
      refine chain_has h ho hp hi t ht ?_ hq
      rcases hb2 with z | z
      · exact Or.inl z
      · exact Or.inr (by rw [← i_bel h ht (by omega)]; exact z)
theorem inhC_of {t o : Nat} (h : inhC τ t o = true) : Pln τ o = true ∧ SubB τ t (Of τ o) = true := by
  simp only [inhC, Bool.and_eq_true] at h
  exact ⟨h.1.1, by simp [SubB, h.1.2]⟩
theorem thrL_le (m o : Nat) : (thrL τ m o).length ≤ 3 := by
  simp only [thrL, List.length_append]
  have a : (if Acc τ m < Acc τ o then [((3 : Int32), nI m, nI o)] else []).length ≤ 1 := by split <;> simp
  have b : (if Sts τ (Rs τ m) (Rs τ o) = true then [] else [((4 : Int32), nI m, nI o)]).length ≤ 1 := by split <;> simp
  have c : (if ThB τ m o = true then [((5 : Int32), nI m, nI o)] else []).length ≤ 1 := by split <;> simp
  omega
theorem pairL_le (h : Inv τ σ) {m o : Nat} (hm : m < nM τ) (ho : o < nM τ) : (pairL τ m o).length ≤ 4 := by
  have ht := thrL_le (τ := τ) m o
  simp only [pairL, List.length_append]
  have b : (if Hs τ o 16 = true then [((2 : Int32), nI m, nI o)] else []).length ≤ 1 := by split <;> simp
  cases hx : Mix τ m o with
  | false =>
    simp only [Bool.false_eq_true, ↓reduceIte, List.length_nil]
    split
    · rw [List.length_append]; omega
    · simp
  | true =>
    have hn : (Ov τ m o || Hid τ m o) = false := by
      rw [i_ov h hm ho]
      cases hv : OvS τ m o with
      | true =>
        have q := ovb_of (ovS_ovB h hm ho hv)
        simp [Mix, q.2.2.1, q.2.2.2.1] at hx
      | false =>
        cases hh : Hid τ m o with
        | false => rfl
        | true =>
          simp only [Hid, Bool.and_eq_true] at hh
          simp [Mix, hh.1.1.1.1.1.2, hh.1.1.1.1.2] at hx
    rw [hn]
    simp
theorem innL_len (h : Inv τ σ) {m : Nat} (hm : m < nM τ) : ∀ j, j ≤ nM τ → (innL τ m j).length ≤ 4 * j
  | 0, _ => by simp [innL]
  | j + 1, hj => by
    have a := innL_len h hm j (by omega)
    have b := pairL_le h hm (show j < nM τ by omega)
    simp only [innL, List.length_append]
    omega
theorem ownL_len (h : Inv τ σ) {t m : Nat} (hm : m < nM τ) : (ownL τ t m).length ≤ if Of τ m = t then 242 else 0 := by
  have hMl := w0_ml (iW h)
  rw [ownL]
  by_cases e : Of τ m = t
  · rw [if_pos e, if_pos e]
    have a := innL_len h hm (nM τ) (Nat.le_refl _)
    simp only [List.length_append]
    have b : (if (Hs τ m 128 && !anyN (nM τ) (Ov τ m)) = true then [((6 : Int32), nI m, (-1 : Int32))] else []).length ≤ 1 := by split <;> simp
    have c : (if (Hs τ m 32 && decide (τ 1 t = 0)) = true then [((7 : Int32), nI m, (-1 : Int32))] else []).length ≤ 1 := by split <;> simp
    omega
  · rw [if_neg e, if_neg e]; simp
theorem jdO_len (h : Inv τ σ) {t : Nat} : ∀ i, i ≤ nM τ → (jdO τ t i).length ≤ 242 * cntN i (fun m => decide (Of τ m = t))
  | 0, _ => by simp [jdO]
  | i + 1, hi => by
    have a := jdO_len h (t := t) i (by omega)
    have b := ownL_len h (t := t) (show i < nM τ by omega)
    simp only [jdO, List.length_append, cntN]
    by_cases e : Of τ i = t
    · simp only [e, if_true, decide_true, cond_true] at b ⊢; omega
    · simp only [e, if_false, decide_false, cond_false] at b ⊢; omega
theorem inhL_len {t o : Nat} : (inhL τ t o).length ≤ 4 := by
  rw [inhL]
  split
  · simp
  · have a := thrL_le (τ := τ) (chN τ t o) o
    simp only [List.length_append]
    have b : (if (decide (τ 1 t = 0) && Hs τ (chN τ t o) 32 && !decide (Of τ (chN τ t o) = t)) = true then [((9 : Int32), nI (chN τ t o), nI o)] else []).length ≤ 1 := by split <;> simp
    have c : (if (Ifc τ o && !Ifc τ (chN τ t o) && Bel τ t (Of τ (chN τ t o)) && !Bel τ (Of τ (chN τ t o)) (Of τ o)) = true then thrL τ (chN τ t o) o else []).length ≤ 3 := by
      split
      · exact a
      · simp
    omega
theorem inhO_len {t : Nat} : ∀ i, (inhO τ t i).length ≤ 4 * i
  | 0 => by simp [inhO]
  | i + 1 => by
    have a := inhO_len (t := t) i
    have b := inhL_len (τ := τ) (t := t) (o := i)
    simp only [inhO, List.length_append]
    split
    · omega
    · simp; omega
theorem own8 (h : Inv τ σ) {t : Nat} : cntN (nM τ) (fun m => decide (Of τ m = t)) ≤ 8 := by
  have := cnt_inj (f := fun m => decide (Of τ m = t)) (φ := fun m => nN (τ 10 m)) (M := 8) (nM τ) (fun _ => true) (fun x hx _ => by
    obtain ⟨n, hn, e⟩ := i_name h hx
    refine ⟨?_, rfl⟩
    rw [e, nN, nI_clamp (by omega)]; exact hn) (fun x y hx hy hfx hfy e => by
    obtain ⟨n, hn, e1⟩ := i_name h hx
    obtain ⟨n', hn', e2⟩ := i_name h hy
    simp only [decide_eq_true_eq] at hfx hfy
    rw [e1, e2, nN, nN, nI_clamp (by omega), nI_clamp (by omega)] at e
    exact i_uni h hx hy (hfx.trans hfy.symm) (by rw [e1, e2, e]))
  exact Nat.le_trans this (cntN_le _ 8)
theorem jdO_2000 (h : Inv τ σ) {t i : Nat} (hi : i ≤ nM τ) : (jdO τ t i).length ≤ 1936 := by
  have a := jdO_le (τ := τ) (t := t) (nM τ) i hi
  have b := jdO_len h (t := t) (nM τ) (Nat.le_refl _)
  have c := own8 h (t := t)
  omega
theorem jok (h : Inv τ σ) : JOk τ := by
  have hMl := w0_ml (iW h)
  refine ⟨fun t ht _ o ho hc => ?_, fun t ht => ?_⟩
  · obtain ⟨a, b⟩ := inhC_of hc
    rcases chOk2 h ht ho a b with q | ⟨n, hn, q, -⟩
    · exact Or.inl q
    · exact Or.inr ⟨n, hn, q⟩
  · have a := jdO_2000 h (t := t) (Nat.le_refl (nM τ))
    have b := inhO_len (τ := τ) (t := t) (nM τ)
    simp only [jdg, List.length_append]
    split
    · omega
    · simp; omega
end JD

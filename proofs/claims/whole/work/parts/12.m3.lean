/-! ===== the reference: throwsMore, choose ===== -/
def bitB (v : Int32) (x : Nat) : Bool := decide ((v >>> (nI x &&& 31)) &&& 1 = 1)
def ThX (τ : St) (x o w : Nat) : Bool := bitB (τ 13 x) w && Ckd τ w && !chV (τ 7) (bitB (τ 13 o)) (nI w)
def ThB (τ : St) (x o : Nat) : Bool := anyN (nX τ) (ThX τ x o)
def ChX (τ : St) (o t n : Nat) : Bool := decide (Of τ n = t) && decide (τ 10 n = τ 10 o) && Pln τ n && (decide (n = o) || Ov τ n o || Ifc τ o)
def ChI (τ : St) (t o n : Nat) : Bool := decide (τ 10 n = τ 10 o) && Pln τ n && Ifc τ n && Bel τ t (Of τ n) && LasB τ t n
def choF (f h : Nat → Bool) : Nat → Nat × Int32 × Bool
  | 0 => (0, -1, false)
  | i + 1 => if f i = true then ((choF f h i).1 + 1, (if (choF f h i).2.1 = -1 then nI i else (choF f h i).2.1), (choF f h i).2.2 || h i) else choF f h i
abbrev choI (τ : St) (t o : Nat) : Nat → Nat × Int32 × Bool := choF (ChI τ t o) (fun i => Hs τ i 64)
def ChsI (τ : St) (t o : Nat) : Int32 := if 1 < (choI τ t o (nM τ)).1 ∧ (choI τ t o (nM τ)).2.2 = true then -5 else (choI τ t o (nM τ)).2.1
def Chs (τ : St) (t o : Nat) : Int32 := match chO (τ 3) (fun u => fstN (nM τ) (ChX τ o u)) (nI t) with
  | some n => nI n
  | none => ChsI τ t o
theorem choF_le (f h : Nat → Bool) : ∀ i, (choF f h i).1 ≤ i
  | 0 => Nat.le_refl 0
  | i + 1 => by
    have := choF_le f h i
    simp only [choF]
    split <;> simp <;> omega
theorem choI_le (τ : St) (t o : Nat) (i : Nat) : (choI τ t o i).1 ≤ i := choF_le _ _ i
set_option maxRecDepth 100000 in
set_option maxHeartbeats 4000000 in
theorem cr_X6_throwsMore {l : Launch} {D : va_G} {cI cZ : ClassId} {b : Nat → Nat} {τ : St} (hW : W0 τ) {x o : Nat} (hx : x < nM τ) (ho : o < nM τ) : Cr l yX6_throwsMore cX6_throwsMore 6 (some .boolean) 0 0 D cI cZ (pM b cI cZ) [.ref (b 0), .int (nI x), .int (nI o)] τ (b2i (ThB τ x o)) := by
  refine Ct.of 3 (by decide) (by simp [Value.category]) (Nat.le_of_ble_eq_true rfl) ?_
  intro p e s m below meth c C
  have hTl := w0_tl hW
  have hMl := w0_ml hW
  have hXl := w0_xl hW
  have loop : ∀ (n i : Nat), i ≤ nX τ → nX τ + 1 ≤ i + n → (∀ z, z < i → ThX τ x o z = false) → G p l e (rmo 0 0) s m ([.ref (b 0), .int (nI x), .int (nI o)] : List Value).toArray below meth c D (va_A (pM b cI cZ τ) s.heap.size) 0 0 (Qe below ([.ref (b 0), .int (nI x), .int (nI o)] : List Value).toArray s D (pM b cI cZ) τ (fun r u => r = some (.int (b2i (ThB τ x o))) ∧ u = τ)) 6 (pM b cI cZ τ) 2 [some (.ref (b 0)), some (.int (nI x)), some (.int (nI o)), some (.int (nI i)), none, none] [] := by
    intro n
    induction n with
    | zero => intro i h1 h2; omega
    | succ n ih =>
      intro i h1 h2 hF
      have inner : i < nX τ → bitB (τ 13 x) i = true → Ckd τ i = true → ∀ (k : Nat) (v : Bool) (y : Int32), lessOr y k → k ≤ nX τ → (v || chV (τ 7) (bitB (τ 13 o)) y) = chV (τ 7) (bitB (τ 13 o)) (nI i) → G p l e (rmo 0 0) s m ([.ref (b 0), .int (nI x), .int (nI o)] : List Value).toArray below meth c D (va_A (pM b cI cZ τ) s.heap.size) 0 0 (Qe below ([.ref (b 0), .int (nI x), .int (nI o)] : List Value).toArray s D (pM b cI cZ) τ (fun r u => r = some (.int (b2i (ThB τ x o))) ∧ u = τ)) 6 (pM b cI cZ τ) 39 [some (.ref (b 0)), some (.int (nI x)), some (.int (nI o)), some (.int (nI i)), some (.int (b2i v)), some (.int (y))] [] := by
        intro hi hb hc
        have base : ∀ (v : Bool), v = chV (τ 7) (bitB (τ 13 o)) (nI i) → G p l e (rmo 0 0) s m ([.ref (b 0), .int (nI x), .int (nI o)] : List Value).toArray below meth c D (va_A (pM b cI cZ τ) s.heap.size) 0 0 (Qe below ([.ref (b 0), .int (nI x), .int (nI o)] : List Value).toArray s D (pM b cI cZ) τ (fun r u => r = some (.int (b2i (ThB τ x o))) ∧ u = τ)) 6 (pM b cI cZ τ) 39 [some (.ref (b 0)), some (.int (nI x)), some (.int (nI o)), some (.int (nI i)), some (.int (b2i v)), some (.int (-1))] [] := by
          intro v hv
          refine g_iload C dX6_throwsMore_39 rfl ?_
          refine g_iconst (v := -1) C dX6_throwsMore_41 (by decide) ?_
          refine g_icmp_eq (tgt := 84) C dX6_throwsMore_42 (by decide) (fun h42 => ?_) (fun h42 => ?_)
          · refine g_iload C dX6_throwsMore_84 rfl ?_
            refine g_ifb_ne (tgt := 91) C dX6_throwsMore_86 (by decide) (fun h86 => ?_) (fun h86 => ?_)
            · refine g_iincN C dX6_throwsMore_91 rfl (by decide) ?_
              refine g_goto (tgt := 2) C dX6_throwsMore_94 (by decide) ?_
              exact (ih (i + 1) (by omega) (by omega) (fun z hz => by rcases Nat.lt_or_eq_of_le (Nat.le_of_lt_succ hz) with q | rfl <;> first | exact hF z q | simp [ThX, ← hv, h86])).weak (by simp [lvle, lst])
            · refine g_iconst (v := 1) C dX6_throwsMore_89 (by decide) ?_
              exact g_zret C dX6_throwsMore_90 nar_1 ⟨rt_t (by rw [ThB]; exact anyN_t (x := i) hi (by simp [ThX, hb, hc, ← hv, h86])), rfl⟩
          · exact absurd rfl h42
        intro k
        induction k with
        | zero =>
          intro v y hy hk he
          rcases hy with rfl | ⟨q, hq, rfl⟩
          · exact base v (by simpa [chV] using he)
          · omega
        | succ k ihk =>
          intro v y hy hk he
          rcases hy with rfl | ⟨q, hq, rfl⟩
          · exact base v (by simpa [chV] using he)
          rw [chF_step (N := nX τ) (by omega) (fun z hz => w0_tp hW hz) (by omega)] at he
          have htp := w0_tp hW (x := q) (by omega)
          refine g_iload C dX6_throwsMore_39 rfl ?_
          refine g_iconst (v := -1) C dX6_throwsMore_41 (by decide) ?_
          refine g_icmp_eq (tgt := 84) C dX6_throwsMore_42 (by decide) (fun h42 => ?_) (fun h42 => ?_)
          · exact absurd h42 (nI_m1 (by omega))
          · refine g_iload C dX6_throwsMore_45 rfl ?_
            refine g_ifb_ne (tgt := 65) C dX6_throwsMore_47 (by decide) (fun h47 => ?_) (fun h47 => ?_)
            · refine g_iconst (v := 1) C dX6_throwsMore_65 (by decide) ?_
              refine g_goto (tgt := 70) C dX6_throwsMore_66 (by decide) ?_
              refine g_istore C dX6_throwsMore_70 (by decide) ?_
              refine g_aload_n C dX6_throwsMore_72 rfl ?_
              refine gf_X6_29 C dX6_throwsMore_73 ?_
              refine g_iload C dX6_throwsMore_76 rfl ?_
              refine gM_ln7 C (by omega) dX6_throwsMore_78 ?_
              refine g_istore C dX6_throwsMore_79 (by decide) ?_
              refine g_goto (tgt := 39) C dX6_throwsMore_81 (by decide) ?_
              first | exact ihk true (τ 7 q) (htp.mono (by omega)) (by omega) (by simp_all [bitB]) | exact ihk false (τ 7 q) (htp.mono (by omega)) (by omega) (by simp_all [bitB])
            · refine g_aload_n C dX6_throwsMore_50 rfl ?_
              refine gf_X6_47 C dX6_throwsMore_51 ?_
              refine g_iload_n C dX6_throwsMore_54 rfl ?_
              refine gM_ln13 C (by omega) dX6_throwsMore_55 ?_
              refine g_iload C dX6_throwsMore_56 rfl ?_
              refine g_ishr C dX6_throwsMore_58 ?_
              refine g_iconst (v := 1) C dX6_throwsMore_59 (by decide) ?_
              refine g_iand C dX6_throwsMore_60 ?_
              refine g_iconst (v := 1) C dX6_throwsMore_61 (by decide) ?_
              refine g_icmp_ne (tgt := 69) C dX6_throwsMore_62 (by decide) (fun h62 => ?_) (fun h62 => ?_)
              · refine g_iconst (v := 0) C dX6_throwsMore_69 (by decide) ?_
                refine g_istore C dX6_throwsMore_70 (by decide) ?_
                refine g_aload_n C dX6_throwsMore_72 rfl ?_
                refine gf_X6_29 C dX6_throwsMore_73 ?_
                refine g_iload C dX6_throwsMore_76 rfl ?_
                refine gM_ln7 C (by omega) dX6_throwsMore_78 ?_
                refine g_istore C dX6_throwsMore_79 (by decide) ?_
                refine g_goto (tgt := 39) C dX6_throwsMore_81 (by decide) ?_
                first | exact ihk true (τ 7 q) (htp.mono (by omega)) (by omega) (by simp_all [bitB]) | exact ihk false (τ 7 q) (htp.mono (by omega)) (by omega) (by simp_all [bitB])
              · refine g_iconst (v := 1) C dX6_throwsMore_65 (by decide) ?_
                refine g_goto (tgt := 70) C dX6_throwsMore_66 (by decide) ?_
                refine g_istore C dX6_throwsMore_70 (by decide) ?_
                refine g_aload_n C dX6_throwsMore_72 rfl ?_
                refine gf_X6_29 C dX6_throwsMore_73 ?_
                refine g_iload C dX6_throwsMore_76 rfl ?_
                refine gM_ln7 C (by omega) dX6_throwsMore_78 ?_
                refine g_istore C dX6_throwsMore_79 (by decide) ?_
                refine g_goto (tgt := 39) C dX6_throwsMore_81 (by decide) ?_
                first | exact ihk true (τ 7 q) (htp.mono (by omega)) (by omega) (by simp_all [bitB]) | exact ihk false (τ 7 q) (htp.mono (by omega)) (by omega) (by simp_all [bitB])
      refine g_iload_n C dX6_throwsMore_2 rfl ?_
      refine g_aload_n C dX6_throwsMore_3 rfl ?_
      refine gn_X6_73 C (w0_x hW) dX6_throwsMore_4 ?_
      refine g_icmpN_ge (tgt := 97) C (by omega) (by omega) dX6_throwsMore_7 (by decide) (fun h7 => ?_) (fun h7 => ?_)
      · refine g_iconst (v := 0) C dX6_throwsMore_97 (by decide) ?_
        exact g_zret C dX6_throwsMore_98 nar_0 ⟨rt_f (by rw [ThB]; exact anyN_f (fun z hz => hF z (by omega))), rfl⟩
      · refine g_aload_n C dX6_throwsMore_10 rfl ?_
        refine gf_X6_47 C dX6_throwsMore_11 ?_
        refine g_iload_n C dX6_throwsMore_14 rfl ?_
        refine gM_ln13 C (by omega) dX6_throwsMore_15 ?_
        refine g_iload_n C dX6_throwsMore_16 rfl ?_
        refine g_ishr C dX6_throwsMore_17 ?_
        refine g_iconst (v := 1) C dX6_throwsMore_18 (by decide) ?_
        refine g_iand C dX6_throwsMore_19 ?_
        refine g_iconst (v := 1) C dX6_throwsMore_20 (by decide) ?_
        refine g_icmp_ne (tgt := 91) C dX6_throwsMore_21 (by decide) (fun h21 => ?_) (fun h21 => ?_)
        · refine g_iincN C dX6_throwsMore_91 rfl (by decide) ?_
          refine g_goto (tgt := 2) C dX6_throwsMore_94 (by decide) ?_
          exact (ih (i + 1) (by omega) (by omega) (fun z hz => by rcases Nat.lt_or_eq_of_le (Nat.le_of_lt_succ hz) with q | rfl <;> first | exact hF z q | simp_all [ThX, bitB, Ckd])).weak (by simp [lvle, lst])
        · refine g_aload_n C dX6_throwsMore_24 rfl ?_
          refine gf_X6_32 C dX6_throwsMore_25 ?_
          refine g_iload_n C dX6_throwsMore_28 rfl ?_
          refine gM_lv8 C (by omega) (w0_b8 hW _) dX6_throwsMore_29 ?_
          refine g_ifb_eq (tgt := 91) C dX6_throwsMore_30 (by decide) (fun h30 => ?_) (fun h30 => ?_)
          · refine g_iincN C dX6_throwsMore_91 rfl (by decide) ?_
            refine g_goto (tgt := 2) C dX6_throwsMore_94 (by decide) ?_
            exact (ih (i + 1) (by omega) (by omega) (fun z hz => by rcases Nat.lt_or_eq_of_le (Nat.le_of_lt_succ hz) with q | rfl <;> first | exact hF z q | simp_all [ThX, bitB, Ckd])).weak (by simp [lvle, lst])
          · refine g_iconst (v := 0) C dX6_throwsMore_33 (by decide) ?_
            refine g_istore C dX6_throwsMore_34 (by decide) ?_
            refine g_iload_n C dX6_throwsMore_36 rfl ?_
            refine g_istore C dX6_throwsMore_37 (by decide) ?_
            exact inner (by omega) (by simp_all [bitB]) (by simp_all [Ckd]) (i + 1) false (nI i) (Or.inr ⟨i, by omega, rfl⟩) (by omega) (by simp)
  refine g_iconstN 0 C dX6_throwsMore_0 (by decide) ?_
  refine g_istore_n C dX6_throwsMore_1 (by decide) ?_
  exact loop (nX τ + 1) 0 (by omega) (by omega) (fun z hz => by omega)
set_option maxRecDepth 100000 in
set_option maxHeartbeats 4000000 in
theorem cr_X6_choose {l : Launch} {D : va_G} {cI cZ : ClassId} {b : Nat → Nat} {τ : St} (hW : W0 τ) {t o : Nat} (ht : t < nT τ) (ho : o < nM τ) : Cr l yX6_choose cX6_choose 7 (some .int) 4 87 D cI cZ (pM b cI cZ) [.ref (b 0), .int (nI t), .int (nI o)] τ (Chs τ t o) := by
  refine Ct.of 4 (by decide) (by simp [Value.category]) (Nat.le_of_ble_eq_true rfl) ?_
  intro p e s m below meth c C
  have hTl := w0_tl hW
  have hMl := w0_ml hW
  have hof_o := w0_ofl hW ho
  have loop2 : Chs τ t o = ChsI τ t o → ∀ (n i : Nat), i ≤ nM τ → nM τ + 1 ≤ i + n → G p l e (rmo 4 87) s m ([.ref (b 0), .int (nI t), .int (nI o)] : List Value).toArray below meth c D (va_A (pM b cI cZ τ) s.heap.size) 0 0 (Qe below ([.ref (b 0), .int (nI t), .int (nI o)] : List Value).toArray s D (pM b cI cZ) τ (fun r u => r = some (.int (Chs τ t o)) ∧ u = τ)) 7 (pM b cI cZ τ) 109 [some (.ref (b 0)), some (.int (nI t)), some (.int (nI o)), some (.int (nI (choI τ t o i).1)), some (.int ((choI τ t o i).2.1)), some (.int (b2i (choI τ t o i).2.2)), some (.int (nI i))] [] := by
    intro hE n
    induction n with
    | zero => intro i h1 h2; omega
    | succ n ih =>
      intro i h1 h2
      have hle := choI_le τ t o i
      have hnext : ∀ (a : Nat × Int32 × Bool), a = choI τ t o (i + 1) → i < nM τ → G p l e (rmo 4 87) s m ([.ref (b 0), .int (nI t), .int (nI o)] : List Value).toArray below meth c D (va_A (pM b cI cZ τ) s.heap.size) 0 0 (Qe below ([.ref (b 0), .int (nI t), .int (nI o)] : List Value).toArray s D (pM b cI cZ) τ (fun r u => r = some (.int (Chs τ t o)) ∧ u = τ)) 7 (pM b cI cZ τ) 218 [some (.ref (b 0)), some (.int (nI t)), some (.int (nI o)), some (.int (nI a.1)), some (.int (a.2.1)), some (.int (b2i a.2.2)), some (.int (nI i))] [] := by
        intro a ha hi
        subst ha
        refine g_iincN C dX6_choose_218 rfl (by decide) ?_
        refine g_goto (tgt := 109) C dX6_choose_221 (by decide) ?_
        exact ih (i + 1) (by omega) (by omega)
      refine g_iload C dX6_choose_109 rfl ?_
      refine g_aload_n C dX6_choose_111 rfl ?_
      refine gn_X6_70 C (w0_m hW) dX6_choose_112 ?_
      refine g_icmpN_ge (tgt := 224) C (by omega) (by omega) dX6_choose_115 (by decide) (fun h115 => ?_) (fun h115 => ?_)
      · refine g_iload_n C dX6_choose_224 rfl ?_
        refine g_iconstN 1 C dX6_choose_225 (by decide) ?_
        refine g_icmpN_le (tgt := 239) C (by omega) (by omega) dX6_choose_226 (by decide) (fun h226 => ?_) (fun h226 => ?_)
        · refine g_iload C dX6_choose_239 rfl ?_
          exact g_iret C dX6_choose_241 ⟨rt_i (by rw [hE, ChsI, ← (show i = nM τ by omega)]; simp_all <;> omega), rfl⟩
        · refine g_iload C dX6_choose_229 rfl ?_
          refine g_ifb_eq (tgt := 239) C dX6_choose_231 (by decide) (fun h231 => ?_) (fun h231 => ?_)
          · refine g_iload C dX6_choose_239 rfl ?_
            exact g_iret C dX6_choose_241 ⟨rt_i (by rw [hE, ChsI, ← (show i = nM τ by omega)]; simp_all <;> omega), rfl⟩
          · refine g_bipush (v := -5) C dX6_choose_234 (by decide) ?_
            refine g_goto (tgt := 241) C dX6_choose_236 (by decide) ?_
            exact g_iret C dX6_choose_241 ⟨rt_i (by rw [hE, ChsI, ← (show i = nM τ by omega)]; simp_all <;> omega), rfl⟩
      · refine g_aload_n C dX6_choose_118 rfl ?_
        have hi := ‹i < nM τ›
        have hof_i := w0_ofl hW hi
        refine gf_X6_38 C dX6_choose_119 ?_
        refine g_iload C dX6_choose_122 rfl ?_
        refine gM_ln10 C (by omega) dX6_choose_124 ?_
        refine g_aload_n C dX6_choose_125 rfl ?_
        refine gf_X6_38 C dX6_choose_126 ?_
        refine g_iload_n C dX6_choose_129 rfl ?_
        refine gM_ln10 C (by omega) dX6_choose_130 ?_
        refine g_icmp_ne (tgt := 218) C dX6_choose_131 (by decide) (fun h131 => ?_) (fun h131 => ?_)
        · first | exact hnext (choI τ t o i) (by simp only [choI, choF]; rw [if_neg (by simp_all [ChI])]) (by omega) | exact hnext ((choI τ t o i).1 + 1, nI i, true) (by simp only [choI, choF]; rw [if_pos (by simp_all [ChI])]; simp_all) (by omega) | exact hnext ((choI τ t o i).1 + 1, nI i, false) (by simp only [choI, choF]; rw [if_pos (by simp_all [ChI])]; simp_all) (by omega) | exact hnext ((choI τ t o i).1 + 1, (choI τ t o i).2.1, true) (by simp only [choI, choF]; rw [if_pos (by simp_all [ChI])]; simp_all) (by omega) | exact hnext ((choI τ t o i).1 + 1, (choI τ t o i).2.1, false) (by simp only [choI, choF]; rw [if_pos (by simp_all [ChI])]; simp_all) (by omega)
        · refine g_aload_n C dX6_choose_134 rfl ?_
          refine g_iload C dX6_choose_135 rfl ?_
          refine g_callVr 0 C (cr_X6_isPlain (by omega)) mw_X6_isPlain ml_X6_135 rfl rfl rfl rfl (Nat.le_of_ble_eq_true rfl) dX6_choose_137 ⟨Nat.le_of_ble_eq_true rfl, Nat.le_of_ble_eq_true rfl⟩ ⟨Nat.le_of_ble_eq_true rfl, Nat.le_of_ble_eq_true rfl⟩ ?_
          refine g_ifb_eq (tgt := 218) C dX6_choose_140 (by decide) (fun h140 => ?_) (fun h140 => ?_)
          · first | exact hnext (choI τ t o i) (by simp only [choI, choF]; rw [if_neg (by simp_all [ChI])]) (by omega) | exact hnext ((choI τ t o i).1 + 1, nI i, true) (by simp only [choI, choF]; rw [if_pos (by simp_all [ChI])]; simp_all) (by omega) | exact hnext ((choI τ t o i).1 + 1, nI i, false) (by simp only [choI, choF]; rw [if_pos (by simp_all [ChI])]; simp_all) (by omega) | exact hnext ((choI τ t o i).1 + 1, (choI τ t o i).2.1, true) (by simp only [choI, choF]; rw [if_pos (by simp_all [ChI])]; simp_all) (by omega) | exact hnext ((choI τ t o i).1 + 1, (choI τ t o i).2.1, false) (by simp only [choI, choF]; rw [if_pos (by simp_all [ChI])]; simp_all) (by omega)
          · refine g_aload_n C dX6_choose_143 rfl ?_
            refine g_iload C dX6_choose_144 rfl ?_
            refine g_callVr 0 C (cr_X6_isInterface hW (by omega)) mw_X6_isInterface ml_X6_110 rfl rfl rfl rfl (Nat.le_of_ble_eq_true rfl) dX6_choose_146 ⟨Nat.le_of_ble_eq_true rfl, Nat.le_of_ble_eq_true rfl⟩ ⟨Nat.le_of_ble_eq_true rfl, Nat.le_of_ble_eq_true rfl⟩ ?_
            refine g_ifb_eq (tgt := 218) C dX6_choose_149 (by decide) (fun h149 => ?_) (fun h149 => ?_)
            · first | exact hnext (choI τ t o i) (by simp only [choI, choF]; rw [if_neg (by simp_all [ChI])]) (by omega) | exact hnext ((choI τ t o i).1 + 1, nI i, true) (by simp only [choI, choF]; rw [if_pos (by simp_all [ChI])]; simp_all) (by omega) | exact hnext ((choI τ t o i).1 + 1, nI i, false) (by simp only [choI, choF]; rw [if_pos (by simp_all [ChI])]; simp_all) (by omega) | exact hnext ((choI τ t o i).1 + 1, (choI τ t o i).2.1, true) (by simp only [choI, choF]; rw [if_pos (by simp_all [ChI])]; simp_all) (by omega) | exact hnext ((choI τ t o i).1 + 1, (choI τ t o i).2.1, false) (by simp only [choI, choF]; rw [if_pos (by simp_all [ChI])]; simp_all) (by omega)
            · refine g_aload_n C dX6_choose_152 rfl ?_
              refine g_iload_n C dX6_choose_153 rfl ?_
              refine g_aload_n C dX6_choose_154 rfl ?_
              refine gf_X6_35 C dX6_choose_155 ?_
              refine g_iload C dX6_choose_158 rfl ?_
              refine gM_lv9 C (by omega) (w0_of hW (by omega)) dX6_choose_160 ?_
              refine g_callVr 0 C (cr_X6_isBelow hW (by omega) (by omega)) mw_X6_isBelow ml_X6_90 rfl rfl rfl rfl (Nat.le_of_ble_eq_true rfl) dX6_choose_161 ⟨Nat.le_of_ble_eq_true rfl, Nat.le_of_ble_eq_true rfl⟩ ⟨Nat.le_of_ble_eq_true rfl, Nat.le_of_ble_eq_true rfl⟩ ?_
              refine g_ifb_eq (tgt := 218) C dX6_choose_164 (by decide) (fun h164 => ?_) (fun h164 => ?_)
              · first | exact hnext (choI τ t o i) (by simp only [choI, choF]; rw [if_neg (by simp_all [ChI])]) (by omega) | exact hnext ((choI τ t o i).1 + 1, nI i, true) (by simp only [choI, choF]; rw [if_pos (by simp_all [ChI])]; simp_all) (by omega) | exact hnext ((choI τ t o i).1 + 1, nI i, false) (by simp only [choI, choF]; rw [if_pos (by simp_all [ChI])]; simp_all) (by omega) | exact hnext ((choI τ t o i).1 + 1, (choI τ t o i).2.1, true) (by simp only [choI, choF]; rw [if_pos (by simp_all [ChI])]; simp_all) (by omega) | exact hnext ((choI τ t o i).1 + 1, (choI τ t o i).2.1, false) (by simp only [choI, choF]; rw [if_pos (by simp_all [ChI])]; simp_all) (by omega)
              · refine g_aload_n C dX6_choose_167 rfl ?_
                refine g_iload_n C dX6_choose_168 rfl ?_
                refine g_iload C dX6_choose_169 rfl ?_
                refine g_callVr 0 C (cr_X6_isLast hW (by omega) (by omega)) mw_X6_isLast ml_X6_138 rfl rfl rfl rfl (Nat.le_of_ble_eq_true rfl) dX6_choose_171 ⟨Nat.le_of_ble_eq_true rfl, Nat.le_of_ble_eq_true rfl⟩ ⟨Nat.le_of_ble_eq_true rfl, Nat.le_of_ble_eq_true rfl⟩ ?_
                refine g_ifb_eq (tgt := 218) C dX6_choose_174 (by decide) (fun h174 => ?_) (fun h174 => ?_)
                · first | exact hnext (choI τ t o i) (by simp only [choI, choF]; rw [if_neg (by simp_all [ChI])]) (by omega) | exact hnext ((choI τ t o i).1 + 1, nI i, true) (by simp only [choI, choF]; rw [if_pos (by simp_all [ChI])]; simp_all) (by omega) | exact hnext ((choI τ t o i).1 + 1, nI i, false) (by simp only [choI, choF]; rw [if_pos (by simp_all [ChI])]; simp_all) (by omega) | exact hnext ((choI τ t o i).1 + 1, (choI τ t o i).2.1, true) (by simp only [choI, choF]; rw [if_pos (by simp_all [ChI])]; simp_all) (by omega) | exact hnext ((choI τ t o i).1 + 1, (choI τ t o i).2.1, false) (by simp only [choI, choF]; rw [if_pos (by simp_all [ChI])]; simp_all) (by omega)
                · refine g_iincN C dX6_choose_177 rfl (by decide) ?_
                  refine g_iload C dX6_choose_180 rfl ?_
                  refine g_iconst (v := -1) C dX6_choose_182 (by decide) ?_
                  refine g_icmp_ne (tgt := 191) C dX6_choose_183 (by decide) (fun h183 => ?_) (fun h183 => ?_)
                  · refine g_iload C dX6_choose_191 rfl ?_
                    refine g_istore C dX6_choose_193 (by decide) ?_
                    refine g_iload C dX6_choose_195 rfl ?_
                    refine g_ifb_ne (tgt := 211) C dX6_choose_197 (by decide) (fun h197 => ?_) (fun h197 => ?_)
                    · refine g_iconst (v := 1) C dX6_choose_211 (by decide) ?_
                      refine g_goto (tgt := 216) C dX6_choose_212 (by decide) ?_
                      refine g_istore C dX6_choose_216 (by decide) ?_
                      first | exact hnext (choI τ t o i) (by simp only [choI, choF]; rw [if_neg (by simp_all [ChI])]) (by omega) | exact hnext ((choI τ t o i).1 + 1, nI i, true) (by simp only [choI, choF]; rw [if_pos (by simp_all [ChI])]; simp_all) (by omega) | exact hnext ((choI τ t o i).1 + 1, nI i, false) (by simp only [choI, choF]; rw [if_pos (by simp_all [ChI])]; simp_all) (by omega) | exact hnext ((choI τ t o i).1 + 1, (choI τ t o i).2.1, true) (by simp only [choI, choF]; rw [if_pos (by simp_all [ChI])]; simp_all) (by omega) | exact hnext ((choI τ t o i).1 + 1, (choI τ t o i).2.1, false) (by simp only [choI, choF]; rw [if_pos (by simp_all [ChI])]; simp_all) (by omega)
                    · refine g_aload_n C dX6_choose_200 rfl ?_
                      refine g_iload C dX6_choose_201 rfl ?_
                      refine g_bipush (v := 64) C dX6_choose_203 (by decide) ?_
                      refine g_callVr 0 C (cr_X6_has (by omega)) mw_X6_has ml_X6_100 rfl rfl rfl rfl (Nat.le_of_ble_eq_true rfl) dX6_choose_205 ⟨Nat.le_of_ble_eq_true rfl, Nat.le_of_ble_eq_true rfl⟩ ⟨Nat.le_of_ble_eq_true rfl, Nat.le_of_ble_eq_true rfl⟩ ?_
                      refine g_ifb_eq (tgt := 215) C dX6_choose_208 (by decide) (fun h208 => ?_) (fun h208 => ?_)
                      · refine g_iconst (v := 0) C dX6_choose_215 (by decide) ?_
                        refine g_istore C dX6_choose_216 (by decide) ?_
                        first | exact hnext (choI τ t o i) (by simp only [choI, choF]; rw [if_neg (by simp_all [ChI])]) (by omega) | exact hnext ((choI τ t o i).1 + 1, nI i, true) (by simp only [choI, choF]; rw [if_pos (by simp_all [ChI])]; simp_all) (by omega) | exact hnext ((choI τ t o i).1 + 1, nI i, false) (by simp only [choI, choF]; rw [if_pos (by simp_all [ChI])]; simp_all) (by omega) | exact hnext ((choI τ t o i).1 + 1, (choI τ t o i).2.1, true) (by simp only [choI, choF]; rw [if_pos (by simp_all [ChI])]; simp_all) (by omega) | exact hnext ((choI τ t o i).1 + 1, (choI τ t o i).2.1, false) (by simp only [choI, choF]; rw [if_pos (by simp_all [ChI])]; simp_all) (by omega)
                      · refine g_iconst (v := 1) C dX6_choose_211 (by decide) ?_
                        refine g_goto (tgt := 216) C dX6_choose_212 (by decide) ?_
                        refine g_istore C dX6_choose_216 (by decide) ?_
                        first | exact hnext (choI τ t o i) (by simp only [choI, choF]; rw [if_neg (by simp_all [ChI])]) (by omega) | exact hnext ((choI τ t o i).1 + 1, nI i, true) (by simp only [choI, choF]; rw [if_pos (by simp_all [ChI])]; simp_all) (by omega) | exact hnext ((choI τ t o i).1 + 1, nI i, false) (by simp only [choI, choF]; rw [if_pos (by simp_all [ChI])]; simp_all) (by omega) | exact hnext ((choI τ t o i).1 + 1, (choI τ t o i).2.1, true) (by simp only [choI, choF]; rw [if_pos (by simp_all [ChI])]; simp_all) (by omega) | exact hnext ((choI τ t o i).1 + 1, (choI τ t o i).2.1, false) (by simp only [choI, choF]; rw [if_pos (by simp_all [ChI])]; simp_all) (by omega)
                  · refine g_iload C dX6_choose_186 rfl ?_
                    refine g_goto (tgt := 193) C dX6_choose_188 (by decide) ?_
                    refine g_istore C dX6_choose_193 (by decide) ?_
                    refine g_iload C dX6_choose_195 rfl ?_
                    refine g_ifb_ne (tgt := 211) C dX6_choose_197 (by decide) (fun h197 => ?_) (fun h197 => ?_)
                    · refine g_iconst (v := 1) C dX6_choose_211 (by decide) ?_
                      refine g_goto (tgt := 216) C dX6_choose_212 (by decide) ?_
                      refine g_istore C dX6_choose_216 (by decide) ?_
                      first | exact hnext (choI τ t o i) (by simp only [choI, choF]; rw [if_neg (by simp_all [ChI])]) (by omega) | exact hnext ((choI τ t o i).1 + 1, nI i, true) (by simp only [choI, choF]; rw [if_pos (by simp_all [ChI])]; simp_all) (by omega) | exact hnext ((choI τ t o i).1 + 1, nI i, false) (by simp only [choI, choF]; rw [if_pos (by simp_all [ChI])]; simp_all) (by omega) | exact hnext ((choI τ t o i).1 + 1, (choI τ t o i).2.1, true) (by simp only [choI, choF]; rw [if_pos (by simp_all [ChI])]; simp_all) (by omega) | exact hnext ((choI τ t o i).1 + 1, (choI τ t o i).2.1, false) (by simp only [choI, choF]; rw [if_pos (by simp_all [ChI])]; simp_all) (by omega)
                    · refine g_aload_n C dX6_choose_200 rfl ?_
                      refine g_iload C dX6_choose_201 rfl ?_
                      refine g_bipush (v := 64) C dX6_choose_203 (by decide) ?_
                      refine g_callVr 0 C (cr_X6_has (by omega)) mw_X6_has ml_X6_100 rfl rfl rfl rfl (Nat.le_of_ble_eq_true rfl) dX6_choose_205 ⟨Nat.le_of_ble_eq_true rfl, Nat.le_of_ble_eq_true rfl⟩ ⟨Nat.le_of_ble_eq_true rfl, Nat.le_of_ble_eq_true rfl⟩ ?_
                      refine g_ifb_eq (tgt := 215) C dX6_choose_208 (by decide) (fun h208 => ?_) (fun h208 => ?_)
                      · refine g_iconst (v := 0) C dX6_choose_215 (by decide) ?_
                        refine g_istore C dX6_choose_216 (by decide) ?_
                        first | exact hnext (choI τ t o i) (by simp only [choI, choF]; rw [if_neg (by simp_all [ChI])]) (by omega) | exact hnext ((choI τ t o i).1 + 1, nI i, true) (by simp only [choI, choF]; rw [if_pos (by simp_all [ChI])]; simp_all) (by omega) | exact hnext ((choI τ t o i).1 + 1, nI i, false) (by simp only [choI, choF]; rw [if_pos (by simp_all [ChI])]; simp_all) (by omega) | exact hnext ((choI τ t o i).1 + 1, (choI τ t o i).2.1, true) (by simp only [choI, choF]; rw [if_pos (by simp_all [ChI])]; simp_all) (by omega) | exact hnext ((choI τ t o i).1 + 1, (choI τ t o i).2.1, false) (by simp only [choI, choF]; rw [if_pos (by simp_all [ChI])]; simp_all) (by omega)
                      · refine g_iconst (v := 1) C dX6_choose_211 (by decide) ?_
                        refine g_goto (tgt := 216) C dX6_choose_212 (by decide) ?_
                        refine g_istore C dX6_choose_216 (by decide) ?_
                        first | exact hnext (choI τ t o i) (by simp only [choI, choF]; rw [if_neg (by simp_all [ChI])]) (by omega) | exact hnext ((choI τ t o i).1 + 1, nI i, true) (by simp only [choI, choF]; rw [if_pos (by simp_all [ChI])]; simp_all) (by omega) | exact hnext ((choI τ t o i).1 + 1, nI i, false) (by simp only [choI, choF]; rw [if_pos (by simp_all [ChI])]; simp_all) (by omega) | exact hnext ((choI τ t o i).1 + 1, (choI τ t o i).2.1, true) (by simp only [choI, choF]; rw [if_pos (by simp_all [ChI])]; simp_all) (by omega) | exact hnext ((choI τ t o i).1 + 1, (choI τ t o i).2.1, false) (by simp only [choI, choF]; rw [if_pos (by simp_all [ChI])]; simp_all) (by omega)
  have base : chO (τ 3) (fun u => fstN (nM τ) (ChX τ o u)) (nI t) = none → G p l e (rmo 4 87) s m ([.ref (b 0), .int (nI t), .int (nI o)] : List Value).toArray below meth c D (va_A (pM b cI cZ τ) s.heap.size) 0 0 (Qe below ([.ref (b 0), .int (nI t), .int (nI o)] : List Value).toArray s D (pM b cI cZ) τ (fun r u => r = some (.int (Chs τ t o)) ∧ u = τ)) 7 (pM b cI cZ τ) 2 [some (.ref (b 0)), some (.int (nI t)), some (.int (nI o)), some (.int (-1)), none, none, none] [] := by
    intro hn
    refine g_iload_n C dX6_choose_2 rfl ?_
    refine g_iconst (v := -1) C dX6_choose_3 (by decide) ?_
    refine g_icmp_eq (tgt := 98) C dX6_choose_4 (by decide) (fun h4 => ?_) (fun h4 => ?_)
    · refine g_iconstN 0 C dX6_choose_98 (by decide) ?_
      refine g_istore_n C dX6_choose_99 (by decide) ?_
      refine g_iconst (v := -1) C dX6_choose_100 (by decide) ?_
      refine g_istore C dX6_choose_101 (by decide) ?_
      refine g_iconst (v := 0) C dX6_choose_103 (by decide) ?_
      refine g_istore C dX6_choose_104 (by decide) ?_
      refine g_iconstN 0 C dX6_choose_106 (by decide) ?_
      refine g_istore C dX6_choose_107 (by decide) ?_
      exact loop2 (by simp only [Chs, hn]) (nM τ + 1) 0 (by omega) (by omega)
    · exact absurd rfl h4
  have first : ∀ (k : Nat) (y : Int32), lessOr y k → k ≤ nT τ → chO (τ 3) (fun u => fstN (nM τ) (ChX τ o u)) (nI t) = chO (τ 3) (fun u => fstN (nM τ) (ChX τ o u)) y → G p l e (rmo 4 87) s m ([.ref (b 0), .int (nI t), .int (nI o)] : List Value).toArray below meth c D (va_A (pM b cI cZ τ) s.heap.size) 0 0 (Qe below ([.ref (b 0), .int (nI t), .int (nI o)] : List Value).toArray s D (pM b cI cZ) τ (fun r u => r = some (.int (Chs τ t o)) ∧ u = τ)) 7 (pM b cI cZ τ) 2 [some (.ref (b 0)), some (.int (nI t)), some (.int (nI o)), some (.int (y)), none, none, none] [] := by
    intro k
    induction k with
    | zero =>
      intro y hy hk he
      rcases hy with rfl | ⟨q, hq, rfl⟩
      · exact base (by rw [he]; simp [chO])
      · omega
    | succ k ihk =>
      intro y hy hk he
      rcases hy with rfl | ⟨q, hq, rfl⟩
      · exact base (by rw [he]; simp [chO])
      rw [chC_step (N := nT τ) (by omega) (fun z hz => w0_pa hW hz) (y := q) (by omega)] at he
      have hpa := w0_pa hW (t := q) (by omega)
      have inner : ∀ (n i : Nat), i ≤ nM τ → nM τ + 1 ≤ i + n → (∀ z, z < i → ChX τ o q z = false) → G p l e (rmo 4 87) s m ([.ref (b 0), .int (nI t), .int (nI o)] : List Value).toArray below meth c D (va_A (pM b cI cZ τ) s.heap.size) 0 0 (Qe below ([.ref (b 0), .int (nI t), .int (nI o)] : List Value).toArray s D (pM b cI cZ) τ (fun r u => r = some (.int (Chs τ t o)) ∧ u = τ)) 7 (pM b cI cZ τ) 10 [some (.ref (b 0)), some (.int (nI t)), some (.int (nI o)), some (.int (nI q)), some (.int (nI i)), none, none] [] := by
        intro n
        induction n with
        | zero => intro i h1 h2; omega
        | succ n ih =>
          intro i h1 h2 hF
          refine g_iload C dX6_choose_10 rfl ?_
          refine g_aload_n C dX6_choose_12 rfl ?_
          refine gn_X6_70 C (w0_m hW) dX6_choose_13 ?_
          refine g_icmpN_ge (tgt := 88) C (by omega) (by omega) dX6_choose_16 (by decide) (fun h16 => ?_) (fun h16 => ?_)
          · refine g_aload_n C dX6_choose_88 rfl ?_
            refine gf_X6_16 C dX6_choose_89 ?_
            refine g_iload_n C dX6_choose_92 rfl ?_
            refine gM_ln3 C (by omega) dX6_choose_93 ?_
            refine g_istore_n C dX6_choose_94 (by decide) ?_
            refine g_goto (tgt := 2) C dX6_choose_95 (by decide) ?_
            exact (ihk (τ 3 q) (hpa.mono (by omega)) (by omega) (by rw [fstN_none (fun z hz => hF z (by omega))] at he; exact he)).weak (by simp [lvle, lst])
          · refine g_aload_n C dX6_choose_19 rfl ?_
            have hi := ‹i < nM τ›
            have hof_i := w0_ofl hW hi
            refine gf_X6_35 C dX6_choose_20 ?_
            refine g_iload C dX6_choose_23 rfl ?_
            refine gM_lv9 C (by omega) (w0_of hW (by omega)) dX6_choose_25 ?_
            refine g_iload_n C dX6_choose_26 rfl ?_
            refine g_icmpN_ne (tgt := 82) C (by omega) (by omega) dX6_choose_27 (by decide) (fun h27 => ?_) (fun h27 => ?_)
            · refine g_iincN C dX6_choose_82 rfl (by decide) ?_
              refine g_goto (tgt := 10) C dX6_choose_85 (by decide) ?_
              exact ih (i + 1) (by omega) (by omega) (fun z hz => by rcases Nat.lt_or_eq_of_le (Nat.le_of_lt_succ hz) with q | rfl <;> first | exact hF z q | simp_all [ChX])
            · refine g_aload_n C dX6_choose_30 rfl ?_
              refine gf_X6_38 C dX6_choose_31 ?_
              refine g_iload C dX6_choose_34 rfl ?_
              refine gM_ln10 C (by omega) dX6_choose_36 ?_
              refine g_aload_n C dX6_choose_37 rfl ?_
              refine gf_X6_38 C dX6_choose_38 ?_
              refine g_iload_n C dX6_choose_41 rfl ?_
              refine gM_ln10 C (by omega) dX6_choose_42 ?_
              refine g_icmp_ne (tgt := 82) C dX6_choose_43 (by decide) (fun h43 => ?_) (fun h43 => ?_)
              · refine g_iincN C dX6_choose_82 rfl (by decide) ?_
                refine g_goto (tgt := 10) C dX6_choose_85 (by decide) ?_
                exact ih (i + 1) (by omega) (by omega) (fun z hz => by rcases Nat.lt_or_eq_of_le (Nat.le_of_lt_succ hz) with q | rfl <;> first | exact hF z q | simp_all [ChX])
              · refine g_aload_n C dX6_choose_46 rfl ?_
                refine g_iload C dX6_choose_47 rfl ?_
                refine g_callVr 0 C (cr_X6_isPlain (by omega)) mw_X6_isPlain ml_X6_135 rfl rfl rfl rfl (Nat.le_of_ble_eq_true rfl) dX6_choose_49 ⟨Nat.le_of_ble_eq_true rfl, Nat.le_of_ble_eq_true rfl⟩ ⟨Nat.le_of_ble_eq_true rfl, Nat.le_of_ble_eq_true rfl⟩ ?_
                refine g_ifb_eq (tgt := 82) C dX6_choose_52 (by decide) (fun h52 => ?_) (fun h52 => ?_)
                · refine g_iincN C dX6_choose_82 rfl (by decide) ?_
                  refine g_goto (tgt := 10) C dX6_choose_85 (by decide) ?_
                  exact ih (i + 1) (by omega) (by omega) (fun z hz => by rcases Nat.lt_or_eq_of_le (Nat.le_of_lt_succ hz) with q | rfl <;> first | exact hF z q | simp_all [ChX])
                · refine g_iload C dX6_choose_55 rfl ?_
                  refine g_iload_n C dX6_choose_57 rfl ?_
                  refine g_icmpN_eq (tgt := 79) C (by omega) (by omega) dX6_choose_58 (by decide) (fun h58 => ?_) (fun h58 => ?_)
                  · refine g_iload C dX6_choose_79 rfl ?_
                    exact g_iret C dX6_choose_81 ⟨rt_i (by rw [fstN_some (x := i) (by omega) (by simp_all [ChX]) hF] at he; simp only [Chs, he]), rfl⟩
                  · refine g_aload_n C dX6_choose_61 rfl ?_
                    refine g_iload C dX6_choose_62 rfl ?_
                    refine g_iload_n C dX6_choose_64 rfl ?_
                    refine g_callVr 0 C (cr_X6_isOver hW (by omega) (by omega)) mw_X6_isOver ml_X6_129 rfl rfl rfl rfl (Nat.le_of_ble_eq_true rfl) dX6_choose_65 ⟨Nat.le_of_ble_eq_true rfl, Nat.le_of_ble_eq_true rfl⟩ ⟨Nat.le_of_ble_eq_true rfl, Nat.le_of_ble_eq_true rfl⟩ ?_
                    refine g_ifb_ne (tgt := 79) C dX6_choose_68 (by decide) (fun h68 => ?_) (fun h68 => ?_)
                    · refine g_iload C dX6_choose_79 rfl ?_
                      exact g_iret C dX6_choose_81 ⟨rt_i (by rw [fstN_some (x := i) (by omega) (by simp_all [ChX]) hF] at he; simp only [Chs, he]), rfl⟩
                    · refine g_aload_n C dX6_choose_71 rfl ?_
                      refine g_iload_n C dX6_choose_72 rfl ?_
                      refine g_callVr 0 C (cr_X6_isInterface hW (by omega)) mw_X6_isInterface ml_X6_110 rfl rfl rfl rfl (Nat.le_of_ble_eq_true rfl) dX6_choose_73 ⟨Nat.le_of_ble_eq_true rfl, Nat.le_of_ble_eq_true rfl⟩ ⟨Nat.le_of_ble_eq_true rfl, Nat.le_of_ble_eq_true rfl⟩ ?_
                      refine g_ifb_eq (tgt := 82) C dX6_choose_76 (by decide) (fun h76 => ?_) (fun h76 => ?_)
                      · refine g_iincN C dX6_choose_82 rfl (by decide) ?_
                        refine g_goto (tgt := 10) C dX6_choose_85 (by decide) ?_
                        exact ih (i + 1) (by omega) (by omega) (fun z hz => by rcases Nat.lt_or_eq_of_le (Nat.le_of_lt_succ hz) with q | rfl <;> first | exact hF z q | simp_all [ChX])
                      · refine g_iload C dX6_choose_79 rfl ?_
                        exact g_iret C dX6_choose_81 ⟨rt_i (by rw [fstN_some (x := i) (by omega) (by simp_all [ChX]) hF] at he; simp only [Chs, he]), rfl⟩
      refine g_iload_n C dX6_choose_2 rfl ?_
      refine g_iconst (v := -1) C dX6_choose_3 (by decide) ?_
      refine g_icmp_eq (tgt := 98) C dX6_choose_4 (by decide) (fun h4 => ?_) (fun h4 => ?_)
      · exact absurd h4 (nI_m1 (by omega))
      · refine g_iconstN 0 C dX6_choose_7 (by decide) ?_
        refine g_istore C dX6_choose_8 (by decide) ?_
        exact inner (nM τ + 1) 0 (by omega) (by omega) (fun z hz => by omega)
  refine g_iload_n C dX6_choose_0 rfl ?_
  refine g_istore_n C dX6_choose_1 (by decide) ?_
  exact first (nT τ) (nI t) (Or.inr ⟨t, ht, rfl⟩) (by omega) rfl

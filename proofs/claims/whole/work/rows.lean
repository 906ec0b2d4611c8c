section
-- ===== PART A: goes FIRST, ahead of the names: the tables' words, and 'selects' of the private methods out of them =====
/-- a private method of a class that the tables say can be made, by its rows of tables_1 -/
def lw_okq (q : MethodName × Nat) : Prop := (q.1.cls ≠ "java/lang/invoke/MethodHandle" ∧ q.1.cls ≠ "java/lang/invoke/VarHandle") ∧ Cond.instantiable q.1.cls q.2 ∈ tables_1 ∧ Cond.privateMethod q.1 ∈ tables_1 ∧ Cond.instanceMethod q.1 ∈ tables_1
theorem lw_p0 : lw_okq (⟨"OverrideRules$Types", "findAbove", "(I)V"⟩, 6) := ⟨⟨by decide +kernel, by decide +kernel⟩, List.mem_of_getElem? (i := 19) (by decide +kernel), List.mem_of_getElem? (i := 195) (by decide +kernel), List.mem_of_getElem? (i := 196) (by decide +kernel)⟩
theorem lw_p1 : lw_okq (⟨"OverrideRules", "isMissingType", "(I)Z"⟩, 5) := ⟨⟨by decide +kernel, by decide +kernel⟩, List.mem_of_getElem? (i := 11) (by decide +kernel), List.mem_of_getElem? (i := 245) (by decide +kernel), List.mem_of_getElem? (i := 246) (by decide +kernel)⟩
theorem lw_p2 : lw_okq (⟨"OverrideRules$Members", "isOfNameBelow", "(II)Z"⟩, 8) := ⟨⟨by decide +kernel, by decide +kernel⟩, List.mem_of_getElem? (i := 61) (by decide +kernel), List.mem_of_getElem? (i := 296) (by decide +kernel), List.mem_of_getElem? (i := 297) (by decide +kernel)⟩
theorem lw_p3 : lw_okq (⟨"OverrideRules$Members", "isReached", "(II)Z"⟩, 8) := ⟨⟨by decide +kernel, by decide +kernel⟩, List.mem_of_getElem? (i := 61) (by decide +kernel), List.mem_of_getElem? (i := 312) (by decide +kernel), List.mem_of_getElem? (i := 313) (by decide +kernel)⟩
theorem lw_p4 : lw_okq (⟨"OverrideRules$Members", "isSeen", "(II)Z"⟩, 8) := ⟨⟨by decide +kernel, by decide +kernel⟩, List.mem_of_getElem? (i := 61) (by decide +kernel), List.mem_of_getElem? (i := 333) (by decide +kernel), List.mem_of_getElem? (i := 334) (by decide +kernel)⟩
theorem lw_p5 : lw_okq (⟨"OverrideRules$Choice", "chooseOfInterfaces", "(II)I"⟩, 2) := ⟨⟨by decide +kernel, by decide +kernel⟩, List.mem_of_getElem? (i := 92) (by decide +kernel), List.mem_of_getElem? (i := 364) (by decide +kernel), List.mem_of_getElem? (i := 365) (by decide +kernel)⟩
theorem lw_p6 : lw_okq (⟨"OverrideRules$Choice", "leastOrFight", "(II)I"⟩, 2) := ⟨⟨by decide +kernel, by decide +kernel⟩, List.mem_of_getElem? (i := 92) (by decide +kernel), List.mem_of_getElem? (i := 373) (by decide +kernel), List.mem_of_getElem? (i := 374) (by decide +kernel)⟩
theorem lw_p7 : lw_okq (⟨"OverrideRules$Faults", "walkOwn", "(I)V"⟩, 9) := ⟨⟨by decide +kernel, by decide +kernel⟩, List.mem_of_getElem? (i := 105) (by decide +kernel), List.mem_of_getElem? (i := 401) (by decide +kernel), List.mem_of_getElem? (i := 402) (by decide +kernel)⟩
theorem lw_p8 : lw_okq (⟨"OverrideRules$Faults", "noteIf", "(ZIII)V"⟩, 9) := ⟨⟨by decide +kernel, by decide +kernel⟩, List.mem_of_getElem? (i := 105) (by decide +kernel), List.mem_of_getElem? (i := 410) (by decide +kernel), List.mem_of_getElem? (i := 411) (by decide +kernel)⟩
theorem lw_p9 : lw_okq (⟨"OverrideRules$Faults", "note", "(III)V"⟩, 9) := ⟨⟨by decide +kernel, by decide +kernel⟩, List.mem_of_getElem? (i := 105) (by decide +kernel), List.mem_of_getElem? (i := 414) (by decide +kernel), List.mem_of_getElem? (i := 415) (by decide +kernel)⟩
theorem lw_p10 : lw_okq (⟨"OverrideRules$Faults", "compare", "(II)V"⟩, 9) := ⟨⟨by decide +kernel, by decide +kernel⟩, List.mem_of_getElem? (i := 105) (by decide +kernel), List.mem_of_getElem? (i := 420) (by decide +kernel), List.mem_of_getElem? (i := 421) (by decide +kernel)⟩
theorem lw_p11 : lw_okq (⟨"OverrideRules$Faults", "suits", "(II)Z"⟩, 9) := ⟨⟨by decide +kernel, by decide +kernel⟩, List.mem_of_getElem? (i := 105) (by decide +kernel), List.mem_of_getElem? (i := 432) (by decide +kernel), List.mem_of_getElem? (i := 433) (by decide +kernel)⟩
theorem lw_p12 : lw_okq (⟨"OverrideRules$Faults", "walkInherited", "(I)V"⟩, 9) := ⟨⟨by decide +kernel, by decide +kernel⟩, List.mem_of_getElem? (i := 105) (by decide +kernel), List.mem_of_getElem? (i := 452) (by decide +kernel), List.mem_of_getElem? (i := 453) (by decide +kernel)⟩
theorem lw_p13 : lw_okq (⟨"OverrideRules$Faults", "noteChosen", "(III)V"⟩, 9) := ⟨⟨by decide +kernel, by decide +kernel⟩, List.mem_of_getElem? (i := 105) (by decide +kernel), List.mem_of_getElem? (i := 459) (by decide +kernel), List.mem_of_getElem? (i := 460) (by decide +kernel)⟩
theorem lw_p14 : lw_okq (⟨"OverrideRules$Faults", "isMetByChance", "(II)Z"⟩, 9) := ⟨⟨by decide +kernel, by decide +kernel⟩, List.mem_of_getElem? (i := 105) (by decide +kernel), List.mem_of_getElem? (i := 463) (by decide +kernel), List.mem_of_getElem? (i := 464) (by decide +kernel)⟩
theorem lw_p15 : lw_okq (⟨"OverrideRulesModel", "isType", "(I)Z"⟩, 21) := ⟨⟨by decide +kernel, by decide +kernel⟩, List.mem_of_getElem? (i := 504) (by decide +kernel), List.mem_of_getElem? (i := 583) (by decide +kernel), List.mem_of_getElem? (i := 584) (by decide +kernel)⟩
def lw_privs_1 : List (MethodName × Nat) := [(⟨"OverrideRules$Types", "findAbove", "(I)V"⟩, 6), (⟨"OverrideRules", "isMissingType", "(I)Z"⟩, 5), (⟨"OverrideRules$Members", "isOfNameBelow", "(II)Z"⟩, 8), (⟨"OverrideRules$Members", "isReached", "(II)Z"⟩, 8), (⟨"OverrideRules$Members", "isSeen", "(II)Z"⟩, 8), (⟨"OverrideRules$Choice", "chooseOfInterfaces", "(II)I"⟩, 2), (⟨"OverrideRules$Choice", "leastOrFight", "(II)I"⟩, 2), (⟨"OverrideRules$Faults", "walkOwn", "(I)V"⟩, 9), (⟨"OverrideRules$Faults", "noteIf", "(ZIII)V"⟩, 9), (⟨"OverrideRules$Faults", "note", "(III)V"⟩, 9), (⟨"OverrideRules$Faults", "compare", "(II)V"⟩, 9), (⟨"OverrideRules$Faults", "suits", "(II)Z"⟩, 9), (⟨"OverrideRules$Faults", "walkInherited", "(I)V"⟩, 9), (⟨"OverrideRules$Faults", "noteChosen", "(III)V"⟩, 9), (⟨"OverrideRules$Faults", "isMetByChance", "(II)Z"⟩, 9), (⟨"OverrideRulesModel", "isType", "(I)Z"⟩, 21)]
theorem lw_r1 : ∀ q ∈ lw_privs_1, lw_okq q := List.forall_mem_cons.mpr ⟨lw_p0, List.forall_mem_cons.mpr ⟨lw_p1, List.forall_mem_cons.mpr ⟨lw_p2, List.forall_mem_cons.mpr ⟨lw_p3, List.forall_mem_cons.mpr ⟨lw_p4, List.forall_mem_cons.mpr ⟨lw_p5, List.forall_mem_cons.mpr ⟨lw_p6, List.forall_mem_cons.mpr ⟨lw_p7, List.forall_mem_cons.mpr ⟨lw_p8, List.forall_mem_cons.mpr ⟨lw_p9, List.forall_mem_cons.mpr ⟨lw_p10, List.forall_mem_cons.mpr ⟨lw_p11, List.forall_mem_cons.mpr ⟨lw_p12, List.forall_mem_cons.mpr ⟨lw_p13, List.forall_mem_cons.mpr ⟨lw_p14, List.forall_mem_cons.mpr ⟨lw_p15, fun _ h => absurd h List.not_mem_nil⟩⟩⟩⟩⟩⟩⟩⟩⟩⟩⟩⟩⟩⟩⟩⟩
theorem lw_p16 : lw_okq (⟨"OverrideRulesModel", "rise", "()V"⟩, 21) := ⟨⟨by decide +kernel, by decide +kernel⟩, List.mem_of_getElem? (i := 504) (by decide +kernel), List.mem_of_getElem? (i := 590) (by decide +kernel), List.mem_of_getElem? (i := 591) (by decide +kernel)⟩
theorem lw_p17 : lw_okq (⟨"OverrideRulesModel", "lift", "(II)V"⟩, 21) := ⟨⟨by decide +kernel, by decide +kernel⟩, List.mem_of_getElem? (i := 504) (by decide +kernel), List.mem_of_getElem? (i := 594) (by decide +kernel), List.mem_of_getElem? (i := 595) (by decide +kernel)⟩
theorem lw_p18 : lw_okq (⟨"OverrideRulesModel", "work", "()V"⟩, 21) := ⟨⟨by decide +kernel, by decide +kernel⟩, List.mem_of_getElem? (i := 504) (by decide +kernel), List.mem_of_getElem? (i := 598) (by decide +kernel), List.mem_of_getElem? (i := 599) (by decide +kernel)⟩
theorem lw_p19 : lw_okq (⟨"OverrideRulesModel", "isBelow", "(II)Z"⟩, 21) := ⟨⟨by decide +kernel, by decide +kernel⟩, List.mem_of_getElem? (i := 504) (by decide +kernel), List.mem_of_getElem? (i := 602) (by decide +kernel), List.mem_of_getElem? (i := 603) (by decide +kernel)⟩
theorem lw_p20 : lw_okq (⟨"OverrideRulesModel", "isStatic", "(I)Z"⟩, 21) := ⟨⟨by decide +kernel, by decide +kernel⟩, List.mem_of_getElem? (i := 504) (by decide +kernel), List.mem_of_getElem? (i := 606) (by decide +kernel), List.mem_of_getElem? (i := 607) (by decide +kernel)⟩
theorem lw_p21 : lw_okq (⟨"OverrideRulesModel", "has", "(II)Z"⟩, 21) := ⟨⟨by decide +kernel, by decide +kernel⟩, List.mem_of_getElem? (i := 504) (by decide +kernel), List.mem_of_getElem? (i := 610) (by decide +kernel), List.mem_of_getElem? (i := 611) (by decide +kernel)⟩
theorem lw_p22 : lw_okq (⟨"OverrideRulesModel", "isPrivate", "(I)Z"⟩, 21) := ⟨⟨by decide +kernel, by decide +kernel⟩, List.mem_of_getElem? (i := 504) (by decide +kernel), List.mem_of_getElem? (i := 614) (by decide +kernel), List.mem_of_getElem? (i := 615) (by decide +kernel)⟩
theorem lw_p23 : lw_okq (⟨"OverrideRulesModel", "goesOver", "(II)Z"⟩, 21) := ⟨⟨by decide +kernel, by decide +kernel⟩, List.mem_of_getElem? (i := 504) (by decide +kernel), List.mem_of_getElem? (i := 618) (by decide +kernel), List.mem_of_getElem? (i := 619) (by decide +kernel)⟩
theorem lw_p24 : lw_okq (⟨"OverrideRulesModel", "isInterface", "(I)Z"⟩, 21) := ⟨⟨by decide +kernel, by decide +kernel⟩, List.mem_of_getElem? (i := 504) (by decide +kernel), List.mem_of_getElem? (i := 622) (by decide +kernel), List.mem_of_getElem? (i := 623) (by decide +kernel)⟩
theorem lw_p25 : lw_okq (⟨"OverrideRulesModel", "isSeen", "(II)Z"⟩, 21) := ⟨⟨by decide +kernel, by decide +kernel⟩, List.mem_of_getElem? (i := 504) (by decide +kernel), List.mem_of_getElem? (i := 626) (by decide +kernel), List.mem_of_getElem? (i := 627) (by decide +kernel)⟩
theorem lw_p26 : lw_okq (⟨"OverrideRulesModel", "access", "(I)I"⟩, 21) := ⟨⟨by decide +kernel, by decide +kernel⟩, List.mem_of_getElem? (i := 504) (by decide +kernel), List.mem_of_getElem? (i := 630) (by decide +kernel), List.mem_of_getElem? (i := 631) (by decide +kernel)⟩
theorem lw_p27 : lw_okq (⟨"OverrideRulesModel", "isSub", "(II)Z"⟩, 21) := ⟨⟨by decide +kernel, by decide +kernel⟩, List.mem_of_getElem? (i := 504) (by decide +kernel), List.mem_of_getElem? (i := 642) (by decide +kernel), List.mem_of_getElem? (i := 643) (by decide +kernel)⟩
theorem lw_p28 : lw_okq (⟨"OverrideRulesModel", "isMember", "(I)Z"⟩, 21) := ⟨⟨by decide +kernel, by decide +kernel⟩, List.mem_of_getElem? (i := 504) (by decide +kernel), List.mem_of_getElem? (i := 654) (by decide +kernel), List.mem_of_getElem? (i := 655) (by decide +kernel)⟩
theorem lw_p29 : lw_okq (⟨"OverrideRulesModel", "isOver", "(II)Z"⟩, 21) := ⟨⟨by decide +kernel, by decide +kernel⟩, List.mem_of_getElem? (i := 504) (by decide +kernel), List.mem_of_getElem? (i := 672) (by decide +kernel), List.mem_of_getElem? (i := 673) (by decide +kernel)⟩
theorem lw_p30 : lw_okq (⟨"OverrideRulesModel", "hidesIt", "(II)Z"⟩, 21) := ⟨⟨by decide +kernel, by decide +kernel⟩, List.mem_of_getElem? (i := 504) (by decide +kernel), List.mem_of_getElem? (i := 680) (by decide +kernel), List.mem_of_getElem? (i := 681) (by decide +kernel)⟩
theorem lw_p31 : lw_okq (⟨"OverrideRulesModel", "isPlain", "(I)Z"⟩, 21) := ⟨⟨by decide +kernel, by decide +kernel⟩, List.mem_of_getElem? (i := 504) (by decide +kernel), List.mem_of_getElem? (i := 688) (by decide +kernel), List.mem_of_getElem? (i := 689) (by decide +kernel)⟩
def lw_privs_2 : List (MethodName × Nat) := [(⟨"OverrideRulesModel", "rise", "()V"⟩, 21), (⟨"OverrideRulesModel", "lift", "(II)V"⟩, 21), (⟨"OverrideRulesModel", "work", "()V"⟩, 21), (⟨"OverrideRulesModel", "isBelow", "(II)Z"⟩, 21), (⟨"OverrideRulesModel", "isStatic", "(I)Z"⟩, 21), (⟨"OverrideRulesModel", "has", "(II)Z"⟩, 21), (⟨"OverrideRulesModel", "isPrivate", "(I)Z"⟩, 21), (⟨"OverrideRulesModel", "goesOver", "(II)Z"⟩, 21), (⟨"OverrideRulesModel", "isInterface", "(I)Z"⟩, 21), (⟨"OverrideRulesModel", "isSeen", "(II)Z"⟩, 21), (⟨"OverrideRulesModel", "access", "(I)I"⟩, 21), (⟨"OverrideRulesModel", "isSub", "(II)Z"⟩, 21), (⟨"OverrideRulesModel", "isMember", "(I)Z"⟩, 21), (⟨"OverrideRulesModel", "isOver", "(II)Z"⟩, 21), (⟨"OverrideRulesModel", "hidesIt", "(II)Z"⟩, 21), (⟨"OverrideRulesModel", "isPlain", "(I)Z"⟩, 21)]
theorem lw_r2 : ∀ q ∈ lw_privs_2, lw_okq q := List.forall_mem_cons.mpr ⟨lw_p16, List.forall_mem_cons.mpr ⟨lw_p17, List.forall_mem_cons.mpr ⟨lw_p18, List.forall_mem_cons.mpr ⟨lw_p19, List.forall_mem_cons.mpr ⟨lw_p20, List.forall_mem_cons.mpr ⟨lw_p21, List.forall_mem_cons.mpr ⟨lw_p22, List.forall_mem_cons.mpr ⟨lw_p23, List.forall_mem_cons.mpr ⟨lw_p24, List.forall_mem_cons.mpr ⟨lw_p25, List.forall_mem_cons.mpr ⟨lw_p26, List.forall_mem_cons.mpr ⟨lw_p27, List.forall_mem_cons.mpr ⟨lw_p28, List.forall_mem_cons.mpr ⟨lw_p29, List.forall_mem_cons.mpr ⟨lw_p30, List.forall_mem_cons.mpr ⟨lw_p31, fun _ h => absurd h List.not_mem_nil⟩⟩⟩⟩⟩⟩⟩⟩⟩⟩⟩⟩⟩⟩⟩⟩
theorem lw_p32 : lw_okq (⟨"OverrideRulesModel", "choose", "(II)I"⟩, 21) := ⟨⟨by decide +kernel, by decide +kernel⟩, List.mem_of_getElem? (i := 504) (by decide +kernel), List.mem_of_getElem? (i := 692) (by decide +kernel), List.mem_of_getElem? (i := 693) (by decide +kernel)⟩
theorem lw_p33 : lw_okq (⟨"OverrideRulesModel", "isLast", "(II)Z"⟩, 21) := ⟨⟨by decide +kernel, by decide +kernel⟩, List.mem_of_getElem? (i := 504) (by decide +kernel), List.mem_of_getElem? (i := 696) (by decide +kernel), List.mem_of_getElem? (i := 697) (by decide +kernel)⟩
theorem lw_p34 : lw_okq (⟨"OverrideRulesModel", "judge", "(I)V"⟩, 21) := ⟨⟨by decide +kernel, by decide +kernel⟩, List.mem_of_getElem? (i := 504) (by decide +kernel), List.mem_of_getElem? (i := 704) (by decide +kernel), List.mem_of_getElem? (i := 705) (by decide +kernel)⟩
theorem lw_p35 : lw_okq (⟨"OverrideRulesModel", "isMixed", "(II)Z"⟩, 21) := ⟨⟨by decide +kernel, by decide +kernel⟩, List.mem_of_getElem? (i := 504) (by decide +kernel), List.mem_of_getElem? (i := 708) (by decide +kernel), List.mem_of_getElem? (i := 709) (by decide +kernel)⟩
theorem lw_p36 : lw_okq (⟨"OverrideRulesModel", "note", "(III)V"⟩, 21) := ⟨⟨by decide +kernel, by decide +kernel⟩, List.mem_of_getElem? (i := 504) (by decide +kernel), List.mem_of_getElem? (i := 712) (by decide +kernel), List.mem_of_getElem? (i := 713) (by decide +kernel)⟩
theorem lw_p37 : lw_okq (⟨"OverrideRulesModel", "three", "(II)V"⟩, 21) := ⟨⟨by decide +kernel, by decide +kernel⟩, List.mem_of_getElem? (i := 504) (by decide +kernel), List.mem_of_getElem? (i := 716) (by decide +kernel), List.mem_of_getElem? (i := 717) (by decide +kernel)⟩
theorem lw_p38 : lw_okq (⟨"OverrideRulesModel", "suits", "(II)Z"⟩, 21) := ⟨⟨by decide +kernel, by decide +kernel⟩, List.mem_of_getElem? (i := 504) (by decide +kernel), List.mem_of_getElem? (i := 720) (by decide +kernel), List.mem_of_getElem? (i := 721) (by decide +kernel)⟩
theorem lw_p39 : lw_okq (⟨"OverrideRulesModel", "throwsMore", "(II)Z"⟩, 21) := ⟨⟨by decide +kernel, by decide +kernel⟩, List.mem_of_getElem? (i := 504) (by decide +kernel), List.mem_of_getElem? (i := 724) (by decide +kernel), List.mem_of_getElem? (i := 725) (by decide +kernel)⟩
theorem lw_p40 : lw_okq (⟨"OverrideRulesModel", "inherited", "(II)V"⟩, 21) := ⟨⟨by decide +kernel, by decide +kernel⟩, List.mem_of_getElem? (i := 504) (by decide +kernel), List.mem_of_getElem? (i := 728) (by decide +kernel), List.mem_of_getElem? (i := 729) (by decide +kernel)⟩
def lw_privs_3 : List (MethodName × Nat) := [(⟨"OverrideRulesModel", "choose", "(II)I"⟩, 21), (⟨"OverrideRulesModel", "isLast", "(II)Z"⟩, 21), (⟨"OverrideRulesModel", "judge", "(I)V"⟩, 21), (⟨"OverrideRulesModel", "isMixed", "(II)Z"⟩, 21), (⟨"OverrideRulesModel", "note", "(III)V"⟩, 21), (⟨"OverrideRulesModel", "three", "(II)V"⟩, 21), (⟨"OverrideRulesModel", "suits", "(II)Z"⟩, 21), (⟨"OverrideRulesModel", "throwsMore", "(II)Z"⟩, 21), (⟨"OverrideRulesModel", "inherited", "(II)V"⟩, 21)]
theorem lw_r3 : ∀ q ∈ lw_privs_3, lw_okq q := List.forall_mem_cons.mpr ⟨lw_p32, List.forall_mem_cons.mpr ⟨lw_p33, List.forall_mem_cons.mpr ⟨lw_p34, List.forall_mem_cons.mpr ⟨lw_p35, List.forall_mem_cons.mpr ⟨lw_p36, List.forall_mem_cons.mpr ⟨lw_p37, List.forall_mem_cons.mpr ⟨lw_p38, List.forall_mem_cons.mpr ⟨lw_p39, List.forall_mem_cons.mpr ⟨lw_p40, fun _ h => absurd h List.not_mem_nil⟩⟩⟩⟩⟩⟩⟩⟩⟩
def lw_privs : List (MethodName × Nat) := lw_privs_1 ++ (lw_privs_2 ++ (lw_privs_3))
def lw_tbl : List Cond := k2_sels lw_privs ++ tables_1
theorem lw_privs_ok : ∀ q ∈ lw_privs, lw_okq q := by
  show ∀ q ∈ lw_privs_1 ++ (lw_privs_2 ++ (lw_privs_3)), lw_okq q
  exact List.forall_mem_append.mpr ⟨lw_r1, List.forall_mem_append.mpr ⟨lw_r2, lw_r3⟩⟩
/-! ===== BEGIN printed: names, fields, word lists, decode rows ===== -/
def RX0 : String := "OverrideRules$Choice"
def TX0 : u_T := fun k => match k with
  | 0 => ("OverrideRules$Choice", "types", "LOverrideRules$Types;", true)
  | _ => ("OverrideRules$Choice", "members", "LOverrideRules$Members;", true)
def tyX0 : Nat → FieldType := fun k => match k with
  | 0 => .object "OverrideRules$Types"
  | _ => .object "OverrideRules$Members"
abbrev wsX00 : List Cond := u_ws RX0 TX0 2
theorem nmX0 : ∀ a, a < 2 → ∀ b, b < 2 → a ≠ b → (TX0 a).2.1 ≠ (TX0 b).2.1 := by decide +kernel
theorem tyX0_ok : ∀ k, k < 2 → parseFieldDescriptor (TX0 k).2.2.1 = some (tyX0 k) := by decide +kernel
abbrev cX0_init : ByteArray := prog_2_method_1_code
def yX0_init : MethodName := ⟨RX0, "<init>", "(LOverrideRules$Types;LOverrideRules$Members;)V"⟩
abbrev cX0_choose : ByteArray := prog_2_method_2_code
def yX0_choose : MethodName := ⟨RX0, "choose", "(II)I"⟩
abbrev cX0_chooseOfInterfaces : ByteArray := prog_2_method_3_code
def yX0_chooseOfInterfaces : MethodName := ⟨RX0, "chooseOfInterfaces", "(II)I"⟩
abbrev cX0_leastOrFight : ByteArray := prog_2_method_4_code
def yX0_leastOrFight : MethodName := ⟨RX0, "leastOrFight", "(II)I"⟩
def RX1 : String := "OverrideRules$Faults"
def TX1 : u_T := fun k => match k with
  | 0 => ("OverrideRules$Faults", "types", "LOverrideRules$Types;", true)
  | 1 => ("OverrideRules$Faults", "thrown", "LOverrideRules$Throws;", true)
  | 2 => ("OverrideRules$Faults", "members", "LOverrideRules$Members;", true)
  | 3 => ("OverrideRules$Faults", "choice", "LOverrideRules$Choice;", true)
  | 4 => ("OverrideRules$Faults", "wanted", "I", false)
  | 5 => ("OverrideRules$Faults", "count", "I", false)
  | 6 => ("OverrideRules$Faults", "pickedCode", "I", false)
  | 7 => ("OverrideRules$Faults", "pickedM", "I", false)
  | _ => ("OverrideRules$Faults", "pickedO", "I", false)
def tyX1 : Nat → FieldType := fun k => match k with
  | 0 => .object "OverrideRules$Types"
  | 1 => .object "OverrideRules$Throws"
  | 2 => .object "OverrideRules$Members"
  | 3 => .object "OverrideRules$Choice"
  | 4 => .int
  | 5 => .int
  | 6 => .int
  | 7 => .int
  | _ => .int
abbrev wsX10 : List Cond := u_ws RX1 TX1 9
theorem nmX1 : ∀ a, a < 9 → ∀ b, b < 9 → a ≠ b → (TX1 a).2.1 ≠ (TX1 b).2.1 := by decide +kernel
theorem tyX1_ok : ∀ k, k < 9 → parseFieldDescriptor (TX1 k).2.2.1 = some (tyX1 k) := by decide +kernel
abbrev cX1_init : ByteArray := prog_3_method_1_code
def yX1_init : MethodName := ⟨RX1, "<init>", "(LOverrideRules$Types;LOverrideRules$Throws;LOverrideRules$Members;LOverrideRules$Choice;)V"⟩
abbrev cX1_walk : ByteArray := prog_3_method_2_code
def yX1_walk : MethodName := ⟨RX1, "walk", "(II)I"⟩
abbrev cX1_pickedPart : ByteArray := prog_3_method_3_code
def yX1_pickedPart : MethodName := ⟨RX1, "pickedPart", "(I)I"⟩
abbrev cX1_note : ByteArray := prog_3_method_4_code
def yX1_note : MethodName := ⟨RX1, "note", "(III)V"⟩
abbrev cX1_noteIf : ByteArray := prog_3_method_5_code
def yX1_noteIf : MethodName := ⟨RX1, "noteIf", "(ZIII)V"⟩
abbrev cX1_walkOwn : ByteArray := prog_3_method_6_code
def yX1_walkOwn : MethodName := ⟨RX1, "walkOwn", "(I)V"⟩
abbrev cX1_compare : ByteArray := prog_3_method_7_code
def yX1_compare : MethodName := ⟨RX1, "compare", "(II)V"⟩
abbrev cX1_suits : ByteArray := prog_3_method_8_code
def yX1_suits : MethodName := ⟨RX1, "suits", "(II)Z"⟩
abbrev cX1_walkInherited : ByteArray := prog_3_method_9_code
def yX1_walkInherited : MethodName := ⟨RX1, "walkInherited", "(I)V"⟩
abbrev cX1_noteChosen : ByteArray := prog_3_method_10_code
def yX1_noteChosen : MethodName := ⟨RX1, "noteChosen", "(III)V"⟩
abbrev cX1_isMetByChance : ByteArray := prog_3_method_11_code
def yX1_isMetByChance : MethodName := ⟨RX1, "isMetByChance", "(II)Z"⟩
def RX2 : String := "OverrideRules$Members"
def TX2 : u_T := fun k => match k with
  | 0 => ("OverrideRules$Members", "types", "LOverrideRules$Types;", true)
  | 1 => ("OverrideRules$Members", "owners", "[I", true)
  | 2 => ("OverrideRules$Members", "names", "[I", true)
  | 3 => ("OverrideRules$Members", "results", "[I", true)
  | 4 => ("OverrideRules$Members", "marks", "[I", true)
  | 5 => ("OverrideRules$Members", "throwSets", "[I", true)
  | 6 => ("OverrideRules$Members", "slots", "[I", true)
  | _ => ("OverrideRules$Members", "count", "I", false)
def tyX2 : Nat → FieldType := fun k => match k with
  | 0 => .object "OverrideRules$Types"
  | 1 => .array .int
  | 2 => .array .int
  | 3 => .array .int
  | 4 => .array .int
  | 5 => .array .int
  | 6 => .array .int
  | _ => .int
abbrev wsX20 : List Cond := u_ws RX2 TX2 8
theorem nmX2 : ∀ a, a < 8 → ∀ b, b < 8 → a ≠ b → (TX2 a).2.1 ≠ (TX2 b).2.1 := by decide +kernel
theorem tyX2_ok : ∀ k, k < 8 → parseFieldDescriptor (TX2 k).2.2.1 = some (tyX2 k) := by decide +kernel
abbrev cX2_init : ByteArray := prog_4_method_1_code
def yX2_init : MethodName := ⟨RX2, "<init>", "(LOverrideRules$Types;)V"⟩
abbrev cX2_forget : ByteArray := prog_4_method_2_code
def yX2_forget : MethodName := ⟨RX2, "forget", "()V"⟩
abbrev cX2_size : ByteArray := prog_4_method_3_code
def yX2_size : MethodName := ⟨RX2, "size", "()I"⟩
abbrev cX2_has : ByteArray := prog_4_method_4_code
def yX2_has : MethodName := ⟨RX2, "has", "(I)Z"⟩
abbrev cX2_isFull : ByteArray := prog_4_method_5_code
def yX2_isFull : MethodName := ⟨RX2, "isFull", "()Z"⟩
abbrev cX2_add : ByteArray := prog_4_method_6_code
def yX2_add : MethodName := ⟨RX2, "add", "(IIII)I"⟩
abbrev cX2_addThrow : ByteArray := prog_4_method_7_code
def yX2_addThrow : MethodName := ⟨RX2, "addThrow", "(II)Z"⟩
abbrev cX2_at : ByteArray := prog_4_method_8_code
def yX2_at : MethodName := ⟨RX2, "at", "(II)I"⟩
abbrev cX2_typeOf : ByteArray := prog_4_method_9_code
def yX2_typeOf : MethodName := ⟨RX2, "typeOf", "(I)I"⟩
abbrev cX2_nameOf : ByteArray := prog_4_method_10_code
def yX2_nameOf : MethodName := ⟨RX2, "nameOf", "(I)I"⟩
abbrev cX2_resultOf : ByteArray := prog_4_method_11_code
def yX2_resultOf : MethodName := ⟨RX2, "resultOf", "(I)I"⟩
abbrev cX2_thrownBy : ByteArray := prog_4_method_12_code
def yX2_thrownBy : MethodName := ⟨RX2, "thrownBy", "(I)I"⟩
abbrev cX2_hasMark : ByteArray := prog_4_method_13_code
def yX2_hasMark : MethodName := ⟨RX2, "hasMark", "(II)Z"⟩
abbrev cX2_isInheritable : ByteArray := prog_4_method_14_code
def yX2_isInheritable : MethodName := ⟨RX2, "isInheritable", "(I)Z"⟩
abbrev cX2_accessOf : ByteArray := prog_4_method_15_code
def yX2_accessOf : MethodName := ⟨RX2, "accessOf", "(I)I"⟩
abbrev cX2_isOverriding : ByteArray := prog_4_method_16_code
def yX2_isOverriding : MethodName := ⟨RX2, "isOverriding", "(II)Z"⟩
abbrev cX2_isHiding : ByteArray := prog_4_method_17_code
def yX2_isHiding : MethodName := ⟨RX2, "isHiding", "(II)Z"⟩
abbrev cX2_isMixed : ByteArray := prog_4_method_18_code
def yX2_isMixed : MethodName := ⟨RX2, "isMixed", "(II)Z"⟩
abbrev cX2_isOfNameBelow : ByteArray := prog_4_method_19_code
def yX2_isOfNameBelow : MethodName := ⟨RX2, "isOfNameBelow", "(II)Z"⟩
abbrev cX2_isSeen : ByteArray := prog_4_method_20_code
def yX2_isSeen : MethodName := ⟨RX2, "isSeen", "(II)Z"⟩
abbrev cX2_isReached : ByteArray := prog_4_method_21_code
def yX2_isReached : MethodName := ⟨RX2, "isReached", "(II)Z"⟩
abbrev cX2_countOverridden : ByteArray := prog_4_method_22_code
def yX2_countOverridden : MethodName := ⟨RX2, "countOverridden", "(I)I"⟩
abbrev cX2_countBridges : ByteArray := prog_4_method_23_code
def yX2_countBridges : MethodName := ⟨RX2, "countBridges", "(I)I"⟩
def RX3 : String := "OverrideRules$Throws"
def TX3 : u_T := fun k => match k with
  | 0 => ("OverrideRules$Throws", "subTo", "[I", true)
  | 1 => ("OverrideRules$Throws", "checkedOnes", "I", false)
  | _ => ("OverrideRules$Throws", "count", "I", false)
def tyX3 : Nat → FieldType := fun k => match k with
  | 0 => .array .int
  | 1 => .int
  | _ => .int
abbrev wsX30 : List Cond := u_ws RX3 TX3 3
theorem nmX3 : ∀ a, a < 3 → ∀ b, b < 3 → a ≠ b → (TX3 a).2.1 ≠ (TX3 b).2.1 := by decide +kernel
theorem tyX3_ok : ∀ k, k < 3 → parseFieldDescriptor (TX3 k).2.2.1 = some (tyX3 k) := by decide +kernel
abbrev cX3_init : ByteArray := prog_5_method_1_code
def yX3_init : MethodName := ⟨RX3, "<init>", "()V"⟩
abbrev cX3_forget : ByteArray := prog_5_method_2_code
def yX3_forget : MethodName := ⟨RX3, "forget", "()V"⟩
abbrev cX3_size : ByteArray := prog_5_method_3_code
def yX3_size : MethodName := ⟨RX3, "size", "()I"⟩
abbrev cX3_has : ByteArray := prog_5_method_4_code
def yX3_has : MethodName := ⟨RX3, "has", "(I)Z"⟩
abbrev cX3_isFull : ByteArray := prog_5_method_5_code
def yX3_isFull : MethodName := ⟨RX3, "isFull", "()Z"⟩
abbrev cX3_add : ByteArray := prog_5_method_6_code
def yX3_add : MethodName := ⟨RX3, "add", "(IZ)I"⟩
abbrev cX3_areAllowed : ByteArray := prog_5_method_7_code
def yX3_areAllowed : MethodName := ⟨RX3, "areAllowed", "(II)Z"⟩
def RX4 : String := "OverrideRules$Types"
def TX4 : u_T := fun k => match k with
  | 0 => ("OverrideRules$Types", "kinds", "[I", true)
  | 1 => ("OverrideRules$Types", "packets", "[I", true)
  | 2 => ("OverrideRules$Types", "parents", "[I", true)
  | 3 => ("OverrideRules$Types", "faces", "[I", true)
  | 4 => ("OverrideRules$Types", "above", "[I", true)
  | _ => ("OverrideRules$Types", "count", "I", false)
def tyX4 : Nat → FieldType := fun k => match k with
  | 0 => .array .int
  | 1 => .array .int
  | 2 => .array .int
  | 3 => .array .int
  | 4 => .array .int
  | _ => .int
abbrev wsX40 : List Cond := u_ws RX4 TX4 6
theorem nmX4 : ∀ a, a < 6 → ∀ b, b < 6 → a ≠ b → (TX4 a).2.1 ≠ (TX4 b).2.1 := by decide +kernel
theorem tyX4_ok : ∀ k, k < 6 → parseFieldDescriptor (TX4 k).2.2.1 = some (tyX4 k) := by decide +kernel
abbrev cX4_init : ByteArray := prog_6_method_1_code
def yX4_init : MethodName := ⟨RX4, "<init>", "()V"⟩
abbrev cX4_forget : ByteArray := prog_6_method_2_code
def yX4_forget : MethodName := ⟨RX4, "forget", "()V"⟩
abbrev cX4_size : ByteArray := prog_6_method_3_code
def yX4_size : MethodName := ⟨RX4, "size", "()I"⟩
abbrev cX4_has : ByteArray := prog_6_method_4_code
def yX4_has : MethodName := ⟨RX4, "has", "(I)Z"⟩
abbrev cX4_isFull : ByteArray := prog_6_method_5_code
def yX4_isFull : MethodName := ⟨RX4, "isFull", "()Z"⟩
abbrev cX4_add : ByteArray := prog_6_method_6_code
def yX4_add : MethodName := ⟨RX4, "add", "(III)I"⟩
abbrev cX4_addFace : ByteArray := prog_6_method_7_code
def yX4_addFace : MethodName := ⟨RX4, "addFace", "(II)I"⟩
abbrev cX4_findAbove : ByteArray := prog_6_method_8_code
def yX4_findAbove : MethodName := ⟨RX4, "findAbove", "(I)V"⟩
abbrev cX4_hasFace : ByteArray := prog_6_method_9_code
def yX4_hasFace : MethodName := ⟨RX4, "hasFace", "(II)Z"⟩
abbrev cX4_countFaces : ByteArray := prog_6_method_10_code
def yX4_countFaces : MethodName := ⟨RX4, "countFaces", "(I)I"⟩
abbrev cX4_isInterface : ByteArray := prog_6_method_11_code
def yX4_isInterface : MethodName := ⟨RX4, "isInterface", "(I)Z"⟩
abbrev cX4_isPlainClass : ByteArray := prog_6_method_12_code
def yX4_isPlainClass : MethodName := ⟨RX4, "isPlainClass", "(I)Z"⟩
abbrev cX4_parentOf : ByteArray := prog_6_method_13_code
def yX4_parentOf : MethodName := ⟨RX4, "parentOf", "(I)I"⟩
abbrev cX4_packetOf : ByteArray := prog_6_method_14_code
def yX4_packetOf : MethodName := ⟨RX4, "packetOf", "(I)I"⟩
abbrev cX4_allAbove : ByteArray := prog_6_method_15_code
def yX4_allAbove : MethodName := ⟨RX4, "allAbove", "(I)I"⟩
abbrev cX4_isBelow : ByteArray := prog_6_method_16_code
def yX4_isBelow : MethodName := ⟨RX4, "isBelow", "(II)Z"⟩
abbrev cX4_isSub : ByteArray := prog_6_method_17_code
def yX4_isSub : MethodName := ⟨RX4, "isSub", "(II)Z"⟩
def RX5 : String := "OverrideRules"
def TX5 : u_T := fun k => match k with
  | 0 => ("OverrideRules", "types", "LOverrideRules$Types;", true)
  | 1 => ("OverrideRules", "thrown", "LOverrideRules$Throws;", true)
  | 2 => ("OverrideRules", "members", "LOverrideRules$Members;", true)
  | 3 => ("OverrideRules", "choice", "LOverrideRules$Choice;", true)
  | _ => ("OverrideRules", "faults", "LOverrideRules$Faults;", true)
def tyX5 : Nat → FieldType := fun k => match k with
  | 0 => .object "OverrideRules$Types"
  | 1 => .object "OverrideRules$Throws"
  | 2 => .object "OverrideRules$Members"
  | 3 => .object "OverrideRules$Choice"
  | _ => .object "OverrideRules$Faults"
abbrev wsX50 : List Cond := u_ws RX5 TX5 5
theorem nmX5 : ∀ a, a < 5 → ∀ b, b < 5 → a ≠ b → (TX5 a).2.1 ≠ (TX5 b).2.1 := by decide +kernel
theorem tyX5_ok : ∀ k, k < 5 → parseFieldDescriptor (TX5 k).2.2.1 = some (tyX5 k) := by decide +kernel
abbrev cX5_init : ByteArray := prog_1_method_1_code
def yX5_init : MethodName := ⟨RX5, "<init>", "()V"⟩
abbrev cX5_clear : ByteArray := prog_1_method_2_code
def yX5_clear : MethodName := ⟨RX5, "clear", "()I"⟩
abbrev cX5_type : ByteArray := prog_1_method_3_code
def yX5_type : MethodName := ⟨RX5, "type", "(III)I"⟩
abbrev cX5_face : ByteArray := prog_1_method_4_code
def yX5_face : MethodName := ⟨RX5, "face", "(II)I"⟩
abbrev cX5_thrown0 : ByteArray := prog_1_method_5_code
def yX5_thrown0 : MethodName := ⟨RX5, "thrown0", "(IZ)I"⟩
abbrev cX5_member : ByteArray := prog_1_method_6_code
def yX5_member : MethodName := ⟨RX5, "member", "(IIII)I"⟩
abbrev cX5_throws0 : ByteArray := prog_1_method_7_code
def yX5_throws0 : MethodName := ⟨RX5, "throws0", "(II)I"⟩
abbrev cX5_overrides : ByteArray := prog_1_method_8_code
def yX5_overrides : MethodName := ⟨RX5, "overrides", "(II)I"⟩
abbrev cX5_hides : ByteArray := prog_1_method_9_code
def yX5_hides : MethodName := ⟨RX5, "hides", "(II)I"⟩
abbrev cX5_chosen : ByteArray := prog_1_method_10_code
def yX5_chosen : MethodName := ⟨RX5, "chosen", "(II)I"⟩
abbrev cX5_sub : ByteArray := prog_1_method_11_code
def yX5_sub : MethodName := ⟨RX5, "sub", "(II)I"⟩
abbrev cX5_check : ByteArray := prog_1_method_12_code
def yX5_check : MethodName := ⟨RX5, "check", "(I)I"⟩
abbrev cX5_fault : ByteArray := prog_1_method_13_code
def yX5_fault : MethodName := ⟨RX5, "fault", "(III)I"⟩
abbrev cX5_bridges : ByteArray := prog_1_method_14_code
def yX5_bridges : MethodName := ⟨RX5, "bridges", "(I)I"⟩
abbrev cX5_first : ByteArray := prog_1_method_15_code
def yX5_first : MethodName := ⟨RX5, "first", "(I)I"⟩
abbrev cX5_told : ByteArray := prog_1_method_16_code
def yX5_told : MethodName := ⟨RX5, "told", "(I)I"⟩
abbrev cX5_isMissingType : ByteArray := prog_1_method_17_code
def yX5_isMissingType : MethodName := ⟨RX5, "isMissingType", "(I)Z"⟩
abbrev cX5_areMarks : ByteArray := prog_1_method_18_code
def yX5_areMarks : MethodName := ⟨RX5, "areMarks", "(ZI)Z"⟩
abbrev cX5_areClassMarks : ByteArray := prog_1_method_19_code
def yX5_areClassMarks : MethodName := ⟨RX5, "areClassMarks", "(I)Z"⟩
abbrev cX5_areInterfaceMarks : ByteArray := prog_1_method_20_code
def yX5_areInterfaceMarks : MethodName := ⟨RX5, "areInterfaceMarks", "(I)Z"⟩
abbrev cX5_oneIf : ByteArray := prog_1_method_21_code
def yX5_oneIf : MethodName := ⟨RX5, "oneIf", "(Z)I"⟩
abbrev cX5_hasBit : ByteArray := prog_1_method_22_code
def yX5_hasBit : MethodName := ⟨RX5, "hasBit", "(II)Z"⟩
def RX6 : String := "OverrideRulesModel"
def TX6 : u_T := fun k => match k with
  | 0 => ("OverrideRulesModel", "types", "I", false)
  | 1 => ("OverrideRulesModel", "kind", "[I", true)
  | 2 => ("OverrideRulesModel", "packet", "[I", true)
  | 3 => ("OverrideRulesModel", "parent", "[I", true)
  | 4 => ("OverrideRulesModel", "faces", "[I", true)
  | 5 => ("OverrideRulesModel", "face", "[I", true)
  | 6 => ("OverrideRulesModel", "above", "[Z", true)
  | 7 => ("OverrideRulesModel", "throwsMany", "I", false)
  | 8 => ("OverrideRulesModel", "throwParent", "[I", true)
  | 9 => ("OverrideRulesModel", "checked", "[Z", true)
  | 10 => ("OverrideRulesModel", "members", "I", false)
  | 11 => ("OverrideRulesModel", "of", "[I", true)
  | 12 => ("OverrideRulesModel", "name", "[I", true)
  | 13 => ("OverrideRulesModel", "result", "[I", true)
  | 14 => ("OverrideRulesModel", "marks", "[I", true)
  | 15 => ("OverrideRulesModel", "thrownBy", "[I", true)
  | 16 => ("OverrideRulesModel", "over", "[Z", true)
  | 17 => ("OverrideRulesModel", "faults", "I", false)
  | 18 => ("OverrideRulesModel", "faultCode", "[I", true)
  | 19 => ("OverrideRulesModel", "faultOne", "[I", true)
  | _ => ("OverrideRulesModel", "faultOther", "[I", true)
def tyX6 : Nat → FieldType := fun k => match k with
  | 0 => .int
  | 1 => .array .int
  | 2 => .array .int
  | 3 => .array .int
  | 4 => .array .int
  | 5 => .array .int
  | 6 => .array .boolean
  | 7 => .int
  | 8 => .array .int
  | 9 => .array .boolean
  | 10 => .int
  | 11 => .array .int
  | 12 => .array .int
  | 13 => .array .int
  | 14 => .array .int
  | 15 => .array .int
  | 16 => .array .boolean
  | 17 => .int
  | 18 => .array .int
  | 19 => .array .int
  | _ => .array .int
abbrev wsX60 : List Cond := u_ws RX6 TX6 21
theorem nmX6 : ∀ a, a < 21 → ∀ b, b < 21 → a ≠ b → (TX6 a).2.1 ≠ (TX6 b).2.1 := by decide +kernel
theorem tyX6_ok : ∀ k, k < 21 → parseFieldDescriptor (TX6 k).2.2.1 = some (tyX6 k) := by decide +kernel
abbrev cX6_init : ByteArray := prog_8_method_1_code
def yX6_init : MethodName := ⟨RX6, "<init>", "()V"⟩
abbrev cX6_in : ByteArray := prog_8_method_2_code
def yX6_in : MethodName := ⟨RX6, "in", "(III)Z"⟩
abbrev cX6_isType : ByteArray := prog_8_method_3_code
def yX6_isType : MethodName := ⟨RX6, "isType", "(I)Z"⟩
abbrev cX6_isMember : ByteArray := prog_8_method_4_code
def yX6_isMember : MethodName := ⟨RX6, "isMember", "(I)Z"⟩
abbrev cX6_clear : ByteArray := prog_8_method_5_code
def yX6_clear : MethodName := ⟨RX6, "clear", "()I"⟩
abbrev cX6_rise : ByteArray := prog_8_method_6_code
def yX6_rise : MethodName := ⟨RX6, "rise", "()V"⟩
abbrev cX6_lift : ByteArray := prog_8_method_7_code
def yX6_lift : MethodName := ⟨RX6, "lift", "(II)V"⟩
abbrev cX6_type : ByteArray := prog_8_method_8_code
def yX6_type : MethodName := ⟨RX6, "type", "(III)I"⟩
abbrev cX6_face : ByteArray := prog_8_method_9_code
def yX6_face : MethodName := ⟨RX6, "face", "(II)I"⟩
abbrev cX6_isBelow : ByteArray := prog_8_method_10_code
def yX6_isBelow : MethodName := ⟨RX6, "isBelow", "(II)Z"⟩
abbrev cX6_isSub : ByteArray := prog_8_method_11_code
def yX6_isSub : MethodName := ⟨RX6, "isSub", "(II)Z"⟩
abbrev cX6_sub : ByteArray := prog_8_method_12_code
def yX6_sub : MethodName := ⟨RX6, "sub", "(II)I"⟩
abbrev cX6_thrown0 : ByteArray := prog_8_method_13_code
def yX6_thrown0 : MethodName := ⟨RX6, "thrown0", "(IZ)I"⟩
abbrev cX6_throws0 : ByteArray := prog_8_method_14_code
def yX6_throws0 : MethodName := ⟨RX6, "throws0", "(II)I"⟩
abbrev cX6_throwsMore : ByteArray := prog_8_method_15_code
def yX6_throwsMore : MethodName := ⟨RX6, "throwsMore", "(II)Z"⟩
abbrev cX6_has : ByteArray := prog_8_method_16_code
def yX6_has : MethodName := ⟨RX6, "has", "(II)Z"⟩
abbrev cX6_isStatic : ByteArray := prog_8_method_17_code
def yX6_isStatic : MethodName := ⟨RX6, "isStatic", "(I)Z"⟩
abbrev cX6_isPrivate : ByteArray := prog_8_method_18_code
def yX6_isPrivate : MethodName := ⟨RX6, "isPrivate", "(I)Z"⟩
abbrev cX6_isInterface : ByteArray := prog_8_method_19_code
def yX6_isInterface : MethodName := ⟨RX6, "isInterface", "(I)Z"⟩
abbrev cX6_one : ByteArray := prog_8_method_20_code
def yX6_one : MethodName := ⟨RX6, "one", "(II)I"⟩
abbrev cX6_mayBe : ByteArray := prog_8_method_21_code
def yX6_mayBe : MethodName := ⟨RX6, "mayBe", "(II)Z"⟩
abbrev cX6_member : ByteArray := prog_8_method_22_code
def yX6_member : MethodName := ⟨RX6, "member", "(IIII)I"⟩
abbrev cX6_access : ByteArray := prog_8_method_23_code
def yX6_access : MethodName := ⟨RX6, "access", "(I)I"⟩
abbrev cX6_suits : ByteArray := prog_8_method_24_code
def yX6_suits : MethodName := ⟨RX6, "suits", "(II)Z"⟩
abbrev cX6_isSeen : ByteArray := prog_8_method_25_code
def yX6_isSeen : MethodName := ⟨RX6, "isSeen", "(II)Z"⟩
abbrev cX6_work : ByteArray := prog_8_method_26_code
def yX6_work : MethodName := ⟨RX6, "work", "()V"⟩
abbrev cX6_goesOver : ByteArray := prog_8_method_27_code
def yX6_goesOver : MethodName := ⟨RX6, "goesOver", "(II)Z"⟩
abbrev cX6_isOver : ByteArray := prog_8_method_28_code
def yX6_isOver : MethodName := ⟨RX6, "isOver", "(II)Z"⟩
abbrev cX6_hidesIt : ByteArray := prog_8_method_29_code
def yX6_hidesIt : MethodName := ⟨RX6, "hidesIt", "(II)Z"⟩
abbrev cX6_isMixed : ByteArray := prog_8_method_30_code
def yX6_isMixed : MethodName := ⟨RX6, "isMixed", "(II)Z"⟩
abbrev cX6_overrides : ByteArray := prog_8_method_31_code
def yX6_overrides : MethodName := ⟨RX6, "overrides", "(II)I"⟩
abbrev cX6_hides : ByteArray := prog_8_method_32_code
def yX6_hides : MethodName := ⟨RX6, "hides", "(II)I"⟩
abbrev cX6_isPlain : ByteArray := prog_8_method_33_code
def yX6_isPlain : MethodName := ⟨RX6, "isPlain", "(I)Z"⟩
abbrev cX6_isLast : ByteArray := prog_8_method_34_code
def yX6_isLast : MethodName := ⟨RX6, "isLast", "(II)Z"⟩
abbrev cX6_choose : ByteArray := prog_8_method_35_code
def yX6_choose : MethodName := ⟨RX6, "choose", "(II)I"⟩
abbrev cX6_chosen : ByteArray := prog_8_method_36_code
def yX6_chosen : MethodName := ⟨RX6, "chosen", "(II)I"⟩
abbrev cX6_note : ByteArray := prog_8_method_37_code
def yX6_note : MethodName := ⟨RX6, "note", "(III)V"⟩
abbrev cX6_three : ByteArray := prog_8_method_38_code
def yX6_three : MethodName := ⟨RX6, "three", "(II)V"⟩
abbrev cX6_judge : ByteArray := prog_8_method_39_code
def yX6_judge : MethodName := ⟨RX6, "judge", "(I)V"⟩
abbrev cX6_inherited : ByteArray := prog_8_method_40_code
def yX6_inherited : MethodName := ⟨RX6, "inherited", "(II)V"⟩
abbrev cX6_check : ByteArray := prog_8_method_41_code
def yX6_check : MethodName := ⟨RX6, "check", "(I)I"⟩
abbrev cX6_fault : ByteArray := prog_8_method_42_code
def yX6_fault : MethodName := ⟨RX6, "fault", "(III)I"⟩
abbrev cX6_bridges : ByteArray := prog_8_method_43_code
def yX6_bridges : MethodName := ⟨RX6, "bridges", "(I)I"⟩
abbrev cX6_first : ByteArray := prog_8_method_44_code
def yX6_first : MethodName := ⟨RX6, "first", "(I)I"⟩
abbrev cX6_told : ByteArray := prog_8_method_45_code
def yX6_told : MethodName := ⟨RX6, "told", "(I)I"⟩
def RJ6 : String := "java/lang/Integer"
def TJ6 : u_T := fun k => match k with
  | _ => ("", "", "", false)
def tyJ6 : Nat → FieldType := fun k => match k with
  | _ => .int
abbrev wsJ60 : List Cond := u_ws RJ6 TJ6 0
theorem nmJ6 : ∀ a, a < 0 → ∀ b, b < 0 → a ≠ b → (TJ6 a).2.1 ≠ (TJ6 b).2.1 := by decide +kernel
theorem tyJ6_ok : ∀ k, k < 0 → parseFieldDescriptor (TJ6 k).2.2.1 = some (tyJ6 k) := by decide +kernel
abbrev cJ6_bitCount_0f7a4 : ByteArray := prog_9_method_49_code
def yJ6_bitCount_0f7a4 : MethodName := ⟨RJ6, "bitCount", "(I)I"⟩
def RJ9 : String := "java/lang/Math"
def TJ9 : u_T := fun k => match k with
  | _ => ("", "", "", false)
def tyJ9 : Nat → FieldType := fun k => match k with
  | _ => .int
abbrev wsJ90 : List Cond := u_ws RJ9 TJ9 0
theorem nmJ9 : ∀ a, a < 0 → ∀ b, b < 0 → a ≠ b → (TJ9 a).2.1 ≠ (TJ9 b).2.1 := by decide +kernel
theorem tyJ9_ok : ∀ k, k < 0 → parseFieldDescriptor (TJ9 k).2.2.1 = some (tyJ9 k) := by decide +kernel
abbrev cJ9_min_7cf53 : ByteArray := prog_10_method_69_code
def yJ9_min_7cf53 : MethodName := ⟨RJ9, "min", "(II)I"⟩
def RL : String := "OverrideRulesLaw"
abbrev cL_law : ByteArray := code
def yL_law : MethodName := ⟨RL, "law", "([I)Z"⟩
abbrev vwCl : List vw_C := [(RX0, TX0, 2), (RX1, TX1, 9), (RX2, TX2, 8), (RX3, TX3, 3), (RX4, TX4, 6), (RX5, TX5, 5), (RX6, TX6, 21)]
end
section
def lw_all : List Cond := lw_tbl.filter goodWord
theorem lw_all_tbl : ∀ w ∈ lw_all, w ∈ lw_tbl := fun _ h => (List.mem_filter.mp h).1
theorem lw_all_good : ∀ w ∈ lw_all, goodWord w = true := fun _ h => (List.mem_filter.mp h).2
theorem lw_t1 {i : Nat} {w : Cond} (h : tables_1_1[i]? = some w) (hg : goodWord w = true) : w ∈ lw_all := List.mem_filter.mpr ⟨List.mem_append_right _ (List.mem_append_left _ (List.mem_of_getElem? h)), hg⟩
theorem lw_t2 {i : Nat} {w : Cond} (h : tables_1_2[i]? = some w) (hg : goodWord w = true) : w ∈ lw_all := List.mem_filter.mpr ⟨List.mem_append_right _ (List.mem_append_right _ (List.mem_append_left _ (List.mem_of_getElem? h))), hg⟩
theorem lw_t3 {i : Nat} {w : Cond} (h : tables_1_3[i]? = some w) (hg : goodWord w = true) : w ∈ lw_all := List.mem_filter.mpr ⟨List.mem_append_right _ (List.mem_append_right _ (List.mem_append_right _ (List.mem_append_left _ (List.mem_of_getElem? h)))), hg⟩
theorem lw_t4 {i : Nat} {w : Cond} (h : tables_1_4[i]? = some w) (hg : goodWord w = true) : w ∈ lw_all := List.mem_filter.mpr ⟨List.mem_append_right _ (List.mem_append_right _ (List.mem_append_right _ (List.mem_append_right _ (List.mem_of_getElem? h)))), hg⟩
set_option maxRecDepth 20000 in
theorem in_L : Cond.initialized RL ∈ lw_all := lw_t1 (i := 0) rfl rfl
set_option maxRecDepth 20000 in
theorem in_X5 : Cond.initialized RX5 ∈ lw_all := lw_t1 (i := 1) rfl rfl
set_option maxRecDepth 20000 in
theorem in_X4 : Cond.initialized RX4 ∈ lw_all := lw_t1 (i := 2) rfl rfl
set_option maxRecDepth 20000 in
theorem in_X3 : Cond.initialized RX3 ∈ lw_all := lw_t1 (i := 3) rfl rfl
set_option maxRecDepth 20000 in
theorem in_X2 : Cond.initialized RX2 ∈ lw_all := lw_t1 (i := 4) rfl rfl
set_option maxRecDepth 20000 in
theorem in_X0 : Cond.initialized RX0 ∈ lw_all := lw_t1 (i := 5) rfl rfl
set_option maxRecDepth 20000 in
theorem in_X1 : Cond.initialized RX1 ∈ lw_all := lw_t1 (i := 6) rfl rfl
set_option maxRecDepth 20000 in
theorem in_X6 : Cond.initialized RX6 ∈ lw_all := lw_t1 (i := 7) rfl rfl
set_option maxRecDepth 20000 in
theorem in_J6 : Cond.initialized RJ6 ∈ lw_all := lw_t1 (i := 8) rfl rfl
set_option maxRecDepth 20000 in
theorem in_J9 : Cond.initialized RJ9 ∈ lw_all := lw_t1 (i := 9) rfl rfl
set_option maxRecDepth 20000 in
theorem cl_L_7 : Cond.classLink RL 7 RX5 ∈ lw_all := lw_t1 (i := 10) rfl rfl
set_option maxRecDepth 20000 in
theorem is_X5 : Cond.instantiable RX5 5 ∈ lw_all := lw_t1 (i := 11) rfl rfl
set_option maxRecDepth 20000 in
theorem ml_L_9 : Cond.methodLink RL 9 yX5_init ∈ lw_all := lw_t1 (i := 12) rfl rfl
set_option maxRecDepth 20000 in
theorem im_X5_init : Cond.instanceMethod yX5_init ∈ lw_all := lw_t1 (i := 13) rfl rfl
set_option maxRecDepth 20000 in
theorem co_X5_init : Cond.code yX5_init cX5_init 1 none ∈ lw_all := lw_t1 (i := 14) rfl rfl
set_option maxRecDepth 20000 in
theorem ml_X5_1 : Cond.methodLink RX5 1 objectInit ∈ lw_all := lw_t1 (i := 15) rfl rfl
set_option maxRecDepth 20000 in
theorem im_obj : Cond.instanceMethod objectInit ∈ lw_all := lw_t1 (i := 16) rfl rfl
set_option maxRecDepth 20000 in
theorem co_obj : Cond.code objectInit ⟨#[0xb1]⟩ 1 none ∈ lw_all := lw_t1 (i := 17) rfl rfl
set_option maxRecDepth 20000 in
theorem cl_X5_7 : Cond.classLink RX5 7 RX4 ∈ lw_all := lw_t1 (i := 18) rfl rfl
set_option maxRecDepth 20000 in
theorem is_X4 : Cond.instantiable RX4 6 ∈ lw_all := lw_t1 (i := 19) rfl rfl
set_option maxRecDepth 20000 in
theorem im_X4_init : Cond.instanceMethod yX4_init ∈ lw_all := lw_t1 (i := 21) rfl rfl
set_option maxRecDepth 20000 in
theorem co_X4_init : Cond.code yX4_init cX4_init 1 none ∈ lw_all := lw_t1 (i := 22) rfl rfl
set_option maxRecDepth 20000 in
theorem ml_X4_3 : Cond.methodLink RX4 3 objectInit ∈ lw_all := lw_t1 (i := 23) rfl rfl
set_option maxRecDepth 20000 in
theorem fl_X4_9 : Cond.fieldLink RX4 9 "OverrideRules$Types" "kinds" "[I" ∈ lw_all := lw_t1 (i := 24) rfl rfl
set_option maxRecDepth 20000 in
theorem fl_X4_15 : Cond.fieldLink RX4 15 "OverrideRules$Types" "packets" "[I" ∈ lw_all := lw_t1 (i := 25) rfl rfl
set_option maxRecDepth 20000 in
theorem fl_X4_18 : Cond.fieldLink RX4 18 "OverrideRules$Types" "parents" "[I" ∈ lw_all := lw_t1 (i := 26) rfl rfl
set_option maxRecDepth 20000 in
theorem fl_X4_21 : Cond.fieldLink RX4 21 "OverrideRules$Types" "faces" "[I" ∈ lw_all := lw_t1 (i := 27) rfl rfl
set_option maxRecDepth 20000 in
theorem fl_X4_24 : Cond.fieldLink RX4 24 "OverrideRules$Types" "above" "[I" ∈ lw_all := lw_t1 (i := 28) rfl rfl
set_option maxRecDepth 20000 in
theorem fl_X4_27 : Cond.fieldLink RX4 27 "OverrideRules$Types" "count" "I" ∈ lw_all := lw_t1 (i := 29) rfl rfl
set_option maxRecDepth 20000 in
theorem ac_int : Cond.arrayClass .int ∈ lw_all := lw_t1 (i := 43) rfl rfl
set_option maxRecDepth 20000 in
theorem cl_X5_16 : Cond.classLink RX5 16 RX3 ∈ lw_all := lw_t1 (i := 44) rfl rfl
set_option maxRecDepth 20000 in
theorem is_X3 : Cond.instantiable RX3 3 ∈ lw_all := lw_t1 (i := 45) rfl rfl
set_option maxRecDepth 20000 in
theorem im_X3_init : Cond.instanceMethod yX3_init ∈ lw_all := lw_t1 (i := 47) rfl rfl
set_option maxRecDepth 20000 in
theorem co_X3_init : Cond.code yX3_init cX3_init 1 none ∈ lw_all := lw_t1 (i := 48) rfl rfl
set_option maxRecDepth 20000 in
theorem ml_X3_3 : Cond.methodLink RX3 3 objectInit ∈ lw_all := lw_t1 (i := 49) rfl rfl
set_option maxRecDepth 20000 in
theorem fl_X3_9 : Cond.fieldLink RX3 9 "OverrideRules$Throws" "subTo" "[I" ∈ lw_all := lw_t1 (i := 50) rfl rfl
set_option maxRecDepth 20000 in
theorem fl_X3_15 : Cond.fieldLink RX3 15 "OverrideRules$Throws" "checkedOnes" "I" ∈ lw_all := lw_t1 (i := 51) rfl rfl
set_option maxRecDepth 20000 in
theorem fl_X3_19 : Cond.fieldLink RX3 19 "OverrideRules$Throws" "count" "I" ∈ lw_all := lw_t1 (i := 52) rfl rfl
set_option maxRecDepth 20000 in
theorem cl_X5_23 : Cond.classLink RX5 23 RX2 ∈ lw_all := lw_t1 (i := 60) rfl rfl
set_option maxRecDepth 20000 in
theorem is_X2 : Cond.instantiable RX2 8 ∈ lw_all := lw_t1 (i := 61) rfl rfl
set_option maxRecDepth 20000 in
theorem ml_X5_25 : Cond.methodLink RX5 25 yX2_init ∈ lw_all := lw_t1 (i := 62) rfl rfl
set_option maxRecDepth 20000 in
theorem im_X2_init : Cond.instanceMethod yX2_init ∈ lw_all := lw_t1 (i := 63) rfl rfl
set_option maxRecDepth 20000 in
theorem co_X2_init : Cond.code yX2_init cX2_init 2 none ∈ lw_all := lw_t1 (i := 64) rfl rfl
set_option maxRecDepth 20000 in
theorem ml_X2_3 : Cond.methodLink RX2 3 objectInit ∈ lw_all := lw_t1 (i := 65) rfl rfl
set_option maxRecDepth 20000 in
theorem fl_X2_34 : Cond.fieldLink RX2 34 "OverrideRules$Members" "types" "LOverrideRules$Types;" ∈ lw_all := lw_t1 (i := 66) rfl rfl
set_option maxRecDepth 20000 in
theorem fl_X2_9 : Cond.fieldLink RX2 9 "OverrideRules$Members" "owners" "[I" ∈ lw_all := lw_t1 (i := 67) rfl rfl
set_option maxRecDepth 20000 in
theorem fl_X2_15 : Cond.fieldLink RX2 15 "OverrideRules$Members" "names" "[I" ∈ lw_all := lw_t1 (i := 68) rfl rfl
set_option maxRecDepth 20000 in
theorem fl_X2_18 : Cond.fieldLink RX2 18 "OverrideRules$Members" "results" "[I" ∈ lw_all := lw_t1 (i := 69) rfl rfl
set_option maxRecDepth 20000 in
theorem fl_X2_21 : Cond.fieldLink RX2 21 "OverrideRules$Members" "marks" "[I" ∈ lw_all := lw_t1 (i := 70) rfl rfl
set_option maxRecDepth 20000 in
theorem fl_X2_24 : Cond.fieldLink RX2 24 "OverrideRules$Members" "throwSets" "[I" ∈ lw_all := lw_t1 (i := 71) rfl rfl
set_option maxRecDepth 20000 in
theorem fl_X2_27 : Cond.fieldLink RX2 27 "OverrideRules$Members" "slots" "[I" ∈ lw_all := lw_t1 (i := 72) rfl rfl
set_option maxRecDepth 20000 in
theorem fl_X2_30 : Cond.fieldLink RX2 30 "OverrideRules$Members" "count" "I" ∈ lw_all := lw_t1 (i := 73) rfl rfl
set_option maxRecDepth 20000 in
theorem cl_X5_32 : Cond.classLink RX5 32 RX0 ∈ lw_all := lw_t1 (i := 91) rfl rfl
set_option maxRecDepth 20000 in
theorem is_X0 : Cond.instantiable RX0 2 ∈ lw_all := lw_t1 (i := 92) rfl rfl
set_option maxRecDepth 20000 in
theorem ml_X5_34 : Cond.methodLink RX5 34 yX0_init ∈ lw_all := lw_t1 (i := 93) rfl rfl
set_option maxRecDepth 20000 in
theorem im_X0_init : Cond.instanceMethod yX0_init ∈ lw_all := lw_t1 (i := 94) rfl rfl
set_option maxRecDepth 20000 in
theorem co_X0_init : Cond.code yX0_init cX0_init 3 none ∈ lw_all := lw_t1 (i := 95) rfl rfl
set_option maxRecDepth 20000 in
theorem ml_X0_3 : Cond.methodLink RX0 3 objectInit ∈ lw_all := lw_t1 (i := 96) rfl rfl
set_option maxRecDepth 20000 in
theorem fl_X0_9 : Cond.fieldLink RX0 9 "OverrideRules$Choice" "types" "LOverrideRules$Types;" ∈ lw_all := lw_t1 (i := 97) rfl rfl
set_option maxRecDepth 20000 in
theorem fl_X0_15 : Cond.fieldLink RX0 15 "OverrideRules$Choice" "members" "LOverrideRules$Members;" ∈ lw_all := lw_t1 (i := 98) rfl rfl
set_option maxRecDepth 20000 in
theorem cl_X5_41 : Cond.classLink RX5 41 RX1 ∈ lw_all := lw_t1 (i := 104) rfl rfl
set_option maxRecDepth 20000 in
theorem is_X1 : Cond.instantiable RX1 9 ∈ lw_all := lw_t1 (i := 105) rfl rfl
set_option maxRecDepth 20000 in
theorem ml_X5_43 : Cond.methodLink RX5 43 yX1_init ∈ lw_all := lw_t1 (i := 106) rfl rfl
set_option maxRecDepth 20000 in
theorem im_X1_init : Cond.instanceMethod yX1_init ∈ lw_all := lw_t1 (i := 107) rfl rfl
set_option maxRecDepth 20000 in
theorem co_X1_init : Cond.code yX1_init cX1_init 5 none ∈ lw_all := lw_t1 (i := 108) rfl rfl
set_option maxRecDepth 20000 in
theorem ml_X1_3 : Cond.methodLink RX1 3 objectInit ∈ lw_all := lw_t1 (i := 109) rfl rfl
set_option maxRecDepth 20000 in
theorem fl_X1_27 : Cond.fieldLink RX1 27 "OverrideRules$Faults" "types" "LOverrideRules$Types;" ∈ lw_all := lw_t1 (i := 110) rfl rfl
set_option maxRecDepth 20000 in
theorem fl_X1_31 : Cond.fieldLink RX1 31 "OverrideRules$Faults" "thrown" "LOverrideRules$Throws;" ∈ lw_all := lw_t1 (i := 111) rfl rfl
set_option maxRecDepth 20000 in
theorem fl_X1_35 : Cond.fieldLink RX1 35 "OverrideRules$Faults" "members" "LOverrideRules$Members;" ∈ lw_all := lw_t1 (i := 112) rfl rfl
set_option maxRecDepth 20000 in
theorem fl_X1_39 : Cond.fieldLink RX1 39 "OverrideRules$Faults" "choice" "LOverrideRules$Choice;" ∈ lw_all := lw_t1 (i := 113) rfl rfl
set_option maxRecDepth 20000 in
theorem fl_X1_9 : Cond.fieldLink RX1 9 "OverrideRules$Faults" "wanted" "I" ∈ lw_all := lw_t1 (i := 114) rfl rfl
set_option maxRecDepth 20000 in
theorem fl_X1_15 : Cond.fieldLink RX1 15 "OverrideRules$Faults" "count" "I" ∈ lw_all := lw_t1 (i := 115) rfl rfl
set_option maxRecDepth 20000 in
theorem fl_X1_18 : Cond.fieldLink RX1 18 "OverrideRules$Faults" "pickedCode" "I" ∈ lw_all := lw_t1 (i := 116) rfl rfl
set_option maxRecDepth 20000 in
theorem fl_X1_21 : Cond.fieldLink RX1 21 "OverrideRules$Faults" "pickedM" "I" ∈ lw_all := lw_t1 (i := 117) rfl rfl
set_option maxRecDepth 20000 in
theorem fl_X1_24 : Cond.fieldLink RX1 24 "OverrideRules$Faults" "pickedO" "I" ∈ lw_all := lw_t1 (i := 118) rfl rfl
set_option maxRecDepth 20000 in
theorem fl_X5_10 : Cond.fieldLink RX5 10 "OverrideRules" "types" "LOverrideRules$Types;" ∈ lw_all := lw_t1 (i := 138) rfl rfl
set_option maxRecDepth 20000 in
theorem fl_X5_19 : Cond.fieldLink RX5 19 "OverrideRules" "thrown" "LOverrideRules$Throws;" ∈ lw_all := lw_t1 (i := 139) rfl rfl
set_option maxRecDepth 20000 in
theorem fl_X5_28 : Cond.fieldLink RX5 28 "OverrideRules" "members" "LOverrideRules$Members;" ∈ lw_all := lw_t1 (i := 140) rfl rfl
set_option maxRecDepth 20000 in
theorem fl_X5_37 : Cond.fieldLink RX5 37 "OverrideRules" "choice" "LOverrideRules$Choice;" ∈ lw_all := lw_t1 (i := 141) rfl rfl
set_option maxRecDepth 20000 in
theorem fl_X5_46 : Cond.fieldLink RX5 46 "OverrideRules" "faults" "LOverrideRules$Faults;" ∈ lw_all := lw_t1 (i := 142) rfl rfl
set_option maxRecDepth 20000 in
theorem ml_L_13 : Cond.methodLink RL 13 yX5_clear ∈ lw_all := lw_t1 (i := 154) rfl rfl
set_option maxRecDepth 20000 in
theorem im_X5_clear : Cond.instanceMethod yX5_clear ∈ lw_all := lw_t1 (i := 155) rfl rfl
set_option maxRecDepth 20000 in
theorem se_X5_clear : Cond.selects RX5 yX5_clear yX5_clear ∈ lw_all := lw_t1 (i := 156) rfl rfl
set_option maxRecDepth 20000 in
theorem co_X5_clear : Cond.code yX5_clear cX5_clear 2 (some .int) ∈ lw_all := lw_t1 (i := 157) rfl rfl
set_option maxRecDepth 20000 in
theorem ml_X5_50 : Cond.methodLink RX5 50 yX2_size ∈ lw_all := lw_t1 (i := 158) rfl rfl
set_option maxRecDepth 20000 in
theorem im_X2_size : Cond.instanceMethod yX2_size ∈ lw_all := lw_t1 (i := 159) rfl rfl
set_option maxRecDepth 20000 in
theorem se_X2_size : Cond.selects RX2 yX2_size yX2_size ∈ lw_all := lw_t1 (i := 160) rfl rfl
set_option maxRecDepth 20000 in
theorem co_X2_size : Cond.code yX2_size cX2_size 1 (some .int) ∈ lw_all := lw_t1 (i := 161) rfl rfl
set_option maxRecDepth 20000 in
theorem ml_X5_54 : Cond.methodLink RX5 54 yX4_forget ∈ lw_all := lw_t1 (i := 162) rfl rfl
set_option maxRecDepth 20000 in
theorem im_X4_forget : Cond.instanceMethod yX4_forget ∈ lw_all := lw_t1 (i := 163) rfl rfl
set_option maxRecDepth 20000 in
theorem se_X4_forget : Cond.selects RX4 yX4_forget yX4_forget ∈ lw_all := lw_t1 (i := 164) rfl rfl
set_option maxRecDepth 20000 in
theorem co_X4_forget : Cond.code yX4_forget cX4_forget 1 none ∈ lw_all := lw_t1 (i := 165) rfl rfl
set_option maxRecDepth 20000 in
theorem ml_X5_57 : Cond.methodLink RX5 57 yX3_forget ∈ lw_all := lw_t1 (i := 166) rfl rfl
set_option maxRecDepth 20000 in
theorem im_X3_forget : Cond.instanceMethod yX3_forget ∈ lw_all := lw_t1 (i := 167) rfl rfl
set_option maxRecDepth 20000 in
theorem se_X3_forget : Cond.selects RX3 yX3_forget yX3_forget ∈ lw_all := lw_t1 (i := 168) rfl rfl
set_option maxRecDepth 20000 in
theorem co_X3_forget : Cond.code yX3_forget cX3_forget 1 none ∈ lw_all := lw_t1 (i := 169) rfl rfl
set_option maxRecDepth 20000 in
theorem ml_X5_58 : Cond.methodLink RX5 58 yX2_forget ∈ lw_all := lw_t1 (i := 170) rfl rfl
set_option maxRecDepth 20000 in
theorem im_X2_forget : Cond.instanceMethod yX2_forget ∈ lw_all := lw_t1 (i := 171) rfl rfl
set_option maxRecDepth 20000 in
theorem se_X2_forget : Cond.selects RX2 yX2_forget yX2_forget ∈ lw_all := lw_t1 (i := 172) rfl rfl
set_option maxRecDepth 20000 in
theorem co_X2_forget : Cond.code yX2_forget cX2_forget 2 none ∈ lw_all := lw_t1 (i := 173) rfl rfl
set_option maxRecDepth 20000 in
theorem ml_L_18 : Cond.methodLink RL 18 yX5_type ∈ lw_all := lw_t1 (i := 174) rfl rfl
set_option maxRecDepth 20000 in
theorem im_X5_type : Cond.instanceMethod yX5_type ∈ lw_all := lw_t1 (i := 175) rfl rfl
set_option maxRecDepth 20000 in
theorem se_X5_type : Cond.selects RX5 yX5_type yX5_type ∈ lw_all := lw_t1 (i := 176) rfl rfl
set_option maxRecDepth 20000 in
theorem co_X5_type : Cond.code yX5_type cX5_type 4 (some .int) ∈ lw_all := lw_t1 (i := 177) rfl rfl
set_option maxRecDepth 20000 in
theorem ml_X5_59 : Cond.methodLink RX5 59 yX4_has ∈ lw_all := lw_t1 (i := 178) rfl rfl
set_option maxRecDepth 20000 in
theorem im_X4_has : Cond.instanceMethod yX4_has ∈ lw_all := lw_t1 (i := 179) rfl rfl
set_option maxRecDepth 20000 in
theorem se_X4_has : Cond.selects RX4 yX4_has yX4_has ∈ lw_all := lw_t1 (i := 180) rfl rfl
set_option maxRecDepth 20000 in
theorem co_X4_has : Cond.code yX4_has cX4_has 2 (some .boolean) ∈ lw_all := lw_t1 (i := 181) rfl rfl
set_option maxRecDepth 20000 in
theorem ml_X5_63 : Cond.methodLink RX5 63 yX4_isInterface ∈ lw_all := lw_t1 (i := 182) rfl rfl
set_option maxRecDepth 20000 in
theorem im_X4_isInterface : Cond.instanceMethod yX4_isInterface ∈ lw_all := lw_t1 (i := 183) rfl rfl
set_option maxRecDepth 20000 in
theorem se_X4_isInterface : Cond.selects RX4 yX4_isInterface yX4_isInterface ∈ lw_all := lw_t1 (i := 184) rfl rfl
set_option maxRecDepth 20000 in
theorem co_X4_isInterface : Cond.code yX4_isInterface cX4_isInterface 2 (some .boolean) ∈ lw_all := lw_t1 (i := 185) rfl rfl
set_option maxRecDepth 20000 in
theorem ml_X5_66 : Cond.methodLink RX5 66 yX4_isFull ∈ lw_all := lw_t1 (i := 186) rfl rfl
set_option maxRecDepth 20000 in
theorem im_X4_isFull : Cond.instanceMethod yX4_isFull ∈ lw_all := lw_t1 (i := 187) rfl rfl
set_option maxRecDepth 20000 in
theorem se_X4_isFull : Cond.selects RX4 yX4_isFull yX4_isFull ∈ lw_all := lw_t1 (i := 188) rfl rfl
set_option maxRecDepth 20000 in
theorem co_X4_isFull : Cond.code yX4_isFull cX4_isFull 1 (some .boolean) ∈ lw_all := lw_t1 (i := 189) rfl rfl
set_option maxRecDepth 20000 in
theorem ml_X5_70 : Cond.methodLink RX5 70 yX4_add ∈ lw_all := lw_t1 (i := 190) rfl rfl
set_option maxRecDepth 20000 in
theorem im_X4_add : Cond.instanceMethod yX4_add ∈ lw_all := lw_t1 (i := 191) rfl rfl
set_option maxRecDepth 20000 in
theorem se_X4_add : Cond.selects RX4 yX4_add yX4_add ∈ lw_all := lw_t1 (i := 192) rfl rfl
set_option maxRecDepth 20000 in
theorem co_X4_add : Cond.code yX4_add cX4_add 5 (some .int) ∈ lw_all := lw_t1 (i := 193) rfl rfl
set_option maxRecDepth 20000 in
theorem ml_X4_31 : Cond.methodLink RX4 31 yX4_findAbove ∈ lw_all := lw_t1 (i := 194) rfl rfl
set_option maxRecDepth 20000 in
theorem im_X4_findAbove : Cond.instanceMethod yX4_findAbove ∈ lw_all := lw_t1 (i := 196) rfl rfl
set_option maxRecDepth 20000 in
theorem co_X4_findAbove : Cond.code yX4_findAbove cX4_findAbove 5 none ∈ lw_all := lw_t1 (i := 197) rfl rfl
set_option maxRecDepth 20000 in
theorem sm_X5_hasBit : Cond.static yX5_hasBit ∈ lw_all := lw_t1 (i := 199) rfl rfl
set_option maxRecDepth 20000 in
theorem co_X5_hasBit : Cond.code yX5_hasBit cX5_hasBit 2 (some .boolean) ∈ lw_all := lw_t1 (i := 200) rfl rfl
set_option maxRecDepth 20000 in
theorem ml_L_23 : Cond.methodLink RL 23 yX5_face ∈ lw_all := lw_t1 (i := 201) rfl rfl
set_option maxRecDepth 20000 in
theorem im_X5_face : Cond.instanceMethod yX5_face ∈ lw_all := lw_t1 (i := 202) rfl rfl
set_option maxRecDepth 20000 in
theorem se_X5_face : Cond.selects RX5 yX5_face yX5_face ∈ lw_all := lw_t1 (i := 203) rfl rfl
set_option maxRecDepth 20000 in
theorem co_X5_face : Cond.code yX5_face cX5_face 3 (some .int) ∈ lw_all := lw_t1 (i := 204) rfl rfl
set_option maxRecDepth 20000 in
theorem ml_X5_74 : Cond.methodLink RX5 74 yX4_hasFace ∈ lw_all := lw_t1 (i := 205) rfl rfl
set_option maxRecDepth 20000 in
theorem im_X4_hasFace : Cond.instanceMethod yX4_hasFace ∈ lw_all := lw_t1 (i := 206) rfl rfl
set_option maxRecDepth 20000 in
theorem se_X4_hasFace : Cond.selects RX4 yX4_hasFace yX4_hasFace ∈ lw_all := lw_t1 (i := 207) rfl rfl
set_option maxRecDepth 20000 in
theorem co_X4_hasFace : Cond.code yX4_hasFace cX4_hasFace 3 (some .boolean) ∈ lw_all := lw_t1 (i := 208) rfl rfl
set_option maxRecDepth 20000 in
theorem ml_X5_78 : Cond.methodLink RX5 78 yX4_countFaces ∈ lw_all := lw_t1 (i := 209) rfl rfl
set_option maxRecDepth 20000 in
theorem im_X4_countFaces : Cond.instanceMethod yX4_countFaces ∈ lw_all := lw_t1 (i := 210) rfl rfl
set_option maxRecDepth 20000 in
theorem se_X4_countFaces : Cond.selects RX4 yX4_countFaces yX4_countFaces ∈ lw_all := lw_t1 (i := 211) rfl rfl
set_option maxRecDepth 20000 in
theorem co_X4_countFaces : Cond.code yX4_countFaces cX4_countFaces 2 (some .int) ∈ lw_all := lw_t1 (i := 212) rfl rfl
set_option maxRecDepth 20000 in
theorem ml_X4_43 : Cond.methodLink RX4 43 yJ6_bitCount_0f7a4 ∈ lw_all := lw_t1 (i := 213) rfl rfl
set_option maxRecDepth 20000 in
theorem sm_J6_bitCount_0f7a4 : Cond.static yJ6_bitCount_0f7a4 ∈ lw_all := lw_t1 (i := 214) rfl rfl
set_option maxRecDepth 20000 in
theorem co_J6_bitCount_0f7a4 : Cond.code yJ6_bitCount_0f7a4 cJ6_bitCount_0f7a4 1 (some .int) ∈ lw_all := lw_t1 (i := 215) rfl rfl
set_option maxRecDepth 20000 in
theorem ct_J6_265 : Cond.constant RJ6 265 1431655765 ∈ lw_all := lw_t1 (i := 216) rfl rfl
set_option maxRecDepth 20000 in
theorem ct_J6_266 : Cond.constant RJ6 266 858993459 ∈ lw_all := lw_t1 (i := 217) rfl rfl
set_option maxRecDepth 20000 in
theorem ct_J6_267 : Cond.constant RJ6 267 252645135 ∈ lw_all := lw_t1 (i := 218) rfl rfl
set_option maxRecDepth 20000 in
theorem ml_X5_82 : Cond.methodLink RX5 82 yX4_addFace ∈ lw_all := lw_t1 (i := 219) rfl rfl
set_option maxRecDepth 20000 in
theorem im_X4_addFace : Cond.instanceMethod yX4_addFace ∈ lw_all := lw_t1 (i := 220) rfl rfl
set_option maxRecDepth 20000 in
theorem se_X4_addFace : Cond.selects RX4 yX4_addFace yX4_addFace ∈ lw_all := lw_t1 (i := 221) rfl rfl
set_option maxRecDepth 20000 in
theorem co_X4_addFace : Cond.code yX4_addFace cX4_addFace 4 (some .int) ∈ lw_all := lw_t1 (i := 222) rfl rfl
set_option maxRecDepth 20000 in
theorem ml_X4_35 : Cond.methodLink RX4 35 yX4_countFaces ∈ lw_all := lw_t1 (i := 223) rfl rfl
set_option maxRecDepth 20000 in
theorem ml_L_28 : Cond.methodLink RL 28 yX5_thrown0 ∈ lw_all := lw_t1 (i := 224) rfl rfl
set_option maxRecDepth 20000 in
theorem im_X5_thrown0 : Cond.instanceMethod yX5_thrown0 ∈ lw_all := lw_t1 (i := 225) rfl rfl
set_option maxRecDepth 20000 in
theorem se_X5_thrown0 : Cond.selects RX5 yX5_thrown0 yX5_thrown0 ∈ lw_all := lw_t1 (i := 226) rfl rfl
set_option maxRecDepth 20000 in
theorem co_X5_thrown0 : Cond.code yX5_thrown0 cX5_thrown0 3 (some .int) ∈ lw_all := lw_t1 (i := 227) rfl rfl
set_option maxRecDepth 20000 in
theorem ml_X5_86 : Cond.methodLink RX5 86 yX3_has ∈ lw_all := lw_t1 (i := 228) rfl rfl
set_option maxRecDepth 20000 in
theorem im_X3_has : Cond.instanceMethod yX3_has ∈ lw_all := lw_t1 (i := 229) rfl rfl
set_option maxRecDepth 20000 in
theorem se_X3_has : Cond.selects RX3 yX3_has yX3_has ∈ lw_all := lw_t1 (i := 230) rfl rfl
set_option maxRecDepth 20000 in
theorem co_X3_has : Cond.code yX3_has cX3_has 2 (some .boolean) ∈ lw_all := lw_t1 (i := 231) rfl rfl
set_option maxRecDepth 20000 in
theorem ml_X5_87 : Cond.methodLink RX5 87 yX3_isFull ∈ lw_all := lw_t1 (i := 232) rfl rfl
set_option maxRecDepth 20000 in
theorem im_X3_isFull : Cond.instanceMethod yX3_isFull ∈ lw_all := lw_t1 (i := 233) rfl rfl
set_option maxRecDepth 20000 in
theorem se_X3_isFull : Cond.selects RX3 yX3_isFull yX3_isFull ∈ lw_all := lw_t1 (i := 234) rfl rfl
set_option maxRecDepth 20000 in
theorem co_X3_isFull : Cond.code yX3_isFull cX3_isFull 1 (some .boolean) ∈ lw_all := lw_t1 (i := 235) rfl rfl
set_option maxRecDepth 20000 in
theorem ml_X5_88 : Cond.methodLink RX5 88 yX3_add ∈ lw_all := lw_t1 (i := 236) rfl rfl
set_option maxRecDepth 20000 in
theorem im_X3_add : Cond.instanceMethod yX3_add ∈ lw_all := lw_t1 (i := 237) rfl rfl
set_option maxRecDepth 20000 in
theorem se_X3_add : Cond.selects RX3 yX3_add yX3_add ∈ lw_all := lw_t1 (i := 238) rfl rfl
set_option maxRecDepth 20000 in
theorem co_X3_add : Cond.code yX3_add cX3_add 4 (some .int) ∈ lw_all := lw_t1 (i := 239) rfl rfl
set_option maxRecDepth 20000 in
theorem ml_L_33 : Cond.methodLink RL 33 yX5_member ∈ lw_all := lw_t2 (i := 0) rfl rfl
set_option maxRecDepth 20000 in
theorem im_X5_member : Cond.instanceMethod yX5_member ∈ lw_all := lw_t2 (i := 1) rfl rfl
set_option maxRecDepth 20000 in
theorem se_X5_member : Cond.selects RX5 yX5_member yX5_member ∈ lw_all := lw_t2 (i := 2) rfl rfl
set_option maxRecDepth 20000 in
theorem co_X5_member : Cond.code yX5_member cX5_member 5 (some .int) ∈ lw_all := lw_t2 (i := 3) rfl rfl
set_option maxRecDepth 20000 in
theorem ml_X5_91 : Cond.methodLink RX5 91 yX5_isMissingType ∈ lw_all := lw_t2 (i := 4) rfl rfl
set_option maxRecDepth 20000 in
theorem im_X5_isMissingType : Cond.instanceMethod yX5_isMissingType ∈ lw_all := lw_t2 (i := 6) rfl rfl
set_option maxRecDepth 20000 in
theorem co_X5_isMissingType : Cond.code yX5_isMissingType cX5_isMissingType 2 (some .boolean) ∈ lw_all := lw_t2 (i := 7) rfl rfl
set_option maxRecDepth 20000 in
theorem ml_X5_94 : Cond.methodLink RX5 94 yX5_areMarks ∈ lw_all := lw_t2 (i := 8) rfl rfl
set_option maxRecDepth 20000 in
theorem sm_X5_areMarks : Cond.static yX5_areMarks ∈ lw_all := lw_t2 (i := 9) rfl rfl
set_option maxRecDepth 20000 in
theorem co_X5_areMarks : Cond.code yX5_areMarks cX5_areMarks 2 (some .boolean) ∈ lw_all := lw_t2 (i := 10) rfl rfl
set_option maxRecDepth 20000 in
theorem ml_X5_148 : Cond.methodLink RX5 148 yJ6_bitCount_0f7a4 ∈ lw_all := lw_t2 (i := 11) rfl rfl
set_option maxRecDepth 20000 in
theorem ml_X5_153 : Cond.methodLink RX5 153 yX5_areInterfaceMarks ∈ lw_all := lw_t2 (i := 12) rfl rfl
set_option maxRecDepth 20000 in
theorem sm_X5_areInterfaceMarks : Cond.static yX5_areInterfaceMarks ∈ lw_all := lw_t2 (i := 13) rfl rfl
set_option maxRecDepth 20000 in
theorem co_X5_areInterfaceMarks : Cond.code yX5_areInterfaceMarks cX5_areInterfaceMarks 2 (some .boolean) ∈ lw_all := lw_t2 (i := 14) rfl rfl
set_option maxRecDepth 20000 in
theorem ml_X5_156 : Cond.methodLink RX5 156 yX5_areClassMarks ∈ lw_all := lw_t2 (i := 15) rfl rfl
set_option maxRecDepth 20000 in
theorem sm_X5_areClassMarks : Cond.static yX5_areClassMarks ∈ lw_all := lw_t2 (i := 16) rfl rfl
set_option maxRecDepth 20000 in
theorem co_X5_areClassMarks : Cond.code yX5_areClassMarks cX5_areClassMarks 1 (some .boolean) ∈ lw_all := lw_t2 (i := 17) rfl rfl
set_option maxRecDepth 20000 in
theorem ml_X5_98 : Cond.methodLink RX5 98 yX2_at ∈ lw_all := lw_t2 (i := 18) rfl rfl
set_option maxRecDepth 20000 in
theorem im_X2_at : Cond.instanceMethod yX2_at ∈ lw_all := lw_t2 (i := 19) rfl rfl
set_option maxRecDepth 20000 in
theorem se_X2_at : Cond.selects RX2 yX2_at yX2_at ∈ lw_all := lw_t2 (i := 20) rfl rfl
set_option maxRecDepth 20000 in
theorem co_X2_at : Cond.code yX2_at cX2_at 4 (some .int) ∈ lw_all := lw_t2 (i := 21) rfl rfl
set_option maxRecDepth 20000 in
theorem ml_X5_101 : Cond.methodLink RX5 101 yX2_isFull ∈ lw_all := lw_t2 (i := 22) rfl rfl
set_option maxRecDepth 20000 in
theorem im_X2_isFull : Cond.instanceMethod yX2_isFull ∈ lw_all := lw_t2 (i := 23) rfl rfl
set_option maxRecDepth 20000 in
theorem se_X2_isFull : Cond.selects RX2 yX2_isFull yX2_isFull ∈ lw_all := lw_t2 (i := 24) rfl rfl
set_option maxRecDepth 20000 in
theorem co_X2_isFull : Cond.code yX2_isFull cX2_isFull 1 (some .boolean) ∈ lw_all := lw_t2 (i := 25) rfl rfl
set_option maxRecDepth 20000 in
theorem ml_X5_102 : Cond.methodLink RX5 102 yX2_add ∈ lw_all := lw_t2 (i := 26) rfl rfl
set_option maxRecDepth 20000 in
theorem im_X2_add : Cond.instanceMethod yX2_add ∈ lw_all := lw_t2 (i := 27) rfl rfl
set_option maxRecDepth 20000 in
theorem se_X2_add : Cond.selects RX2 yX2_add yX2_add ∈ lw_all := lw_t2 (i := 28) rfl rfl
set_option maxRecDepth 20000 in
theorem co_X2_add : Cond.code yX2_add cX2_add 7 (some .int) ∈ lw_all := lw_t2 (i := 29) rfl rfl
set_option maxRecDepth 20000 in
theorem ml_X2_38 : Cond.methodLink RX2 38 yX4_isInterface ∈ lw_all := lw_t2 (i := 30) rfl rfl
set_option maxRecDepth 20000 in
theorem ml_L_38 : Cond.methodLink RL 38 yX5_throws0 ∈ lw_all := lw_t2 (i := 31) rfl rfl
set_option maxRecDepth 20000 in
theorem im_X5_throws0 : Cond.instanceMethod yX5_throws0 ∈ lw_all := lw_t2 (i := 32) rfl rfl
set_option maxRecDepth 20000 in
theorem se_X5_throws0 : Cond.selects RX5 yX5_throws0 yX5_throws0 ∈ lw_all := lw_t2 (i := 33) rfl rfl
set_option maxRecDepth 20000 in
theorem co_X5_throws0 : Cond.code yX5_throws0 cX5_throws0 3 (some .int) ∈ lw_all := lw_t2 (i := 34) rfl rfl
set_option maxRecDepth 20000 in
theorem ml_X5_105 : Cond.methodLink RX5 105 yX2_has ∈ lw_all := lw_t2 (i := 35) rfl rfl
set_option maxRecDepth 20000 in
theorem im_X2_has : Cond.instanceMethod yX2_has ∈ lw_all := lw_t2 (i := 36) rfl rfl
set_option maxRecDepth 20000 in
theorem se_X2_has : Cond.selects RX2 yX2_has yX2_has ∈ lw_all := lw_t2 (i := 37) rfl rfl
set_option maxRecDepth 20000 in
theorem co_X2_has : Cond.code yX2_has cX2_has 2 (some .boolean) ∈ lw_all := lw_t2 (i := 38) rfl rfl
set_option maxRecDepth 20000 in
theorem ml_X5_106 : Cond.methodLink RX5 106 yX2_addThrow ∈ lw_all := lw_t2 (i := 39) rfl rfl
set_option maxRecDepth 20000 in
theorem im_X2_addThrow : Cond.instanceMethod yX2_addThrow ∈ lw_all := lw_t2 (i := 40) rfl rfl
set_option maxRecDepth 20000 in
theorem se_X2_addThrow : Cond.selects RX2 yX2_addThrow yX2_addThrow ∈ lw_all := lw_t2 (i := 41) rfl rfl
set_option maxRecDepth 20000 in
theorem co_X2_addThrow : Cond.code yX2_addThrow cX2_addThrow 4 (some .boolean) ∈ lw_all := lw_t2 (i := 42) rfl rfl
set_option maxRecDepth 20000 in
theorem ml_X5_109 : Cond.methodLink RX5 109 yX5_oneIf ∈ lw_all := lw_t2 (i := 44) rfl rfl
set_option maxRecDepth 20000 in
theorem sm_X5_oneIf : Cond.static yX5_oneIf ∈ lw_all := lw_t2 (i := 45) rfl rfl
set_option maxRecDepth 20000 in
theorem co_X5_oneIf : Cond.code yX5_oneIf cX5_oneIf 1 (some .int) ∈ lw_all := lw_t2 (i := 46) rfl rfl
set_option maxRecDepth 20000 in
theorem ml_L_42 : Cond.methodLink RL 42 yX5_overrides ∈ lw_all := lw_t2 (i := 47) rfl rfl
set_option maxRecDepth 20000 in
theorem im_X5_overrides : Cond.instanceMethod yX5_overrides ∈ lw_all := lw_t2 (i := 48) rfl rfl
set_option maxRecDepth 20000 in
theorem se_X5_overrides : Cond.selects RX5 yX5_overrides yX5_overrides ∈ lw_all := lw_t2 (i := 49) rfl rfl
set_option maxRecDepth 20000 in
theorem co_X5_overrides : Cond.code yX5_overrides cX5_overrides 3 (some .int) ∈ lw_all := lw_t2 (i := 50) rfl rfl
set_option maxRecDepth 20000 in
theorem ml_X5_113 : Cond.methodLink RX5 113 yX2_isOverriding ∈ lw_all := lw_t2 (i := 51) rfl rfl
set_option maxRecDepth 20000 in
theorem im_X2_isOverriding : Cond.instanceMethod yX2_isOverriding ∈ lw_all := lw_t2 (i := 52) rfl rfl
set_option maxRecDepth 20000 in
theorem se_X2_isOverriding : Cond.selects RX2 yX2_isOverriding yX2_isOverriding ∈ lw_all := lw_t2 (i := 53) rfl rfl
set_option maxRecDepth 20000 in
theorem co_X2_isOverriding : Cond.code yX2_isOverriding cX2_isOverriding 3 (some .boolean) ∈ lw_all := lw_t2 (i := 54) rfl rfl
set_option maxRecDepth 20000 in
theorem ml_X2_51 : Cond.methodLink RX2 51 yX2_isOfNameBelow ∈ lw_all := lw_t2 (i := 55) rfl rfl
set_option maxRecDepth 20000 in
theorem im_X2_isOfNameBelow : Cond.instanceMethod yX2_isOfNameBelow ∈ lw_all := lw_t2 (i := 57) rfl rfl
set_option maxRecDepth 20000 in
theorem co_X2_isOfNameBelow : Cond.code yX2_isOfNameBelow cX2_isOfNameBelow 3 (some .boolean) ∈ lw_all := lw_t2 (i := 58) rfl rfl
set_option maxRecDepth 20000 in
theorem ml_X2_63 : Cond.methodLink RX2 63 yX4_isBelow ∈ lw_all := lw_t2 (i := 59) rfl rfl
set_option maxRecDepth 20000 in
theorem im_X4_isBelow : Cond.instanceMethod yX4_isBelow ∈ lw_all := lw_t2 (i := 60) rfl rfl
set_option maxRecDepth 20000 in
theorem se_X4_isBelow : Cond.selects RX4 yX4_isBelow yX4_isBelow ∈ lw_all := lw_t2 (i := 61) rfl rfl
set_option maxRecDepth 20000 in
theorem co_X4_isBelow : Cond.code yX4_isBelow cX4_isBelow 3 (some .boolean) ∈ lw_all := lw_t2 (i := 62) rfl rfl
set_option maxRecDepth 20000 in
theorem ml_X2_48 : Cond.methodLink RX2 48 yX2_hasMark ∈ lw_all := lw_t2 (i := 63) rfl rfl
set_option maxRecDepth 20000 in
theorem im_X2_hasMark : Cond.instanceMethod yX2_hasMark ∈ lw_all := lw_t2 (i := 64) rfl rfl
set_option maxRecDepth 20000 in
theorem se_X2_hasMark : Cond.selects RX2 yX2_hasMark yX2_hasMark ∈ lw_all := lw_t2 (i := 65) rfl rfl
set_option maxRecDepth 20000 in
theorem co_X2_hasMark : Cond.code yX2_hasMark cX2_hasMark 3 (some .boolean) ∈ lw_all := lw_t2 (i := 66) rfl rfl
set_option maxRecDepth 20000 in
theorem ml_X2_54 : Cond.methodLink RX2 54 yX2_isInheritable ∈ lw_all := lw_t2 (i := 67) rfl rfl
set_option maxRecDepth 20000 in
theorem im_X2_isInheritable : Cond.instanceMethod yX2_isInheritable ∈ lw_all := lw_t2 (i := 68) rfl rfl
set_option maxRecDepth 20000 in
theorem se_X2_isInheritable : Cond.selects RX2 yX2_isInheritable yX2_isInheritable ∈ lw_all := lw_t2 (i := 69) rfl rfl
set_option maxRecDepth 20000 in
theorem co_X2_isInheritable : Cond.code yX2_isInheritable cX2_isInheritable 2 (some .boolean) ∈ lw_all := lw_t2 (i := 70) rfl rfl
set_option maxRecDepth 20000 in
theorem ml_X2_57 : Cond.methodLink RX2 57 yX2_isReached ∈ lw_all := lw_t2 (i := 71) rfl rfl
set_option maxRecDepth 20000 in
theorem im_X2_isReached : Cond.instanceMethod yX2_isReached ∈ lw_all := lw_t2 (i := 73) rfl rfl
set_option maxRecDepth 20000 in
theorem co_X2_isReached : Cond.code yX2_isReached cX2_isReached 9 (some .boolean) ∈ lw_all := lw_t2 (i := 74) rfl rfl
set_option maxRecDepth 20000 in
theorem ml_X2_66 : Cond.methodLink RX2 66 yX4_packetOf ∈ lw_all := lw_t2 (i := 75) rfl rfl
set_option maxRecDepth 20000 in
theorem im_X4_packetOf : Cond.instanceMethod yX4_packetOf ∈ lw_all := lw_t2 (i := 76) rfl rfl
set_option maxRecDepth 20000 in
theorem se_X4_packetOf : Cond.selects RX4 yX4_packetOf yX4_packetOf ∈ lw_all := lw_t2 (i := 77) rfl rfl
set_option maxRecDepth 20000 in
theorem co_X4_packetOf : Cond.code yX4_packetOf cX4_packetOf 2 (some .int) ∈ lw_all := lw_t2 (i := 78) rfl rfl
set_option maxRecDepth 20000 in
theorem ml_X2_70 : Cond.methodLink RX2 70 yX4_parentOf ∈ lw_all := lw_t2 (i := 79) rfl rfl
set_option maxRecDepth 20000 in
theorem im_X4_parentOf : Cond.instanceMethod yX4_parentOf ∈ lw_all := lw_t2 (i := 80) rfl rfl
set_option maxRecDepth 20000 in
theorem se_X4_parentOf : Cond.selects RX4 yX4_parentOf yX4_parentOf ∈ lw_all := lw_t2 (i := 81) rfl rfl
set_option maxRecDepth 20000 in
theorem co_X4_parentOf : Cond.code yX4_parentOf cX4_parentOf 2 (some .int) ∈ lw_all := lw_t2 (i := 82) rfl rfl
set_option maxRecDepth 20000 in
theorem ml_X2_73 : Cond.methodLink RX2 73 yX2_at ∈ lw_all := lw_t2 (i := 83) rfl rfl
set_option maxRecDepth 20000 in
theorem ml_L_46 : Cond.methodLink RL 46 yX5_hides ∈ lw_all := lw_t2 (i := 84) rfl rfl
set_option maxRecDepth 20000 in
theorem im_X5_hides : Cond.instanceMethod yX5_hides ∈ lw_all := lw_t2 (i := 85) rfl rfl
set_option maxRecDepth 20000 in
theorem se_X5_hides : Cond.selects RX5 yX5_hides yX5_hides ∈ lw_all := lw_t2 (i := 86) rfl rfl
set_option maxRecDepth 20000 in
theorem co_X5_hides : Cond.code yX5_hides cX5_hides 3 (some .int) ∈ lw_all := lw_t2 (i := 87) rfl rfl
set_option maxRecDepth 20000 in
theorem ml_X5_116 : Cond.methodLink RX5 116 yX2_isHiding ∈ lw_all := lw_t2 (i := 88) rfl rfl
set_option maxRecDepth 20000 in
theorem im_X2_isHiding : Cond.instanceMethod yX2_isHiding ∈ lw_all := lw_t2 (i := 89) rfl rfl
set_option maxRecDepth 20000 in
theorem se_X2_isHiding : Cond.selects RX2 yX2_isHiding yX2_isHiding ∈ lw_all := lw_t2 (i := 90) rfl rfl
set_option maxRecDepth 20000 in
theorem co_X2_isHiding : Cond.code yX2_isHiding cX2_isHiding 3 (some .boolean) ∈ lw_all := lw_t2 (i := 91) rfl rfl
set_option maxRecDepth 20000 in
theorem ml_X2_60 : Cond.methodLink RX2 60 yX2_isSeen ∈ lw_all := lw_t2 (i := 92) rfl rfl
set_option maxRecDepth 20000 in
theorem im_X2_isSeen : Cond.instanceMethod yX2_isSeen ∈ lw_all := lw_t2 (i := 94) rfl rfl
set_option maxRecDepth 20000 in
theorem co_X2_isSeen : Cond.code yX2_isSeen cX2_isSeen 3 (some .boolean) ∈ lw_all := lw_t2 (i := 95) rfl rfl
set_option maxRecDepth 20000 in
theorem ml_L_50 : Cond.methodLink RL 50 yX5_chosen ∈ lw_all := lw_t2 (i := 96) rfl rfl
set_option maxRecDepth 20000 in
theorem im_X5_chosen : Cond.instanceMethod yX5_chosen ∈ lw_all := lw_t2 (i := 97) rfl rfl
set_option maxRecDepth 20000 in
theorem se_X5_chosen : Cond.selects RX5 yX5_chosen yX5_chosen ∈ lw_all := lw_t2 (i := 98) rfl rfl
set_option maxRecDepth 20000 in
theorem co_X5_chosen : Cond.code yX5_chosen cX5_chosen 3 (some .int) ∈ lw_all := lw_t2 (i := 99) rfl rfl
set_option maxRecDepth 20000 in
theorem ml_X5_119 : Cond.methodLink RX5 119 yX2_isInheritable ∈ lw_all := lw_t2 (i := 100) rfl rfl
set_option maxRecDepth 20000 in
theorem ml_X5_122 : Cond.methodLink RX5 122 yX2_typeOf ∈ lw_all := lw_t2 (i := 101) rfl rfl
set_option maxRecDepth 20000 in
theorem im_X2_typeOf : Cond.instanceMethod yX2_typeOf ∈ lw_all := lw_t2 (i := 102) rfl rfl
set_option maxRecDepth 20000 in
theorem se_X2_typeOf : Cond.selects RX2 yX2_typeOf yX2_typeOf ∈ lw_all := lw_t2 (i := 103) rfl rfl
set_option maxRecDepth 20000 in
theorem co_X2_typeOf : Cond.code yX2_typeOf cX2_typeOf 2 (some .int) ∈ lw_all := lw_t2 (i := 104) rfl rfl
set_option maxRecDepth 20000 in
theorem ml_X5_125 : Cond.methodLink RX5 125 yX4_isSub ∈ lw_all := lw_t2 (i := 105) rfl rfl
set_option maxRecDepth 20000 in
theorem im_X4_isSub : Cond.instanceMethod yX4_isSub ∈ lw_all := lw_t2 (i := 106) rfl rfl
set_option maxRecDepth 20000 in
theorem se_X4_isSub : Cond.selects RX4 yX4_isSub yX4_isSub ∈ lw_all := lw_t2 (i := 107) rfl rfl
set_option maxRecDepth 20000 in
theorem co_X4_isSub : Cond.code yX4_isSub cX4_isSub 3 (some .boolean) ∈ lw_all := lw_t2 (i := 108) rfl rfl
set_option maxRecDepth 20000 in
theorem ml_X5_128 : Cond.methodLink RX5 128 yX0_choose ∈ lw_all := lw_t2 (i := 109) rfl rfl
set_option maxRecDepth 20000 in
theorem im_X0_choose : Cond.instanceMethod yX0_choose ∈ lw_all := lw_t2 (i := 110) rfl rfl
set_option maxRecDepth 20000 in
theorem se_X0_choose : Cond.selects RX0 yX0_choose yX0_choose ∈ lw_all := lw_t2 (i := 111) rfl rfl
set_option maxRecDepth 20000 in
theorem co_X0_choose : Cond.code yX0_choose cX0_choose 8 (some .int) ∈ lw_all := lw_t2 (i := 112) rfl rfl
set_option maxRecDepth 20000 in
theorem ml_X0_19 : Cond.methodLink RX0 19 yX2_nameOf ∈ lw_all := lw_t2 (i := 113) rfl rfl
set_option maxRecDepth 20000 in
theorem im_X2_nameOf : Cond.instanceMethod yX2_nameOf ∈ lw_all := lw_t2 (i := 114) rfl rfl
set_option maxRecDepth 20000 in
theorem se_X2_nameOf : Cond.selects RX2 yX2_nameOf yX2_nameOf ∈ lw_all := lw_t2 (i := 115) rfl rfl
set_option maxRecDepth 20000 in
theorem co_X2_nameOf : Cond.code yX2_nameOf cX2_nameOf 2 (some .int) ∈ lw_all := lw_t2 (i := 116) rfl rfl
set_option maxRecDepth 20000 in
theorem ml_X0_25 : Cond.methodLink RX0 25 yX2_typeOf ∈ lw_all := lw_t2 (i := 117) rfl rfl
set_option maxRecDepth 20000 in
theorem ml_X0_28 : Cond.methodLink RX0 28 yX4_isInterface ∈ lw_all := lw_t2 (i := 118) rfl rfl
set_option maxRecDepth 20000 in
theorem ml_X0_34 : Cond.methodLink RX0 34 yX2_at ∈ lw_all := lw_t2 (i := 119) rfl rfl
set_option maxRecDepth 20000 in
theorem ml_X0_38 : Cond.methodLink RX0 38 yX2_isInheritable ∈ lw_all := lw_t2 (i := 120) rfl rfl
set_option maxRecDepth 20000 in
theorem ml_X0_41 : Cond.methodLink RX0 41 yX2_isOverriding ∈ lw_all := lw_t2 (i := 121) rfl rfl
set_option maxRecDepth 20000 in
theorem ml_X0_45 : Cond.methodLink RX0 45 yX4_parentOf ∈ lw_all := lw_t2 (i := 122) rfl rfl
set_option maxRecDepth 20000 in
theorem ml_X0_48 : Cond.methodLink RX0 48 yX0_chooseOfInterfaces ∈ lw_all := lw_t2 (i := 123) rfl rfl
set_option maxRecDepth 20000 in
theorem im_X0_chooseOfInterfaces : Cond.instanceMethod yX0_chooseOfInterfaces ∈ lw_all := lw_t2 (i := 125) rfl rfl
set_option maxRecDepth 20000 in
theorem co_X0_chooseOfInterfaces : Cond.code yX0_chooseOfInterfaces cX0_chooseOfInterfaces 6 (some .int) ∈ lw_all := lw_t2 (i := 126) rfl rfl
set_option maxRecDepth 20000 in
theorem ml_X0_51 : Cond.methodLink RX0 51 yX4_isBelow ∈ lw_all := lw_t2 (i := 127) rfl rfl
set_option maxRecDepth 20000 in
theorem ml_X0_54 : Cond.methodLink RX0 54 yX4_allAbove ∈ lw_all := lw_t2 (i := 128) rfl rfl
set_option maxRecDepth 20000 in
theorem im_X4_allAbove : Cond.instanceMethod yX4_allAbove ∈ lw_all := lw_t2 (i := 129) rfl rfl
set_option maxRecDepth 20000 in
theorem se_X4_allAbove : Cond.selects RX4 yX4_allAbove yX4_allAbove ∈ lw_all := lw_t2 (i := 130) rfl rfl
set_option maxRecDepth 20000 in
theorem co_X4_allAbove : Cond.code yX4_allAbove cX4_allAbove 2 (some .int) ∈ lw_all := lw_t2 (i := 131) rfl rfl
set_option maxRecDepth 20000 in
theorem ml_X0_57 : Cond.methodLink RX0 57 yX0_leastOrFight ∈ lw_all := lw_t2 (i := 132) rfl rfl
set_option maxRecDepth 20000 in
theorem im_X0_leastOrFight : Cond.instanceMethod yX0_leastOrFight ∈ lw_all := lw_t2 (i := 134) rfl rfl
set_option maxRecDepth 20000 in
theorem co_X0_leastOrFight : Cond.code yX0_leastOrFight cX0_leastOrFight 7 (some .int) ∈ lw_all := lw_t2 (i := 135) rfl rfl
set_option maxRecDepth 20000 in
theorem ml_X0_60 : Cond.methodLink RX0 60 yX4_size ∈ lw_all := lw_t2 (i := 136) rfl rfl
set_option maxRecDepth 20000 in
theorem im_X4_size : Cond.instanceMethod yX4_size ∈ lw_all := lw_t2 (i := 137) rfl rfl
set_option maxRecDepth 20000 in
theorem se_X4_size : Cond.selects RX4 yX4_size yX4_size ∈ lw_all := lw_t2 (i := 138) rfl rfl
set_option maxRecDepth 20000 in
theorem co_X4_size : Cond.code yX4_size cX4_size 1 (some .int) ∈ lw_all := lw_t2 (i := 139) rfl rfl
set_option maxRecDepth 20000 in
theorem ml_X0_67 : Cond.methodLink RX0 67 yJ9_min_7cf53 ∈ lw_all := lw_t2 (i := 141) rfl rfl
set_option maxRecDepth 20000 in
theorem sm_J9_min_7cf53 : Cond.static yJ9_min_7cf53 ∈ lw_all := lw_t2 (i := 142) rfl rfl
set_option maxRecDepth 20000 in
theorem co_J9_min_7cf53 : Cond.code yJ9_min_7cf53 cJ9_min_7cf53 2 (some .int) ∈ lw_all := lw_t2 (i := 143) rfl rfl
set_option maxRecDepth 20000 in
theorem ml_X0_72 : Cond.methodLink RX0 72 yX2_hasMark ∈ lw_all := lw_t2 (i := 144) rfl rfl
set_option maxRecDepth 20000 in
theorem ml_X0_75 : Cond.methodLink RX0 75 yJ6_bitCount_0f7a4 ∈ lw_all := lw_t2 (i := 145) rfl rfl
set_option maxRecDepth 20000 in
theorem ml_L_54 : Cond.methodLink RL 54 yX5_sub ∈ lw_all := lw_t2 (i := 146) rfl rfl
set_option maxRecDepth 20000 in
theorem im_X5_sub : Cond.instanceMethod yX5_sub ∈ lw_all := lw_t2 (i := 147) rfl rfl
set_option maxRecDepth 20000 in
theorem se_X5_sub : Cond.selects RX5 yX5_sub yX5_sub ∈ lw_all := lw_t2 (i := 148) rfl rfl
set_option maxRecDepth 20000 in
theorem co_X5_sub : Cond.code yX5_sub cX5_sub 3 (some .int) ∈ lw_all := lw_t2 (i := 149) rfl rfl
set_option maxRecDepth 20000 in
theorem ml_L_58 : Cond.methodLink RL 58 yX5_check ∈ lw_all := lw_t2 (i := 150) rfl rfl
set_option maxRecDepth 20000 in
theorem im_X5_check : Cond.instanceMethod yX5_check ∈ lw_all := lw_t2 (i := 151) rfl rfl
set_option maxRecDepth 20000 in
theorem se_X5_check : Cond.selects RX5 yX5_check yX5_check ∈ lw_all := lw_t2 (i := 152) rfl rfl
set_option maxRecDepth 20000 in
theorem co_X5_check : Cond.code yX5_check cX5_check 2 (some .int) ∈ lw_all := lw_t2 (i := 153) rfl rfl
set_option maxRecDepth 20000 in
theorem ml_X5_131 : Cond.methodLink RX5 131 yX1_walk ∈ lw_all := lw_t2 (i := 154) rfl rfl
set_option maxRecDepth 20000 in
theorem im_X1_walk : Cond.instanceMethod yX1_walk ∈ lw_all := lw_t2 (i := 155) rfl rfl
set_option maxRecDepth 20000 in
theorem se_X1_walk : Cond.selects RX1 yX1_walk yX1_walk ∈ lw_all := lw_t2 (i := 156) rfl rfl
set_option maxRecDepth 20000 in
theorem co_X1_walk : Cond.code yX1_walk cX1_walk 4 (some .int) ∈ lw_all := lw_t2 (i := 157) rfl rfl
set_option maxRecDepth 20000 in
theorem ml_X1_43 : Cond.methodLink RX1 43 yX2_size ∈ lw_all := lw_t2 (i := 158) rfl rfl
set_option maxRecDepth 20000 in
theorem ml_X1_49 : Cond.methodLink RX1 49 yX2_typeOf ∈ lw_all := lw_t2 (i := 159) rfl rfl
set_option maxRecDepth 20000 in
theorem ml_X1_53 : Cond.methodLink RX1 53 yX1_walkOwn ∈ lw_all := lw_t2 (i := 160) rfl rfl
set_option maxRecDepth 20000 in
theorem im_X1_walkOwn : Cond.instanceMethod yX1_walkOwn ∈ lw_all := lw_t2 (i := 162) rfl rfl
set_option maxRecDepth 20000 in
theorem co_X1_walkOwn : Cond.code yX1_walkOwn cX1_walkOwn 5 none ∈ lw_all := lw_t2 (i := 163) rfl rfl
set_option maxRecDepth 20000 in
theorem ml_X1_70 : Cond.methodLink RX1 70 yX2_isOverriding ∈ lw_all := lw_t2 (i := 164) rfl rfl
set_option maxRecDepth 20000 in
theorem ml_X1_74 : Cond.methodLink RX1 74 yX2_isMixed ∈ lw_all := lw_t2 (i := 165) rfl rfl
set_option maxRecDepth 20000 in
theorem im_X2_isMixed : Cond.instanceMethod yX2_isMixed ∈ lw_all := lw_t2 (i := 166) rfl rfl
set_option maxRecDepth 20000 in
theorem se_X2_isMixed : Cond.selects RX2 yX2_isMixed yX2_isMixed ∈ lw_all := lw_t2 (i := 167) rfl rfl
set_option maxRecDepth 20000 in
theorem co_X2_isMixed : Cond.code yX2_isMixed cX2_isMixed 3 (some .boolean) ∈ lw_all := lw_t2 (i := 168) rfl rfl
set_option maxRecDepth 20000 in
theorem ml_X1_77 : Cond.methodLink RX1 77 yX1_noteIf ∈ lw_all := lw_t2 (i := 169) rfl rfl
set_option maxRecDepth 20000 in
theorem im_X1_noteIf : Cond.instanceMethod yX1_noteIf ∈ lw_all := lw_t2 (i := 171) rfl rfl
set_option maxRecDepth 20000 in
theorem co_X1_noteIf : Cond.code yX1_noteIf cX1_noteIf 5 none ∈ lw_all := lw_t2 (i := 172) rfl rfl
set_option maxRecDepth 20000 in
theorem ml_X1_66 : Cond.methodLink RX1 66 yX1_note ∈ lw_all := lw_t2 (i := 173) rfl rfl
set_option maxRecDepth 20000 in
theorem im_X1_note : Cond.instanceMethod yX1_note ∈ lw_all := lw_t2 (i := 175) rfl rfl
set_option maxRecDepth 20000 in
theorem co_X1_note : Cond.code yX1_note cX1_note 4 none ∈ lw_all := lw_t2 (i := 176) rfl rfl
set_option maxRecDepth 20000 in
theorem ml_X1_81 : Cond.methodLink RX1 81 yX2_isHiding ∈ lw_all := lw_t2 (i := 177) rfl rfl
set_option maxRecDepth 20000 in
theorem ml_X1_84 : Cond.methodLink RX1 84 yX2_hasMark ∈ lw_all := lw_t2 (i := 178) rfl rfl
set_option maxRecDepth 20000 in
theorem ml_X1_87 : Cond.methodLink RX1 87 yX1_compare ∈ lw_all := lw_t2 (i := 179) rfl rfl
set_option maxRecDepth 20000 in
theorem im_X1_compare : Cond.instanceMethod yX1_compare ∈ lw_all := lw_t2 (i := 181) rfl rfl
set_option maxRecDepth 20000 in
theorem co_X1_compare : Cond.code yX1_compare cX1_compare 3 none ∈ lw_all := lw_t2 (i := 182) rfl rfl
set_option maxRecDepth 20000 in
theorem ml_X1_94 : Cond.methodLink RX1 94 yX2_accessOf ∈ lw_all := lw_t2 (i := 183) rfl rfl
set_option maxRecDepth 20000 in
theorem im_X2_accessOf : Cond.instanceMethod yX2_accessOf ∈ lw_all := lw_t2 (i := 184) rfl rfl
set_option maxRecDepth 20000 in
theorem se_X2_accessOf : Cond.selects RX2 yX2_accessOf yX2_accessOf ∈ lw_all := lw_t2 (i := 185) rfl rfl
set_option maxRecDepth 20000 in
theorem co_X2_accessOf : Cond.code yX2_accessOf cX2_accessOf 2 (some .int) ∈ lw_all := lw_t2 (i := 186) rfl rfl
set_option maxRecDepth 20000 in
theorem ml_X1_97 : Cond.methodLink RX1 97 yX2_resultOf ∈ lw_all := lw_t2 (i := 187) rfl rfl
set_option maxRecDepth 20000 in
theorem im_X2_resultOf : Cond.instanceMethod yX2_resultOf ∈ lw_all := lw_t2 (i := 188) rfl rfl
set_option maxRecDepth 20000 in
theorem se_X2_resultOf : Cond.selects RX2 yX2_resultOf yX2_resultOf ∈ lw_all := lw_t2 (i := 189) rfl rfl
set_option maxRecDepth 20000 in
theorem co_X2_resultOf : Cond.code yX2_resultOf cX2_resultOf 2 (some .int) ∈ lw_all := lw_t2 (i := 190) rfl rfl
set_option maxRecDepth 20000 in
theorem ml_X1_100 : Cond.methodLink RX1 100 yX1_suits ∈ lw_all := lw_t2 (i := 191) rfl rfl
set_option maxRecDepth 20000 in
theorem im_X1_suits : Cond.instanceMethod yX1_suits ∈ lw_all := lw_t2 (i := 193) rfl rfl
set_option maxRecDepth 20000 in
theorem co_X1_suits : Cond.code yX1_suits cX1_suits 3 (some .boolean) ∈ lw_all := lw_t2 (i := 194) rfl rfl
set_option maxRecDepth 20000 in
theorem ml_X1_111 : Cond.methodLink RX1 111 yX4_has ∈ lw_all := lw_t2 (i := 195) rfl rfl
set_option maxRecDepth 20000 in
theorem ml_X1_114 : Cond.methodLink RX1 114 yX4_isSub ∈ lw_all := lw_t2 (i := 196) rfl rfl
set_option maxRecDepth 20000 in
theorem ml_X1_103 : Cond.methodLink RX1 103 yX2_thrownBy ∈ lw_all := lw_t2 (i := 197) rfl rfl
set_option maxRecDepth 20000 in
theorem im_X2_thrownBy : Cond.instanceMethod yX2_thrownBy ∈ lw_all := lw_t2 (i := 198) rfl rfl
set_option maxRecDepth 20000 in
theorem se_X2_thrownBy : Cond.selects RX2 yX2_thrownBy yX2_thrownBy ∈ lw_all := lw_t2 (i := 199) rfl rfl
set_option maxRecDepth 20000 in
theorem co_X2_thrownBy : Cond.code yX2_thrownBy cX2_thrownBy 2 (some .int) ∈ lw_all := lw_t2 (i := 200) rfl rfl
set_option maxRecDepth 20000 in
theorem ml_X1_106 : Cond.methodLink RX1 106 yX3_areAllowed ∈ lw_all := lw_t2 (i := 201) rfl rfl
set_option maxRecDepth 20000 in
theorem im_X3_areAllowed : Cond.instanceMethod yX3_areAllowed ∈ lw_all := lw_t2 (i := 202) rfl rfl
set_option maxRecDepth 20000 in
theorem se_X3_areAllowed : Cond.selects RX3 yX3_areAllowed yX3_areAllowed ∈ lw_all := lw_t2 (i := 203) rfl rfl
set_option maxRecDepth 20000 in
theorem co_X3_areAllowed : Cond.code yX3_areAllowed cX3_areAllowed 4 (some .boolean) ∈ lw_all := lw_t2 (i := 204) rfl rfl
set_option maxRecDepth 20000 in
theorem ml_X1_91 : Cond.methodLink RX1 91 yX4_isPlainClass ∈ lw_all := lw_t2 (i := 206) rfl rfl
set_option maxRecDepth 20000 in
theorem im_X4_isPlainClass : Cond.instanceMethod yX4_isPlainClass ∈ lw_all := lw_t2 (i := 207) rfl rfl
set_option maxRecDepth 20000 in
theorem se_X4_isPlainClass : Cond.selects RX4 yX4_isPlainClass yX4_isPlainClass ∈ lw_all := lw_t2 (i := 208) rfl rfl
set_option maxRecDepth 20000 in
theorem co_X4_isPlainClass : Cond.code yX4_isPlainClass cX4_isPlainClass 2 (some .boolean) ∈ lw_all := lw_t2 (i := 209) rfl rfl
set_option maxRecDepth 20000 in
theorem ml_X1_57 : Cond.methodLink RX1 57 yX4_isInterface ∈ lw_all := lw_t2 (i := 210) rfl rfl
set_option maxRecDepth 20000 in
theorem ml_X1_63 : Cond.methodLink RX1 63 yX1_walkInherited ∈ lw_all := lw_t2 (i := 211) rfl rfl
set_option maxRecDepth 20000 in
theorem im_X1_walkInherited : Cond.instanceMethod yX1_walkInherited ∈ lw_all := lw_t2 (i := 213) rfl rfl
set_option maxRecDepth 20000 in
theorem co_X1_walkInherited : Cond.code yX1_walkInherited cX1_walkInherited 3 none ∈ lw_all := lw_t2 (i := 214) rfl rfl
set_option maxRecDepth 20000 in
theorem ml_X1_117 : Cond.methodLink RX1 117 yX2_isInheritable ∈ lw_all := lw_t2 (i := 215) rfl rfl
set_option maxRecDepth 20000 in
theorem ml_X1_120 : Cond.methodLink RX1 120 yX4_isBelow ∈ lw_all := lw_t2 (i := 216) rfl rfl
set_option maxRecDepth 20000 in
theorem ml_X1_123 : Cond.methodLink RX1 123 yX0_choose ∈ lw_all := lw_t2 (i := 217) rfl rfl
set_option maxRecDepth 20000 in
theorem ml_X1_129 : Cond.methodLink RX1 129 yX1_noteChosen ∈ lw_all := lw_t2 (i := 218) rfl rfl
set_option maxRecDepth 20000 in
theorem im_X1_noteChosen : Cond.instanceMethod yX1_noteChosen ∈ lw_all := lw_t2 (i := 220) rfl rfl
set_option maxRecDepth 20000 in
theorem co_X1_noteChosen : Cond.code yX1_noteChosen cX1_noteChosen 4 none ∈ lw_all := lw_t2 (i := 221) rfl rfl
set_option maxRecDepth 20000 in
theorem ml_X1_132 : Cond.methodLink RX1 132 yX1_isMetByChance ∈ lw_all := lw_t2 (i := 222) rfl rfl
set_option maxRecDepth 20000 in
theorem im_X1_isMetByChance : Cond.instanceMethod yX1_isMetByChance ∈ lw_all := lw_t2 (i := 224) rfl rfl
set_option maxRecDepth 20000 in
theorem co_X1_isMetByChance : Cond.code yX1_isMetByChance cX1_isMetByChance 5 (some .boolean) ∈ lw_all := lw_t2 (i := 225) rfl rfl
set_option maxRecDepth 20000 in
theorem ml_L_63 : Cond.methodLink RL 63 yX5_fault ∈ lw_all := lw_t2 (i := 226) rfl rfl
set_option maxRecDepth 20000 in
theorem im_X5_fault : Cond.instanceMethod yX5_fault ∈ lw_all := lw_t2 (i := 227) rfl rfl
set_option maxRecDepth 20000 in
theorem se_X5_fault : Cond.selects RX5 yX5_fault yX5_fault ∈ lw_all := lw_t2 (i := 228) rfl rfl
set_option maxRecDepth 20000 in
theorem co_X5_fault : Cond.code yX5_fault cX5_fault 4 (some .int) ∈ lw_all := lw_t2 (i := 229) rfl rfl
set_option maxRecDepth 20000 in
theorem ml_X5_134 : Cond.methodLink RX5 134 yX1_pickedPart ∈ lw_all := lw_t2 (i := 230) rfl rfl
set_option maxRecDepth 20000 in
theorem im_X1_pickedPart : Cond.instanceMethod yX1_pickedPart ∈ lw_all := lw_t2 (i := 231) rfl rfl
set_option maxRecDepth 20000 in
theorem se_X1_pickedPart : Cond.selects RX1 yX1_pickedPart yX1_pickedPart ∈ lw_all := lw_t2 (i := 232) rfl rfl
set_option maxRecDepth 20000 in
theorem co_X1_pickedPart : Cond.code yX1_pickedPart cX1_pickedPart 2 (some .int) ∈ lw_all := lw_t2 (i := 233) rfl rfl
set_option maxRecDepth 20000 in
theorem ml_L_67 : Cond.methodLink RL 67 yX5_bridges ∈ lw_all := lw_t2 (i := 234) rfl rfl
set_option maxRecDepth 20000 in
theorem im_X5_bridges : Cond.instanceMethod yX5_bridges ∈ lw_all := lw_t2 (i := 235) rfl rfl
set_option maxRecDepth 20000 in
theorem se_X5_bridges : Cond.selects RX5 yX5_bridges yX5_bridges ∈ lw_all := lw_t2 (i := 236) rfl rfl
set_option maxRecDepth 20000 in
theorem co_X5_bridges : Cond.code yX5_bridges cX5_bridges 4 (some .int) ∈ lw_all := lw_t2 (i := 237) rfl rfl
set_option maxRecDepth 20000 in
theorem ml_X5_137 : Cond.methodLink RX5 137 yX2_hasMark ∈ lw_all := lw_t2 (i := 238) rfl rfl
set_option maxRecDepth 20000 in
theorem ml_X5_140 : Cond.methodLink RX5 140 yX2_countBridges ∈ lw_all := lw_t2 (i := 239) rfl rfl
set_option maxRecDepth 20000 in
theorem im_X2_countBridges : Cond.instanceMethod yX2_countBridges ∈ lw_all := lw_t3 (i := 0) rfl rfl
set_option maxRecDepth 20000 in
theorem se_X2_countBridges : Cond.selects RX2 yX2_countBridges yX2_countBridges ∈ lw_all := lw_t3 (i := 1) rfl rfl
set_option maxRecDepth 20000 in
theorem co_X2_countBridges : Cond.code yX2_countBridges cX2_countBridges 4 (some .int) ∈ lw_all := lw_t3 (i := 2) rfl rfl
set_option maxRecDepth 20000 in
theorem ml_X2_77 : Cond.methodLink RX2 77 yX2_isOverriding ∈ lw_all := lw_t3 (i := 3) rfl rfl
set_option maxRecDepth 20000 in
theorem ml_X2_84 : Cond.methodLink RX2 84 yJ6_bitCount_0f7a4 ∈ lw_all := lw_t3 (i := 4) rfl rfl
set_option maxRecDepth 20000 in
theorem ml_L_71 : Cond.methodLink RL 71 yX5_first ∈ lw_all := lw_t3 (i := 5) rfl rfl
set_option maxRecDepth 20000 in
theorem im_X5_first : Cond.instanceMethod yX5_first ∈ lw_all := lw_t3 (i := 6) rfl rfl
set_option maxRecDepth 20000 in
theorem se_X5_first : Cond.selects RX5 yX5_first yX5_first ∈ lw_all := lw_t3 (i := 7) rfl rfl
set_option maxRecDepth 20000 in
theorem co_X5_first : Cond.code yX5_first cX5_first 6 (some .int) ∈ lw_all := lw_t3 (i := 8) rfl rfl
set_option maxRecDepth 20000 in
theorem ml_X5_143 : Cond.methodLink RX5 143 yX2_countOverridden ∈ lw_all := lw_t3 (i := 9) rfl rfl
set_option maxRecDepth 20000 in
theorem im_X2_countOverridden : Cond.instanceMethod yX2_countOverridden ∈ lw_all := lw_t3 (i := 10) rfl rfl
set_option maxRecDepth 20000 in
theorem se_X2_countOverridden : Cond.selects RX2 yX2_countOverridden yX2_countOverridden ∈ lw_all := lw_t3 (i := 11) rfl rfl
set_option maxRecDepth 20000 in
theorem co_X2_countOverridden : Cond.code yX2_countOverridden cX2_countOverridden 4 (some .int) ∈ lw_all := lw_t3 (i := 12) rfl rfl
set_option maxRecDepth 20000 in
theorem ml_L_75 : Cond.methodLink RL 75 yX5_told ∈ lw_all := lw_t3 (i := 14) rfl rfl
set_option maxRecDepth 20000 in
theorem im_X5_told : Cond.instanceMethod yX5_told ∈ lw_all := lw_t3 (i := 15) rfl rfl
set_option maxRecDepth 20000 in
theorem se_X5_told : Cond.selects RX5 yX5_told yX5_told ∈ lw_all := lw_t3 (i := 16) rfl rfl
set_option maxRecDepth 20000 in
theorem co_X5_told : Cond.code yX5_told cX5_told 4 (some .int) ∈ lw_all := lw_t3 (i := 17) rfl rfl
set_option maxRecDepth 20000 in
theorem ml_X5_146 : Cond.methodLink RX5 146 yX4_size ∈ lw_all := lw_t3 (i := 18) rfl rfl
set_option maxRecDepth 20000 in
theorem ml_X5_147 : Cond.methodLink RX5 147 yX3_size ∈ lw_all := lw_t3 (i := 19) rfl rfl
set_option maxRecDepth 20000 in
theorem im_X3_size : Cond.instanceMethod yX3_size ∈ lw_all := lw_t3 (i := 20) rfl rfl
set_option maxRecDepth 20000 in
theorem se_X3_size : Cond.selects RX3 yX3_size yX3_size ∈ lw_all := lw_t3 (i := 21) rfl rfl
set_option maxRecDepth 20000 in
theorem co_X3_size : Cond.code yX3_size cX3_size 1 (some .int) ∈ lw_all := lw_t3 (i := 22) rfl rfl
set_option maxRecDepth 20000 in
theorem cl_L_10 : Cond.classLink RL 10 RX6 ∈ lw_all := lw_t3 (i := 23) rfl rfl
set_option maxRecDepth 20000 in
theorem is_X6 : Cond.instantiable RX6 21 ∈ lw_all := lw_t3 (i := 24) rfl rfl
set_option maxRecDepth 20000 in
theorem ml_L_12 : Cond.methodLink RL 12 yX6_init ∈ lw_all := lw_t3 (i := 25) rfl rfl
set_option maxRecDepth 20000 in
theorem im_X6_init : Cond.instanceMethod yX6_init ∈ lw_all := lw_t3 (i := 26) rfl rfl
set_option maxRecDepth 20000 in
theorem co_X6_init : Cond.code yX6_init cX6_init 1 none ∈ lw_all := lw_t3 (i := 27) rfl rfl
set_option maxRecDepth 20000 in
theorem ml_X6_1 : Cond.methodLink RX6 1 objectInit ∈ lw_all := lw_t3 (i := 28) rfl rfl
set_option maxRecDepth 20000 in
theorem fl_X6_62 : Cond.fieldLink RX6 62 "OverrideRulesModel" "types" "I" ∈ lw_all := lw_t3 (i := 29) rfl rfl
set_option maxRecDepth 20000 in
theorem fl_X6_7 : Cond.fieldLink RX6 7 "OverrideRulesModel" "kind" "[I" ∈ lw_all := lw_t3 (i := 30) rfl rfl
set_option maxRecDepth 20000 in
theorem fl_X6_13 : Cond.fieldLink RX6 13 "OverrideRulesModel" "packet" "[I" ∈ lw_all := lw_t3 (i := 31) rfl rfl
set_option maxRecDepth 20000 in
theorem fl_X6_16 : Cond.fieldLink RX6 16 "OverrideRulesModel" "parent" "[I" ∈ lw_all := lw_t3 (i := 32) rfl rfl
set_option maxRecDepth 20000 in
theorem fl_X6_19 : Cond.fieldLink RX6 19 "OverrideRulesModel" "faces" "[I" ∈ lw_all := lw_t3 (i := 33) rfl rfl
set_option maxRecDepth 20000 in
theorem fl_X6_22 : Cond.fieldLink RX6 22 "OverrideRulesModel" "face" "[I" ∈ lw_all := lw_t3 (i := 34) rfl rfl
set_option maxRecDepth 20000 in
theorem fl_X6_25 : Cond.fieldLink RX6 25 "OverrideRulesModel" "above" "[Z" ∈ lw_all := lw_t3 (i := 35) rfl rfl
set_option maxRecDepth 20000 in
theorem fl_X6_73 : Cond.fieldLink RX6 73 "OverrideRulesModel" "throwsMany" "I" ∈ lw_all := lw_t3 (i := 36) rfl rfl
set_option maxRecDepth 20000 in
theorem fl_X6_29 : Cond.fieldLink RX6 29 "OverrideRulesModel" "throwParent" "[I" ∈ lw_all := lw_t3 (i := 37) rfl rfl
set_option maxRecDepth 20000 in
theorem fl_X6_32 : Cond.fieldLink RX6 32 "OverrideRulesModel" "checked" "[Z" ∈ lw_all := lw_t3 (i := 38) rfl rfl
set_option maxRecDepth 20000 in
theorem fl_X6_70 : Cond.fieldLink RX6 70 "OverrideRulesModel" "members" "I" ∈ lw_all := lw_t3 (i := 39) rfl rfl
set_option maxRecDepth 20000 in
theorem fl_X6_35 : Cond.fieldLink RX6 35 "OverrideRulesModel" "of" "[I" ∈ lw_all := lw_t3 (i := 40) rfl rfl
set_option maxRecDepth 20000 in
theorem fl_X6_38 : Cond.fieldLink RX6 38 "OverrideRulesModel" "name" "[I" ∈ lw_all := lw_t3 (i := 41) rfl rfl
set_option maxRecDepth 20000 in
theorem fl_X6_41 : Cond.fieldLink RX6 41 "OverrideRulesModel" "result" "[I" ∈ lw_all := lw_t3 (i := 42) rfl rfl
set_option maxRecDepth 20000 in
theorem fl_X6_44 : Cond.fieldLink RX6 44 "OverrideRulesModel" "marks" "[I" ∈ lw_all := lw_t3 (i := 43) rfl rfl
set_option maxRecDepth 20000 in
theorem fl_X6_47 : Cond.fieldLink RX6 47 "OverrideRulesModel" "thrownBy" "[I" ∈ lw_all := lw_t3 (i := 44) rfl rfl
set_option maxRecDepth 20000 in
theorem fl_X6_50 : Cond.fieldLink RX6 50 "OverrideRulesModel" "over" "[Z" ∈ lw_all := lw_t3 (i := 45) rfl rfl
set_option maxRecDepth 20000 in
theorem fl_X6_144 : Cond.fieldLink RX6 144 "OverrideRulesModel" "faults" "I" ∈ lw_all := lw_t3 (i := 46) rfl rfl
set_option maxRecDepth 20000 in
theorem fl_X6_53 : Cond.fieldLink RX6 53 "OverrideRulesModel" "faultCode" "[I" ∈ lw_all := lw_t3 (i := 47) rfl rfl
set_option maxRecDepth 20000 in
theorem fl_X6_56 : Cond.fieldLink RX6 56 "OverrideRulesModel" "faultOne" "[I" ∈ lw_all := lw_t3 (i := 48) rfl rfl
set_option maxRecDepth 20000 in
theorem fl_X6_59 : Cond.fieldLink RX6 59 "OverrideRulesModel" "faultOther" "[I" ∈ lw_all := lw_t3 (i := 49) rfl rfl
set_option maxRecDepth 20000 in
theorem ac_boolean : Cond.arrayClass .boolean ∈ lw_all := lw_t3 (i := 93) rfl rfl
set_option maxRecDepth 20000 in
theorem ml_L_17 : Cond.methodLink RL 17 yX6_clear ∈ lw_all := lw_t3 (i := 94) rfl rfl
set_option maxRecDepth 20000 in
theorem im_X6_clear : Cond.instanceMethod yX6_clear ∈ lw_all := lw_t3 (i := 95) rfl rfl
set_option maxRecDepth 20000 in
theorem se_X6_clear : Cond.selects RX6 yX6_clear yX6_clear ∈ lw_all := lw_t3 (i := 96) rfl rfl
set_option maxRecDepth 20000 in
theorem co_X6_clear : Cond.code yX6_clear cX6_clear 2 (some .int) ∈ lw_all := lw_t3 (i := 97) rfl rfl
set_option maxRecDepth 20000 in
theorem ml_L_22 : Cond.methodLink RL 22 yX6_type ∈ lw_all := lw_t3 (i := 98) rfl rfl
set_option maxRecDepth 20000 in
theorem im_X6_type : Cond.instanceMethod yX6_type ∈ lw_all := lw_t3 (i := 99) rfl rfl
set_option maxRecDepth 20000 in
theorem se_X6_type : Cond.selects RX6 yX6_type yX6_type ∈ lw_all := lw_t3 (i := 100) rfl rfl
set_option maxRecDepth 20000 in
theorem co_X6_type : Cond.code yX6_type cX6_type 4 (some .int) ∈ lw_all := lw_t3 (i := 101) rfl rfl
set_option maxRecDepth 20000 in
theorem ml_X6_83 : Cond.methodLink RX6 83 yX6_isType ∈ lw_all := lw_t3 (i := 102) rfl rfl
set_option maxRecDepth 20000 in
theorem im_X6_isType : Cond.instanceMethod yX6_isType ∈ lw_all := lw_t3 (i := 104) rfl rfl
set_option maxRecDepth 20000 in
theorem co_X6_isType : Cond.code yX6_isType cX6_isType 2 (some .boolean) ∈ lw_all := lw_t3 (i := 105) rfl rfl
set_option maxRecDepth 20000 in
theorem ml_X6_66 : Cond.methodLink RX6 66 yX6_in ∈ lw_all := lw_t3 (i := 106) rfl rfl
set_option maxRecDepth 20000 in
theorem sm_X6_in : Cond.static yX6_in ∈ lw_all := lw_t3 (i := 107) rfl rfl
set_option maxRecDepth 20000 in
theorem co_X6_in : Cond.code yX6_in cX6_in 3 (some .boolean) ∈ lw_all := lw_t3 (i := 108) rfl rfl
set_option maxRecDepth 20000 in
theorem ml_X6_87 : Cond.methodLink RX6 87 yX6_rise ∈ lw_all := lw_t3 (i := 109) rfl rfl
set_option maxRecDepth 20000 in
theorem im_X6_rise : Cond.instanceMethod yX6_rise ∈ lw_all := lw_t3 (i := 111) rfl rfl
set_option maxRecDepth 20000 in
theorem co_X6_rise : Cond.code yX6_rise cX6_rise 3 none ∈ lw_all := lw_t3 (i := 112) rfl rfl
set_option maxRecDepth 20000 in
theorem ml_X6_76 : Cond.methodLink RX6 76 yX6_lift ∈ lw_all := lw_t3 (i := 113) rfl rfl
set_option maxRecDepth 20000 in
theorem im_X6_lift : Cond.instanceMethod yX6_lift ∈ lw_all := lw_t3 (i := 115) rfl rfl
set_option maxRecDepth 20000 in
theorem co_X6_lift : Cond.code yX6_lift cX6_lift 4 none ∈ lw_all := lw_t3 (i := 116) rfl rfl
set_option maxRecDepth 20000 in
theorem ml_X6_80 : Cond.methodLink RX6 80 yX6_work ∈ lw_all := lw_t3 (i := 117) rfl rfl
set_option maxRecDepth 20000 in
theorem im_X6_work : Cond.instanceMethod yX6_work ∈ lw_all := lw_t3 (i := 119) rfl rfl
set_option maxRecDepth 20000 in
theorem co_X6_work : Cond.code yX6_work cX6_work 5 none ∈ lw_all := lw_t3 (i := 120) rfl rfl
set_option maxRecDepth 20000 in
theorem ml_X6_90 : Cond.methodLink RX6 90 yX6_isBelow ∈ lw_all := lw_t3 (i := 121) rfl rfl
set_option maxRecDepth 20000 in
theorem im_X6_isBelow : Cond.instanceMethod yX6_isBelow ∈ lw_all := lw_t3 (i := 123) rfl rfl
set_option maxRecDepth 20000 in
theorem co_X6_isBelow : Cond.code yX6_isBelow cX6_isBelow 3 (some .boolean) ∈ lw_all := lw_t3 (i := 124) rfl rfl
set_option maxRecDepth 20000 in
theorem ml_X6_117 : Cond.methodLink RX6 117 yX6_isStatic ∈ lw_all := lw_t3 (i := 125) rfl rfl
set_option maxRecDepth 20000 in
theorem im_X6_isStatic : Cond.instanceMethod yX6_isStatic ∈ lw_all := lw_t3 (i := 127) rfl rfl
set_option maxRecDepth 20000 in
theorem co_X6_isStatic : Cond.code yX6_isStatic cX6_isStatic 2 (some .boolean) ∈ lw_all := lw_t3 (i := 128) rfl rfl
set_option maxRecDepth 20000 in
theorem ml_X6_100 : Cond.methodLink RX6 100 yX6_has ∈ lw_all := lw_t3 (i := 129) rfl rfl
set_option maxRecDepth 20000 in
theorem im_X6_has : Cond.instanceMethod yX6_has ∈ lw_all := lw_t3 (i := 131) rfl rfl
set_option maxRecDepth 20000 in
theorem co_X6_has : Cond.code yX6_has cX6_has 3 (some .boolean) ∈ lw_all := lw_t3 (i := 132) rfl rfl
set_option maxRecDepth 20000 in
theorem ml_X6_120 : Cond.methodLink RX6 120 yX6_isPrivate ∈ lw_all := lw_t3 (i := 133) rfl rfl
set_option maxRecDepth 20000 in
theorem im_X6_isPrivate : Cond.instanceMethod yX6_isPrivate ∈ lw_all := lw_t3 (i := 135) rfl rfl
set_option maxRecDepth 20000 in
theorem co_X6_isPrivate : Cond.code yX6_isPrivate cX6_isPrivate 2 (some .boolean) ∈ lw_all := lw_t3 (i := 136) rfl rfl
set_option maxRecDepth 20000 in
theorem ml_X6_123 : Cond.methodLink RX6 123 yX6_goesOver ∈ lw_all := lw_t3 (i := 137) rfl rfl
set_option maxRecDepth 20000 in
theorem im_X6_goesOver : Cond.instanceMethod yX6_goesOver ∈ lw_all := lw_t3 (i := 139) rfl rfl
set_option maxRecDepth 20000 in
theorem co_X6_goesOver : Cond.code yX6_goesOver cX6_goesOver 4 (some .boolean) ∈ lw_all := lw_t3 (i := 140) rfl rfl
set_option maxRecDepth 20000 in
theorem ml_X6_110 : Cond.methodLink RX6 110 yX6_isInterface ∈ lw_all := lw_t3 (i := 141) rfl rfl
set_option maxRecDepth 20000 in
theorem im_X6_isInterface : Cond.instanceMethod yX6_isInterface ∈ lw_all := lw_t3 (i := 143) rfl rfl
set_option maxRecDepth 20000 in
theorem co_X6_isInterface : Cond.code yX6_isInterface cX6_isInterface 2 (some .boolean) ∈ lw_all := lw_t3 (i := 144) rfl rfl
set_option maxRecDepth 20000 in
theorem ml_X6_126 : Cond.methodLink RX6 126 yX6_isSeen ∈ lw_all := lw_t3 (i := 145) rfl rfl
set_option maxRecDepth 20000 in
theorem im_X6_isSeen : Cond.instanceMethod yX6_isSeen ∈ lw_all := lw_t3 (i := 147) rfl rfl
set_option maxRecDepth 20000 in
theorem co_X6_isSeen : Cond.code yX6_isSeen cX6_isSeen 3 (some .boolean) ∈ lw_all := lw_t3 (i := 148) rfl rfl
set_option maxRecDepth 20000 in
theorem ml_X6_113 : Cond.methodLink RX6 113 yX6_access ∈ lw_all := lw_t3 (i := 149) rfl rfl
set_option maxRecDepth 20000 in
theorem im_X6_access : Cond.instanceMethod yX6_access ∈ lw_all := lw_t3 (i := 151) rfl rfl
set_option maxRecDepth 20000 in
theorem co_X6_access : Cond.code yX6_access cX6_access 2 (some .int) ∈ lw_all := lw_t3 (i := 152) rfl rfl
set_option maxRecDepth 20000 in
theorem ml_L_27 : Cond.methodLink RL 27 yX6_face ∈ lw_all := lw_t3 (i := 153) rfl rfl
set_option maxRecDepth 20000 in
theorem im_X6_face : Cond.instanceMethod yX6_face ∈ lw_all := lw_t3 (i := 154) rfl rfl
set_option maxRecDepth 20000 in
theorem se_X6_face : Cond.selects RX6 yX6_face yX6_face ∈ lw_all := lw_t3 (i := 155) rfl rfl
set_option maxRecDepth 20000 in
theorem co_X6_face : Cond.code yX6_face cX6_face 5 (some .int) ∈ lw_all := lw_t3 (i := 156) rfl rfl
set_option maxRecDepth 20000 in
theorem ml_L_57 : Cond.methodLink RL 57 yX6_sub ∈ lw_all := lw_t3 (i := 157) rfl rfl
set_option maxRecDepth 20000 in
theorem im_X6_sub : Cond.instanceMethod yX6_sub ∈ lw_all := lw_t3 (i := 158) rfl rfl
set_option maxRecDepth 20000 in
theorem se_X6_sub : Cond.selects RX6 yX6_sub yX6_sub ∈ lw_all := lw_t3 (i := 159) rfl rfl
set_option maxRecDepth 20000 in
theorem co_X6_sub : Cond.code yX6_sub cX6_sub 3 (some .int) ∈ lw_all := lw_t3 (i := 160) rfl rfl
set_option maxRecDepth 20000 in
theorem ml_X6_94 : Cond.methodLink RX6 94 yX6_isSub ∈ lw_all := lw_t3 (i := 161) rfl rfl
set_option maxRecDepth 20000 in
theorem im_X6_isSub : Cond.instanceMethod yX6_isSub ∈ lw_all := lw_t3 (i := 163) rfl rfl
set_option maxRecDepth 20000 in
theorem co_X6_isSub : Cond.code yX6_isSub cX6_isSub 3 (some .boolean) ∈ lw_all := lw_t3 (i := 164) rfl rfl
set_option maxRecDepth 20000 in
theorem ml_L_32 : Cond.methodLink RL 32 yX6_thrown0 ∈ lw_all := lw_t3 (i := 165) rfl rfl
set_option maxRecDepth 20000 in
theorem im_X6_thrown0 : Cond.instanceMethod yX6_thrown0 ∈ lw_all := lw_t3 (i := 166) rfl rfl
set_option maxRecDepth 20000 in
theorem se_X6_thrown0 : Cond.selects RX6 yX6_thrown0 yX6_thrown0 ∈ lw_all := lw_t3 (i := 167) rfl rfl
set_option maxRecDepth 20000 in
theorem co_X6_thrown0 : Cond.code yX6_thrown0 cX6_thrown0 3 (some .int) ∈ lw_all := lw_t3 (i := 168) rfl rfl
set_option maxRecDepth 20000 in
theorem ml_L_41 : Cond.methodLink RL 41 yX6_throws0 ∈ lw_all := lw_t3 (i := 169) rfl rfl
set_option maxRecDepth 20000 in
theorem im_X6_throws0 : Cond.instanceMethod yX6_throws0 ∈ lw_all := lw_t3 (i := 170) rfl rfl
set_option maxRecDepth 20000 in
theorem se_X6_throws0 : Cond.selects RX6 yX6_throws0 yX6_throws0 ∈ lw_all := lw_t3 (i := 171) rfl rfl
set_option maxRecDepth 20000 in
theorem co_X6_throws0 : Cond.code yX6_throws0 cX6_throws0 5 (some .int) ∈ lw_all := lw_t3 (i := 172) rfl rfl
set_option maxRecDepth 20000 in
theorem ml_X6_97 : Cond.methodLink RX6 97 yX6_isMember ∈ lw_all := lw_t3 (i := 173) rfl rfl
set_option maxRecDepth 20000 in
theorem im_X6_isMember : Cond.instanceMethod yX6_isMember ∈ lw_all := lw_t3 (i := 175) rfl rfl
set_option maxRecDepth 20000 in
theorem co_X6_isMember : Cond.code yX6_isMember cX6_isMember 2 (some .boolean) ∈ lw_all := lw_t3 (i := 176) rfl rfl
set_option maxRecDepth 20000 in
theorem ml_L_37 : Cond.methodLink RL 37 yX6_member ∈ lw_all := lw_t3 (i := 177) rfl rfl
set_option maxRecDepth 20000 in
theorem im_X6_member : Cond.instanceMethod yX6_member ∈ lw_all := lw_t3 (i := 178) rfl rfl
set_option maxRecDepth 20000 in
theorem se_X6_member : Cond.selects RX6 yX6_member yX6_member ∈ lw_all := lw_t3 (i := 179) rfl rfl
set_option maxRecDepth 20000 in
theorem co_X6_member : Cond.code yX6_member cX6_member 7 (some .int) ∈ lw_all := lw_t3 (i := 180) rfl rfl
set_option maxRecDepth 20000 in
theorem ml_X6_107 : Cond.methodLink RX6 107 yX6_mayBe ∈ lw_all := lw_t3 (i := 181) rfl rfl
set_option maxRecDepth 20000 in
theorem sm_X6_mayBe : Cond.static yX6_mayBe ∈ lw_all := lw_t3 (i := 182) rfl rfl
set_option maxRecDepth 20000 in
theorem co_X6_mayBe : Cond.code yX6_mayBe cX6_mayBe 3 (some .boolean) ∈ lw_all := lw_t3 (i := 183) rfl rfl
set_option maxRecDepth 20000 in
theorem ml_X6_103 : Cond.methodLink RX6 103 yX6_one ∈ lw_all := lw_t3 (i := 184) rfl rfl
set_option maxRecDepth 20000 in
theorem sm_X6_one : Cond.static yX6_one ∈ lw_all := lw_t3 (i := 185) rfl rfl
set_option maxRecDepth 20000 in
theorem co_X6_one : Cond.code yX6_one cX6_one 2 (some .int) ∈ lw_all := lw_t3 (i := 186) rfl rfl
set_option maxRecDepth 20000 in
theorem ml_L_45 : Cond.methodLink RL 45 yX6_overrides ∈ lw_all := lw_t3 (i := 187) rfl rfl
set_option maxRecDepth 20000 in
theorem im_X6_overrides : Cond.instanceMethod yX6_overrides ∈ lw_all := lw_t3 (i := 188) rfl rfl
set_option maxRecDepth 20000 in
theorem se_X6_overrides : Cond.selects RX6 yX6_overrides yX6_overrides ∈ lw_all := lw_t3 (i := 189) rfl rfl
set_option maxRecDepth 20000 in
theorem co_X6_overrides : Cond.code yX6_overrides cX6_overrides 3 (some .int) ∈ lw_all := lw_t3 (i := 190) rfl rfl
set_option maxRecDepth 20000 in
theorem ml_X6_129 : Cond.methodLink RX6 129 yX6_isOver ∈ lw_all := lw_t3 (i := 191) rfl rfl
set_option maxRecDepth 20000 in
theorem im_X6_isOver : Cond.instanceMethod yX6_isOver ∈ lw_all := lw_t3 (i := 193) rfl rfl
set_option maxRecDepth 20000 in
theorem co_X6_isOver : Cond.code yX6_isOver cX6_isOver 3 (some .boolean) ∈ lw_all := lw_t3 (i := 194) rfl rfl
set_option maxRecDepth 20000 in
theorem ml_L_49 : Cond.methodLink RL 49 yX6_hides ∈ lw_all := lw_t3 (i := 195) rfl rfl
set_option maxRecDepth 20000 in
theorem im_X6_hides : Cond.instanceMethod yX6_hides ∈ lw_all := lw_t3 (i := 196) rfl rfl
set_option maxRecDepth 20000 in
theorem se_X6_hides : Cond.selects RX6 yX6_hides yX6_hides ∈ lw_all := lw_t3 (i := 197) rfl rfl
set_option maxRecDepth 20000 in
theorem co_X6_hides : Cond.code yX6_hides cX6_hides 3 (some .int) ∈ lw_all := lw_t3 (i := 198) rfl rfl
set_option maxRecDepth 20000 in
theorem ml_X6_132 : Cond.methodLink RX6 132 yX6_hidesIt ∈ lw_all := lw_t3 (i := 199) rfl rfl
set_option maxRecDepth 20000 in
theorem im_X6_hidesIt : Cond.instanceMethod yX6_hidesIt ∈ lw_all := lw_t3 (i := 201) rfl rfl
set_option maxRecDepth 20000 in
theorem co_X6_hidesIt : Cond.code yX6_hidesIt cX6_hidesIt 3 (some .boolean) ∈ lw_all := lw_t3 (i := 202) rfl rfl
set_option maxRecDepth 20000 in
theorem ml_L_53 : Cond.methodLink RL 53 yX6_chosen ∈ lw_all := lw_t3 (i := 203) rfl rfl
set_option maxRecDepth 20000 in
theorem im_X6_chosen : Cond.instanceMethod yX6_chosen ∈ lw_all := lw_t3 (i := 204) rfl rfl
set_option maxRecDepth 20000 in
theorem se_X6_chosen : Cond.selects RX6 yX6_chosen yX6_chosen ∈ lw_all := lw_t3 (i := 205) rfl rfl
set_option maxRecDepth 20000 in
theorem co_X6_chosen : Cond.code yX6_chosen cX6_chosen 3 (some .int) ∈ lw_all := lw_t3 (i := 206) rfl rfl
set_option maxRecDepth 20000 in
theorem ml_X6_135 : Cond.methodLink RX6 135 yX6_isPlain ∈ lw_all := lw_t3 (i := 207) rfl rfl
set_option maxRecDepth 20000 in
theorem im_X6_isPlain : Cond.instanceMethod yX6_isPlain ∈ lw_all := lw_t3 (i := 209) rfl rfl
set_option maxRecDepth 20000 in
theorem co_X6_isPlain : Cond.code yX6_isPlain cX6_isPlain 2 (some .boolean) ∈ lw_all := lw_t3 (i := 210) rfl rfl
set_option maxRecDepth 20000 in
theorem ml_X6_141 : Cond.methodLink RX6 141 yX6_choose ∈ lw_all := lw_t3 (i := 211) rfl rfl
set_option maxRecDepth 20000 in
theorem im_X6_choose : Cond.instanceMethod yX6_choose ∈ lw_all := lw_t3 (i := 213) rfl rfl
set_option maxRecDepth 20000 in
theorem co_X6_choose : Cond.code yX6_choose cX6_choose 7 (some .int) ∈ lw_all := lw_t3 (i := 214) rfl rfl
set_option maxRecDepth 20000 in
theorem ml_X6_138 : Cond.methodLink RX6 138 yX6_isLast ∈ lw_all := lw_t3 (i := 215) rfl rfl
set_option maxRecDepth 20000 in
theorem im_X6_isLast : Cond.instanceMethod yX6_isLast ∈ lw_all := lw_t3 (i := 217) rfl rfl
set_option maxRecDepth 20000 in
theorem co_X6_isLast : Cond.code yX6_isLast cX6_isLast 4 (some .boolean) ∈ lw_all := lw_t3 (i := 218) rfl rfl
set_option maxRecDepth 20000 in
theorem ml_L_62 : Cond.methodLink RL 62 yX6_check ∈ lw_all := lw_t3 (i := 219) rfl rfl
set_option maxRecDepth 20000 in
theorem im_X6_check : Cond.instanceMethod yX6_check ∈ lw_all := lw_t3 (i := 220) rfl rfl
set_option maxRecDepth 20000 in
theorem se_X6_check : Cond.selects RX6 yX6_check yX6_check ∈ lw_all := lw_t3 (i := 221) rfl rfl
set_option maxRecDepth 20000 in
theorem co_X6_check : Cond.code yX6_check cX6_check 2 (some .int) ∈ lw_all := lw_t3 (i := 222) rfl rfl
set_option maxRecDepth 20000 in
theorem ml_X6_166 : Cond.methodLink RX6 166 yX6_judge ∈ lw_all := lw_t3 (i := 223) rfl rfl
set_option maxRecDepth 20000 in
theorem im_X6_judge : Cond.instanceMethod yX6_judge ∈ lw_all := lw_t3 (i := 225) rfl rfl
set_option maxRecDepth 20000 in
theorem co_X6_judge : Cond.code yX6_judge cX6_judge 5 none ∈ lw_all := lw_t3 (i := 226) rfl rfl
set_option maxRecDepth 20000 in
theorem ml_X6_157 : Cond.methodLink RX6 157 yX6_isMixed ∈ lw_all := lw_t3 (i := 227) rfl rfl
set_option maxRecDepth 20000 in
theorem im_X6_isMixed : Cond.instanceMethod yX6_isMixed ∈ lw_all := lw_t3 (i := 229) rfl rfl
set_option maxRecDepth 20000 in
theorem co_X6_isMixed : Cond.code yX6_isMixed cX6_isMixed 4 (some .boolean) ∈ lw_all := lw_t3 (i := 230) rfl rfl
set_option maxRecDepth 20000 in
theorem ml_X6_147 : Cond.methodLink RX6 147 yX6_note ∈ lw_all := lw_t3 (i := 231) rfl rfl
set_option maxRecDepth 20000 in
theorem im_X6_note : Cond.instanceMethod yX6_note ∈ lw_all := lw_t3 (i := 233) rfl rfl
set_option maxRecDepth 20000 in
theorem co_X6_note : Cond.code yX6_note cX6_note 4 none ∈ lw_all := lw_t3 (i := 234) rfl rfl
set_option maxRecDepth 20000 in
theorem ml_X6_160 : Cond.methodLink RX6 160 yX6_three ∈ lw_all := lw_t3 (i := 235) rfl rfl
set_option maxRecDepth 20000 in
theorem im_X6_three : Cond.instanceMethod yX6_three ∈ lw_all := lw_t3 (i := 237) rfl rfl
set_option maxRecDepth 20000 in
theorem co_X6_three : Cond.code yX6_three cX6_three 3 none ∈ lw_all := lw_t3 (i := 238) rfl rfl
set_option maxRecDepth 20000 in
theorem ml_X6_151 : Cond.methodLink RX6 151 yX6_suits ∈ lw_all := lw_t3 (i := 239) rfl rfl
set_option maxRecDepth 20000 in
theorem im_X6_suits : Cond.instanceMethod yX6_suits ∈ lw_all := lw_t4 (i := 1) rfl rfl
set_option maxRecDepth 20000 in
theorem co_X6_suits : Cond.code yX6_suits cX6_suits 3 (some .boolean) ∈ lw_all := lw_t4 (i := 2) rfl rfl
set_option maxRecDepth 20000 in
theorem ml_X6_154 : Cond.methodLink RX6 154 yX6_throwsMore ∈ lw_all := lw_t4 (i := 3) rfl rfl
set_option maxRecDepth 20000 in
theorem im_X6_throwsMore : Cond.instanceMethod yX6_throwsMore ∈ lw_all := lw_t4 (i := 5) rfl rfl
set_option maxRecDepth 20000 in
theorem co_X6_throwsMore : Cond.code yX6_throwsMore cX6_throwsMore 6 (some .boolean) ∈ lw_all := lw_t4 (i := 6) rfl rfl
set_option maxRecDepth 20000 in
theorem ml_X6_163 : Cond.methodLink RX6 163 yX6_inherited ∈ lw_all := lw_t4 (i := 7) rfl rfl
set_option maxRecDepth 20000 in
theorem im_X6_inherited : Cond.instanceMethod yX6_inherited ∈ lw_all := lw_t4 (i := 9) rfl rfl
set_option maxRecDepth 20000 in
theorem co_X6_inherited : Cond.code yX6_inherited cX6_inherited 4 none ∈ lw_all := lw_t4 (i := 10) rfl rfl
set_option maxRecDepth 20000 in
theorem ml_L_66 : Cond.methodLink RL 66 yX6_fault ∈ lw_all := lw_t4 (i := 11) rfl rfl
set_option maxRecDepth 20000 in
theorem im_X6_fault : Cond.instanceMethod yX6_fault ∈ lw_all := lw_t4 (i := 12) rfl rfl
set_option maxRecDepth 20000 in
theorem se_X6_fault : Cond.selects RX6 yX6_fault yX6_fault ∈ lw_all := lw_t4 (i := 13) rfl rfl
set_option maxRecDepth 20000 in
theorem co_X6_fault : Cond.code yX6_fault cX6_fault 4 (some .int) ∈ lw_all := lw_t4 (i := 14) rfl rfl
set_option maxRecDepth 20000 in
theorem ml_L_70 : Cond.methodLink RL 70 yX6_bridges ∈ lw_all := lw_t4 (i := 15) rfl rfl
set_option maxRecDepth 20000 in
theorem im_X6_bridges : Cond.instanceMethod yX6_bridges ∈ lw_all := lw_t4 (i := 16) rfl rfl
set_option maxRecDepth 20000 in
theorem se_X6_bridges : Cond.selects RX6 yX6_bridges yX6_bridges ∈ lw_all := lw_t4 (i := 17) rfl rfl
set_option maxRecDepth 20000 in
theorem co_X6_bridges : Cond.code yX6_bridges cX6_bridges 7 (some .int) ∈ lw_all := lw_t4 (i := 18) rfl rfl
set_option maxRecDepth 20000 in
theorem ml_L_74 : Cond.methodLink RL 74 yX6_first ∈ lw_all := lw_t4 (i := 19) rfl rfl
set_option maxRecDepth 20000 in
theorem im_X6_first : Cond.instanceMethod yX6_first ∈ lw_all := lw_t4 (i := 20) rfl rfl
set_option maxRecDepth 20000 in
theorem se_X6_first : Cond.selects RX6 yX6_first yX6_first ∈ lw_all := lw_t4 (i := 21) rfl rfl
set_option maxRecDepth 20000 in
theorem co_X6_first : Cond.code yX6_first cX6_first 7 (some .int) ∈ lw_all := lw_t4 (i := 22) rfl rfl
set_option maxRecDepth 20000 in
theorem ml_L_78 : Cond.methodLink RL 78 yX6_told ∈ lw_all := lw_t4 (i := 23) rfl rfl
set_option maxRecDepth 20000 in
theorem im_X6_told : Cond.instanceMethod yX6_told ∈ lw_all := lw_t4 (i := 24) rfl rfl
set_option maxRecDepth 20000 in
theorem se_X6_told : Cond.selects RX6 yX6_told yX6_told ∈ lw_all := lw_t4 (i := 25) rfl rfl
set_option maxRecDepth 20000 in
theorem co_X6_told : Cond.code yX6_told cX6_told 4 (some .int) ∈ lw_all := lw_t4 (i := 26) rfl rfl
set_option maxRecDepth 20000 in
theorem se_X4_findAbove : Cond.selects RX4 yX4_findAbove yX4_findAbove ∈ lw_all := List.mem_filter.mpr ⟨List.mem_append_left _ (List.mem_map.mpr ⟨(yX4_findAbove, 6), List.mem_of_getElem? (i := 0) rfl, rfl⟩), rfl⟩
set_option maxRecDepth 20000 in
theorem se_X5_isMissingType : Cond.selects RX5 yX5_isMissingType yX5_isMissingType ∈ lw_all := List.mem_filter.mpr ⟨List.mem_append_left _ (List.mem_map.mpr ⟨(yX5_isMissingType, 5), List.mem_of_getElem? (i := 1) rfl, rfl⟩), rfl⟩
set_option maxRecDepth 20000 in
theorem se_X2_isOfNameBelow : Cond.selects RX2 yX2_isOfNameBelow yX2_isOfNameBelow ∈ lw_all := List.mem_filter.mpr ⟨List.mem_append_left _ (List.mem_map.mpr ⟨(yX2_isOfNameBelow, 8), List.mem_of_getElem? (i := 2) rfl, rfl⟩), rfl⟩
set_option maxRecDepth 20000 in
theorem se_X2_isReached : Cond.selects RX2 yX2_isReached yX2_isReached ∈ lw_all := List.mem_filter.mpr ⟨List.mem_append_left _ (List.mem_map.mpr ⟨(yX2_isReached, 8), List.mem_of_getElem? (i := 3) rfl, rfl⟩), rfl⟩
set_option maxRecDepth 20000 in
theorem se_X2_isSeen : Cond.selects RX2 yX2_isSeen yX2_isSeen ∈ lw_all := List.mem_filter.mpr ⟨List.mem_append_left _ (List.mem_map.mpr ⟨(yX2_isSeen, 8), List.mem_of_getElem? (i := 4) rfl, rfl⟩), rfl⟩
set_option maxRecDepth 20000 in
theorem se_X0_chooseOfInterfaces : Cond.selects RX0 yX0_chooseOfInterfaces yX0_chooseOfInterfaces ∈ lw_all := List.mem_filter.mpr ⟨List.mem_append_left _ (List.mem_map.mpr ⟨(yX0_chooseOfInterfaces, 2), List.mem_of_getElem? (i := 5) rfl, rfl⟩), rfl⟩
set_option maxRecDepth 20000 in
theorem se_X0_leastOrFight : Cond.selects RX0 yX0_leastOrFight yX0_leastOrFight ∈ lw_all := List.mem_filter.mpr ⟨List.mem_append_left _ (List.mem_map.mpr ⟨(yX0_leastOrFight, 2), List.mem_of_getElem? (i := 6) rfl, rfl⟩), rfl⟩
set_option maxRecDepth 20000 in
theorem se_X1_walkOwn : Cond.selects RX1 yX1_walkOwn yX1_walkOwn ∈ lw_all := List.mem_filter.mpr ⟨List.mem_append_left _ (List.mem_map.mpr ⟨(yX1_walkOwn, 9), List.mem_of_getElem? (i := 7) rfl, rfl⟩), rfl⟩
set_option maxRecDepth 20000 in
theorem se_X1_noteIf : Cond.selects RX1 yX1_noteIf yX1_noteIf ∈ lw_all := List.mem_filter.mpr ⟨List.mem_append_left _ (List.mem_map.mpr ⟨(yX1_noteIf, 9), List.mem_of_getElem? (i := 8) rfl, rfl⟩), rfl⟩
set_option maxRecDepth 20000 in
theorem se_X1_note : Cond.selects RX1 yX1_note yX1_note ∈ lw_all := List.mem_filter.mpr ⟨List.mem_append_left _ (List.mem_map.mpr ⟨(yX1_note, 9), List.mem_of_getElem? (i := 9) rfl, rfl⟩), rfl⟩
set_option maxRecDepth 20000 in
theorem se_X1_compare : Cond.selects RX1 yX1_compare yX1_compare ∈ lw_all := List.mem_filter.mpr ⟨List.mem_append_left _ (List.mem_map.mpr ⟨(yX1_compare, 9), List.mem_of_getElem? (i := 10) rfl, rfl⟩), rfl⟩
set_option maxRecDepth 20000 in
theorem se_X1_suits : Cond.selects RX1 yX1_suits yX1_suits ∈ lw_all := List.mem_filter.mpr ⟨List.mem_append_left _ (List.mem_map.mpr ⟨(yX1_suits, 9), List.mem_of_getElem? (i := 11) rfl, rfl⟩), rfl⟩
set_option maxRecDepth 20000 in
theorem se_X1_walkInherited : Cond.selects RX1 yX1_walkInherited yX1_walkInherited ∈ lw_all := List.mem_filter.mpr ⟨List.mem_append_left _ (List.mem_map.mpr ⟨(yX1_walkInherited, 9), List.mem_of_getElem? (i := 12) rfl, rfl⟩), rfl⟩
set_option maxRecDepth 20000 in
theorem se_X1_noteChosen : Cond.selects RX1 yX1_noteChosen yX1_noteChosen ∈ lw_all := List.mem_filter.mpr ⟨List.mem_append_left _ (List.mem_map.mpr ⟨(yX1_noteChosen, 9), List.mem_of_getElem? (i := 13) rfl, rfl⟩), rfl⟩
set_option maxRecDepth 20000 in
theorem se_X1_isMetByChance : Cond.selects RX1 yX1_isMetByChance yX1_isMetByChance ∈ lw_all := List.mem_filter.mpr ⟨List.mem_append_left _ (List.mem_map.mpr ⟨(yX1_isMetByChance, 9), List.mem_of_getElem? (i := 14) rfl, rfl⟩), rfl⟩
set_option maxRecDepth 20000 in
theorem se_X6_isType : Cond.selects RX6 yX6_isType yX6_isType ∈ lw_all := List.mem_filter.mpr ⟨List.mem_append_left _ (List.mem_map.mpr ⟨(yX6_isType, 21), List.mem_of_getElem? (i := 15) rfl, rfl⟩), rfl⟩
set_option maxRecDepth 20000 in
theorem se_X6_rise : Cond.selects RX6 yX6_rise yX6_rise ∈ lw_all := List.mem_filter.mpr ⟨List.mem_append_left _ (List.mem_map.mpr ⟨(yX6_rise, 21), List.mem_of_getElem? (i := 16) rfl, rfl⟩), rfl⟩
set_option maxRecDepth 20000 in
theorem se_X6_lift : Cond.selects RX6 yX6_lift yX6_lift ∈ lw_all := List.mem_filter.mpr ⟨List.mem_append_left _ (List.mem_map.mpr ⟨(yX6_lift, 21), List.mem_of_getElem? (i := 17) rfl, rfl⟩), rfl⟩
set_option maxRecDepth 20000 in
theorem se_X6_work : Cond.selects RX6 yX6_work yX6_work ∈ lw_all := List.mem_filter.mpr ⟨List.mem_append_left _ (List.mem_map.mpr ⟨(yX6_work, 21), List.mem_of_getElem? (i := 18) rfl, rfl⟩), rfl⟩
set_option maxRecDepth 20000 in
theorem se_X6_isBelow : Cond.selects RX6 yX6_isBelow yX6_isBelow ∈ lw_all := List.mem_filter.mpr ⟨List.mem_append_left _ (List.mem_map.mpr ⟨(yX6_isBelow, 21), List.mem_of_getElem? (i := 19) rfl, rfl⟩), rfl⟩
set_option maxRecDepth 20000 in
theorem se_X6_isStatic : Cond.selects RX6 yX6_isStatic yX6_isStatic ∈ lw_all := List.mem_filter.mpr ⟨List.mem_append_left _ (List.mem_map.mpr ⟨(yX6_isStatic, 21), List.mem_of_getElem? (i := 20) rfl, rfl⟩), rfl⟩
set_option maxRecDepth 20000 in
theorem se_X6_has : Cond.selects RX6 yX6_has yX6_has ∈ lw_all := List.mem_filter.mpr ⟨List.mem_append_left _ (List.mem_map.mpr ⟨(yX6_has, 21), List.mem_of_getElem? (i := 21) rfl, rfl⟩), rfl⟩
set_option maxRecDepth 20000 in
theorem se_X6_isPrivate : Cond.selects RX6 yX6_isPrivate yX6_isPrivate ∈ lw_all := List.mem_filter.mpr ⟨List.mem_append_left _ (List.mem_map.mpr ⟨(yX6_isPrivate, 21), List.mem_of_getElem? (i := 22) rfl, rfl⟩), rfl⟩
set_option maxRecDepth 20000 in
theorem se_X6_goesOver : Cond.selects RX6 yX6_goesOver yX6_goesOver ∈ lw_all := List.mem_filter.mpr ⟨List.mem_append_left _ (List.mem_map.mpr ⟨(yX6_goesOver, 21), List.mem_of_getElem? (i := 23) rfl, rfl⟩), rfl⟩
set_option maxRecDepth 20000 in
theorem se_X6_isInterface : Cond.selects RX6 yX6_isInterface yX6_isInterface ∈ lw_all := List.mem_filter.mpr ⟨List.mem_append_left _ (List.mem_map.mpr ⟨(yX6_isInterface, 21), List.mem_of_getElem? (i := 24) rfl, rfl⟩), rfl⟩
set_option maxRecDepth 20000 in
theorem se_X6_isSeen : Cond.selects RX6 yX6_isSeen yX6_isSeen ∈ lw_all := List.mem_filter.mpr ⟨List.mem_append_left _ (List.mem_map.mpr ⟨(yX6_isSeen, 21), List.mem_of_getElem? (i := 25) rfl, rfl⟩), rfl⟩
set_option maxRecDepth 20000 in
theorem se_X6_access : Cond.selects RX6 yX6_access yX6_access ∈ lw_all := List.mem_filter.mpr ⟨List.mem_append_left _ (List.mem_map.mpr ⟨(yX6_access, 21), List.mem_of_getElem? (i := 26) rfl, rfl⟩), rfl⟩
set_option maxRecDepth 20000 in
theorem se_X6_isSub : Cond.selects RX6 yX6_isSub yX6_isSub ∈ lw_all := List.mem_filter.mpr ⟨List.mem_append_left _ (List.mem_map.mpr ⟨(yX6_isSub, 21), List.mem_of_getElem? (i := 27) rfl, rfl⟩), rfl⟩
set_option maxRecDepth 20000 in
theorem se_X6_isMember : Cond.selects RX6 yX6_isMember yX6_isMember ∈ lw_all := List.mem_filter.mpr ⟨List.mem_append_left _ (List.mem_map.mpr ⟨(yX6_isMember, 21), List.mem_of_getElem? (i := 28) rfl, rfl⟩), rfl⟩
set_option maxRecDepth 20000 in
theorem se_X6_isOver : Cond.selects RX6 yX6_isOver yX6_isOver ∈ lw_all := List.mem_filter.mpr ⟨List.mem_append_left _ (List.mem_map.mpr ⟨(yX6_isOver, 21), List.mem_of_getElem? (i := 29) rfl, rfl⟩), rfl⟩
set_option maxRecDepth 20000 in
theorem se_X6_hidesIt : Cond.selects RX6 yX6_hidesIt yX6_hidesIt ∈ lw_all := List.mem_filter.mpr ⟨List.mem_append_left _ (List.mem_map.mpr ⟨(yX6_hidesIt, 21), List.mem_of_getElem? (i := 30) rfl, rfl⟩), rfl⟩
set_option maxRecDepth 20000 in
theorem se_X6_isPlain : Cond.selects RX6 yX6_isPlain yX6_isPlain ∈ lw_all := List.mem_filter.mpr ⟨List.mem_append_left _ (List.mem_map.mpr ⟨(yX6_isPlain, 21), List.mem_of_getElem? (i := 31) rfl, rfl⟩), rfl⟩
set_option maxRecDepth 20000 in
theorem se_X6_choose : Cond.selects RX6 yX6_choose yX6_choose ∈ lw_all := List.mem_filter.mpr ⟨List.mem_append_left _ (List.mem_map.mpr ⟨(yX6_choose, 21), List.mem_of_getElem? (i := 32) rfl, rfl⟩), rfl⟩
set_option maxRecDepth 20000 in
theorem se_X6_isLast : Cond.selects RX6 yX6_isLast yX6_isLast ∈ lw_all := List.mem_filter.mpr ⟨List.mem_append_left _ (List.mem_map.mpr ⟨(yX6_isLast, 21), List.mem_of_getElem? (i := 33) rfl, rfl⟩), rfl⟩
set_option maxRecDepth 20000 in
theorem se_X6_judge : Cond.selects RX6 yX6_judge yX6_judge ∈ lw_all := List.mem_filter.mpr ⟨List.mem_append_left _ (List.mem_map.mpr ⟨(yX6_judge, 21), List.mem_of_getElem? (i := 34) rfl, rfl⟩), rfl⟩
set_option maxRecDepth 20000 in
theorem se_X6_isMixed : Cond.selects RX6 yX6_isMixed yX6_isMixed ∈ lw_all := List.mem_filter.mpr ⟨List.mem_append_left _ (List.mem_map.mpr ⟨(yX6_isMixed, 21), List.mem_of_getElem? (i := 35) rfl, rfl⟩), rfl⟩
set_option maxRecDepth 20000 in
theorem se_X6_note : Cond.selects RX6 yX6_note yX6_note ∈ lw_all := List.mem_filter.mpr ⟨List.mem_append_left _ (List.mem_map.mpr ⟨(yX6_note, 21), List.mem_of_getElem? (i := 36) rfl, rfl⟩), rfl⟩
set_option maxRecDepth 20000 in
theorem se_X6_three : Cond.selects RX6 yX6_three yX6_three ∈ lw_all := List.mem_filter.mpr ⟨List.mem_append_left _ (List.mem_map.mpr ⟨(yX6_three, 21), List.mem_of_getElem? (i := 37) rfl, rfl⟩), rfl⟩
set_option maxRecDepth 20000 in
theorem se_X6_suits : Cond.selects RX6 yX6_suits yX6_suits ∈ lw_all := List.mem_filter.mpr ⟨List.mem_append_left _ (List.mem_map.mpr ⟨(yX6_suits, 21), List.mem_of_getElem? (i := 38) rfl, rfl⟩), rfl⟩
set_option maxRecDepth 20000 in
theorem se_X6_throwsMore : Cond.selects RX6 yX6_throwsMore yX6_throwsMore ∈ lw_all := List.mem_filter.mpr ⟨List.mem_append_left _ (List.mem_map.mpr ⟨(yX6_throwsMore, 21), List.mem_of_getElem? (i := 39) rfl, rfl⟩), rfl⟩
set_option maxRecDepth 20000 in
theorem se_X6_inherited : Cond.selects RX6 yX6_inherited yX6_inherited ∈ lw_all := List.mem_filter.mpr ⟨List.mem_append_left _ (List.mem_map.mpr ⟨(yX6_inherited, 21), List.mem_of_getElem? (i := 40) rfl, rfl⟩), rfl⟩
set_option maxRecDepth 20000 in
theorem ly_X4_kinds : Cond.laysFinal RX4 "OverrideRules$Types" "kinds" "[I" ∈ lw_all := lw_t1 (i := 30) rfl rfl
set_option maxRecDepth 20000 in
theorem ly_X4_packets : Cond.laysFinal RX4 "OverrideRules$Types" "packets" "[I" ∈ lw_all := lw_t1 (i := 32) rfl rfl
set_option maxRecDepth 20000 in
theorem ly_X4_parents : Cond.laysFinal RX4 "OverrideRules$Types" "parents" "[I" ∈ lw_all := lw_t1 (i := 34) rfl rfl
set_option maxRecDepth 20000 in
theorem ly_X4_faces : Cond.laysFinal RX4 "OverrideRules$Types" "faces" "[I" ∈ lw_all := lw_t1 (i := 36) rfl rfl
set_option maxRecDepth 20000 in
theorem ly_X4_above : Cond.laysFinal RX4 "OverrideRules$Types" "above" "[I" ∈ lw_all := lw_t1 (i := 38) rfl rfl
set_option maxRecDepth 20000 in
theorem ly_X4_count : Cond.lays RX4 "OverrideRules$Types" "count" "I" ∈ lw_all := lw_t1 (i := 40) rfl rfl
set_option maxRecDepth 20000 in
theorem lays_X4 : ∀ w ∈ u_ws RX4 TX4 6, w ∈ lw_all := by
  show ∀ w ∈ [Cond.laysFinal RX4 "OverrideRules$Types" "kinds" "[I", Cond.laysFinal RX4 "OverrideRules$Types" "packets" "[I", Cond.laysFinal RX4 "OverrideRules$Types" "parents" "[I", Cond.laysFinal RX4 "OverrideRules$Types" "faces" "[I", Cond.laysFinal RX4 "OverrideRules$Types" "above" "[I", Cond.lays RX4 "OverrideRules$Types" "count" "I"], w ∈ lw_all
  exact List.forall_mem_cons.mpr ⟨ly_X4_kinds, List.forall_mem_cons.mpr ⟨ly_X4_packets, List.forall_mem_cons.mpr ⟨ly_X4_parents, List.forall_mem_cons.mpr ⟨ly_X4_faces, List.forall_mem_cons.mpr ⟨ly_X4_above, List.forall_mem_cons.mpr ⟨ly_X4_count, fun _ h => absurd h List.not_mem_nil⟩⟩⟩⟩⟩⟩
set_option maxRecDepth 20000 in
theorem ly_X3_subTo : Cond.laysFinal RX3 "OverrideRules$Throws" "subTo" "[I" ∈ lw_all := lw_t1 (i := 53) rfl rfl
set_option maxRecDepth 20000 in
theorem ly_X3_checkedOnes : Cond.lays RX3 "OverrideRules$Throws" "checkedOnes" "I" ∈ lw_all := lw_t1 (i := 55) rfl rfl
set_option maxRecDepth 20000 in
theorem ly_X3_count : Cond.lays RX3 "OverrideRules$Throws" "count" "I" ∈ lw_all := lw_t1 (i := 57) rfl rfl
set_option maxRecDepth 20000 in
theorem lays_X3 : ∀ w ∈ u_ws RX3 TX3 3, w ∈ lw_all := by
  show ∀ w ∈ [Cond.laysFinal RX3 "OverrideRules$Throws" "subTo" "[I", Cond.lays RX3 "OverrideRules$Throws" "checkedOnes" "I", Cond.lays RX3 "OverrideRules$Throws" "count" "I"], w ∈ lw_all
  exact List.forall_mem_cons.mpr ⟨ly_X3_subTo, List.forall_mem_cons.mpr ⟨ly_X3_checkedOnes, List.forall_mem_cons.mpr ⟨ly_X3_count, fun _ h => absurd h List.not_mem_nil⟩⟩⟩
set_option maxRecDepth 20000 in
theorem ly_X2_types : Cond.laysFinal RX2 "OverrideRules$Members" "types" "LOverrideRules$Types;" ∈ lw_all := lw_t1 (i := 74) rfl rfl
set_option maxRecDepth 20000 in
theorem ly_X2_owners : Cond.laysFinal RX2 "OverrideRules$Members" "owners" "[I" ∈ lw_all := lw_t1 (i := 76) rfl rfl
set_option maxRecDepth 20000 in
theorem ly_X2_names : Cond.laysFinal RX2 "OverrideRules$Members" "names" "[I" ∈ lw_all := lw_t1 (i := 78) rfl rfl
set_option maxRecDepth 20000 in
theorem ly_X2_results : Cond.laysFinal RX2 "OverrideRules$Members" "results" "[I" ∈ lw_all := lw_t1 (i := 80) rfl rfl
set_option maxRecDepth 20000 in
theorem ly_X2_marks : Cond.laysFinal RX2 "OverrideRules$Members" "marks" "[I" ∈ lw_all := lw_t1 (i := 82) rfl rfl
set_option maxRecDepth 20000 in
theorem ly_X2_throwSets : Cond.laysFinal RX2 "OverrideRules$Members" "throwSets" "[I" ∈ lw_all := lw_t1 (i := 84) rfl rfl
set_option maxRecDepth 20000 in
theorem ly_X2_slots : Cond.laysFinal RX2 "OverrideRules$Members" "slots" "[I" ∈ lw_all := lw_t1 (i := 86) rfl rfl
set_option maxRecDepth 20000 in
theorem ly_X2_count : Cond.lays RX2 "OverrideRules$Members" "count" "I" ∈ lw_all := lw_t1 (i := 88) rfl rfl
set_option maxRecDepth 20000 in
theorem lays_X2 : ∀ w ∈ u_ws RX2 TX2 8, w ∈ lw_all := by
  show ∀ w ∈ [Cond.laysFinal RX2 "OverrideRules$Members" "types" "LOverrideRules$Types;", Cond.laysFinal RX2 "OverrideRules$Members" "owners" "[I", Cond.laysFinal RX2 "OverrideRules$Members" "names" "[I", Cond.laysFinal RX2 "OverrideRules$Members" "results" "[I", Cond.laysFinal RX2 "OverrideRules$Members" "marks" "[I", Cond.laysFinal RX2 "OverrideRules$Members" "throwSets" "[I", Cond.laysFinal RX2 "OverrideRules$Members" "slots" "[I", Cond.lays RX2 "OverrideRules$Members" "count" "I"], w ∈ lw_all
  exact List.forall_mem_cons.mpr ⟨ly_X2_types, List.forall_mem_cons.mpr ⟨ly_X2_owners, List.forall_mem_cons.mpr ⟨ly_X2_names, List.forall_mem_cons.mpr ⟨ly_X2_results, List.forall_mem_cons.mpr ⟨ly_X2_marks, List.forall_mem_cons.mpr ⟨ly_X2_throwSets, List.forall_mem_cons.mpr ⟨ly_X2_slots, List.forall_mem_cons.mpr ⟨ly_X2_count, fun _ h => absurd h List.not_mem_nil⟩⟩⟩⟩⟩⟩⟩⟩
set_option maxRecDepth 20000 in
theorem ly_X0_types : Cond.laysFinal RX0 "OverrideRules$Choice" "types" "LOverrideRules$Types;" ∈ lw_all := lw_t1 (i := 99) rfl rfl
set_option maxRecDepth 20000 in
theorem ly_X0_members : Cond.laysFinal RX0 "OverrideRules$Choice" "members" "LOverrideRules$Members;" ∈ lw_all := lw_t1 (i := 101) rfl rfl
set_option maxRecDepth 20000 in
theorem lays_X0 : ∀ w ∈ u_ws RX0 TX0 2, w ∈ lw_all := by
  show ∀ w ∈ [Cond.laysFinal RX0 "OverrideRules$Choice" "types" "LOverrideRules$Types;", Cond.laysFinal RX0 "OverrideRules$Choice" "members" "LOverrideRules$Members;"], w ∈ lw_all
  exact List.forall_mem_cons.mpr ⟨ly_X0_types, List.forall_mem_cons.mpr ⟨ly_X0_members, fun _ h => absurd h List.not_mem_nil⟩⟩
set_option maxRecDepth 20000 in
theorem ly_X1_types : Cond.laysFinal RX1 "OverrideRules$Faults" "types" "LOverrideRules$Types;" ∈ lw_all := lw_t1 (i := 119) rfl rfl
set_option maxRecDepth 20000 in
theorem ly_X1_thrown : Cond.laysFinal RX1 "OverrideRules$Faults" "thrown" "LOverrideRules$Throws;" ∈ lw_all := lw_t1 (i := 121) rfl rfl
set_option maxRecDepth 20000 in
theorem ly_X1_members : Cond.laysFinal RX1 "OverrideRules$Faults" "members" "LOverrideRules$Members;" ∈ lw_all := lw_t1 (i := 123) rfl rfl
set_option maxRecDepth 20000 in
theorem ly_X1_choice : Cond.laysFinal RX1 "OverrideRules$Faults" "choice" "LOverrideRules$Choice;" ∈ lw_all := lw_t1 (i := 125) rfl rfl
set_option maxRecDepth 20000 in
theorem ly_X1_wanted : Cond.lays RX1 "OverrideRules$Faults" "wanted" "I" ∈ lw_all := lw_t1 (i := 127) rfl rfl
set_option maxRecDepth 20000 in
theorem ly_X1_count : Cond.lays RX1 "OverrideRules$Faults" "count" "I" ∈ lw_all := lw_t1 (i := 129) rfl rfl
set_option maxRecDepth 20000 in
theorem ly_X1_pickedCode : Cond.lays RX1 "OverrideRules$Faults" "pickedCode" "I" ∈ lw_all := lw_t1 (i := 131) rfl rfl
set_option maxRecDepth 20000 in
theorem ly_X1_pickedM : Cond.lays RX1 "OverrideRules$Faults" "pickedM" "I" ∈ lw_all := lw_t1 (i := 133) rfl rfl
set_option maxRecDepth 20000 in
theorem ly_X1_pickedO : Cond.lays RX1 "OverrideRules$Faults" "pickedO" "I" ∈ lw_all := lw_t1 (i := 135) rfl rfl
set_option maxRecDepth 20000 in
theorem lays_X1 : ∀ w ∈ u_ws RX1 TX1 9, w ∈ lw_all := by
  show ∀ w ∈ [Cond.laysFinal RX1 "OverrideRules$Faults" "types" "LOverrideRules$Types;", Cond.laysFinal RX1 "OverrideRules$Faults" "thrown" "LOverrideRules$Throws;", Cond.laysFinal RX1 "OverrideRules$Faults" "members" "LOverrideRules$Members;", Cond.laysFinal RX1 "OverrideRules$Faults" "choice" "LOverrideRules$Choice;", Cond.lays RX1 "OverrideRules$Faults" "wanted" "I", Cond.lays RX1 "OverrideRules$Faults" "count" "I", Cond.lays RX1 "OverrideRules$Faults" "pickedCode" "I", Cond.lays RX1 "OverrideRules$Faults" "pickedM" "I", Cond.lays RX1 "OverrideRules$Faults" "pickedO" "I"], w ∈ lw_all
  exact List.forall_mem_cons.mpr ⟨ly_X1_types, List.forall_mem_cons.mpr ⟨ly_X1_thrown, List.forall_mem_cons.mpr ⟨ly_X1_members, List.forall_mem_cons.mpr ⟨ly_X1_choice, List.forall_mem_cons.mpr ⟨ly_X1_wanted, List.forall_mem_cons.mpr ⟨ly_X1_count, List.forall_mem_cons.mpr ⟨ly_X1_pickedCode, List.forall_mem_cons.mpr ⟨ly_X1_pickedM, List.forall_mem_cons.mpr ⟨ly_X1_pickedO, fun _ h => absurd h List.not_mem_nil⟩⟩⟩⟩⟩⟩⟩⟩⟩
set_option maxRecDepth 20000 in
theorem ly_X5_types : Cond.laysFinal RX5 "OverrideRules" "types" "LOverrideRules$Types;" ∈ lw_all := lw_t1 (i := 143) rfl rfl
set_option maxRecDepth 20000 in
theorem ly_X5_thrown : Cond.laysFinal RX5 "OverrideRules" "thrown" "LOverrideRules$Throws;" ∈ lw_all := lw_t1 (i := 145) rfl rfl
set_option maxRecDepth 20000 in
theorem ly_X5_members : Cond.laysFinal RX5 "OverrideRules" "members" "LOverrideRules$Members;" ∈ lw_all := lw_t1 (i := 147) rfl rfl
set_option maxRecDepth 20000 in
theorem ly_X5_choice : Cond.laysFinal RX5 "OverrideRules" "choice" "LOverrideRules$Choice;" ∈ lw_all := lw_t1 (i := 149) rfl rfl
set_option maxRecDepth 20000 in
theorem ly_X5_faults : Cond.laysFinal RX5 "OverrideRules" "faults" "LOverrideRules$Faults;" ∈ lw_all := lw_t1 (i := 151) rfl rfl
set_option maxRecDepth 20000 in
theorem lays_X5 : ∀ w ∈ u_ws RX5 TX5 5, w ∈ lw_all := by
  show ∀ w ∈ [Cond.laysFinal RX5 "OverrideRules" "types" "LOverrideRules$Types;", Cond.laysFinal RX5 "OverrideRules" "thrown" "LOverrideRules$Throws;", Cond.laysFinal RX5 "OverrideRules" "members" "LOverrideRules$Members;", Cond.laysFinal RX5 "OverrideRules" "choice" "LOverrideRules$Choice;", Cond.laysFinal RX5 "OverrideRules" "faults" "LOverrideRules$Faults;"], w ∈ lw_all
  exact List.forall_mem_cons.mpr ⟨ly_X5_types, List.forall_mem_cons.mpr ⟨ly_X5_thrown, List.forall_mem_cons.mpr ⟨ly_X5_members, List.forall_mem_cons.mpr ⟨ly_X5_choice, List.forall_mem_cons.mpr ⟨ly_X5_faults, fun _ h => absurd h List.not_mem_nil⟩⟩⟩⟩⟩
set_option maxRecDepth 20000 in
theorem ly_X6_types : Cond.lays RX6 "OverrideRulesModel" "types" "I" ∈ lw_all := lw_t3 (i := 50) rfl rfl
set_option maxRecDepth 20000 in
theorem ly_X6_kind : Cond.laysFinal RX6 "OverrideRulesModel" "kind" "[I" ∈ lw_all := lw_t3 (i := 52) rfl rfl
set_option maxRecDepth 20000 in
theorem ly_X6_packet : Cond.laysFinal RX6 "OverrideRulesModel" "packet" "[I" ∈ lw_all := lw_t3 (i := 54) rfl rfl
set_option maxRecDepth 20000 in
theorem ly_X6_parent : Cond.laysFinal RX6 "OverrideRulesModel" "parent" "[I" ∈ lw_all := lw_t3 (i := 56) rfl rfl
set_option maxRecDepth 20000 in
theorem ly_X6_faces : Cond.laysFinal RX6 "OverrideRulesModel" "faces" "[I" ∈ lw_all := lw_t3 (i := 58) rfl rfl
set_option maxRecDepth 20000 in
theorem ly_X6_face : Cond.laysFinal RX6 "OverrideRulesModel" "face" "[I" ∈ lw_all := lw_t3 (i := 60) rfl rfl
set_option maxRecDepth 20000 in
theorem ly_X6_above : Cond.laysFinal RX6 "OverrideRulesModel" "above" "[Z" ∈ lw_all := lw_t3 (i := 62) rfl rfl
set_option maxRecDepth 20000 in
theorem ly_X6_throwsMany : Cond.lays RX6 "OverrideRulesModel" "throwsMany" "I" ∈ lw_all := lw_t3 (i := 64) rfl rfl
set_option maxRecDepth 20000 in
theorem ly_X6_throwParent : Cond.laysFinal RX6 "OverrideRulesModel" "throwParent" "[I" ∈ lw_all := lw_t3 (i := 66) rfl rfl
set_option maxRecDepth 20000 in
theorem ly_X6_checked : Cond.laysFinal RX6 "OverrideRulesModel" "checked" "[Z" ∈ lw_all := lw_t3 (i := 68) rfl rfl
set_option maxRecDepth 20000 in
theorem ly_X6_members : Cond.lays RX6 "OverrideRulesModel" "members" "I" ∈ lw_all := lw_t3 (i := 70) rfl rfl
set_option maxRecDepth 20000 in
theorem ly_X6_of : Cond.laysFinal RX6 "OverrideRulesModel" "of" "[I" ∈ lw_all := lw_t3 (i := 72) rfl rfl
set_option maxRecDepth 20000 in
theorem ly_X6_name : Cond.laysFinal RX6 "OverrideRulesModel" "name" "[I" ∈ lw_all := lw_t3 (i := 74) rfl rfl
set_option maxRecDepth 20000 in
theorem ly_X6_result : Cond.laysFinal RX6 "OverrideRulesModel" "result" "[I" ∈ lw_all := lw_t3 (i := 76) rfl rfl
set_option maxRecDepth 20000 in
theorem ly_X6_marks : Cond.laysFinal RX6 "OverrideRulesModel" "marks" "[I" ∈ lw_all := lw_t3 (i := 78) rfl rfl
set_option maxRecDepth 20000 in
theorem ly_X6_thrownBy : Cond.laysFinal RX6 "OverrideRulesModel" "thrownBy" "[I" ∈ lw_all := lw_t3 (i := 80) rfl rfl
set_option maxRecDepth 20000 in
theorem ly_X6_over : Cond.laysFinal RX6 "OverrideRulesModel" "over" "[Z" ∈ lw_all := lw_t3 (i := 82) rfl rfl
set_option maxRecDepth 20000 in
theorem ly_X6_faults : Cond.lays RX6 "OverrideRulesModel" "faults" "I" ∈ lw_all := lw_t3 (i := 84) rfl rfl
set_option maxRecDepth 20000 in
theorem ly_X6_faultCode : Cond.laysFinal RX6 "OverrideRulesModel" "faultCode" "[I" ∈ lw_all := lw_t3 (i := 86) rfl rfl
set_option maxRecDepth 20000 in
theorem ly_X6_faultOne : Cond.laysFinal RX6 "OverrideRulesModel" "faultOne" "[I" ∈ lw_all := lw_t3 (i := 88) rfl rfl
set_option maxRecDepth 20000 in
theorem ly_X6_faultOther : Cond.laysFinal RX6 "OverrideRulesModel" "faultOther" "[I" ∈ lw_all := lw_t3 (i := 90) rfl rfl
set_option maxRecDepth 20000 in
theorem lays_X6 : ∀ w ∈ u_ws RX6 TX6 21, w ∈ lw_all := by
  show ∀ w ∈ [Cond.lays RX6 "OverrideRulesModel" "types" "I", Cond.laysFinal RX6 "OverrideRulesModel" "kind" "[I", Cond.laysFinal RX6 "OverrideRulesModel" "packet" "[I", Cond.laysFinal RX6 "OverrideRulesModel" "parent" "[I", Cond.laysFinal RX6 "OverrideRulesModel" "faces" "[I", Cond.laysFinal RX6 "OverrideRulesModel" "face" "[I", Cond.laysFinal RX6 "OverrideRulesModel" "above" "[Z", Cond.lays RX6 "OverrideRulesModel" "throwsMany" "I", Cond.laysFinal RX6 "OverrideRulesModel" "throwParent" "[I", Cond.laysFinal RX6 "OverrideRulesModel" "checked" "[Z", Cond.lays RX6 "OverrideRulesModel" "members" "I", Cond.laysFinal RX6 "OverrideRulesModel" "of" "[I", Cond.laysFinal RX6 "OverrideRulesModel" "name" "[I", Cond.laysFinal RX6 "OverrideRulesModel" "result" "[I", Cond.laysFinal RX6 "OverrideRulesModel" "marks" "[I", Cond.laysFinal RX6 "OverrideRulesModel" "thrownBy" "[I", Cond.laysFinal RX6 "OverrideRulesModel" "over" "[Z", Cond.lays RX6 "OverrideRulesModel" "faults" "I", Cond.laysFinal RX6 "OverrideRulesModel" "faultCode" "[I", Cond.laysFinal RX6 "OverrideRulesModel" "faultOne" "[I", Cond.laysFinal RX6 "OverrideRulesModel" "faultOther" "[I"], w ∈ lw_all
  exact List.forall_mem_cons.mpr ⟨ly_X6_types, List.forall_mem_cons.mpr ⟨ly_X6_kind, List.forall_mem_cons.mpr ⟨ly_X6_packet, List.forall_mem_cons.mpr ⟨ly_X6_parent, List.forall_mem_cons.mpr ⟨ly_X6_faces, List.forall_mem_cons.mpr ⟨ly_X6_face, List.forall_mem_cons.mpr ⟨ly_X6_above, List.forall_mem_cons.mpr ⟨ly_X6_throwsMany, List.forall_mem_cons.mpr ⟨ly_X6_throwParent, List.forall_mem_cons.mpr ⟨ly_X6_checked, List.forall_mem_cons.mpr ⟨ly_X6_members, List.forall_mem_cons.mpr ⟨ly_X6_of, List.forall_mem_cons.mpr ⟨ly_X6_name, List.forall_mem_cons.mpr ⟨ly_X6_result, List.forall_mem_cons.mpr ⟨ly_X6_marks, List.forall_mem_cons.mpr ⟨ly_X6_thrownBy, List.forall_mem_cons.mpr ⟨ly_X6_over, List.forall_mem_cons.mpr ⟨ly_X6_faults, List.forall_mem_cons.mpr ⟨ly_X6_faultCode, List.forall_mem_cons.mpr ⟨ly_X6_faultOne, List.forall_mem_cons.mpr ⟨ly_X6_faultOther, fun _ h => absurd h List.not_mem_nil⟩⟩⟩⟩⟩⟩⟩⟩⟩⟩⟩⟩⟩⟩⟩⟩⟩⟩⟩⟩⟩
def lw_nest : List Cond := [Cond.methodLinkNest RX5 9 yX4_init RX5, Cond.methodLinkNest RX5 18 yX3_init RX5, Cond.methodLinkNest RX4 39 yX5_hasBit RX5, Cond.methodLinkNest RX2 44 yX5_hasBit RX5, Cond.methodLinkNest RX0 64 yX5_hasBit RX5, Cond.methodLinkNest RX3 22 yX5_hasBit RX5, Cond.methodLinkNest RX2 80 yX5_oneIf RX5]
theorem mn_X5_9 : Cond.methodLinkNest RX5 9 yX4_init RX5 ∈ lw_nest := List.mem_of_getElem? (i := 0) rfl
theorem mn_X5_18 : Cond.methodLinkNest RX5 18 yX3_init RX5 ∈ lw_nest := List.mem_of_getElem? (i := 1) rfl
theorem mn_X4_39 : Cond.methodLinkNest RX4 39 yX5_hasBit RX5 ∈ lw_nest := List.mem_of_getElem? (i := 2) rfl
theorem mn_X2_44 : Cond.methodLinkNest RX2 44 yX5_hasBit RX5 ∈ lw_nest := List.mem_of_getElem? (i := 3) rfl
theorem mn_X0_64 : Cond.methodLinkNest RX0 64 yX5_hasBit RX5 ∈ lw_nest := List.mem_of_getElem? (i := 4) rfl
theorem mn_X3_22 : Cond.methodLinkNest RX3 22 yX5_hasBit RX5 ∈ lw_nest := List.mem_of_getElem? (i := 5) rfl
theorem mn_X2_80 : Cond.methodLinkNest RX2 80 yX5_oneIf RX5 ∈ lw_nest := List.mem_of_getElem? (i := 6) rfl
set_option maxRecDepth 20000 in
theorem lw_nest_tbl : ∀ w ∈ lw_nest, w ∈ lw_tbl := List.forall_mem_cons.mpr ⟨List.mem_append_right _ (List.mem_append_left _ (List.mem_of_getElem? (i := 20) rfl)), List.forall_mem_cons.mpr ⟨List.mem_append_right _ (List.mem_append_left _ (List.mem_of_getElem? (i := 46) rfl)), List.forall_mem_cons.mpr ⟨List.mem_append_right _ (List.mem_append_left _ (List.mem_of_getElem? (i := 198) rfl)), List.forall_mem_cons.mpr ⟨List.mem_append_right _ (List.mem_append_right _ (List.mem_append_left _ (List.mem_of_getElem? (i := 43) rfl))), List.forall_mem_cons.mpr ⟨List.mem_append_right _ (List.mem_append_right _ (List.mem_append_left _ (List.mem_of_getElem? (i := 140) rfl))), List.forall_mem_cons.mpr ⟨List.mem_append_right _ (List.mem_append_right _ (List.mem_append_left _ (List.mem_of_getElem? (i := 205) rfl))), List.forall_mem_cons.mpr ⟨List.mem_append_right _ (List.mem_append_right _ (List.mem_append_right _ (List.mem_append_left _ (List.mem_of_getElem? (i := 13) rfl)))), fun _ h => absurd h List.not_mem_nil⟩⟩⟩⟩⟩⟩⟩
end
section
/-! ===== the words of states, locals and walks ===== -/
abbrev St : Type := Nat → Nat → Int32
/-- one place of a state gets another number -/
def up2 (σ : St) (k j : Nat) (v : Int32) : St := fun i => bif Nat.beq i k then upd (σ i) j v else σ i
def b2i (b : Bool) : Int32 := bif b then 1 else 0
theorem b2i_nar (b : Bool) : narrow .boolean (.int (b2i b)) = .int (b2i b) := by cases b <;> decide +kernel
theorem b2i_inj {a b : Bool} : b2i a = b2i b ↔ a = b := by cases a <;> cases b <;> decide
theorem b2i_0 {b : Bool} : b2i b = 0 ↔ b = false := by cases b <;> decide
theorem b2i_t : b2i true = 1 := rfl
theorem b2i_f : b2i false = 0 := rfl
def lgt : List (Option Value) → Nat → Option Value
  | [], _ => none
  | a :: _, 0 => a
  | _ :: l, n + 1 => lgt l n
def lst : List (Option Value) → Nat → Value → List (Option Value)
  | [], _, _ => []
  | _ :: l, 0, v => some v :: l
  | a :: l, n + 1, v => a :: lst l n v
theorem lgt_lst (lv : List (Option Value)) (i j : Nat) (v w : Value) (h : lgt (lst lv i v) j = some w) : (j = i ∧ w = v) ∨ (j ≠ i ∧ lgt lv j = some w) := by
  induction lv generalizing i j with
  | nil => simp [lst, lgt] at h
  | cons a l ih =>
    cases i with
    | zero =>
      cases j with
      | zero => simp [lst, lgt] at h; exact Or.inl ⟨rfl, h.symm⟩
      | succ j => simp [lst, lgt] at h; exact Or.inr ⟨by omega, by simpa [lgt] using h⟩
    | succ i =>
      cases j with
      | zero => simp [lst, lgt] at h; exact Or.inr ⟨by omega, by simpa [lgt] using h⟩
      | succ j =>
        simp [lst, lgt] at h
        rcases ih i j h with ⟨e1, e2⟩ | ⟨e1, e2⟩
        · exact Or.inl ⟨by omega, e2⟩
        · exact Or.inr ⟨by omega, by simpa [lgt] using e2⟩
def prs (lv : List (Option Value)) : List (Nat × Value) := (List.range lv.length).filterMap (fun i => (lgt lv i).map (fun v => (i, v)))
theorem lgt_lt {lv : List (Option Value)} {i : Nat} {v : Value} (h : lgt lv i = some v) : i < lv.length := by
  induction lv generalizing i with
  | nil => simp [lgt] at h
  | cons a l ih =>
    cases i with
    | zero => simp
    | succ i => simp [lgt] at h; have := ih h; simp; omega
theorem prs_mem {lv : List (Option Value)} {q : Nat × Value} : q ∈ prs lv ↔ lgt lv q.1 = some q.2 := by
  constructor
  · intro h
    obtain ⟨i, -, h2⟩ := List.mem_filterMap.mp h
    cases hg : lgt lv i with
    | none => rw [hg] at h2; simp at h2
    | some v => rw [hg] at h2; simp at h2; subst h2; exact hg
  · intro h
    refine List.mem_filterMap.mpr ⟨q.1, List.mem_range.mpr (lgt_lt h), ?_⟩
    rw [h]; rfl
/-- the locals: what is known of each, all of one word -/
def lh (ls : Array Slot) (nL : Nat) (lv : List (Option Value)) : Prop := lv_has ls nL (prs lv) ∧ ∀ i v, lgt lv i = some v → v.category = 1
theorem lh.at {ls : Array Slot} {nL : Nat} {lv : List (Option Value)} (h : lh ls nL lv) {i : Nat} {v : Value} (hv : lgt lv i = some v) : ls[i]? = some (.val v) := h.1.2.2 (i, v) (prs_mem.mpr hv)
theorem lh.put {ls ls' : Array Slot} {nL i : Nat} {lv : List (Option Value)} {v : Value} (h : lh ls nL lv) (hc : v.category = 1) (h' : lv_has ls' nL ((i, v) :: (prs lv).filter (fun q => !(q.1 == i) && !(q.1 + 1 == i && q.2.category == 2)))) : lh ls' nL (lst lv i v) := by
  refine ⟨⟨h'.1, h'.2.1, fun q hq => ?_⟩, fun j w hw => ?_⟩
  · rcases lgt_lst lv i q.1 v q.2 (prs_mem.mp hq) with ⟨e1, e2⟩ | ⟨e1, e2⟩
    · have := h'.2.2 (i, v) List.mem_cons_self
      rw [e1, e2]; exact this
    · refine h'.2.2 q (List.mem_cons_of_mem _ (List.mem_filter.mpr ⟨prs_mem.mpr e2, ?_⟩))
      simp [e1, h.2 _ _ e2]
  · rcases lgt_lst lv i j v w hw with ⟨e1, e2⟩ | ⟨e1, e2⟩
    · rw [e2]; exact hc
    · exact h.2 _ _ e2
theorem lh_args (vs : List Value) (k : Nat) : ∀ (i : Nat) (v : Value), lgt (vs.map some ++ List.replicate k none) i = some v → (∀ w ∈ vs, w.category = 1) → ∀ n, (n + i, v) ∈ lv_args n vs ∧ v.category = 1 := by
  induction vs with
  | nil =>
    intro i v h
    exfalso
    have hn : ∀ (k i : Nat), lgt (List.replicate k none) i = none := by
      intro k
      induction k with
      | zero => intro i; rfl
      | succ k ih => intro i; cases i with
        | zero => rfl
        | succ i => exact ih i
    rw [List.map_nil, List.nil_append, hn] at h
    cases h
  | cons a l ih =>
    intro i v h hc n
    cases i with
    | zero =>
      simp [lgt] at h
      subst h
      exact ⟨by simp [lv_args], hc _ List.mem_cons_self⟩
    | succ i =>
      have h2 : lgt (l.map some ++ List.replicate k none) i = some v := h
      have ha : a.category = 1 := hc a List.mem_cons_self
      obtain ⟨h3, h4⟩ := ih i v h2 (fun w hw => hc w (List.mem_cons_of_mem _ hw)) (n + 1)
      refine ⟨?_, h4⟩
      simp only [lv_args, ha]
      refine List.mem_cons_of_mem _ ?_
      have e : n + 1 + i = n + (i + 1) := by omega
      rw [e] at h3
      simpa using h3
theorem lh_entry (vs : List Value) (k n : Nat) (h : (lg_sl vs).length ≤ n) (hc : ∀ w ∈ vs, w.category = 1) : lh ((lg_sl vs ++ List.replicate (n - (lg_sl vs).length) Slot.unset).toArray) n (vs.map some ++ List.replicate k none) := by
  have h1 := lv_entry vs h
  refine ⟨⟨h1.1, h1.2.1, fun q hq => ?_⟩, fun i v hv => (lh_args vs k i v hv hc 0).2⟩
  have := (lh_args vs k q.1 q.2 (prs_mem.mp hq) hc 0).1
  rw [Nat.zero_add] at this
  exact h1.2.2 _ this
/-- what the tables say, with the links of nest mates -/
def KK (D : va_G) (cI cZ : ClassId) (U : State) : Prop := va_K D vwCl [(cI, .int), (cZ, .boolean)] U ∧ ∀ w ∈ lw_nest, va_Nw w U
theorem lw_nest_form : ∀ w ∈ lw_nest, ∃ a i x h, w = Cond.methodLinkNest a i x h := by
  intro w hw
  simp only [lw_nest, List.mem_cons, List.not_mem_nil, or_false] at hw
  rcases hw with rfl | rfl | rfl | rfl | rfl | rfl | rfl <;> exact ⟨_, _, _, _, rfl⟩
theorem KK.warm {D : va_G} {cI cZ : ClassId} {s U : State} (hW : s.WarmedH U.vm) (h : KK D cI cZ s) : KK D cI cZ U := by
  refine ⟨va_K.moved hW.alike h.1, fun w hw => ?_⟩
  obtain ⟨a, i, x, hh, rfl⟩ := lw_nest_form w hw
  exact va_Nw.warmM hW (h.2 _ hw)
theorem KK.calling {D : va_G} {cI cZ : ClassId} {U : State} {g : JFrame} {mk : MethodId} {a : Array Value} (h : KK D cI cZ U) : KK D cI cZ (U.calling g mk a) := by
  refine ⟨va_K.moved (u := U) (U := U.calling g mk a) (Vm.Alike.refl U.vm) h.1, fun w hw => ?_⟩
  obtain ⟨a, i, x, hh, rfl⟩ := lw_nest_form w hw
  exact va_Nw.same rfl (rfl : U.vm = (U.calling g mk _).vm) (h.2 _ hw)
/-- what stands through a walk -/
def Cx (p : Program) (s : State) (m : MethodId) (args : Array Value) (meth : Method) (c : Code) (cc : ByteArray) (nL : Nat) (own : String) (ret : Option FieldType) (D : va_G) (cI cZ : ClassId) (A : Nat → Prop) : Prop :=
  p.tables.exec = Jvm.exec ∧ c.code = cc ∧ c.maxLocals = nL ∧ s.vm.findClass own = some m.cls ∧ (∀ w ∈ lw_all, w.before args s = true) ∧ KK D cI cZ s ∧ (∀ q, s.heap.size ≤ q → A q) ∧ meth.locks = false ∧ meth.sig.returnType = ret
/-- from here, with any heap that holds the world ws, the machine comes to Q -/
def G (p : Program) (l : Launch) (e : Env) (R : Room) (s : State) (m : MethodId) (args : Array Value) (below : List Frame) (meth : Method) (c : Code) (D : va_G) (A : Nat → Prop) (kc ks : Nat) (Q : State → Prop) (nL : Nat) (ws : va_W) (pc : Nat) (lv : List (Option Value)) (st : List Value) : Prop :=
  ∀ (H : Heap) (locs : List Loc) (ls : Array Slot), va_P D vwCl ws H → va_D A ws → va_S A s.heap H locs → lh ls nL lv → W p l e R s m args below meth c H locs kc ks Q (F0 m pc ls st)
section GR
variable {p : Program} {l : Launch} {e : Env} {R : Room} {s : State} {m : MethodId} {args : Array Value} {below : List Frame} {meth : Method} {c : Code} {D : va_G} {A : Nat → Prop} {kc ks : Nat} {Q : State → Prop} {nL : Nat} {ws : va_W} {pc : Nat} {lv : List (Option Value)} {st : List Value} {cc : ByteArray} {own : String} {ret : Option FieldType} {cI cZ : ClassId}
theorem G.eq {st2 : List Value} {lv2 : List (Option Value)} (h : G p l e R s m args below meth c D A kc ks Q nL ws pc lv2 st2) (h1 : st = st2) (h2 : lv = lv2) : G p l e R s m args below meth c D A kc ks Q nL ws pc lv st := by
  rw [h1, h2]; exact h
theorem g_iconst {n : Int} {v : Int32} (C : Cx p s m args meth c cc nL own ret D cI cZ A) (hd : decode cc pc = .ok (.iconst n, 1)) (hv : Int32.ofInt n = v) (kk : G p l e R s m args below meth c D A kc ks Q nL ws (pc + 1) lv (.int v :: st)) : G p l e R s m args below meth c D A kc ks Q nL ws pc lv st :=
  fun H locs ls hP hD hS hl => lv_iconst C.1 C.2.1 hd hv (kk H locs ls hP hD hS hl)
theorem g_bipush {n : Int} {v : Int32} (C : Cx p s m args meth c cc nL own ret D cI cZ A) (hd : decode cc pc = .ok (.bipush n, 2)) (hv : (Int8.ofInt n).toInt32 = v) (kk : G p l e R s m args below meth c D A kc ks Q nL ws (pc + 2) lv (.int v :: st)) : G p l e R s m args below meth c D A kc ks Q nL ws pc lv st :=
  fun H locs ls hP hD hS hl => lv_bipush C.1 C.2.1 hd hv (kk H locs ls hP hD hS hl)
theorem g_sipush {n : Int} {v : Int32} (C : Cx p s m args meth c cc nL own ret D cI cZ A) (hd : decode cc pc = .ok (.sipush n, 3)) (hv : (Int16.ofInt n).toInt32 = v) (kk : G p l e R s m args below meth c D A kc ks Q nL ws (pc + 3) lv (.int v :: st)) : G p l e R s m args below meth c D A kc ks Q nL ws pc lv st :=
  fun H locs ls hP hD hS hl => lv_sipush C.1 C.2.1 hd hv (kk H locs ls hP hD hS hl)
theorem g_ldcw {index : Nat} {v : Int32} (C : Cx p s m args meth c cc nL own ret D cI cZ A) (hw : Cond.constant own index v ∈ lw_all) (hd : decode cc pc = .ok (.ldc_w index, 3)) (kk : G p l e R s m args below meth c D A kc ks Q nL ws (pc + 3) lv (.int v :: st)) : G p l e R s m args below meth c D A kc ks Q nL ws pc lv st :=
  fun H locs ls hP hD hS hl => lv_ldcw C.1 C.2.1 C.2.2.2.1 (C.2.2.2.2.1 _ hw) hd (kk H locs ls hP hD hS hl)
theorem g_iload_n {k : Fin 4} {x : Int32} (C : Cx p s m args meth c cc nL own ret D cI cZ A) (hd : decode cc pc = .ok (.iload_n k, 1)) (hv : lgt lv (k : Nat) = some (.int x)) (kk : G p l e R s m args below meth c D A kc ks Q nL ws (pc + 1) lv (.int x :: st)) : G p l e R s m args below meth c D A kc ks Q nL ws pc lv st :=
  fun H locs ls hP hD hS hl => lv_iload_n C.1 C.2.1 hd rfl (hl.at hv) (kk H locs ls hP hD hS hl)
theorem g_iload {k : Nat} {x : Int32} (C : Cx p s m args meth c cc nL own ret D cI cZ A) (hd : decode cc pc = .ok (.iload k, 2)) (hv : lgt lv k = some (.int x)) (kk : G p l e R s m args below meth c D A kc ks Q nL ws (pc + 2) lv (.int x :: st)) : G p l e R s m args below meth c D A kc ks Q nL ws pc lv st :=
  fun H locs ls hP hD hS hl => lv_iload C.1 C.2.1 hd (hl.at hv) (kk H locs ls hP hD hS hl)
theorem g_aload_n {k : Fin 4} {x : Nat} (C : Cx p s m args meth c cc nL own ret D cI cZ A) (hd : decode cc pc = .ok (.aload_n k, 1)) (hv : lgt lv (k : Nat) = some (.ref x)) (kk : G p l e R s m args below meth c D A kc ks Q nL ws (pc + 1) lv (.ref x :: st)) : G p l e R s m args below meth c D A kc ks Q nL ws pc lv st :=
  fun H locs ls hP hD hS hl => lv_aload_n C.1 C.2.1 hd rfl (hl.at hv) (kk H locs ls hP hD hS hl)
theorem g_aload {k : Nat} {x : Nat} (C : Cx p s m args meth c cc nL own ret D cI cZ A) (hd : decode cc pc = .ok (.aload k, 2)) (hv : lgt lv k = some (.ref x)) (kk : G p l e R s m args below meth c D A kc ks Q nL ws (pc + 2) lv (.ref x :: st)) : G p l e R s m args below meth c D A kc ks Q nL ws pc lv st :=
  fun H locs ls hP hD hS hl => lv_aload C.1 C.2.1 hd (hl.at hv) (kk H locs ls hP hD hS hl)
theorem g_istore_n {k : Fin 4} {x : Int32} (C : Cx p s m args meth c cc nL own ret D cI cZ A) (hd : decode cc pc = .ok (.istore_n k, 1)) (hn : (k : Nat) < nL) (kk : G p l e R s m args below meth c D A kc ks Q nL ws (pc + 1) (lst lv (k : Nat) (.int x)) st) : G p l e R s m args below meth c D A kc ks Q nL ws pc lv (.int x :: st) :=
  fun H locs ls hP hD hS hl => lv_istore_n C.1 C.2.1 hd rfl hl.1 hn rfl (fun ls' hl' => kk H locs ls' hP hD hS (hl.put rfl hl'))
theorem g_istore {k : Nat} {x : Int32} (C : Cx p s m args meth c cc nL own ret D cI cZ A) (hd : decode cc pc = .ok (.istore k, 2)) (hn : k < nL) (kk : G p l e R s m args below meth c D A kc ks Q nL ws (pc + 2) (lst lv k (.int x)) st) : G p l e R s m args below meth c D A kc ks Q nL ws pc lv (.int x :: st) :=
  fun H locs ls hP hD hS hl => lv_istore C.1 C.2.1 hd hl.1 hn rfl (fun ls' hl' => kk H locs ls' hP hD hS (hl.put rfl hl'))
theorem g_astore_n {k : Fin 4} {x : Nat} (C : Cx p s m args meth c cc nL own ret D cI cZ A) (hd : decode cc pc = .ok (.astore_n k, 1)) (hn : (k : Nat) < nL) (kk : G p l e R s m args below meth c D A kc ks Q nL ws (pc + 1) (lst lv (k : Nat) (.ref x)) st) : G p l e R s m args below meth c D A kc ks Q nL ws pc lv (.ref x :: st) :=
  fun H locs ls hP hD hS hl => lv_astore_n C.1 C.2.1 hd rfl hl.1 hn rfl (fun ls' hl' => kk H locs ls' hP hD hS (hl.put rfl hl'))
theorem g_iinc {k : Nat} {n : Int} {x v : Int32} (C : Cx p s m args meth c cc nL own ret D cI cZ A) (hd : decode cc pc = .ok (.iinc k n, 3)) (hg : lgt lv k = some (.int x)) (hv : Int32.ofInt n = v) (hn : k < nL) (kk : G p l e R s m args below meth c D A kc ks Q nL ws (pc + 3) (lst lv k (.int (x + v))) st) : G p l e R s m args below meth c D A kc ks Q nL ws pc lv st :=
  fun H locs ls hP hD hS hl => by
    obtain ⟨j, hj⟩ := List.getElem?_of_mem (prs_mem (q := (k, .int x)).mpr hg)
    exact lv_iinc C.1 C.2.1 hd hl.1 hj (by rw [hv]) hn rfl (fun ls' hl' => kk H locs ls' hP hD hS (hl.put rfl hl'))
theorem g_iadd {x y : Int32} (C : Cx p s m args meth c cc nL own ret D cI cZ A) (hd : decode cc pc = .ok (.iadd, 1)) (kk : G p l e R s m args below meth c D A kc ks Q nL ws (pc + 1) lv (.int (x + y) :: st)) : G p l e R s m args below meth c D A kc ks Q nL ws pc lv (.int y :: .int x :: st) :=
  fun H locs ls hP hD hS hl => lv_iadd C.1 C.2.1 hd (kk H locs ls hP hD hS hl)
theorem g_isub {x y : Int32} (C : Cx p s m args meth c cc nL own ret D cI cZ A) (hd : decode cc pc = .ok (.isub, 1)) (kk : G p l e R s m args below meth c D A kc ks Q nL ws (pc + 1) lv (.int (x - y) :: st)) : G p l e R s m args below meth c D A kc ks Q nL ws pc lv (.int y :: .int x :: st) :=
  fun H locs ls hP hD hS hl => lv_isub C.1 C.2.1 hd (kk H locs ls hP hD hS hl)
theorem g_imul {x y : Int32} (C : Cx p s m args meth c cc nL own ret D cI cZ A) (hd : decode cc pc = .ok (.imul, 1)) (kk : G p l e R s m args below meth c D A kc ks Q nL ws (pc + 1) lv (.int (x * y) :: st)) : G p l e R s m args below meth c D A kc ks Q nL ws pc lv (.int y :: .int x :: st) :=
  fun H locs ls hP hD hS hl => lv_imul C.1 C.2.1 hd (kk H locs ls hP hD hS hl)
theorem g_iand {x y : Int32} (C : Cx p s m args meth c cc nL own ret D cI cZ A) (hd : decode cc pc = .ok (.iand, 1)) (kk : G p l e R s m args below meth c D A kc ks Q nL ws (pc + 1) lv (.int (x &&& y) :: st)) : G p l e R s m args below meth c D A kc ks Q nL ws pc lv (.int y :: .int x :: st) :=
  fun H locs ls hP hD hS hl => lv_iand C.1 C.2.1 hd (kk H locs ls hP hD hS hl)
theorem g_ior {x y : Int32} (C : Cx p s m args meth c cc nL own ret D cI cZ A) (hd : decode cc pc = .ok (.ior, 1)) (kk : G p l e R s m args below meth c D A kc ks Q nL ws (pc + 1) lv (.int (x ||| y) :: st)) : G p l e R s m args below meth c D A kc ks Q nL ws pc lv (.int y :: .int x :: st) :=
  fun H locs ls hP hD hS hl => lv_ior C.1 C.2.1 hd (kk H locs ls hP hD hS hl)
theorem g_ixor {x y : Int32} (C : Cx p s m args meth c cc nL own ret D cI cZ A) (hd : decode cc pc = .ok (.ixor, 1)) (kk : G p l e R s m args below meth c D A kc ks Q nL ws (pc + 1) lv (.int (x ^^^ y) :: st)) : G p l e R s m args below meth c D A kc ks Q nL ws pc lv (.int y :: .int x :: st) :=
  fun H locs ls hP hD hS hl => lv_ixor C.1 C.2.1 hd (kk H locs ls hP hD hS hl)
theorem g_ishl {x y : Int32} (C : Cx p s m args meth c cc nL own ret D cI cZ A) (hd : decode cc pc = .ok (.ishl, 1)) (kk : G p l e R s m args below meth c D A kc ks Q nL ws (pc + 1) lv (.int (x <<< (y &&& 31)) :: st)) : G p l e R s m args below meth c D A kc ks Q nL ws pc lv (.int y :: .int x :: st) :=
  fun H locs ls hP hD hS hl => lv_ishl C.1 C.2.1 hd (kk H locs ls hP hD hS hl)
theorem g_ishr {x y : Int32} (C : Cx p s m args meth c cc nL own ret D cI cZ A) (hd : decode cc pc = .ok (.ishr, 1)) (kk : G p l e R s m args below meth c D A kc ks Q nL ws (pc + 1) lv (.int (x >>> (y &&& 31)) :: st)) : G p l e R s m args below meth c D A kc ks Q nL ws pc lv (.int y :: .int x :: st) :=
  fun H locs ls hP hD hS hl => lv_ishr C.1 C.2.1 hd (kk H locs ls hP hD hS hl)
theorem g_iushr {x y : Int32} (C : Cx p s m args meth c cc nL own ret D cI cZ A) (hd : decode cc pc = .ok (.iushr, 1)) (kk : G p l e R s m args below meth c D A kc ks Q nL ws (pc + 1) lv (.int ((x.toUInt32 >>> (y.toUInt32 &&& Int32.toUInt32 31)).toInt32) :: st)) : G p l e R s m args below meth c D A kc ks Q nL ws pc lv (.int y :: .int x :: st) :=
  fun H locs ls hP hD hS hl => lv_iushr C.1 C.2.1 hd rfl (kk H locs ls hP hD hS hl)
theorem g_dup {v : Value} (C : Cx p s m args meth c cc nL own ret D cI cZ A) (hd : decode cc pc = .ok (.dup, 1)) (hc : v.category = 1) (kk : G p l e R s m args below meth c D A kc ks Q nL ws (pc + 1) lv (v :: v :: st)) : G p l e R s m args below meth c D A kc ks Q nL ws pc lv (v :: st) :=
  fun H locs ls hP hD hS hl => lv_dup C.1 C.2.1 hd hc (kk H locs ls hP hD hS hl)
theorem g_dup2 {v w : Value} (C : Cx p s m args meth c cc nL own ret D cI cZ A) (hd : decode cc pc = .ok (.dup2, 1)) (hc : v.category = 1) (hc2 : w.category = 1) (kk : G p l e R s m args below meth c D A kc ks Q nL ws (pc + 1) lv (v :: w :: v :: w :: st)) : G p l e R s m args below meth c D A kc ks Q nL ws pc lv (v :: w :: st) :=
  fun H locs ls hP hD hS hl => lv_dup2_11 C.1 C.2.1 hd hc hc2 (kk H locs ls hP hD hS hl)
theorem g_pop {v : Value} (C : Cx p s m args meth c cc nL own ret D cI cZ A) (hd : decode cc pc = .ok (.pop, 1)) (hc : v.category = 1) (kk : G p l e R s m args below meth c D A kc ks Q nL ws (pc + 1) lv st) : G p l e R s m args below meth c D A kc ks Q nL ws pc lv (v :: st) :=
  fun H locs ls hP hD hS hl => lv_pop C.1 C.2.1 hd hc (kk H locs ls hP hD hS hl)
theorem g_goto {off : Int} {tgt : Nat} (C : Cx p s m args meth c cc nL own ret D cI cZ A) (hd : decode cc pc = .ok (.goto off, 3)) (ht : (pc : Int) + off = (tgt : Int)) (kk : G p l e R s m args below meth c D A kc ks Q nL ws tgt lv st) : G p l e R s m args below meth c D A kc ks Q nL ws pc lv st :=
  fun H locs ls hP hD hS hl => lv_goto C.1 C.2.1 hd ht (kk H locs ls hP hD hS hl)
theorem g_if_eq {x : Int32} {off : Int} {tgt : Nat} (C : Cx p s m args meth c cc nL own ret D cI cZ A) (hd : decode cc pc = .ok (.ifCond .eq off, 3)) (ht : (pc : Int) + off = (tgt : Int)) (kt : x = 0 → G p l e R s m args below meth c D A kc ks Q nL ws tgt lv st) (kf : ¬ x = 0 → G p l e R s m args below meth c D A kc ks Q nL ws (pc + 3) lv st) : G p l e R s m args below meth c D A kc ks Q nL ws pc lv (.int x :: st) :=
  fun H locs ls hP hD hS hl => lv_if_eq C.1 C.2.1 hd ht (fun h => kt h H locs ls hP hD hS hl) (fun h => kf h H locs ls hP hD hS hl)
theorem g_icmp_eq {x y : Int32} {off : Int} {tgt : Nat} (C : Cx p s m args meth c cc nL own ret D cI cZ A) (hd : decode cc pc = .ok (.if_icmp .eq off, 3)) (ht : (pc : Int) + off = (tgt : Int)) (kt : x = y → G p l e R s m args below meth c D A kc ks Q nL ws tgt lv st) (kf : ¬ x = y → G p l e R s m args below meth c D A kc ks Q nL ws (pc + 3) lv st) : G p l e R s m args below meth c D A kc ks Q nL ws pc lv (.int y :: .int x :: st) :=
  fun H locs ls hP hD hS hl => lv_icmp_eq C.1 C.2.1 hd ht (fun h => kt h H locs ls hP hD hS hl) (fun h => kf h H locs ls hP hD hS hl)
theorem g_if_ne {x : Int32} {off : Int} {tgt : Nat} (C : Cx p s m args meth c cc nL own ret D cI cZ A) (hd : decode cc pc = .ok (.ifCond .ne off, 3)) (ht : (pc : Int) + off = (tgt : Int)) (kt : ¬ x = 0 → G p l e R s m args below meth c D A kc ks Q nL ws tgt lv st) (kf : x = 0 → G p l e R s m args below meth c D A kc ks Q nL ws (pc + 3) lv st) : G p l e R s m args below meth c D A kc ks Q nL ws pc lv (.int x :: st) :=
  fun H locs ls hP hD hS hl => lv_if_ne C.1 C.2.1 hd ht (fun h => kt h H locs ls hP hD hS hl) (fun h => kf h H locs ls hP hD hS hl)
theorem g_icmp_ne {x y : Int32} {off : Int} {tgt : Nat} (C : Cx p s m args meth c cc nL own ret D cI cZ A) (hd : decode cc pc = .ok (.if_icmp .ne off, 3)) (ht : (pc : Int) + off = (tgt : Int)) (kt : ¬ x = y → G p l e R s m args below meth c D A kc ks Q nL ws tgt lv st) (kf : x = y → G p l e R s m args below meth c D A kc ks Q nL ws (pc + 3) lv st) : G p l e R s m args below meth c D A kc ks Q nL ws pc lv (.int y :: .int x :: st) :=
  fun H locs ls hP hD hS hl => lv_icmp_ne C.1 C.2.1 hd ht (fun h => kt h H locs ls hP hD hS hl) (fun h => kf h H locs ls hP hD hS hl)
theorem g_if_lt {x : Int32} {off : Int} {tgt : Nat} (C : Cx p s m args meth c cc nL own ret D cI cZ A) (hd : decode cc pc = .ok (.ifCond .lt off, 3)) (ht : (pc : Int) + off = (tgt : Int)) (kt : x < 0 → G p l e R s m args below meth c D A kc ks Q nL ws tgt lv st) (kf : ¬ x < 0 → G p l e R s m args below meth c D A kc ks Q nL ws (pc + 3) lv st) : G p l e R s m args below meth c D A kc ks Q nL ws pc lv (.int x :: st) :=
  fun H locs ls hP hD hS hl => lv_if_lt C.1 C.2.1 hd ht (fun h => kt h H locs ls hP hD hS hl) (fun h => kf h H locs ls hP hD hS hl)
theorem g_icmp_lt {x y : Int32} {off : Int} {tgt : Nat} (C : Cx p s m args meth c cc nL own ret D cI cZ A) (hd : decode cc pc = .ok (.if_icmp .lt off, 3)) (ht : (pc : Int) + off = (tgt : Int)) (kt : x < y → G p l e R s m args below meth c D A kc ks Q nL ws tgt lv st) (kf : ¬ x < y → G p l e R s m args below meth c D A kc ks Q nL ws (pc + 3) lv st) : G p l e R s m args below meth c D A kc ks Q nL ws pc lv (.int y :: .int x :: st) :=
  fun H locs ls hP hD hS hl => lv_icmp_lt C.1 C.2.1 hd ht (fun h => kt h H locs ls hP hD hS hl) (fun h => kf h H locs ls hP hD hS hl)
theorem g_if_ge {x : Int32} {off : Int} {tgt : Nat} (C : Cx p s m args meth c cc nL own ret D cI cZ A) (hd : decode cc pc = .ok (.ifCond .ge off, 3)) (ht : (pc : Int) + off = (tgt : Int)) (kt : 0 ≤ x → G p l e R s m args below meth c D A kc ks Q nL ws tgt lv st) (kf : ¬ 0 ≤ x → G p l e R s m args below meth c D A kc ks Q nL ws (pc + 3) lv st) : G p l e R s m args below meth c D A kc ks Q nL ws pc lv (.int x :: st) :=
  fun H locs ls hP hD hS hl => lv_if_ge C.1 C.2.1 hd ht (fun h => kt h H locs ls hP hD hS hl) (fun h => kf h H locs ls hP hD hS hl)
theorem g_icmp_ge {x y : Int32} {off : Int} {tgt : Nat} (C : Cx p s m args meth c cc nL own ret D cI cZ A) (hd : decode cc pc = .ok (.if_icmp .ge off, 3)) (ht : (pc : Int) + off = (tgt : Int)) (kt : y ≤ x → G p l e R s m args below meth c D A kc ks Q nL ws tgt lv st) (kf : ¬ y ≤ x → G p l e R s m args below meth c D A kc ks Q nL ws (pc + 3) lv st) : G p l e R s m args below meth c D A kc ks Q nL ws pc lv (.int y :: .int x :: st) :=
  fun H locs ls hP hD hS hl => lv_icmp_ge C.1 C.2.1 hd ht (fun h => kt h H locs ls hP hD hS hl) (fun h => kf h H locs ls hP hD hS hl)
theorem g_if_gt {x : Int32} {off : Int} {tgt : Nat} (C : Cx p s m args meth c cc nL own ret D cI cZ A) (hd : decode cc pc = .ok (.ifCond .gt off, 3)) (ht : (pc : Int) + off = (tgt : Int)) (kt : 0 < x → G p l e R s m args below meth c D A kc ks Q nL ws tgt lv st) (kf : ¬ 0 < x → G p l e R s m args below meth c D A kc ks Q nL ws (pc + 3) lv st) : G p l e R s m args below meth c D A kc ks Q nL ws pc lv (.int x :: st) :=
  fun H locs ls hP hD hS hl => lv_if_gt C.1 C.2.1 hd ht (fun h => kt h H locs ls hP hD hS hl) (fun h => kf h H locs ls hP hD hS hl)
theorem g_icmp_gt {x y : Int32} {off : Int} {tgt : Nat} (C : Cx p s m args meth c cc nL own ret D cI cZ A) (hd : decode cc pc = .ok (.if_icmp .gt off, 3)) (ht : (pc : Int) + off = (tgt : Int)) (kt : y < x → G p l e R s m args below meth c D A kc ks Q nL ws tgt lv st) (kf : ¬ y < x → G p l e R s m args below meth c D A kc ks Q nL ws (pc + 3) lv st) : G p l e R s m args below meth c D A kc ks Q nL ws pc lv (.int y :: .int x :: st) :=
  fun H locs ls hP hD hS hl => lv_icmp_gt C.1 C.2.1 hd ht (fun h => kt h H locs ls hP hD hS hl) (fun h => kf h H locs ls hP hD hS hl)
theorem g_if_le {x : Int32} {off : Int} {tgt : Nat} (C : Cx p s m args meth c cc nL own ret D cI cZ A) (hd : decode cc pc = .ok (.ifCond .le off, 3)) (ht : (pc : Int) + off = (tgt : Int)) (kt : x ≤ 0 → G p l e R s m args below meth c D A kc ks Q nL ws tgt lv st) (kf : ¬ x ≤ 0 → G p l e R s m args below meth c D A kc ks Q nL ws (pc + 3) lv st) : G p l e R s m args below meth c D A kc ks Q nL ws pc lv (.int x :: st) :=
  fun H locs ls hP hD hS hl => lv_if_le C.1 C.2.1 hd ht (fun h => kt h H locs ls hP hD hS hl) (fun h => kf h H locs ls hP hD hS hl)
theorem g_icmp_le {x y : Int32} {off : Int} {tgt : Nat} (C : Cx p s m args meth c cc nL own ret D cI cZ A) (hd : decode cc pc = .ok (.if_icmp .le off, 3)) (ht : (pc : Int) + off = (tgt : Int)) (kt : x ≤ y → G p l e R s m args below meth c D A kc ks Q nL ws tgt lv st) (kf : ¬ x ≤ y → G p l e R s m args below meth c D A kc ks Q nL ws (pc + 3) lv st) : G p l e R s m args below meth c D A kc ks Q nL ws pc lv (.int y :: .int x :: st) :=
  fun H locs ls hP hD hS hl => lv_icmp_le C.1 C.2.1 hd ht (fun h => kt h H locs ls hP hD hS hl) (fun h => kf h H locs ls hP hD hS hl)
theorem g_ifb_eq {x : Bool} {off : Int} {tgt : Nat} (C : Cx p s m args meth c cc nL own ret D cI cZ A) (hd : decode cc pc = .ok (.ifCond .eq off, 3)) (ht : (pc : Int) + off = (tgt : Int)) (kt : x = false → G p l e R s m args below meth c D A kc ks Q nL ws tgt lv st) (kf : x = true → G p l e R s m args below meth c D A kc ks Q nL ws (pc + 3) lv st) : G p l e R s m args below meth c D A kc ks Q nL ws pc lv (.int (b2i x) :: st) :=
  g_if_eq C hd ht (fun h => kt (b2i_0.mp h)) (fun h => kf (by cases x <;> simp_all [b2i]))
theorem g_ifb_ne {x : Bool} {off : Int} {tgt : Nat} (C : Cx p s m args meth c cc nL own ret D cI cZ A) (hd : decode cc pc = .ok (.ifCond .ne off, 3)) (ht : (pc : Int) + off = (tgt : Int)) (kt : x = true → G p l e R s m args below meth c D A kc ks Q nL ws tgt lv st) (kf : x = false → G p l e R s m args below meth c D A kc ks Q nL ws (pc + 3) lv st) : G p l e R s m args below meth c D A kc ks Q nL ws pc lv (.int (b2i x) :: st) :=
  g_if_ne C hd ht (fun h => kt (by cases x <;> simp_all [b2i])) (fun h => kf (by cases x <;> simp_all [b2i]))
end GR
end

section
-- ===== PART A: goes FIRST, ahead of the names: the tables' words, and 'selects' of the private methods out of them =====
/-- a private method of a class that the tables say can be made, by its rows of tables_1 -/
def lw_okq (q : MethodName × Nat) : Prop := (q.1.cls ≠ "java/lang/invoke/MethodHandle" ∧ q.1.cls ≠ "java/lang/invoke/VarHandle") ∧ Cond.instantiable q.1.cls q.2 ∈ tables_1 ∧ Cond.privateMethod q.1 ∈ tables_1 ∧ Cond.instanceMethod q.1 ∈ tables_1
theorem lw_p0 : lw_okq (⟨"OverrideRules$Types", "findAbove", "(I)V"⟩, 6) := ⟨⟨by decide +kernel, by decide +kernel⟩, List.mem_of_getElem? (i := 19) (by decide +kernel), List.mem_of_getElem? (i := 195) (by decide +kernel), List.mem_of_getElem? (i := 196) (by decide +kernel)⟩
theorem lw_p1 : lw_okq (⟨"OverrideRules", "isMissingType", "(I)Z"⟩, 5) := ⟨⟨by decide +kernel, by decide +kernel⟩, List.mem_of_getElem? (i := 11) (by decide +kernel), List.mem_of_getElem? (i := 245) (by decide +kernel), List.mem_of_getElem? (i := 246) (by decide +kernel)⟩
theorem lw_p2 : lw_okq (⟨"OverrideRules$Members", "isOfNameBelow", "(II)Z"⟩, 8) := ⟨⟨by decide +kernel, by decide +kernel⟩, List.mem_of_getElem? (i := 61) (by decide +kernel), List.mem_of_getElem? (i := 296) (by decide +kernel), List.mem_of_getElem? (i := 297) (by decide +kernel)⟩
theorem lw_p3 : lw_okq (⟨"OverrideRules$Members", "isReached", "(II)Z"⟩, 8) := ⟨⟨by decide +kernel, by decide +kernel⟩, List.mem_of_getElem? (i := 61) (by decide +kernel), List.mem_of_getElem? (i := 312) (by decide +kernel), List.mem_of_getElem? (i := 313) (by decide +kernel)⟩
theorem lw_p4 : lw_okq (⟨"OverrideRules$Members", "isSeen", "(II)Z"⟩, 8) := ⟨⟨by decide +kernel, by decide +kernel⟩, List.mem_of_getElem? (i := 61) (by decide +kernel), List.mem_of_getElem? (i := 333) (by decide +kernel), List.mem_of_getElem? (i := 334) (by decide +kernel)⟩
theorem lw_p5 : lw_okq (⟨"OverrideRules$Choice", "chooseOfInterfaces", "(II)I"⟩, 2) := ⟨⟨by decide +kernel, by decide +kernel⟩, List.mem_of_getElem? (i := 92) (by decide +kernel), List.mem_of_getElem? (i := 364) (by decide +kernel), List.mem_of_getElem? (i := 365) (by decide +kernel)⟩
theorem lw_p6 : lw_okq (⟨"OverrideRules$Choice", "leastOrFight", "(II)I"⟩, 2) := ⟨⟨by decide +kernel, by decide +kernel⟩, List.mem_of_getElem? (i := 92) (by decide +kernel), List.mem_of_getElem? (i := 373) (by decide +kernel), List.mem_of_getElem? (i := 374) (by decide +kernel)⟩
theorem lw_p7 : lw_okq (⟨"OverrideRules$Faults", "walkOwn", "(I)V"⟩, 9) := ⟨⟨by decide +kernel, by decide +kernel⟩, List.mem_of_getElem? (i := 105) (by decide +kernel), List.mem_of_getElem? (i := 401) (by decide +kernel), List.mem_of_getElem? (i := 402) (by decide +kernel)⟩
theorem lw_p8 : lw_okq (⟨"OverrideRules$Faults", "noteIf", "(ZIII)V"⟩, 9) := ⟨⟨by decide +kernel, by decide +kernel⟩, List.mem_of_getElem? (i := 105) (by decide +kernel), List.mem_of_getElem? (i := 410) (by decide +kernel), List.mem_of_getElem? (i := 411) (by decide +kernel)⟩
theorem lw_p9 : lw_okq (⟨"OverrideRules$Faults", "note", "(III)V"⟩, 9) := ⟨⟨by decide +kernel, by decide +kernel⟩, List.mem_of_getElem? (i := 105) (by decide +kernel), List.mem_of_getElem? (i := 414) (by decide +kernel), List.mem_of_getElem? (i := 415) (by decide +kernel)⟩
theorem lw_p10 : lw_okq (⟨"OverrideRules$Faults", "compare", "(II)V"⟩, 9) := ⟨⟨by decide +kernel, by decide +kernel⟩, List.mem_of_getElem? (i := 105) (by decide +kernel), List.mem_of_getElem? (i := 420) (by decide +kernel), List.mem_of_getElem? (i := 421) (by decide +kernel)⟩
theorem lw_p11 : lw_okq (⟨"OverrideRules$Faults", "suits", "(II)Z"⟩, 9) := ⟨⟨by decide +kernel, by decide +kernel⟩, List.mem_of_getElem? (i := 105) (by decide +kernel), List.mem_of_getElem? (i := 432) (by decide +kernel), List.mem_of_getElem? (i := 433) (by decide +kernel)⟩
theorem lw_p12 : lw_okq (⟨"OverrideRules$Faults", "walkInherited", "(I)V"⟩, 9) := ⟨⟨by decide +kernel, by decide +kernel⟩, List.mem_of_getElem? (i := 105) (by decide +kernel), List.mem_of_getElem? (i := 452) (by decide +kernel), List.mem_of_getElem? (i := 453) (by decide +kernel)⟩
theorem lw_p13 : lw_okq (⟨"OverrideRules$Faults", "noteChosen", "(III)V"⟩, 9) := ⟨⟨by decide +kernel, by decide +kernel⟩, List.mem_of_getElem? (i := 105) (by decide +kernel), List.mem_of_getElem? (i := 459) (by decide +kernel), List.mem_of_getElem? (i := 460) (by decide +kernel)⟩
theorem lw_p14 : lw_okq (⟨"OverrideRules$Faults", "isMetByChance", "(II)Z"⟩, 9) := ⟨⟨by decide +kernel, by decide +kernel⟩, List.mem_of_getElem? (i := 105) (by decide +kernel), List.mem_of_getElem? (i := 463) (by decide +kernel), List.mem_of_getElem? (i := 464) (by decide +kernel)⟩
theorem lw_p15 : lw_okq (⟨"OverrideRulesModel", "isType", "(I)Z"⟩, 21) := ⟨⟨by decide +kernel, by decide +kernel⟩, List.mem_of_getElem? (i := 504) (by decide +kernel), List.mem_of_getElem? (i := 583) (by decide +kernel), List.mem_of_getElem? (i := 584) (by decide +kernel)⟩
def lw_privs_1 : List (MethodName × Nat) := [(⟨"OverrideRules$Types", "findAbove", "(I)V"⟩, 6), (⟨"OverrideRules", "isMissingType", "(I)Z"⟩, 5), (⟨"OverrideRules$Members", "isOfNameBelow", "(II)Z"⟩, 8), (⟨"OverrideRules$Members", "isReached", "(II)Z"⟩, 8), (⟨"OverrideRules$Members", "isSeen", "(II)Z"⟩, 8), (⟨"OverrideRules$Choice", "chooseOfInterfaces", "(II)I"⟩, 2), (⟨"OverrideRules$Choice", "leastOrFight", "(II)I"⟩, 2), (⟨"OverrideRules$Faults", "walkOwn", "(I)V"⟩, 9), (⟨"OverrideRules$Faults", "noteIf", "(ZIII)V"⟩, 9), (⟨"OverrideRules$Faults", "note", "(III)V"⟩, 9), (⟨"OverrideRules$Faults", "compare", "(II)V"⟩, 9), (⟨"OverrideRules$Faults", "suits", "(II)Z"⟩, 9), (⟨"OverrideRules$Faults", "walkInherited", "(I)V"⟩, 9), (⟨"OverrideRules$Faults", "noteChosen", "(III)V"⟩, 9), (⟨"OverrideRules$Faults", "isMetByChance", "(II)Z"⟩, 9), (⟨"OverrideRulesModel", "isType", "(I)Z"⟩, 21)]
theorem lw_r1 : ∀ q ∈ lw_privs_1, lw_okq q := List.forall_mem_cons.mpr ⟨lw_p0, List.forall_mem_cons.mpr ⟨lw_p1, List.forall_mem_cons.mpr ⟨lw_p2, List.forall_mem_cons.mpr ⟨lw_p3, List.forall_mem_cons.mpr ⟨lw_p4, List.forall_mem_cons.mpr ⟨lw_p5, List.forall_mem_cons.mpr ⟨lw_p6, List.forall_mem_cons.mpr ⟨lw_p7, List.forall_mem_cons.mpr ⟨lw_p8, List.forall_mem_cons.mpr ⟨lw_p9, List.forall_mem_cons.mpr ⟨lw_p10, List.forall_mem_cons.mpr ⟨lw_p11, List.forall_mem_cons.mpr ⟨lw_p12, List.forall_mem_cons.mpr ⟨lw_p13, List.forall_mem_cons.mpr ⟨lw_p14, List.forall_mem_cons.mpr ⟨lw_p15, fun _ h => absurd h List.not_mem_nil⟩⟩⟩⟩⟩⟩⟩⟩⟩⟩⟩⟩⟩⟩⟩⟩
theorem lw_p16 : lw_okq (⟨"OverrideRulesModel", "rise", "()V"⟩, 21) := ⟨⟨by decide +kernel, by decide +kernel⟩, List.mem_of_getElem? (i := 504) (by decide +kernel), List.mem_of_getElem? (i := 590) (by decide +kernel), List.mem_of_getElem? (i := 591) (by decide +kernel)⟩
theorem lw_p17 : lw_okq (⟨"OverrideRulesModel", "lift", "(II)V"⟩, 21) := ⟨⟨by decide +kernel, by decide +kernel⟩, List.mem_of_getElem? (i := 504) (by decide +kernel), List.mem_of_getElem? (i := 594) (by decide +kernel), List.mem_of_getElem? (i := 595) (by decide +kernel)⟩
theorem lw_p18 : lw_okq (⟨"OverrideRulesModel", "work", "()V"⟩, 21) := ⟨⟨by decide +kernel, by decide +kernel⟩, List.mem_of_getElem? (i := 504) (by decide +kernel), List.mem_of_getElem? (i := 598) (by decide +kernel), List.mem_of_getElem? (i := 599) (by decide +kernel)⟩
theorem lw_p19 : lw_okq (⟨"OverrideRulesModel", "isBelow", "(II)Z"⟩, 21) := ⟨⟨by decide +kernel, by decide +kernel⟩, List.mem_of_getElem? (i := 504) (by decide +kernel), List.mem_of_getElem? (i := 602) (by decide +kernel), List.mem_of_getElem? (i := 603) (by decide +kernel)⟩
theorem lw_p20 : lw_okq (⟨"OverrideRulesModel", "isStatic", "(I)Z"⟩, 21) := ⟨⟨by decide +kernel, by decide +kernel⟩, List.mem_of_getElem? (i := 504) (by decide +kernel), List.mem_of_getElem? (i := 606) (by decide +kernel), List.mem_of_getElem? (i := 607) (by decide +kernel)⟩
theorem lw_p21 : lw_okq (⟨"OverrideRulesModel", "has", "(II)Z"⟩, 21) := ⟨⟨by decide +kernel, by decide +kernel⟩, List.mem_of_getElem? (i := 504) (by decide +kernel), List.mem_of_getElem? (i := 610) (by decide +kernel), List.mem_of_getElem? (i := 611) (by decide +kernel)⟩
theorem lw_p22 : lw_okq (⟨"OverrideRulesModel", "isPrivate", "(I)Z"⟩, 21) := ⟨⟨by decide +kernel, by decide +kernel⟩, List.mem_of_getElem? (i := 504) (by decide +kernel), List.mem_of_getElem? (i := 614) (by decide +kernel), List.mem_of_getElem? (i := 615) (by decide +kernel)⟩
theorem lw_p23 : lw_okq (⟨"OverrideRulesModel", "goesOver", "(II)Z"⟩, 21) := ⟨⟨by decide +kernel, by decide +kernel⟩, List.mem_of_getElem? (i := 504) (by decide +kernel), List.mem_of_getElem? (i := 618) (by decide +kernel), List.mem_of_getElem? (i := 619) (by decide +kernel)⟩
theorem lw_p24 : lw_okq (⟨"OverrideRulesModel", "isInterface", "(I)Z"⟩, 21) := ⟨⟨by decide +kernel, by decide +kernel⟩, List.mem_of_getElem? (i := 504) (by decide +kernel), List.mem_of_getElem? (i := 622) (by decide +kernel), List.mem_of_getElem? (i := 623) (by decide +kernel)⟩
theorem lw_p25 : lw_okq (⟨"OverrideRulesModel", "isSeen", "(II)Z"⟩, 21) := ⟨⟨by decide +kernel, by decide +kernel⟩, List.mem_of_getElem? (i := 504) (by decide +kernel), List.mem_of_getElem? (i := 626) (by decide +kernel), List.mem_of_getElem? (i := 627) (by decide +kernel)⟩
theorem lw_p26 : lw_okq (⟨"OverrideRulesModel", "access", "(I)I"⟩, 21) := ⟨⟨by decide +kernel, by decide +kernel⟩, List.mem_of_getElem? (i := 504) (by decide +kernel), List.mem_of_getElem? (i := 630) (by decide +kernel), List.mem_of_getElem? (i := 631) (by decide +kernel)⟩
theorem lw_p27 : lw_okq (⟨"OverrideRulesModel", "isSub", "(II)Z"⟩, 21) := ⟨⟨by decide +kernel, by decide +kernel⟩, List.mem_of_getElem? (i := 504) (by decide +kernel), List.mem_of_getElem? (i := 642) (by decide +kernel), List.mem_of_getElem? (i := 643) (by decide +kernel)⟩
theorem lw_p28 : lw_okq (⟨"OverrideRulesModel", "isMember", "(I)Z"⟩, 21) := ⟨⟨by decide +kernel, by decide +kernel⟩, List.mem_of_getElem? (i := 504) (by decide +kernel), List.mem_of_getElem? (i := 654) (by decide +kernel), List.mem_of_getElem? (i := 655) (by decide +kernel)⟩
theorem lw_p29 : lw_okq (⟨"OverrideRulesModel", "isOver", "(II)Z"⟩, 21) := ⟨⟨by decide +kernel, by decide +kernel⟩, List.mem_of_getElem? (i := 504) (by decide +kernel), List.mem_of_getElem? (i := 672) (by decide +kernel), List.mem_of_getElem? (i := 673) (by decide +kernel)⟩
theorem lw_p30 : lw_okq (⟨"OverrideRulesModel", "hidesIt", "(II)Z"⟩, 21) := ⟨⟨by decide +kernel, by decide +kernel⟩, List.mem_of_getElem? (i := 504) (by decide +kernel), List.mem_of_getElem? (i := 680) (by decide +kernel), List.mem_of_getElem? (i := 681) (by decide +kernel)⟩
theorem lw_p31 : lw_okq (⟨"OverrideRulesModel", "isPlain", "(I)Z"⟩, 21) := ⟨⟨by decide +kernel, by decide +kernel⟩, List.mem_of_getElem? (i := 504) (by decide +kernel), List.mem_of_getElem? (i := 688) (by decide +kernel), List.mem_of_getElem? (i := 689) (by decide +kernel)⟩
def lw_privs_2 : List (MethodName × Nat) := [(⟨"OverrideRulesModel", "rise", "()V"⟩, 21), (⟨"OverrideRulesModel", "lift", "(II)V"⟩, 21), (⟨"OverrideRulesModel", "work", "()V"⟩, 21), (⟨"OverrideRulesModel", "isBelow", "(II)Z"⟩, 21), (⟨"OverrideRulesModel", "isStatic", "(I)Z"⟩, 21), (⟨"OverrideRulesModel", "has", "(II)Z"⟩, 21), (⟨"OverrideRulesModel", "isPrivate", "(I)Z"⟩, 21), (⟨"OverrideRulesModel", "goesOver", "(II)Z"⟩, 21), (⟨"OverrideRulesModel", "isInterface", "(I)Z"⟩, 21), (⟨"OverrideRulesModel", "isSeen", "(II)Z"⟩, 21), (⟨"OverrideRulesModel", "access", "(I)I"⟩, 21), (⟨"OverrideRulesModel", "isSub", "(II)Z"⟩, 21), (⟨"OverrideRulesModel", "isMember", "(I)Z"⟩, 21), (⟨"OverrideRulesModel", "isOver", "(II)Z"⟩, 21), (⟨"OverrideRulesModel", "hidesIt", "(II)Z"⟩, 21), (⟨"OverrideRulesModel", "isPlain", "(I)Z"⟩, 21)]
theorem lw_r2 : ∀ q ∈ lw_privs_2, lw_okq q := List.forall_mem_cons.mpr ⟨lw_p16, List.forall_mem_cons.mpr ⟨lw_p17, List.forall_mem_cons.mpr ⟨lw_p18, List.forall_mem_cons.mpr ⟨lw_p19, List.forall_mem_cons.mpr ⟨lw_p20, List.forall_mem_cons.mpr ⟨lw_p21, List.forall_mem_cons.mpr ⟨lw_p22, List.forall_mem_cons.mpr ⟨lw_p23, List.forall_mem_cons.mpr ⟨lw_p24, List.forall_mem_cons.mpr ⟨lw_p25, List.forall_mem_cons.mpr ⟨lw_p26, List.forall_mem_cons.mpr ⟨lw_p27, List.forall_mem_cons.mpr ⟨lw_p28, List.forall_mem_cons.mpr ⟨lw_p29, List.forall_mem_cons.mpr ⟨lw_p30, List.forall_mem_cons.mpr ⟨lw_p31, fun _ h => absurd h List.not_mem_nil⟩⟩⟩⟩⟩⟩⟩⟩⟩⟩⟩⟩⟩⟩⟩⟩
theorem lw_p32 : lw_okq (⟨"OverrideRulesModel", "choose", "(II)I"⟩, 21) := ⟨⟨by decide +kernel, by decide +kernel⟩, List.mem_of_getElem? (i := 504) (by decide +kernel), List.mem_of_getElem? (i := 692) (by decide +kernel), List.mem_of_getElem? (i := 693) (by decide +kernel)⟩
theorem lw_p33 : lw_okq (⟨"OverrideRulesModel", "isLast", "(II)Z"⟩, 21) := ⟨⟨by decide +kernel, by decide +kernel⟩, List.mem_of_getElem? (i := 504) (by decide +kernel), List.mem_of_getElem? (i := 696) (by decide +kernel), List.mem_of_getElem? (i := 697) (by decide +kernel)⟩
theorem lw_p34 : lw_okq (⟨"OverrideRulesModel", "judge", "(I)V"⟩, 21) := ⟨⟨by decide +kernel, by decide +kernel⟩, List.mem_of_getElem? (i := 504) (by decide +kernel), List.mem_of_getElem? (i := 704) (by decide +kernel), List.mem_of_getElem? (i := 705) (by decide +kernel)⟩
theorem lw_p35 : lw_okq (⟨"OverrideRulesModel", "isMixed", "(II)Z"⟩, 21) := ⟨⟨by decide +kernel, by decide +kernel⟩, List.mem_of_getElem? (i := 504) (by decide +kernel), List.mem_of_getElem? (i := 708) (by decide +kernel), List.mem_of_getElem? (i := 709) (by decide +kernel)⟩
theorem lw_p36 : lw_okq (⟨"OverrideRulesModel", "note", "(III)V"⟩, 21) := ⟨⟨by decide +kernel, by decide +kernel⟩, List.mem_of_getElem? (i := 504) (by decide +kernel), List.mem_of_getElem? (i := 712) (by decide +kernel), List.mem_of_getElem? (i := 713) (by decide +kernel)⟩
theorem lw_p37 : lw_okq (⟨"OverrideRulesModel", "three", "(II)V"⟩, 21) := ⟨⟨by decide +kernel, by decide +kernel⟩, List.mem_of_getElem? (i := 504) (by decide +kernel), List.mem_of_getElem? (i := 716) (by decide +kernel), List.mem_of_getElem? (i := 717) (by decide +kernel)⟩
theorem lw_p38 : lw_okq (⟨"OverrideRulesModel", "suits", "(II)Z"⟩, 21) := ⟨⟨by decide +kernel, by decide +kernel⟩, List.mem_of_getElem? (i := 504) (by decide +kernel), List.mem_of_getElem? (i := 720) (by decide +kernel), List.mem_of_getElem? (i := 721) (by decide +kernel)⟩
theorem lw_p39 : lw_okq (⟨"OverrideRulesModel", "throwsMore", "(II)Z"⟩, 21) := ⟨⟨by decide +kernel, by decide +kernel⟩, List.mem_of_getElem? (i := 504) (by decide +kernel), List.mem_of_getElem? (i := 724) (by decide +kernel), List.mem_of_getElem? (i := 725) (by decide +kernel)⟩
theorem lw_p40 : lw_okq (⟨"OverrideRulesModel", "inherited", "(II)V"⟩, 21) := ⟨⟨by decide +kernel, by decide +kernel⟩, List.mem_of_getElem? (i := 504) (by decide +kernel), List.mem_of_getElem? (i := 728) (by decide +kernel), List.mem_of_getElem? (i := 729) (by decide +kernel)⟩
def lw_privs_3 : List (MethodName × Nat) := [(⟨"OverrideRulesModel", "choose", "(II)I"⟩, 21), (⟨"OverrideRulesModel", "isLast", "(II)Z"⟩, 21), (⟨"OverrideRulesModel", "judge", "(I)V"⟩, 21), (⟨"OverrideRulesModel", "isMixed", "(II)Z"⟩, 21), (⟨"OverrideRulesModel", "note", "(III)V"⟩, 21), (⟨"OverrideRulesModel", "three", "(II)V"⟩, 21), (⟨"OverrideRulesModel", "suits", "(II)Z"⟩, 21), (⟨"OverrideRulesModel", "throwsMore", "(II)Z"⟩, 21), (⟨"OverrideRulesModel", "inherited", "(II)V"⟩, 21)]
theorem lw_r3 : ∀ q ∈ lw_privs_3, lw_okq q := List.forall_mem_cons.mpr ⟨lw_p32, List.forall_mem_cons.mpr ⟨lw_p33, List.forall_mem_cons.mpr ⟨lw_p34, List.forall_mem_cons.mpr ⟨lw_p35, List.forall_mem_cons.mpr ⟨lw_p36, List.forall_mem_cons.mpr ⟨lw_p37, List.forall_mem_cons.mpr ⟨lw_p38, List.forall_mem_cons.mpr ⟨lw_p39, List.forall_mem_cons.mpr ⟨lw_p40, fun _ h => absurd h List.not_mem_nil⟩⟩⟩⟩⟩⟩⟩⟩⟩
def lw_privs : List (MethodName × Nat) := lw_privs_1 ++ (lw_privs_2 ++ (lw_privs_3))
def lw_tbl : List Cond := k2_sels lw_privs ++ tables_1
theorem lw_privs_ok : ∀ q ∈ lw_privs, lw_okq q := by
  show ∀ q ∈ lw_privs_1 ++ (lw_privs_2 ++ (lw_privs_3)), lw_okq q
  exact List.forall_mem_append.mpr ⟨lw_r1, List.forall_mem_append.mpr ⟨lw_r2, lw_r3⟩⟩
/-! ===== BEGIN printed: names, fields, word lists, decode rows ===== -/
def RX0 : String := "OverrideRules$Choice"
def TX0 : u_T := fun k => match k with
  | 0 => ("OverrideRules$Choice", "types", "LOverrideRules$Types;", true)
  | _ => ("OverrideRules$Choice", "members", "LOverrideRules$Members;", true)
def tyX0 : Nat → FieldType := fun k => match k with
  | 0 => .object "OverrideRules$Types"
  | _ => .object "OverrideRules$Members"
abbrev wsX00 : List Cond := u_ws RX0 TX0 2
theorem nmX0 : ∀ a, a < 2 → ∀ b, b < 2 → a ≠ b → (TX0 a).2.1 ≠ (TX0 b).2.1 := by decide +kernel
theorem tyX0_ok : ∀ k, k < 2 → parseFieldDescriptor (TX0 k).2.2.1 = some (tyX0 k) := by decide +kernel
abbrev cX0_init : ByteArray := prog_2_method_1_code
def yX0_init : MethodName := ⟨RX0, "<init>", "(LOverrideRules$Types;LOverrideRules$Members;)V"⟩
abbrev cX0_choose : ByteArray := prog_2_method_2_code
def yX0_choose : MethodName := ⟨RX0, "choose", "(II)I"⟩
abbrev cX0_chooseOfInterfaces : ByteArray := prog_2_method_3_code
def yX0_chooseOfInterfaces : MethodName := ⟨RX0, "chooseOfInterfaces", "(II)I"⟩
abbrev cX0_leastOrFight : ByteArray := prog_2_method_4_code
def yX0_leastOrFight : MethodName := ⟨RX0, "leastOrFight", "(II)I"⟩
def RX1 : String := "OverrideRules$Faults"
def TX1 : u_T := fun k => match k with
  | 0 => ("OverrideRules$Faults", "types", "LOverrideRules$Types;", true)
  | 1 => ("OverrideRules$Faults", "thrown", "LOverrideRules$Throws;", true)
  | 2 => ("OverrideRules$Faults", "members", "LOverrideRules$Members;", true)
  | 3 => ("OverrideRules$Faults", "choice", "LOverrideRules$Choice;", true)
  | 4 => ("OverrideRules$Faults", "wanted", "I", false)
  | 5 => ("OverrideRules$Faults", "count", "I", false)
  | 6 => ("OverrideRules$Faults", "pickedCode", "I", false)
  | 7 => ("OverrideRules$Faults", "pickedM", "I", false)
  | _ => ("OverrideRules$Faults", "pickedO", "I", false)
def tyX1 : Nat → FieldType := fun k => match k with
  | 0 => .object "OverrideRules$Types"
  | 1 => .object "OverrideRules$Throws"
  | 2 => .object "OverrideRules$Members"
  | 3 => .object "OverrideRules$Choice"
  | 4 => .int
  | 5 => .int
  | 6 => .int
  | 7 => .int
  | _ => .int
abbrev wsX10 : List Cond := u_ws RX1 TX1 9
theorem nmX1 : ∀ a, a < 9 → ∀ b, b < 9 → a ≠ b → (TX1 a).2.1 ≠ (TX1 b).2.1 := by decide +kernel
theorem tyX1_ok : ∀ k, k < 9 → parseFieldDescriptor (TX1 k).2.2.1 = some (tyX1 k) := by decide +kernel
abbrev cX1_init : ByteArray := prog_3_method_1_code
def yX1_init : MethodName := ⟨RX1, "<init>", "(LOverrideRules$Types;LOverrideRules$Throws;LOverrideRules$Members;LOverrideRules$Choice;)V"⟩
abbrev cX1_walk : ByteArray := prog_3_method_2_code
def yX1_walk : MethodName := ⟨RX1, "walk", "(II)I"⟩
abbrev cX1_pickedPart : ByteArray := prog_3_method_3_code
def yX1_pickedPart : MethodName := ⟨RX1, "pickedPart", "(I)I"⟩
abbrev cX1_note : ByteArray := prog_3_method_4_code
def yX1_note : MethodName := ⟨RX1, "note", "(III)V"⟩
abbrev cX1_noteIf : ByteArray := prog_3_method_5_code
def yX1_noteIf : MethodName := ⟨RX1, "noteIf", "(ZIII)V"⟩
abbrev cX1_walkOwn : ByteArray := prog_3_method_6_code
def yX1_walkOwn : MethodName := ⟨RX1, "walkOwn", "(I)V"⟩
abbrev cX1_compare : ByteArray := prog_3_method_7_code
def yX1_compare : MethodName := ⟨RX1, "compare", "(II)V"⟩
abbrev cX1_suits : ByteArray := prog_3_method_8_code
def yX1_suits : MethodName := ⟨RX1, "suits", "(II)Z"⟩
abbrev cX1_walkInherited : ByteArray := prog_3_method_9_code
def yX1_walkInherited : MethodName := ⟨RX1, "walkInherited", "(I)V"⟩
abbrev cX1_noteChosen : ByteArray := prog_3_method_10_code
def yX1_noteChosen : MethodName := ⟨RX1, "noteChosen", "(III)V"⟩
abbrev cX1_isMetByChance : ByteArray := prog_3_method_11_code
def yX1_isMetByChance : MethodName := ⟨RX1, "isMetByChance", "(II)Z"⟩
def RX2 : String := "OverrideRules$Members"
def TX2 : u_T := fun k => match k with
  | 0 => ("OverrideRules$Members", "types", "LOverrideRules$Types;", true)
  | 1 => ("OverrideRules$Members", "owners", "[I", true)
  | 2 => ("OverrideRules$Members", "names", "[I", true)
  | 3 => ("OverrideRules$Members", "results", "[I", true)
  | 4 => ("OverrideRules$Members", "marks", "[I", true)
  | 5 => ("OverrideRules$Members", "throwSets", "[I", true)
  | 6 => ("OverrideRules$Members", "slots", "[I", true)
  | _ => ("OverrideRules$Members", "count", "I", false)
def tyX2 : Nat → FieldType := fun k => match k with
  | 0 => .object "OverrideRules$Types"
  | 1 => .array .int
  | 2 => .array .int
  | 3 => .array .int
  | 4 => .array .int
  | 5 => .array .int
  | 6 => .array .int
  | _ => .int
abbrev wsX20 : List Cond := u_ws RX2 TX2 8
theorem nmX2 : ∀ a, a < 8 → ∀ b, b < 8 → a ≠ b → (TX2 a).2.1 ≠ (TX2 b).2.1 := by decide +kernel
theorem tyX2_ok : ∀ k, k < 8 → parseFieldDescriptor (TX2 k).2.2.1 = some (tyX2 k) := by decide +kernel
abbrev cX2_init : ByteArray := prog_4_method_1_code
def yX2_init : MethodName := ⟨RX2, "<init>", "(LOverrideRules$Types;)V"⟩
abbrev cX2_forget : ByteArray := prog_4_method_2_code
def yX2_forget : MethodName := ⟨RX2, "forget", "()V"⟩
abbrev cX2_size : ByteArray := prog_4_method_3_code
def yX2_size : MethodName := ⟨RX2, "size", "()I"⟩
abbrev cX2_has : ByteArray := prog_4_method_4_code
def yX2_has : MethodName := ⟨RX2, "has", "(I)Z"⟩
abbrev cX2_isFull : ByteArray := prog_4_method_5_code
def yX2_isFull : MethodName := ⟨RX2, "isFull", "()Z"⟩
abbrev cX2_add : ByteArray := prog_4_method_6_code
def yX2_add : MethodName := ⟨RX2, "add", "(IIII)I"⟩
abbrev cX2_addThrow : ByteArray := prog_4_method_7_code
def yX2_addThrow : MethodName := ⟨RX2, "addThrow", "(II)Z"⟩
abbrev cX2_at : ByteArray := prog_4_method_8_code
def yX2_at : MethodName := ⟨RX2, "at", "(II)I"⟩
abbrev cX2_typeOf : ByteArray := prog_4_method_9_code
def yX2_typeOf : MethodName := ⟨RX2, "typeOf", "(I)I"⟩
abbrev cX2_nameOf : ByteArray := prog_4_method_10_code
def yX2_nameOf : MethodName := ⟨RX2, "nameOf", "(I)I"⟩
abbrev cX2_resultOf : ByteArray := prog_4_method_11_code
def yX2_resultOf : MethodName := ⟨RX2, "resultOf", "(I)I"⟩
abbrev cX2_thrownBy : ByteArray := prog_4_method_12_code
def yX2_thrownBy : MethodName := ⟨RX2, "thrownBy", "(I)I"⟩
abbrev cX2_hasMark : ByteArray := prog_4_method_13_code
def yX2_hasMark : MethodName := ⟨RX2, "hasMark", "(II)Z"⟩
abbrev cX2_isInheritable : ByteArray := prog_4_method_14_code
def yX2_isInheritable : MethodName := ⟨RX2, "isInheritable", "(I)Z"⟩
abbrev cX2_accessOf : ByteArray := prog_4_method_15_code
def yX2_accessOf : MethodName := ⟨RX2, "accessOf", "(I)I"⟩
abbrev cX2_isOverriding : ByteArray := prog_4_method_16_code
def yX2_isOverriding : MethodName := ⟨RX2, "isOverriding", "(II)Z"⟩
abbrev cX2_isHiding : ByteArray := prog_4_method_17_code
def yX2_isHiding : MethodName := ⟨RX2, "isHiding", "(II)Z"⟩
abbrev cX2_isMixed : ByteArray := prog_4_method_18_code
def yX2_isMixed : MethodName := ⟨RX2, "isMixed", "(II)Z"⟩
abbrev cX2_isOfNameBelow : ByteArray := prog_4_method_19_code
def yX2_isOfNameBelow : MethodName := ⟨RX2, "isOfNameBelow", "(II)Z"⟩
abbrev cX2_isSeen : ByteArray := prog_4_method_20_code
def yX2_isSeen : MethodName := ⟨RX2, "isSeen", "(II)Z"⟩
abbrev cX2_isReached : ByteArray := prog_4_method_21_code
def yX2_isReached : MethodName := ⟨RX2, "isReached", "(II)Z"⟩
abbrev cX2_countOverridden : ByteArray := prog_4_method_22_code
def yX2_countOverridden : MethodName := ⟨RX2, "countOverridden", "(I)I"⟩
abbrev cX2_countBridges : ByteArray := prog_4_method_23_code
def yX2_countBridges : MethodName := ⟨RX2, "countBridges", "(I)I"⟩
def RX3 : String := "OverrideRules$Throws"
def TX3 : u_T := fun k => match k with
  | 0 => ("OverrideRules$Throws", "subTo", "[I", true)
  | 1 => ("OverrideRules$Throws", "checkedOnes", "I", false)
  | _ => ("OverrideRules$Throws", "count", "I", false)
def tyX3 : Nat → FieldType := fun k => match k with
  | 0 => .array .int
  | 1 => .int
  | _ => .int
abbrev wsX30 : List Cond := u_ws RX3 TX3 3
theorem nmX3 : ∀ a, a < 3 → ∀ b, b < 3 → a ≠ b → (TX3 a).2.1 ≠ (TX3 b).2.1 := by decide +kernel
theorem tyX3_ok : ∀ k, k < 3 → parseFieldDescriptor (TX3 k).2.2.1 = some (tyX3 k) := by decide +kernel
abbrev cX3_init : ByteArray := prog_5_method_1_code
def yX3_init : MethodName := ⟨RX3, "<init>", "()V"⟩
abbrev cX3_forget : ByteArray := prog_5_method_2_code
def yX3_forget : MethodName := ⟨RX3, "forget", "()V"⟩
abbrev cX3_size : ByteArray := prog_5_method_3_code
def yX3_size : MethodName := ⟨RX3, "size", "()I"⟩
abbrev cX3_has : ByteArray := prog_5_method_4_code
def yX3_has : MethodName := ⟨RX3, "has", "(I)Z"⟩
abbrev cX3_isFull : ByteArray := prog_5_method_5_code
def yX3_isFull : MethodName := ⟨RX3, "isFull", "()Z"⟩
abbrev cX3_add : ByteArray := prog_5_method_6_code
def yX3_add : MethodName := ⟨RX3, "add", "(IZ)I"⟩
abbrev cX3_areAllowed : ByteArray := prog_5_method_7_code
def yX3_areAllowed : MethodName := ⟨RX3, "areAllowed", "(II)Z"⟩
def RX4 : String := "OverrideRules$Types"
def TX4 : u_T := fun k => match k with
  | 0 => ("OverrideRules$Types", "kinds", "[I", true)
  | 1 => ("OverrideRules$Types", "packets", "[I", true)
  | 2 => ("OverrideRules$Types", "parents", "[I", true)
  | 3 => ("OverrideRules$Types", "faces", "[I", true)
  | 4 => ("OverrideRules$Types", "above", "[I", true)
  | _ => ("OverrideRules$Types", "count", "I", false)
def tyX4 : Nat → FieldType := fun k => match k with
  | 0 => .array .int
  | 1 => .array .int
  | 2 => .array .int
  | 3 => .array .int
  | 4 => .array .int
  | _ => .int
abbrev wsX40 : List Cond := u_ws RX4 TX4 6
theorem nmX4 : ∀ a, a < 6 → ∀ b, b < 6 → a ≠ b → (TX4 a).2.1 ≠ (TX4 b).2.1 := by decide +kernel
theorem tyX4_ok : ∀ k, k < 6 → parseFieldDescriptor (TX4 k).2.2.1 = some (tyX4 k) := by decide +kernel
abbrev cX4_init : ByteArray := prog_6_method_1_code
def yX4_init : MethodName := ⟨RX4, "<init>", "()V"⟩
abbrev cX4_forget : ByteArray := prog_6_method_2_code
def yX4_forget : MethodName := ⟨RX4, "forget", "()V"⟩
abbrev cX4_size : ByteArray := prog_6_method_3_code
def yX4_size : MethodName := ⟨RX4, "size", "()I"⟩
abbrev cX4_has : ByteArray := prog_6_method_4_code
def yX4_has : MethodName := ⟨RX4, "has", "(I)Z"⟩
abbrev cX4_isFull : ByteArray := prog_6_method_5_code
def yX4_isFull : MethodName := ⟨RX4, "isFull", "()Z"⟩
abbrev cX4_add : ByteArray := prog_6_method_6_code
def yX4_add : MethodName := ⟨RX4, "add", "(III)I"⟩
abbrev cX4_addFace : ByteArray := prog_6_method_7_code
def yX4_addFace : MethodName := ⟨RX4, "addFace", "(II)I"⟩
abbrev cX4_findAbove : ByteArray := prog_6_method_8_code
def yX4_findAbove : MethodName := ⟨RX4, "findAbove", "(I)V"⟩
abbrev cX4_hasFace : ByteArray := prog_6_method_9_code
def yX4_hasFace : MethodName := ⟨RX4, "hasFace", "(II)Z"⟩
abbrev cX4_countFaces : ByteArray := prog_6_method_10_code
def yX4_countFaces : MethodName := ⟨RX4, "countFaces", "(I)I"⟩
abbrev cX4_isInterface : ByteArray := prog_6_method_11_code
def yX4_isInterface : MethodName := ⟨RX4, "isInterface", "(I)Z"⟩
abbrev cX4_isPlainClass : ByteArray := prog_6_method_12_code
def yX4_isPlainClass : MethodName := ⟨RX4, "isPlainClass", "(I)Z"⟩
abbrev cX4_parentOf : ByteArray := prog_6_method_13_code
def yX4_parentOf : MethodName := ⟨RX4, "parentOf", "(I)I"⟩
abbrev cX4_packetOf : ByteArray := prog_6_method_14_code
def yX4_packetOf : MethodName := ⟨RX4, "packetOf", "(I)I"⟩
abbrev cX4_allAbove : ByteArray := prog_6_method_15_code
def yX4_allAbove : MethodName := ⟨RX4, "allAbove", "(I)I"⟩
abbrev cX4_isBelow : ByteArray := prog_6_method_16_code
def yX4_isBelow : MethodName := ⟨RX4, "isBelow", "(II)Z"⟩
abbrev cX4_isSub : ByteArray := prog_6_method_17_code
def yX4_isSub : MethodName := ⟨RX4, "isSub", "(II)Z"⟩
def RX5 : String := "OverrideRules"
def TX5 : u_T := fun k => match k with
  | 0 => ("OverrideRules", "types", "LOverrideRules$Types;", true)
  | 1 => ("OverrideRules", "thrown", "LOverrideRules$Throws;", true)
  | 2 => ("OverrideRules", "members", "LOverrideRules$Members;", true)
  | 3 => ("OverrideRules", "choice", "LOverrideRules$Choice;", true)
  | _ => ("OverrideRules", "faults", "LOverrideRules$Faults;", true)
def tyX5 : Nat → FieldType := fun k => match k with
  | 0 => .object "OverrideRules$Types"
  | 1 => .object "OverrideRules$Throws"
  | 2 => .object "OverrideRules$Members"
  | 3 => .object "OverrideRules$Choice"
  | _ => .object "OverrideRules$Faults"
abbrev wsX50 : List Cond := u_ws RX5 TX5 5
theorem nmX5 : ∀ a, a < 5 → ∀ b, b < 5 → a ≠ b → (TX5 a).2.1 ≠ (TX5 b).2.1 := by decide +kernel
theorem tyX5_ok : ∀ k, k < 5 → parseFieldDescriptor (TX5 k).2.2.1 = some (tyX5 k) := by decide +kernel
abbrev cX5_init : ByteArray := prog_1_method_1_code
def yX5_init : MethodName := ⟨RX5, "<init>", "()V"⟩
abbrev cX5_clear : ByteArray := prog_1_method_2_code
def yX5_clear : MethodName := ⟨RX5, "clear", "()I"⟩
abbrev cX5_type : ByteArray := prog_1_method_3_code
def yX5_type : MethodName := ⟨RX5, "type", "(III)I"⟩
abbrev cX5_face : ByteArray := prog_1_method_4_code
def yX5_face : MethodName := ⟨RX5, "face", "(II)I"⟩
abbrev cX5_thrown0 : ByteArray := prog_1_method_5_code
def yX5_thrown0 : MethodName := ⟨RX5, "thrown0", "(IZ)I"⟩
abbrev cX5_member : ByteArray := prog_1_method_6_code
def yX5_member : MethodName := ⟨RX5, "member", "(IIII)I"⟩
abbrev cX5_throws0 : ByteArray := prog_1_method_7_code
def yX5_throws0 : MethodName := ⟨RX5, "throws0", "(II)I"⟩
abbrev cX5_overrides : ByteArray := prog_1_method_8_code
def yX5_overrides : MethodName := ⟨RX5, "overrides", "(II)I"⟩
abbrev cX5_hides : ByteArray := prog_1_method_9_code
def yX5_hides : MethodName := ⟨RX5, "hides", "(II)I"⟩
abbrev cX5_chosen : ByteArray := prog_1_method_10_code
def yX5_chosen : MethodName := ⟨RX5, "chosen", "(II)I"⟩
abbrev cX5_sub : ByteArray := prog_1_method_11_code
def yX5_sub : MethodName := ⟨RX5, "sub", "(II)I"⟩
abbrev cX5_check : ByteArray := prog_1_method_12_code
def yX5_check : MethodName := ⟨RX5, "check", "(I)I"⟩
abbrev cX5_fault : ByteArray := prog_1_method_13_code
def yX5_fault : MethodName := ⟨RX5, "fault", "(III)I"⟩
abbrev cX5_bridges : ByteArray := prog_1_method_14_code
def yX5_bridges : MethodName := ⟨RX5, "bridges", "(I)I"⟩
abbrev cX5_first : ByteArray := prog_1_method_15_code
def yX5_first : MethodName := ⟨RX5, "first", "(I)I"⟩
abbrev cX5_told : ByteArray := prog_1_method_16_code
def yX5_told : MethodName := ⟨RX5, "told", "(I)I"⟩
abbrev cX5_isMissingType : ByteArray := prog_1_method_17_code
def yX5_isMissingType : MethodName := ⟨RX5, "isMissingType", "(I)Z"⟩
abbrev cX5_areMarks : ByteArray := prog_1_method_18_code
def yX5_areMarks : MethodName := ⟨RX5, "areMarks", "(ZI)Z"⟩
abbrev cX5_areClassMarks : ByteArray := prog_1_method_19_code
def yX5_areClassMarks : MethodName := ⟨RX5, "areClassMarks", "(I)Z"⟩
abbrev cX5_areInterfaceMarks : ByteArray := prog_1_method_20_code
def yX5_areInterfaceMarks : MethodName := ⟨RX5, "areInterfaceMarks", "(I)Z"⟩
abbrev cX5_oneIf : ByteArray := prog_1_method_21_code
def yX5_oneIf : MethodName := ⟨RX5, "oneIf", "(Z)I"⟩
abbrev cX5_hasBit : ByteArray := prog_1_method_22_code
def yX5_hasBit : MethodName := ⟨RX5, "hasBit", "(II)Z"⟩
def RX6 : String := "OverrideRulesModel"
def TX6 : u_T := fun k => match k with
  | 0 => ("OverrideRulesModel", "types", "I", false)
  | 1 => ("OverrideRulesModel", "kind", "[I", true)
  | 2 => ("OverrideRulesModel", "packet", "[I", true)
  | 3 => ("OverrideRulesModel", "parent", "[I", true)
  | 4 => ("OverrideRulesModel", "faces", "[I", true)
  | 5 => ("OverrideRulesModel", "face", "[I", true)
  | 6 => ("OverrideRulesModel", "above", "[Z", true)
  | 7 => ("OverrideRulesModel", "throwsMany", "I", false)
  | 8 => ("OverrideRulesModel", "throwParent", "[I", true)
  | 9 => ("OverrideRulesModel", "checked", "[Z", true)
  | 10 => ("OverrideRulesModel", "members", "I", false)
  | 11 => ("OverrideRulesModel", "of", "[I", true)
  | 12 => ("OverrideRulesModel", "name", "[I", true)
  | 13 => ("OverrideRulesModel", "result", "[I", true)
  | 14 => ("OverrideRulesModel", "marks", "[I", true)
  | 15 => ("OverrideRulesModel", "thrownBy", "[I", true)
  | 16 => ("OverrideRulesModel", "over", "[Z", true)
  | 17 => ("OverrideRulesModel", "faults", "I", false)
  | 18 => ("OverrideRulesModel", "faultCode", "[I", true)
  | 19 => ("OverrideRulesModel", "faultOne", "[I", true)
  | _ => ("OverrideRulesModel", "faultOther", "[I", true)
def tyX6 : Nat → FieldType := fun k => match k with
  | 0 => .int
  | 1 => .array .int
  | 2 => .array .int
  | 3 => .array .int
  | 4 => .array .int
  | 5 => .array .int
  | 6 => .array .boolean
  | 7 => .int
  | 8 => .array .int
  | 9 => .array .boolean
  | 10 => .int
  | 11 => .array .int
  | 12 => .array .int
  | 13 => .array .int
  | 14 => .array .int
  | 15 => .array .int
  | 16 => .array .boolean
  | 17 => .int
  | 18 => .array .int
  | 19 => .array .int
  | _ => .array .int
abbrev wsX60 : List Cond := u_ws RX6 TX6 21
theorem nmX6 : ∀ a, a < 21 → ∀ b, b < 21 → a ≠ b → (TX6 a).2.1 ≠ (TX6 b).2.1 := by decide +kernel
theorem tyX6_ok : ∀ k, k < 21 → parseFieldDescriptor (TX6 k).2.2.1 = some (tyX6 k) := by decide +kernel
abbrev cX6_init : ByteArray := prog_8_method_1_code
def yX6_init : MethodName := ⟨RX6, "<init>", "()V"⟩
abbrev cX6_in : ByteArray := prog_8_method_2_code
def yX6_in : MethodName := ⟨RX6, "in", "(III)Z"⟩
abbrev cX6_isType : ByteArray := prog_8_method_3_code
def yX6_isType : MethodName := ⟨RX6, "isType", "(I)Z"⟩
abbrev cX6_isMember : ByteArray := prog_8_method_4_code
def yX6_isMember : MethodName := ⟨RX6, "isMember", "(I)Z"⟩
abbrev cX6_clear : ByteArray := prog_8_method_5_code
def yX6_clear : MethodName := ⟨RX6, "clear", "()I"⟩
abbrev cX6_rise : ByteArray := prog_8_method_6_code
def yX6_rise : MethodName := ⟨RX6, "rise", "()V"⟩
abbrev cX6_lift : ByteArray := prog_8_method_7_code
def yX6_lift : MethodName := ⟨RX6, "lift", "(II)V"⟩
abbrev cX6_type : ByteArray := prog_8_method_8_code
def yX6_type : MethodName := ⟨RX6, "type", "(III)I"⟩
abbrev cX6_face : ByteArray := prog_8_method_9_code
def yX6_face : MethodName := ⟨RX6, "face", "(II)I"⟩
abbrev cX6_isBelow : ByteArray := prog_8_method_10_code
def yX6_isBelow : MethodName := ⟨RX6, "isBelow", "(II)Z"⟩
abbrev cX6_isSub : ByteArray := prog_8_method_11_code
def yX6_isSub : MethodName := ⟨RX6, "isSub", "(II)Z"⟩
abbrev cX6_sub : ByteArray := prog_8_method_12_code
def yX6_sub : MethodName := ⟨RX6, "sub", "(II)I"⟩
abbrev cX6_thrown0 : ByteArray := prog_8_method_13_code
def yX6_thrown0 : MethodName := ⟨RX6, "thrown0", "(IZ)I"⟩
abbrev cX6_throws0 : ByteArray := prog_8_method_14_code
def yX6_throws0 : MethodName := ⟨RX6, "throws0", "(II)I"⟩
abbrev cX6_throwsMore : ByteArray := prog_8_method_15_code
def yX6_throwsMore : MethodName := ⟨RX6, "throwsMore", "(II)Z"⟩
abbrev cX6_has : ByteArray := prog_8_method_16_code
def yX6_has : MethodName := ⟨RX6, "has", "(II)Z"⟩
abbrev cX6_isStatic : ByteArray := prog_8_method_17_code
def yX6_isStatic : MethodName := ⟨RX6, "isStatic", "(I)Z"⟩
abbrev cX6_isPrivate : ByteArray := prog_8_method_18_code
def yX6_isPrivate : MethodName := ⟨RX6, "isPrivate", "(I)Z"⟩
abbrev cX6_isInterface : ByteArray := prog_8_method_19_code
def yX6_isInterface : MethodName := ⟨RX6, "isInterface", "(I)Z"⟩
abbrev cX6_one : ByteArray := prog_8_method_20_code
def yX6_one : MethodName := ⟨RX6, "one", "(II)I"⟩
abbrev cX6_mayBe : ByteArray := prog_8_method_21_code
def yX6_mayBe : MethodName := ⟨RX6, "mayBe", "(II)Z"⟩
abbrev cX6_member : ByteArray := prog_8_method_22_code
def yX6_member : MethodName := ⟨RX6, "member", "(IIII)I"⟩
abbrev cX6_access : ByteArray := prog_8_method_23_code
def yX6_access : MethodName := ⟨RX6, "access", "(I)I"⟩
abbrev cX6_suits : ByteArray := prog_8_method_24_code
def yX6_suits : MethodName := ⟨RX6, "suits", "(II)Z"⟩
abbrev cX6_isSeen : ByteArray := prog_8_method_25_code
def yX6_isSeen : MethodName := ⟨RX6, "isSeen", "(II)Z"⟩
abbrev cX6_work : ByteArray := prog_8_method_26_code
def yX6_work : MethodName := ⟨RX6, "work", "()V"⟩
abbrev cX6_goesOver : ByteArray := prog_8_method_27_code
def yX6_goesOver : MethodName := ⟨RX6, "goesOver", "(II)Z"⟩
abbrev cX6_isOver : ByteArray := prog_8_method_28_code
def yX6_isOver : MethodName := ⟨RX6, "isOver", "(II)Z"⟩
abbrev cX6_hidesIt : ByteArray := prog_8_method_29_code
def yX6_hidesIt : MethodName := ⟨RX6, "hidesIt", "(II)Z"⟩
abbrev cX6_isMixed : ByteArray := prog_8_method_30_code
def yX6_isMixed : MethodName := ⟨RX6, "isMixed", "(II)Z"⟩
abbrev cX6_overrides : ByteArray := prog_8_method_31_code
def yX6_overrides : MethodName := ⟨RX6, "overrides", "(II)I"⟩
abbrev cX6_hides : ByteArray := prog_8_method_32_code
def yX6_hides : MethodName := ⟨RX6, "hides", "(II)I"⟩
abbrev cX6_isPlain : ByteArray := prog_8_method_33_code
def yX6_isPlain : MethodName := ⟨RX6, "isPlain", "(I)Z"⟩
abbrev cX6_isLast : ByteArray := prog_8_method_34_code
def yX6_isLast : MethodName := ⟨RX6, "isLast", "(II)Z"⟩
abbrev cX6_choose : ByteArray := prog_8_method_35_code
def yX6_choose : MethodName := ⟨RX6, "choose", "(II)I"⟩
abbrev cX6_chosen : ByteArray := prog_8_method_36_code
def yX6_chosen : MethodName := ⟨RX6, "chosen", "(II)I"⟩
abbrev cX6_note : ByteArray := prog_8_method_37_code
def yX6_note : MethodName := ⟨RX6, "note", "(III)V"⟩
abbrev cX6_three : ByteArray := prog_8_method_38_code
def yX6_three : MethodName := ⟨RX6, "three", "(II)V"⟩
abbrev cX6_judge : ByteArray := prog_8_method_39_code
def yX6_judge : MethodName := ⟨RX6, "judge", "(I)V"⟩
abbrev cX6_inherited : ByteArray := prog_8_method_40_code
def yX6_inherited : MethodName := ⟨RX6, "inherited", "(II)V"⟩
abbrev cX6_check : ByteArray := prog_8_method_41_code
def yX6_check : MethodName := ⟨RX6, "check", "(I)I"⟩
abbrev cX6_fault : ByteArray := prog_8_method_42_code
def yX6_fault : MethodName := ⟨RX6, "fault", "(III)I"⟩
abbrev cX6_bridges : ByteArray := prog_8_method_43_code
def yX6_bridges : MethodName := ⟨RX6, "bridges", "(I)I"⟩
abbrev cX6_first : ByteArray := prog_8_method_44_code
def yX6_first : MethodName := ⟨RX6, "first", "(I)I"⟩
abbrev cX6_told : ByteArray := prog_8_method_45_code
def yX6_told : MethodName := ⟨RX6, "told", "(I)I"⟩
def RJ6 : String := "java/lang/Integer"
def TJ6 : u_T := fun k => match k with
  | _ => ("", "", "", false)
def tyJ6 : Nat → FieldType := fun k => match k with
  | _ => .int
abbrev wsJ60 : List Cond := u_ws RJ6 TJ6 0
theorem nmJ6 : ∀ a, a < 0 → ∀ b, b < 0 → a ≠ b → (TJ6 a).2.1 ≠ (TJ6 b).2.1 := by decide +kernel
theorem tyJ6_ok : ∀ k, k < 0 → parseFieldDescriptor (TJ6 k).2.2.1 = some (tyJ6 k) := by decide +kernel
abbrev cJ6_bitCount_0f7a4 : ByteArray := prog_9_method_49_code
def yJ6_bitCount_0f7a4 : MethodName := ⟨RJ6, "bitCount", "(I)I"⟩
def RJ9 : String := "java/lang/Math"
def TJ9 : u_T := fun k => match k with
  | _ => ("", "", "", false)
def tyJ9 : Nat → FieldType := fun k => match k with
  | _ => .int
abbrev wsJ90 : List Cond := u_ws RJ9 TJ9 0
theorem nmJ9 : ∀ a, a < 0 → ∀ b, b < 0 → a ≠ b → (TJ9 a).2.1 ≠ (TJ9 b).2.1 := by decide +kernel
theorem tyJ9_ok : ∀ k, k < 0 → parseFieldDescriptor (TJ9 k).2.2.1 = some (tyJ9 k) := by decide +kernel
abbrev cJ9_min_7cf53 : ByteArray := prog_10_method_69_code
def yJ9_min_7cf53 : MethodName := ⟨RJ9, "min", "(II)I"⟩
def RL : String := "OverrideRulesLaw"
abbrev cL_law : ByteArray := code
def yL_law : MethodName := ⟨RL, "law", "([I)Z"⟩
abbrev vwCl : List vw_C := [(RX0, TX0, 2), (RX1, TX1, 9), (RX2, TX2, 8), (RX3, TX3, 3), (RX4, TX4, 6), (RX5, TX5, 5), (RX6, TX6, 21)]
end
section
theorem dX4_init_0 : decode cX4_init 0 = .ok (.aload_n 0, 1) := by decide +kernel
theorem dX4_init_1 : decode cX4_init 1 = .ok (.invokespecial 3, 3) := by decide +kernel
theorem dX4_init_4 : decode cX4_init 4 = .ok (.aload_n 0, 1) := by decide +kernel
theorem dX4_init_5 : decode cX4_init 5 = .ok (.bipush 16, 2) := by decide +kernel
theorem dX4_init_7 : decode cX4_init 7 = .ok (.newarray .int, 2) := by decide +kernel
theorem dX4_init_9 : decode cX4_init 9 = .ok (.putfield 9, 3) := by decide +kernel
theorem dX4_init_12 : decode cX4_init 12 = .ok (.aload_n 0, 1) := by decide +kernel
theorem dX4_init_13 : decode cX4_init 13 = .ok (.bipush 16, 2) := by decide +kernel
theorem dX4_init_15 : decode cX4_init 15 = .ok (.newarray .int, 2) := by decide +kernel
theorem dX4_init_17 : decode cX4_init 17 = .ok (.putfield 15, 3) := by decide +kernel
theorem dX4_init_20 : decode cX4_init 20 = .ok (.aload_n 0, 1) := by decide +kernel
theorem dX4_init_21 : decode cX4_init 21 = .ok (.bipush 16, 2) := by decide +kernel
theorem dX4_init_23 : decode cX4_init 23 = .ok (.newarray .int, 2) := by decide +kernel
theorem dX4_init_25 : decode cX4_init 25 = .ok (.putfield 18, 3) := by decide +kernel
theorem dX4_init_28 : decode cX4_init 28 = .ok (.aload_n 0, 1) := by decide +kernel
theorem dX4_init_29 : decode cX4_init 29 = .ok (.bipush 16, 2) := by decide +kernel
theorem dX4_init_31 : decode cX4_init 31 = .ok (.newarray .int, 2) := by decide +kernel
theorem dX4_init_33 : decode cX4_init 33 = .ok (.putfield 21, 3) := by decide +kernel
theorem dX4_init_36 : decode cX4_init 36 = .ok (.aload_n 0, 1) := by decide +kernel
theorem dX4_init_37 : decode cX4_init 37 = .ok (.bipush 16, 2) := by decide +kernel
theorem dX4_init_39 : decode cX4_init 39 = .ok (.newarray .int, 2) := by decide +kernel
theorem dX4_init_41 : decode cX4_init 41 = .ok (.putfield 24, 3) := by decide +kernel
theorem dX4_init_44 : decode cX4_init 44 = .ok (.aload_n 0, 1) := by decide +kernel
theorem dX4_init_45 : decode cX4_init 45 = .ok (.iconst 0, 1) := by decide +kernel
theorem dX4_init_46 : decode cX4_init 46 = .ok (.putfield 27, 3) := by decide +kernel
theorem dX4_init_49 : decode cX4_init 49 = .ok (.return_, 1) := by decide +kernel
theorem dX4_forget_0 : decode cX4_forget 0 = .ok (.aload_n 0, 1) := by decide +kernel
theorem dX4_forget_1 : decode cX4_forget 1 = .ok (.iconst 0, 1) := by decide +kernel
theorem dX4_forget_2 : decode cX4_forget 2 = .ok (.putfield 27, 3) := by decide +kernel
theorem dX4_forget_5 : decode cX4_forget 5 = .ok (.return_, 1) := by decide +kernel
theorem dX4_size_0 : decode cX4_size 0 = .ok (.aload_n 0, 1) := by decide +kernel
theorem dX4_size_1 : decode cX4_size 1 = .ok (.getfield 27, 3) := by decide +kernel
theorem dX4_size_4 : decode cX4_size 4 = .ok (.ireturn, 1) := by decide +kernel
theorem dX4_has_0 : decode cX4_has 0 = .ok (.iload_n 1, 1) := by decide +kernel
theorem dX4_has_1 : decode cX4_has 1 = .ok (.ifCond .lt 15, 3) := by decide +kernel
theorem dX4_has_4 : decode cX4_has 4 = .ok (.iload_n 1, 1) := by decide +kernel
theorem dX4_has_5 : decode cX4_has 5 = .ok (.aload_n 0, 1) := by decide +kernel
theorem dX4_has_6 : decode cX4_has 6 = .ok (.getfield 27, 3) := by decide +kernel
theorem dX4_has_9 : decode cX4_has 9 = .ok (.if_icmp .ge 7, 3) := by decide +kernel
theorem dX4_has_12 : decode cX4_has 12 = .ok (.iconst 1, 1) := by decide +kernel
theorem dX4_has_13 : decode cX4_has 13 = .ok (.goto 4, 3) := by decide +kernel
theorem dX4_has_16 : decode cX4_has 16 = .ok (.iconst 0, 1) := by decide +kernel
theorem dX4_has_17 : decode cX4_has 17 = .ok (.ireturn, 1) := by decide +kernel
theorem dX4_isFull_0 : decode cX4_isFull 0 = .ok (.aload_n 0, 1) := by decide +kernel
theorem dX4_isFull_1 : decode cX4_isFull 1 = .ok (.getfield 27, 3) := by decide +kernel
theorem dX4_isFull_4 : decode cX4_isFull 4 = .ok (.bipush 16, 2) := by decide +kernel
theorem dX4_isFull_6 : decode cX4_isFull 6 = .ok (.if_icmp .lt 7, 3) := by decide +kernel
theorem dX4_isFull_9 : decode cX4_isFull 9 = .ok (.iconst 1, 1) := by decide +kernel
theorem dX4_isFull_10 : decode cX4_isFull 10 = .ok (.goto 4, 3) := by decide +kernel
theorem dX4_isFull_13 : decode cX4_isFull 13 = .ok (.iconst 0, 1) := by decide +kernel
theorem dX4_isFull_14 : decode cX4_isFull 14 = .ok (.ireturn, 1) := by decide +kernel
theorem dX4_add_0 : decode cX4_add 0 = .ok (.aload_n 0, 1) := by decide +kernel
theorem dX4_add_1 : decode cX4_add 1 = .ok (.getfield 27, 3) := by decide +kernel
theorem dX4_add_4 : decode cX4_add 4 = .ok (.istore 4, 2) := by decide +kernel
theorem dX4_add_6 : decode cX4_add 6 = .ok (.aload_n 0, 1) := by decide +kernel
theorem dX4_add_7 : decode cX4_add 7 = .ok (.getfield 9, 3) := by decide +kernel
theorem dX4_add_10 : decode cX4_add 10 = .ok (.iload 4, 2) := by decide +kernel
theorem dX4_add_12 : decode cX4_add 12 = .ok (.iload_n 1, 1) := by decide +kernel
theorem dX4_add_13 : decode cX4_add 13 = .ok (.iastore, 1) := by decide +kernel
theorem dX4_add_14 : decode cX4_add 14 = .ok (.aload_n 0, 1) := by decide +kernel
theorem dX4_add_15 : decode cX4_add 15 = .ok (.getfield 15, 3) := by decide +kernel
theorem dX4_add_18 : decode cX4_add 18 = .ok (.iload 4, 2) := by decide +kernel
theorem dX4_add_20 : decode cX4_add 20 = .ok (.iload_n 2, 1) := by decide +kernel
theorem dX4_add_21 : decode cX4_add 21 = .ok (.iastore, 1) := by decide +kernel
theorem dX4_add_22 : decode cX4_add 22 = .ok (.aload_n 0, 1) := by decide +kernel
theorem dX4_add_23 : decode cX4_add 23 = .ok (.getfield 18, 3) := by decide +kernel
theorem dX4_add_26 : decode cX4_add 26 = .ok (.iload 4, 2) := by decide +kernel
theorem dX4_add_28 : decode cX4_add 28 = .ok (.iload_n 3, 1) := by decide +kernel
theorem dX4_add_29 : decode cX4_add 29 = .ok (.iastore, 1) := by decide +kernel
theorem dX4_add_30 : decode cX4_add 30 = .ok (.aload_n 0, 1) := by decide +kernel
theorem dX4_add_31 : decode cX4_add 31 = .ok (.getfield 21, 3) := by decide +kernel
theorem dX4_add_34 : decode cX4_add 34 = .ok (.iload 4, 2) := by decide +kernel
theorem dX4_add_36 : decode cX4_add 36 = .ok (.iconst 0, 1) := by decide +kernel
theorem dX4_add_37 : decode cX4_add 37 = .ok (.iastore, 1) := by decide +kernel
theorem dX4_add_38 : decode cX4_add 38 = .ok (.aload_n 0, 1) := by decide +kernel
theorem dX4_add_39 : decode cX4_add 39 = .ok (.dup, 1) := by decide +kernel
theorem dX4_add_40 : decode cX4_add 40 = .ok (.getfield 27, 3) := by decide +kernel
theorem dX4_add_43 : decode cX4_add 43 = .ok (.iconst 1, 1) := by decide +kernel
theorem dX4_add_44 : decode cX4_add 44 = .ok (.iadd, 1) := by decide +kernel
theorem dX4_add_45 : decode cX4_add 45 = .ok (.putfield 27, 3) := by decide +kernel
theorem dX4_add_48 : decode cX4_add 48 = .ok (.aload_n 0, 1) := by decide +kernel
theorem dX4_add_49 : decode cX4_add 49 = .ok (.iload 4, 2) := by decide +kernel
theorem dX4_add_51 : decode cX4_add 51 = .ok (.invokevirtual 31, 3) := by decide +kernel
theorem dX4_add_54 : decode cX4_add 54 = .ok (.iload 4, 2) := by decide +kernel
theorem dX4_add_56 : decode cX4_add 56 = .ok (.ireturn, 1) := by decide +kernel
theorem dX4_addFace_0 : decode cX4_addFace 0 = .ok (.aload_n 0, 1) := by decide +kernel
theorem dX4_addFace_1 : decode cX4_addFace 1 = .ok (.getfield 21, 3) := by decide +kernel
theorem dX4_addFace_4 : decode cX4_addFace 4 = .ok (.iload_n 1, 1) := by decide +kernel
theorem dX4_addFace_5 : decode cX4_addFace 5 = .ok (.dup2, 1) := by decide +kernel
theorem dX4_addFace_6 : decode cX4_addFace 6 = .ok (.iaload, 1) := by decide +kernel
theorem dX4_addFace_7 : decode cX4_addFace 7 = .ok (.iconst 1, 1) := by decide +kernel
theorem dX4_addFace_8 : decode cX4_addFace 8 = .ok (.iload_n 2, 1) := by decide +kernel
theorem dX4_addFace_9 : decode cX4_addFace 9 = .ok (.ishl, 1) := by decide +kernel
theorem dX4_addFace_10 : decode cX4_addFace 10 = .ok (.ior, 1) := by decide +kernel
theorem dX4_addFace_11 : decode cX4_addFace 11 = .ok (.iastore, 1) := by decide +kernel
theorem dX4_addFace_12 : decode cX4_addFace 12 = .ok (.iload_n 1, 1) := by decide +kernel
theorem dX4_addFace_13 : decode cX4_addFace 13 = .ok (.istore_n 3, 1) := by decide +kernel
theorem dX4_addFace_14 : decode cX4_addFace 14 = .ok (.iload_n 3, 1) := by decide +kernel
theorem dX4_addFace_15 : decode cX4_addFace 15 = .ok (.aload_n 0, 1) := by decide +kernel
theorem dX4_addFace_16 : decode cX4_addFace 16 = .ok (.getfield 27, 3) := by decide +kernel
theorem dX4_addFace_19 : decode cX4_addFace 19 = .ok (.if_icmp .ge 14, 3) := by decide +kernel
theorem dX4_addFace_22 : decode cX4_addFace 22 = .ok (.aload_n 0, 1) := by decide +kernel
theorem dX4_addFace_23 : decode cX4_addFace 23 = .ok (.iload_n 3, 1) := by decide +kernel
theorem dX4_addFace_24 : decode cX4_addFace 24 = .ok (.invokevirtual 31, 3) := by decide +kernel
theorem dX4_addFace_27 : decode cX4_addFace 27 = .ok (.iinc 3 1, 3) := by decide +kernel
theorem dX4_addFace_30 : decode cX4_addFace 30 = .ok (.goto (-16), 3) := by decide +kernel
theorem dX4_addFace_33 : decode cX4_addFace 33 = .ok (.aload_n 0, 1) := by decide +kernel
theorem dX4_addFace_34 : decode cX4_addFace 34 = .ok (.iload_n 1, 1) := by decide +kernel
theorem dX4_addFace_35 : decode cX4_addFace 35 = .ok (.invokevirtual 35, 3) := by decide +kernel
theorem dX4_addFace_38 : decode cX4_addFace 38 = .ok (.ireturn, 1) := by decide +kernel
theorem dX4_findAbove_0 : decode cX4_findAbove 0 = .ok (.aload_n 0, 1) := by decide +kernel
theorem dX4_findAbove_1 : decode cX4_findAbove 1 = .ok (.getfield 18, 3) := by decide +kernel
theorem dX4_findAbove_4 : decode cX4_findAbove 4 = .ok (.iload_n 1, 1) := by decide +kernel
theorem dX4_findAbove_5 : decode cX4_findAbove 5 = .ok (.iaload, 1) := by decide +kernel
theorem dX4_findAbove_6 : decode cX4_findAbove 6 = .ok (.istore_n 2, 1) := by decide +kernel
theorem dX4_findAbove_7 : decode cX4_findAbove 7 = .ok (.aload_n 0, 1) := by decide +kernel
theorem dX4_findAbove_8 : decode cX4_findAbove 8 = .ok (.getfield 21, 3) := by decide +kernel
theorem dX4_findAbove_11 : decode cX4_findAbove 11 = .ok (.iload_n 1, 1) := by decide +kernel
theorem dX4_findAbove_12 : decode cX4_findAbove 12 = .ok (.iaload, 1) := by decide +kernel
theorem dX4_findAbove_13 : decode cX4_findAbove 13 = .ok (.istore_n 3, 1) := by decide +kernel
theorem dX4_findAbove_14 : decode cX4_findAbove 14 = .ok (.iload_n 2, 1) := by decide +kernel
theorem dX4_findAbove_15 : decode cX4_findAbove 15 = .ok (.iconst (-1), 1) := by decide +kernel
theorem dX4_findAbove_16 : decode cX4_findAbove 16 = .ok (.if_icmp .eq 16, 3) := by decide +kernel
theorem dX4_findAbove_19 : decode cX4_findAbove 19 = .ok (.iload_n 3, 1) := by decide +kernel
theorem dX4_findAbove_20 : decode cX4_findAbove 20 = .ok (.iconst 1, 1) := by decide +kernel
theorem dX4_findAbove_21 : decode cX4_findAbove 21 = .ok (.iload_n 2, 1) := by decide +kernel
theorem dX4_findAbove_22 : decode cX4_findAbove 22 = .ok (.ishl, 1) := by decide +kernel
theorem dX4_findAbove_23 : decode cX4_findAbove 23 = .ok (.aload_n 0, 1) := by decide +kernel
theorem dX4_findAbove_24 : decode cX4_findAbove 24 = .ok (.getfield 24, 3) := by decide +kernel
theorem dX4_findAbove_27 : decode cX4_findAbove 27 = .ok (.iload_n 2, 1) := by decide +kernel
theorem dX4_findAbove_28 : decode cX4_findAbove 28 = .ok (.iaload, 1) := by decide +kernel
theorem dX4_findAbove_29 : decode cX4_findAbove 29 = .ok (.ior, 1) := by decide +kernel
theorem dX4_findAbove_30 : decode cX4_findAbove 30 = .ok (.ior, 1) := by decide +kernel
theorem dX4_findAbove_31 : decode cX4_findAbove 31 = .ok (.istore_n 3, 1) := by decide +kernel
theorem dX4_findAbove_32 : decode cX4_findAbove 32 = .ok (.iconst 0, 1) := by decide +kernel
theorem dX4_findAbove_33 : decode cX4_findAbove 33 = .ok (.istore 4, 2) := by decide +kernel
theorem dX4_findAbove_35 : decode cX4_findAbove 35 = .ok (.iload 4, 2) := by decide +kernel
theorem dX4_findAbove_37 : decode cX4_findAbove 37 = .ok (.iload_n 1, 1) := by decide +kernel
theorem dX4_findAbove_38 : decode cX4_findAbove 38 = .ok (.if_icmp .ge 33, 3) := by decide +kernel
theorem dX4_findAbove_41 : decode cX4_findAbove 41 = .ok (.aload_n 0, 1) := by decide +kernel
theorem dX4_findAbove_42 : decode cX4_findAbove 42 = .ok (.getfield 21, 3) := by decide +kernel
theorem dX4_findAbove_45 : decode cX4_findAbove 45 = .ok (.iload_n 1, 1) := by decide +kernel
theorem dX4_findAbove_46 : decode cX4_findAbove 46 = .ok (.iaload, 1) := by decide +kernel
theorem dX4_findAbove_47 : decode cX4_findAbove 47 = .ok (.iload 4, 2) := by decide +kernel
theorem dX4_findAbove_49 : decode cX4_findAbove 49 = .ok (.invokestatic 39, 3) := by decide +kernel
theorem dX4_findAbove_52 : decode cX4_findAbove 52 = .ok (.ifCond .eq 13, 3) := by decide +kernel
theorem dX4_findAbove_55 : decode cX4_findAbove 55 = .ok (.iload_n 3, 1) := by decide +kernel
theorem dX4_findAbove_56 : decode cX4_findAbove 56 = .ok (.aload_n 0, 1) := by decide +kernel
theorem dX4_findAbove_57 : decode cX4_findAbove 57 = .ok (.getfield 24, 3) := by decide +kernel
theorem dX4_findAbove_60 : decode cX4_findAbove 60 = .ok (.iload 4, 2) := by decide +kernel
theorem dX4_findAbove_62 : decode cX4_findAbove 62 = .ok (.iaload, 1) := by decide +kernel
theorem dX4_findAbove_63 : decode cX4_findAbove 63 = .ok (.ior, 1) := by decide +kernel
theorem dX4_findAbove_64 : decode cX4_findAbove 64 = .ok (.istore_n 3, 1) := by decide +kernel
theorem dX4_findAbove_65 : decode cX4_findAbove 65 = .ok (.iinc 4 1, 3) := by decide +kernel
theorem dX4_findAbove_68 : decode cX4_findAbove 68 = .ok (.goto (-33), 3) := by decide +kernel
theorem dX4_findAbove_71 : decode cX4_findAbove 71 = .ok (.aload_n 0, 1) := by decide +kernel
theorem dX4_findAbove_72 : decode cX4_findAbove 72 = .ok (.getfield 24, 3) := by decide +kernel
theorem dX4_findAbove_75 : decode cX4_findAbove 75 = .ok (.iload_n 1, 1) := by decide +kernel
theorem dX4_findAbove_76 : decode cX4_findAbove 76 = .ok (.iload_n 3, 1) := by decide +kernel
theorem dX4_findAbove_77 : decode cX4_findAbove 77 = .ok (.iastore, 1) := by decide +kernel
theorem dX4_findAbove_78 : decode cX4_findAbove 78 = .ok (.return_, 1) := by decide +kernel
theorem dX4_hasFace_0 : decode cX4_hasFace 0 = .ok (.aload_n 0, 1) := by decide +kernel
theorem dX4_hasFace_1 : decode cX4_hasFace 1 = .ok (.getfield 21, 3) := by decide +kernel
theorem dX4_hasFace_4 : decode cX4_hasFace 4 = .ok (.iload_n 1, 1) := by decide +kernel
theorem dX4_hasFace_5 : decode cX4_hasFace 5 = .ok (.iaload, 1) := by decide +kernel
theorem dX4_hasFace_6 : decode cX4_hasFace 6 = .ok (.iload_n 2, 1) := by decide +kernel
theorem dX4_hasFace_7 : decode cX4_hasFace 7 = .ok (.invokestatic 39, 3) := by decide +kernel
theorem dX4_hasFace_10 : decode cX4_hasFace 10 = .ok (.ireturn, 1) := by decide +kernel
theorem dX4_countFaces_0 : decode cX4_countFaces 0 = .ok (.aload_n 0, 1) := by decide +kernel
theorem dX4_countFaces_1 : decode cX4_countFaces 1 = .ok (.getfield 21, 3) := by decide +kernel
theorem dX4_countFaces_4 : decode cX4_countFaces 4 = .ok (.iload_n 1, 1) := by decide +kernel
theorem dX4_countFaces_5 : decode cX4_countFaces 5 = .ok (.iaload, 1) := by decide +kernel
theorem dX4_countFaces_6 : decode cX4_countFaces 6 = .ok (.invokestatic 43, 3) := by decide +kernel
theorem dX4_countFaces_9 : decode cX4_countFaces 9 = .ok (.ireturn, 1) := by decide +kernel
theorem dX4_isInterface_0 : decode cX4_isInterface 0 = .ok (.aload_n 0, 1) := by decide +kernel
theorem dX4_isInterface_1 : decode cX4_isInterface 1 = .ok (.getfield 9, 3) := by decide +kernel
theorem dX4_isInterface_4 : decode cX4_isInterface 4 = .ok (.iload_n 1, 1) := by decide +kernel
theorem dX4_isInterface_5 : decode cX4_isInterface 5 = .ok (.iaload, 1) := by decide +kernel
theorem dX4_isInterface_6 : decode cX4_isInterface 6 = .ok (.iconst 2, 1) := by decide +kernel
theorem dX4_isInterface_7 : decode cX4_isInterface 7 = .ok (.if_icmp .ne 7, 3) := by decide +kernel
theorem dX4_isInterface_10 : decode cX4_isInterface 10 = .ok (.iconst 1, 1) := by decide +kernel
theorem dX4_isInterface_11 : decode cX4_isInterface 11 = .ok (.goto 4, 3) := by decide +kernel
theorem dX4_isInterface_14 : decode cX4_isInterface 14 = .ok (.iconst 0, 1) := by decide +kernel
theorem dX4_isInterface_15 : decode cX4_isInterface 15 = .ok (.ireturn, 1) := by decide +kernel
theorem dX4_isPlainClass_0 : decode cX4_isPlainClass 0 = .ok (.aload_n 0, 1) := by decide +kernel
theorem dX4_isPlainClass_1 : decode cX4_isPlainClass 1 = .ok (.getfield 9, 3) := by decide +kernel
theorem dX4_isPlainClass_4 : decode cX4_isPlainClass 4 = .ok (.iload_n 1, 1) := by decide +kernel
theorem dX4_isPlainClass_5 : decode cX4_isPlainClass 5 = .ok (.iaload, 1) := by decide +kernel
theorem dX4_isPlainClass_6 : decode cX4_isPlainClass 6 = .ok (.ifCond .ne 7, 3) := by decide +kernel
theorem dX4_isPlainClass_9 : decode cX4_isPlainClass 9 = .ok (.iconst 1, 1) := by decide +kernel
theorem dX4_isPlainClass_10 : decode cX4_isPlainClass 10 = .ok (.goto 4, 3) := by decide +kernel
theorem dX4_isPlainClass_13 : decode cX4_isPlainClass 13 = .ok (.iconst 0, 1) := by decide +kernel
theorem dX4_isPlainClass_14 : decode cX4_isPlainClass 14 = .ok (.ireturn, 1) := by decide +kernel
theorem dX4_parentOf_0 : decode cX4_parentOf 0 = .ok (.aload_n 0, 1) := by decide +kernel
theorem dX4_parentOf_1 : decode cX4_parentOf 1 = .ok (.getfield 18, 3) := by decide +kernel
theorem dX4_parentOf_4 : decode cX4_parentOf 4 = .ok (.iload_n 1, 1) := by decide +kernel
theorem dX4_parentOf_5 : decode cX4_parentOf 5 = .ok (.iaload, 1) := by decide +kernel
theorem dX4_parentOf_6 : decode cX4_parentOf 6 = .ok (.ireturn, 1) := by decide +kernel
theorem dX4_packetOf_0 : decode cX4_packetOf 0 = .ok (.aload_n 0, 1) := by decide +kernel
theorem dX4_packetOf_1 : decode cX4_packetOf 1 = .ok (.getfield 15, 3) := by decide +kernel
theorem dX4_packetOf_4 : decode cX4_packetOf 4 = .ok (.iload_n 1, 1) := by decide +kernel
theorem dX4_packetOf_5 : decode cX4_packetOf 5 = .ok (.iaload, 1) := by decide +kernel
theorem dX4_packetOf_6 : decode cX4_packetOf 6 = .ok (.ireturn, 1) := by decide +kernel
theorem dX4_allAbove_0 : decode cX4_allAbove 0 = .ok (.aload_n 0, 1) := by decide +kernel
theorem dX4_allAbove_1 : decode cX4_allAbove 1 = .ok (.getfield 24, 3) := by decide +kernel
theorem dX4_allAbove_4 : decode cX4_allAbove 4 = .ok (.iload_n 1, 1) := by decide +kernel
theorem dX4_allAbove_5 : decode cX4_allAbove 5 = .ok (.iaload, 1) := by decide +kernel
theorem dX4_allAbove_6 : decode cX4_allAbove 6 = .ok (.ireturn, 1) := by decide +kernel
theorem dX4_isBelow_0 : decode cX4_isBelow 0 = .ok (.aload_n 0, 1) := by decide +kernel
theorem dX4_isBelow_1 : decode cX4_isBelow 1 = .ok (.getfield 24, 3) := by decide +kernel
theorem dX4_isBelow_4 : decode cX4_isBelow 4 = .ok (.iload_n 1, 1) := by decide +kernel
theorem dX4_isBelow_5 : decode cX4_isBelow 5 = .ok (.iaload, 1) := by decide +kernel
theorem dX4_isBelow_6 : decode cX4_isBelow 6 = .ok (.iload_n 2, 1) := by decide +kernel
theorem dX4_isBelow_7 : decode cX4_isBelow 7 = .ok (.ishr, 1) := by decide +kernel
theorem dX4_isBelow_8 : decode cX4_isBelow 8 = .ok (.iconst 1, 1) := by decide +kernel
theorem dX4_isBelow_9 : decode cX4_isBelow 9 = .ok (.iand, 1) := by decide +kernel
theorem dX4_isBelow_10 : decode cX4_isBelow 10 = .ok (.ifCond .eq 7, 3) := by decide +kernel
theorem dX4_isBelow_13 : decode cX4_isBelow 13 = .ok (.iconst 1, 1) := by decide +kernel
theorem dX4_isBelow_14 : decode cX4_isBelow 14 = .ok (.goto 4, 3) := by decide +kernel
theorem dX4_isBelow_17 : decode cX4_isBelow 17 = .ok (.iconst 0, 1) := by decide +kernel
theorem dX4_isBelow_18 : decode cX4_isBelow 18 = .ok (.ireturn, 1) := by decide +kernel
theorem dX4_isSub_0 : decode cX4_isSub 0 = .ok (.iload_n 1, 1) := by decide +kernel
theorem dX4_isSub_1 : decode cX4_isSub 1 = .ok (.iload_n 2, 1) := by decide +kernel
theorem dX4_isSub_2 : decode cX4_isSub 2 = .ok (.if_icmp .eq 16, 3) := by decide +kernel
theorem dX4_isSub_5 : decode cX4_isSub 5 = .ok (.aload_n 0, 1) := by decide +kernel
theorem dX4_isSub_6 : decode cX4_isSub 6 = .ok (.getfield 24, 3) := by decide +kernel
theorem dX4_isSub_9 : decode cX4_isSub 9 = .ok (.iload_n 1, 1) := by decide +kernel
theorem dX4_isSub_10 : decode cX4_isSub 10 = .ok (.iaload, 1) := by decide +kernel
theorem dX4_isSub_11 : decode cX4_isSub 11 = .ok (.iload_n 2, 1) := by decide +kernel
theorem dX4_isSub_12 : decode cX4_isSub 12 = .ok (.ishr, 1) := by decide +kernel
theorem dX4_isSub_13 : decode cX4_isSub 13 = .ok (.iconst 1, 1) := by decide +kernel
theorem dX4_isSub_14 : decode cX4_isSub 14 = .ok (.iand, 1) := by decide +kernel
theorem dX4_isSub_15 : decode cX4_isSub 15 = .ok (.ifCond .eq 7, 3) := by decide +kernel
theorem dX4_isSub_18 : decode cX4_isSub 18 = .ok (.iconst 1, 1) := by decide +kernel
theorem dX4_isSub_19 : decode cX4_isSub 19 = .ok (.goto 4, 3) := by decide +kernel
theorem dX4_isSub_22 : decode cX4_isSub 22 = .ok (.iconst 0, 1) := by decide +kernel
theorem dX4_isSub_23 : decode cX4_isSub 23 = .ok (.ireturn, 1) := by decide +kernel
theorem dX3_init_0 : decode cX3_init 0 = .ok (.aload_n 0, 1) := by decide +kernel
theorem dX3_init_1 : decode cX3_init 1 = .ok (.invokespecial 3, 3) := by decide +kernel
theorem dX3_init_4 : decode cX3_init 4 = .ok (.aload_n 0, 1) := by decide +kernel
theorem dX3_init_5 : decode cX3_init 5 = .ok (.bipush 8, 2) := by decide +kernel
theorem dX3_init_7 : decode cX3_init 7 = .ok (.newarray .int, 2) := by decide +kernel
theorem dX3_init_9 : decode cX3_init 9 = .ok (.putfield 9, 3) := by decide +kernel
theorem dX3_init_12 : decode cX3_init 12 = .ok (.aload_n 0, 1) := by decide +kernel
theorem dX3_init_13 : decode cX3_init 13 = .ok (.iconst 0, 1) := by decide +kernel
theorem dX3_init_14 : decode cX3_init 14 = .ok (.putfield 15, 3) := by decide +kernel
theorem dX3_init_17 : decode cX3_init 17 = .ok (.aload_n 0, 1) := by decide +kernel
theorem dX3_init_18 : decode cX3_init 18 = .ok (.iconst 0, 1) := by decide +kernel
theorem dX3_init_19 : decode cX3_init 19 = .ok (.putfield 19, 3) := by decide +kernel
theorem dX3_init_22 : decode cX3_init 22 = .ok (.return_, 1) := by decide +kernel
theorem dX3_forget_0 : decode cX3_forget 0 = .ok (.aload_n 0, 1) := by decide +kernel
theorem dX3_forget_1 : decode cX3_forget 1 = .ok (.iconst 0, 1) := by decide +kernel
theorem dX3_forget_2 : decode cX3_forget 2 = .ok (.putfield 15, 3) := by decide +kernel
theorem dX3_forget_5 : decode cX3_forget 5 = .ok (.aload_n 0, 1) := by decide +kernel
theorem dX3_forget_6 : decode cX3_forget 6 = .ok (.iconst 0, 1) := by decide +kernel
theorem dX3_forget_7 : decode cX3_forget 7 = .ok (.putfield 19, 3) := by decide +kernel
theorem dX3_forget_10 : decode cX3_forget 10 = .ok (.return_, 1) := by decide +kernel
theorem dX3_size_0 : decode cX3_size 0 = .ok (.aload_n 0, 1) := by decide +kernel
theorem dX3_size_1 : decode cX3_size 1 = .ok (.getfield 19, 3) := by decide +kernel
theorem dX3_size_4 : decode cX3_size 4 = .ok (.ireturn, 1) := by decide +kernel
theorem dX3_has_0 : decode cX3_has 0 = .ok (.iload_n 1, 1) := by decide +kernel
theorem dX3_has_1 : decode cX3_has 1 = .ok (.ifCond .lt 15, 3) := by decide +kernel
theorem dX3_has_4 : decode cX3_has 4 = .ok (.iload_n 1, 1) := by decide +kernel
theorem dX3_has_5 : decode cX3_has 5 = .ok (.aload_n 0, 1) := by decide +kernel
theorem dX3_has_6 : decode cX3_has 6 = .ok (.getfield 19, 3) := by decide +kernel
theorem dX3_has_9 : decode cX3_has 9 = .ok (.if_icmp .ge 7, 3) := by decide +kernel
theorem dX3_has_12 : decode cX3_has 12 = .ok (.iconst 1, 1) := by decide +kernel
theorem dX3_has_13 : decode cX3_has 13 = .ok (.goto 4, 3) := by decide +kernel
theorem dX3_has_16 : decode cX3_has 16 = .ok (.iconst 0, 1) := by decide +kernel
theorem dX3_has_17 : decode cX3_has 17 = .ok (.ireturn, 1) := by decide +kernel
theorem dX3_isFull_0 : decode cX3_isFull 0 = .ok (.aload_n 0, 1) := by decide +kernel
theorem dX3_isFull_1 : decode cX3_isFull 1 = .ok (.getfield 19, 3) := by decide +kernel
theorem dX3_isFull_4 : decode cX3_isFull 4 = .ok (.bipush 8, 2) := by decide +kernel
theorem dX3_isFull_6 : decode cX3_isFull 6 = .ok (.if_icmp .lt 7, 3) := by decide +kernel
theorem dX3_isFull_9 : decode cX3_isFull 9 = .ok (.iconst 1, 1) := by decide +kernel
theorem dX3_isFull_10 : decode cX3_isFull 10 = .ok (.goto 4, 3) := by decide +kernel
theorem dX3_isFull_13 : decode cX3_isFull 13 = .ok (.iconst 0, 1) := by decide +kernel
theorem dX3_isFull_14 : decode cX3_isFull 14 = .ok (.ireturn, 1) := by decide +kernel
theorem dX3_add_0 : decode cX3_add 0 = .ok (.aload_n 0, 1) := by decide +kernel
theorem dX3_add_1 : decode cX3_add 1 = .ok (.getfield 19, 3) := by decide +kernel
theorem dX3_add_4 : decode cX3_add 4 = .ok (.istore_n 3, 1) := by decide +kernel
theorem dX3_add_5 : decode cX3_add 5 = .ok (.aload_n 0, 1) := by decide +kernel
theorem dX3_add_6 : decode cX3_add 6 = .ok (.getfield 9, 3) := by decide +kernel
theorem dX3_add_9 : decode cX3_add 9 = .ok (.iload_n 3, 1) := by decide +kernel
theorem dX3_add_10 : decode cX3_add 10 = .ok (.iconst 1, 1) := by decide +kernel
theorem dX3_add_11 : decode cX3_add 11 = .ok (.iload_n 3, 1) := by decide +kernel
theorem dX3_add_12 : decode cX3_add 12 = .ok (.ishl, 1) := by decide +kernel
theorem dX3_add_13 : decode cX3_add 13 = .ok (.iastore, 1) := by decide +kernel
theorem dX3_add_14 : decode cX3_add 14 = .ok (.iload_n 1, 1) := by decide +kernel
theorem dX3_add_15 : decode cX3_add 15 = .ok (.iconst (-1), 1) := by decide +kernel
theorem dX3_add_16 : decode cX3_add 16 = .ok (.if_icmp .eq 18, 3) := by decide +kernel
theorem dX3_add_19 : decode cX3_add 19 = .ok (.aload_n 0, 1) := by decide +kernel
theorem dX3_add_20 : decode cX3_add 20 = .ok (.getfield 9, 3) := by decide +kernel
theorem dX3_add_23 : decode cX3_add 23 = .ok (.iload_n 3, 1) := by decide +kernel
theorem dX3_add_24 : decode cX3_add 24 = .ok (.dup2, 1) := by decide +kernel
theorem dX3_add_25 : decode cX3_add 25 = .ok (.iaload, 1) := by decide +kernel
theorem dX3_add_26 : decode cX3_add 26 = .ok (.aload_n 0, 1) := by decide +kernel
theorem dX3_add_27 : decode cX3_add 27 = .ok (.getfield 9, 3) := by decide +kernel
theorem dX3_add_30 : decode cX3_add 30 = .ok (.iload_n 1, 1) := by decide +kernel
theorem dX3_add_31 : decode cX3_add 31 = .ok (.iaload, 1) := by decide +kernel
theorem dX3_add_32 : decode cX3_add 32 = .ok (.ior, 1) := by decide +kernel
theorem dX3_add_33 : decode cX3_add 33 = .ok (.iastore, 1) := by decide +kernel
theorem dX3_add_34 : decode cX3_add 34 = .ok (.iload_n 2, 1) := by decide +kernel
theorem dX3_add_35 : decode cX3_add 35 = .ok (.ifCond .eq 15, 3) := by decide +kernel
theorem dX3_add_38 : decode cX3_add 38 = .ok (.aload_n 0, 1) := by decide +kernel
theorem dX3_add_39 : decode cX3_add 39 = .ok (.dup, 1) := by decide +kernel
theorem dX3_add_40 : decode cX3_add 40 = .ok (.getfield 15, 3) := by decide +kernel
theorem dX3_add_43 : decode cX3_add 43 = .ok (.iconst 1, 1) := by decide +kernel
theorem dX3_add_44 : decode cX3_add 44 = .ok (.iload_n 3, 1) := by decide +kernel
theorem dX3_add_45 : decode cX3_add 45 = .ok (.ishl, 1) := by decide +kernel
theorem dX3_add_46 : decode cX3_add 46 = .ok (.ior, 1) := by decide +kernel
theorem dX3_add_47 : decode cX3_add 47 = .ok (.putfield 15, 3) := by decide +kernel
theorem dX3_add_50 : decode cX3_add 50 = .ok (.aload_n 0, 1) := by decide +kernel
theorem dX3_add_51 : decode cX3_add 51 = .ok (.dup, 1) := by decide +kernel
theorem dX3_add_52 : decode cX3_add 52 = .ok (.getfield 19, 3) := by decide +kernel
theorem dX3_add_55 : decode cX3_add 55 = .ok (.iconst 1, 1) := by decide +kernel
theorem dX3_add_56 : decode cX3_add 56 = .ok (.iadd, 1) := by decide +kernel
theorem dX3_add_57 : decode cX3_add 57 = .ok (.putfield 19, 3) := by decide +kernel
theorem dX3_add_60 : decode cX3_add 60 = .ok (.iload_n 3, 1) := by decide +kernel
theorem dX3_add_61 : decode cX3_add 61 = .ok (.ireturn, 1) := by decide +kernel
theorem dX3_areAllowed_0 : decode cX3_areAllowed 0 = .ok (.iconst 0, 1) := by decide +kernel
theorem dX3_areAllowed_1 : decode cX3_areAllowed 1 = .ok (.istore_n 3, 1) := by decide +kernel
theorem dX3_areAllowed_2 : decode cX3_areAllowed 2 = .ok (.iload_n 3, 1) := by decide +kernel
theorem dX3_areAllowed_3 : decode cX3_areAllowed 3 = .ok (.aload_n 0, 1) := by decide +kernel
theorem dX3_areAllowed_4 : decode cX3_areAllowed 4 = .ok (.getfield 19, 3) := by decide +kernel
theorem dX3_areAllowed_7 : decode cX3_areAllowed 7 = .ok (.if_icmp .ge 35, 3) := by decide +kernel
theorem dX3_areAllowed_10 : decode cX3_areAllowed 10 = .ok (.iload_n 1, 1) := by decide +kernel
theorem dX3_areAllowed_11 : decode cX3_areAllowed 11 = .ok (.aload_n 0, 1) := by decide +kernel
theorem dX3_areAllowed_12 : decode cX3_areAllowed 12 = .ok (.getfield 15, 3) := by decide +kernel
theorem dX3_areAllowed_15 : decode cX3_areAllowed 15 = .ok (.iand, 1) := by decide +kernel
theorem dX3_areAllowed_16 : decode cX3_areAllowed 16 = .ok (.iload_n 3, 1) := by decide +kernel
theorem dX3_areAllowed_17 : decode cX3_areAllowed 17 = .ok (.invokestatic 22, 3) := by decide +kernel
theorem dX3_areAllowed_20 : decode cX3_areAllowed 20 = .ok (.ifCond .eq 16, 3) := by decide +kernel
theorem dX3_areAllowed_23 : decode cX3_areAllowed 23 = .ok (.aload_n 0, 1) := by decide +kernel
theorem dX3_areAllowed_24 : decode cX3_areAllowed 24 = .ok (.getfield 9, 3) := by decide +kernel
theorem dX3_areAllowed_27 : decode cX3_areAllowed 27 = .ok (.iload_n 3, 1) := by decide +kernel
theorem dX3_areAllowed_28 : decode cX3_areAllowed 28 = .ok (.iaload, 1) := by decide +kernel
theorem dX3_areAllowed_29 : decode cX3_areAllowed 29 = .ok (.iload_n 2, 1) := by decide +kernel
theorem dX3_areAllowed_30 : decode cX3_areAllowed 30 = .ok (.iand, 1) := by decide +kernel
theorem dX3_areAllowed_31 : decode cX3_areAllowed 31 = .ok (.ifCond .ne 5, 3) := by decide +kernel
theorem dX3_areAllowed_34 : decode cX3_areAllowed 34 = .ok (.iconst 0, 1) := by decide +kernel
theorem dX3_areAllowed_35 : decode cX3_areAllowed 35 = .ok (.ireturn, 1) := by decide +kernel
theorem dX3_areAllowed_36 : decode cX3_areAllowed 36 = .ok (.iinc 3 1, 3) := by decide +kernel
theorem dX3_areAllowed_39 : decode cX3_areAllowed 39 = .ok (.goto (-37), 3) := by decide +kernel
theorem dX3_areAllowed_42 : decode cX3_areAllowed 42 = .ok (.iconst 1, 1) := by decide +kernel
theorem dX3_areAllowed_43 : decode cX3_areAllowed 43 = .ok (.ireturn, 1) := by decide +kernel
theorem dX2_init_0 : decode cX2_init 0 = .ok (.aload_n 0, 1) := by decide +kernel
theorem dX2_init_1 : decode cX2_init 1 = .ok (.invokespecial 3, 3) := by decide +kernel
theorem dX2_init_4 : decode cX2_init 4 = .ok (.aload_n 0, 1) := by decide +kernel
theorem dX2_init_5 : decode cX2_init 5 = .ok (.bipush 60, 2) := by decide +kernel
theorem dX2_init_7 : decode cX2_init 7 = .ok (.newarray .int, 2) := by decide +kernel
theorem dX2_init_9 : decode cX2_init 9 = .ok (.putfield 9, 3) := by decide +kernel
theorem dX2_init_12 : decode cX2_init 12 = .ok (.aload_n 0, 1) := by decide +kernel
theorem dX2_init_13 : decode cX2_init 13 = .ok (.bipush 60, 2) := by decide +kernel
theorem dX2_init_15 : decode cX2_init 15 = .ok (.newarray .int, 2) := by decide +kernel
theorem dX2_init_17 : decode cX2_init 17 = .ok (.putfield 15, 3) := by decide +kernel
theorem dX2_init_20 : decode cX2_init 20 = .ok (.aload_n 0, 1) := by decide +kernel
theorem dX2_init_21 : decode cX2_init 21 = .ok (.bipush 60, 2) := by decide +kernel
theorem dX2_init_23 : decode cX2_init 23 = .ok (.newarray .int, 2) := by decide +kernel
theorem dX2_init_25 : decode cX2_init 25 = .ok (.putfield 18, 3) := by decide +kernel
theorem dX2_init_28 : decode cX2_init 28 = .ok (.aload_n 0, 1) := by decide +kernel
theorem dX2_init_29 : decode cX2_init 29 = .ok (.bipush 60, 2) := by decide +kernel
theorem dX2_init_31 : decode cX2_init 31 = .ok (.newarray .int, 2) := by decide +kernel
theorem dX2_init_33 : decode cX2_init 33 = .ok (.putfield 21, 3) := by decide +kernel
theorem dX2_init_36 : decode cX2_init 36 = .ok (.aload_n 0, 1) := by decide +kernel
theorem dX2_init_37 : decode cX2_init 37 = .ok (.bipush 60, 2) := by decide +kernel
theorem dX2_init_39 : decode cX2_init 39 = .ok (.newarray .int, 2) := by decide +kernel
theorem dX2_init_41 : decode cX2_init 41 = .ok (.putfield 24, 3) := by decide +kernel
theorem dX2_init_44 : decode cX2_init 44 = .ok (.aload_n 0, 1) := by decide +kernel
theorem dX2_init_45 : decode cX2_init 45 = .ok (.sipush 128, 3) := by decide +kernel
theorem dX2_init_48 : decode cX2_init 48 = .ok (.newarray .int, 2) := by decide +kernel
theorem dX2_init_50 : decode cX2_init 50 = .ok (.putfield 27, 3) := by decide +kernel
theorem dX2_init_53 : decode cX2_init 53 = .ok (.aload_n 0, 1) := by decide +kernel
theorem dX2_init_54 : decode cX2_init 54 = .ok (.iconst 0, 1) := by decide +kernel
theorem dX2_init_55 : decode cX2_init 55 = .ok (.putfield 30, 3) := by decide +kernel
theorem dX2_init_58 : decode cX2_init 58 = .ok (.aload_n 0, 1) := by decide +kernel
theorem dX2_init_59 : decode cX2_init 59 = .ok (.aload_n 1, 1) := by decide +kernel
theorem dX2_init_60 : decode cX2_init 60 = .ok (.putfield 34, 3) := by decide +kernel
theorem dX2_init_63 : decode cX2_init 63 = .ok (.return_, 1) := by decide +kernel
theorem dX2_forget_0 : decode cX2_forget 0 = .ok (.iconst 0, 1) := by decide +kernel
theorem dX2_forget_1 : decode cX2_forget 1 = .ok (.istore_n 1, 1) := by decide +kernel
theorem dX2_forget_2 : decode cX2_forget 2 = .ok (.iload_n 1, 1) := by decide +kernel
theorem dX2_forget_3 : decode cX2_forget 3 = .ok (.aload_n 0, 1) := by decide +kernel
theorem dX2_forget_4 : decode cX2_forget 4 = .ok (.getfield 27, 3) := by decide +kernel
theorem dX2_forget_7 : decode cX2_forget 7 = .ok (.arraylength, 1) := by decide +kernel
theorem dX2_forget_8 : decode cX2_forget 8 = .ok (.if_icmp .ge 16, 3) := by decide +kernel
theorem dX2_forget_11 : decode cX2_forget 11 = .ok (.aload_n 0, 1) := by decide +kernel
theorem dX2_forget_12 : decode cX2_forget 12 = .ok (.getfield 27, 3) := by decide +kernel
theorem dX2_forget_15 : decode cX2_forget 15 = .ok (.iload_n 1, 1) := by decide +kernel
theorem dX2_forget_16 : decode cX2_forget 16 = .ok (.iconst 0, 1) := by decide +kernel
theorem dX2_forget_17 : decode cX2_forget 17 = .ok (.iastore, 1) := by decide +kernel
theorem dX2_forget_18 : decode cX2_forget 18 = .ok (.iinc 1 1, 3) := by decide +kernel
theorem dX2_forget_21 : decode cX2_forget 21 = .ok (.goto (-19), 3) := by decide +kernel
theorem dX2_forget_24 : decode cX2_forget 24 = .ok (.aload_n 0, 1) := by decide +kernel
theorem dX2_forget_25 : decode cX2_forget 25 = .ok (.iconst 0, 1) := by decide +kernel
theorem dX2_forget_26 : decode cX2_forget 26 = .ok (.putfield 30, 3) := by decide +kernel
theorem dX2_forget_29 : decode cX2_forget 29 = .ok (.return_, 1) := by decide +kernel
theorem dX2_size_0 : decode cX2_size 0 = .ok (.aload_n 0, 1) := by decide +kernel
theorem dX2_size_1 : decode cX2_size 1 = .ok (.getfield 30, 3) := by decide +kernel
theorem dX2_size_4 : decode cX2_size 4 = .ok (.ireturn, 1) := by decide +kernel
theorem dX2_has_0 : decode cX2_has 0 = .ok (.iload_n 1, 1) := by decide +kernel
theorem dX2_has_1 : decode cX2_has 1 = .ok (.ifCond .lt 15, 3) := by decide +kernel
theorem dX2_has_4 : decode cX2_has 4 = .ok (.iload_n 1, 1) := by decide +kernel
theorem dX2_has_5 : decode cX2_has 5 = .ok (.aload_n 0, 1) := by decide +kernel
theorem dX2_has_6 : decode cX2_has 6 = .ok (.getfield 30, 3) := by decide +kernel
theorem dX2_has_9 : decode cX2_has 9 = .ok (.if_icmp .ge 7, 3) := by decide +kernel
theorem dX2_has_12 : decode cX2_has 12 = .ok (.iconst 1, 1) := by decide +kernel
theorem dX2_has_13 : decode cX2_has 13 = .ok (.goto 4, 3) := by decide +kernel
theorem dX2_has_16 : decode cX2_has 16 = .ok (.iconst 0, 1) := by decide +kernel
theorem dX2_has_17 : decode cX2_has 17 = .ok (.ireturn, 1) := by decide +kernel
theorem dX2_isFull_0 : decode cX2_isFull 0 = .ok (.aload_n 0, 1) := by decide +kernel
theorem dX2_isFull_1 : decode cX2_isFull 1 = .ok (.getfield 30, 3) := by decide +kernel
theorem dX2_isFull_4 : decode cX2_isFull 4 = .ok (.bipush 60, 2) := by decide +kernel
theorem dX2_isFull_6 : decode cX2_isFull 6 = .ok (.if_icmp .lt 7, 3) := by decide +kernel
theorem dX2_isFull_9 : decode cX2_isFull 9 = .ok (.iconst 1, 1) := by decide +kernel
theorem dX2_isFull_10 : decode cX2_isFull 10 = .ok (.goto 4, 3) := by decide +kernel
theorem dX2_isFull_13 : decode cX2_isFull 13 = .ok (.iconst 0, 1) := by decide +kernel
theorem dX2_isFull_14 : decode cX2_isFull 14 = .ok (.ireturn, 1) := by decide +kernel
theorem dX2_add_0 : decode cX2_add 0 = .ok (.aload_n 0, 1) := by decide +kernel
theorem dX2_add_1 : decode cX2_add 1 = .ok (.getfield 30, 3) := by decide +kernel
theorem dX2_add_4 : decode cX2_add 4 = .ok (.istore 5, 2) := by decide +kernel
theorem dX2_add_6 : decode cX2_add 6 = .ok (.aload_n 0, 1) := by decide +kernel
theorem dX2_add_7 : decode cX2_add 7 = .ok (.getfield 9, 3) := by decide +kernel
theorem dX2_add_10 : decode cX2_add 10 = .ok (.iload 5, 2) := by decide +kernel
theorem dX2_add_12 : decode cX2_add 12 = .ok (.iload_n 1, 1) := by decide +kernel
theorem dX2_add_13 : decode cX2_add 13 = .ok (.iastore, 1) := by decide +kernel
theorem dX2_add_14 : decode cX2_add 14 = .ok (.aload_n 0, 1) := by decide +kernel
theorem dX2_add_15 : decode cX2_add 15 = .ok (.getfield 15, 3) := by decide +kernel
theorem dX2_add_18 : decode cX2_add 18 = .ok (.iload 5, 2) := by decide +kernel
theorem dX2_add_20 : decode cX2_add 20 = .ok (.iload_n 2, 1) := by decide +kernel
theorem dX2_add_21 : decode cX2_add 21 = .ok (.iastore, 1) := by decide +kernel
theorem dX2_add_22 : decode cX2_add 22 = .ok (.aload_n 0, 1) := by decide +kernel
theorem dX2_add_23 : decode cX2_add 23 = .ok (.getfield 18, 3) := by decide +kernel
theorem dX2_add_26 : decode cX2_add 26 = .ok (.iload 5, 2) := by decide +kernel
theorem dX2_add_28 : decode cX2_add 28 = .ok (.iload_n 3, 1) := by decide +kernel
theorem dX2_add_29 : decode cX2_add 29 = .ok (.iastore, 1) := by decide +kernel
theorem dX2_add_30 : decode cX2_add 30 = .ok (.aload_n 0, 1) := by decide +kernel
theorem dX2_add_31 : decode cX2_add 31 = .ok (.getfield 34, 3) := by decide +kernel
theorem dX2_add_34 : decode cX2_add 34 = .ok (.iload_n 1, 1) := by decide +kernel
theorem dX2_add_35 : decode cX2_add 35 = .ok (.invokevirtual 38, 3) := by decide +kernel
theorem dX2_add_38 : decode cX2_add 38 = .ok (.ifCond .eq 14, 3) := by decide +kernel
theorem dX2_add_41 : decode cX2_add 41 = .ok (.iload 4, 2) := by decide +kernel
theorem dX2_add_43 : decode cX2_add 43 = .ok (.iconst 4, 1) := by decide +kernel
theorem dX2_add_44 : decode cX2_add 44 = .ok (.iand, 1) := by decide +kernel
theorem dX2_add_45 : decode cX2_add 45 = .ok (.ifCond .ne 7, 3) := by decide +kernel
theorem dX2_add_48 : decode cX2_add 48 = .ok (.iconst 1, 1) := by decide +kernel
theorem dX2_add_49 : decode cX2_add 49 = .ok (.goto 4, 3) := by decide +kernel
theorem dX2_add_52 : decode cX2_add 52 = .ok (.iconst 0, 1) := by decide +kernel
theorem dX2_add_53 : decode cX2_add 53 = .ok (.istore 6, 2) := by decide +kernel
theorem dX2_add_55 : decode cX2_add 55 = .ok (.aload_n 0, 1) := by decide +kernel
theorem dX2_add_56 : decode cX2_add 56 = .ok (.getfield 21, 3) := by decide +kernel
theorem dX2_add_59 : decode cX2_add 59 = .ok (.iload 5, 2) := by decide +kernel
theorem dX2_add_61 : decode cX2_add 61 = .ok (.iload 6, 2) := by decide +kernel
theorem dX2_add_63 : decode cX2_add 63 = .ok (.ifCond .eq 10, 3) := by decide +kernel
theorem dX2_add_66 : decode cX2_add 66 = .ok (.iload 4, 2) := by decide +kernel
theorem dX2_add_68 : decode cX2_add 68 = .ok (.iconst 1, 1) := by decide +kernel
theorem dX2_add_69 : decode cX2_add 69 = .ok (.ior, 1) := by decide +kernel
theorem dX2_add_70 : decode cX2_add 70 = .ok (.goto 5, 3) := by decide +kernel
theorem dX2_add_73 : decode cX2_add 73 = .ok (.iload 4, 2) := by decide +kernel
theorem dX2_add_75 : decode cX2_add 75 = .ok (.iastore, 1) := by decide +kernel
theorem dX2_add_76 : decode cX2_add 76 = .ok (.aload_n 0, 1) := by decide +kernel
theorem dX2_add_77 : decode cX2_add 77 = .ok (.getfield 24, 3) := by decide +kernel
theorem dX2_add_80 : decode cX2_add 80 = .ok (.iload 5, 2) := by decide +kernel
theorem dX2_add_82 : decode cX2_add 82 = .ok (.iconst 0, 1) := by decide +kernel
theorem dX2_add_83 : decode cX2_add 83 = .ok (.iastore, 1) := by decide +kernel
theorem dX2_add_84 : decode cX2_add 84 = .ok (.aload_n 0, 1) := by decide +kernel
theorem dX2_add_85 : decode cX2_add 85 = .ok (.dup, 1) := by decide +kernel
theorem dX2_add_86 : decode cX2_add 86 = .ok (.getfield 30, 3) := by decide +kernel
theorem dX2_add_89 : decode cX2_add 89 = .ok (.iconst 1, 1) := by decide +kernel
theorem dX2_add_90 : decode cX2_add 90 = .ok (.iadd, 1) := by decide +kernel
theorem dX2_add_91 : decode cX2_add 91 = .ok (.putfield 30, 3) := by decide +kernel
theorem dX2_add_94 : decode cX2_add 94 = .ok (.aload_n 0, 1) := by decide +kernel
theorem dX2_add_95 : decode cX2_add 95 = .ok (.getfield 27, 3) := by decide +kernel
theorem dX2_add_98 : decode cX2_add 98 = .ok (.iload_n 1, 1) := by decide +kernel
theorem dX2_add_99 : decode cX2_add 99 = .ok (.bipush 8, 2) := by decide +kernel
theorem dX2_add_101 : decode cX2_add 101 = .ok (.imul, 1) := by decide +kernel
theorem dX2_add_102 : decode cX2_add 102 = .ok (.iload_n 2, 1) := by decide +kernel
theorem dX2_add_103 : decode cX2_add 103 = .ok (.iadd, 1) := by decide +kernel
theorem dX2_add_104 : decode cX2_add 104 = .ok (.aload_n 0, 1) := by decide +kernel
theorem dX2_add_105 : decode cX2_add 105 = .ok (.getfield 30, 3) := by decide +kernel
theorem dX2_add_108 : decode cX2_add 108 = .ok (.iastore, 1) := by decide +kernel
theorem dX2_add_109 : decode cX2_add 109 = .ok (.iload 5, 2) := by decide +kernel
theorem dX2_add_111 : decode cX2_add 111 = .ok (.ireturn, 1) := by decide +kernel
theorem dX2_addThrow_0 : decode cX2_addThrow 0 = .ok (.aload_n 0, 1) := by decide +kernel
theorem dX2_addThrow_1 : decode cX2_addThrow 1 = .ok (.getfield 24, 3) := by decide +kernel
theorem dX2_addThrow_4 : decode cX2_addThrow 4 = .ok (.iload_n 1, 1) := by decide +kernel
theorem dX2_addThrow_5 : decode cX2_addThrow 5 = .ok (.iaload, 1) := by decide +kernel
theorem dX2_addThrow_6 : decode cX2_addThrow 6 = .ok (.iload_n 2, 1) := by decide +kernel
theorem dX2_addThrow_7 : decode cX2_addThrow 7 = .ok (.invokestatic 44, 3) := by decide +kernel
theorem dX2_addThrow_10 : decode cX2_addThrow 10 = .ok (.ifCond .ne 7, 3) := by decide +kernel
theorem dX2_addThrow_13 : decode cX2_addThrow 13 = .ok (.iconst 1, 1) := by decide +kernel
theorem dX2_addThrow_14 : decode cX2_addThrow 14 = .ok (.goto 4, 3) := by decide +kernel
theorem dX2_addThrow_17 : decode cX2_addThrow 17 = .ok (.iconst 0, 1) := by decide +kernel
theorem dX2_addThrow_18 : decode cX2_addThrow 18 = .ok (.istore_n 3, 1) := by decide +kernel
theorem dX2_addThrow_19 : decode cX2_addThrow 19 = .ok (.aload_n 0, 1) := by decide +kernel
theorem dX2_addThrow_20 : decode cX2_addThrow 20 = .ok (.getfield 24, 3) := by decide +kernel
theorem dX2_addThrow_23 : decode cX2_addThrow 23 = .ok (.iload_n 1, 1) := by decide +kernel
theorem dX2_addThrow_24 : decode cX2_addThrow 24 = .ok (.dup2, 1) := by decide +kernel
theorem dX2_addThrow_25 : decode cX2_addThrow 25 = .ok (.iaload, 1) := by decide +kernel
theorem dX2_addThrow_26 : decode cX2_addThrow 26 = .ok (.iconst 1, 1) := by decide +kernel
theorem dX2_addThrow_27 : decode cX2_addThrow 27 = .ok (.iload_n 2, 1) := by decide +kernel
theorem dX2_addThrow_28 : decode cX2_addThrow 28 = .ok (.ishl, 1) := by decide +kernel
theorem dX2_addThrow_29 : decode cX2_addThrow 29 = .ok (.ior, 1) := by decide +kernel
theorem dX2_addThrow_30 : decode cX2_addThrow 30 = .ok (.iastore, 1) := by decide +kernel
theorem dX2_addThrow_31 : decode cX2_addThrow 31 = .ok (.iload_n 3, 1) := by decide +kernel
theorem dX2_addThrow_32 : decode cX2_addThrow 32 = .ok (.ireturn, 1) := by decide +kernel
theorem dX2_at_0 : decode cX2_at 0 = .ok (.aload_n 0, 1) := by decide +kernel
theorem dX2_at_1 : decode cX2_at 1 = .ok (.getfield 27, 3) := by decide +kernel
theorem dX2_at_4 : decode cX2_at 4 = .ok (.iload_n 1, 1) := by decide +kernel
theorem dX2_at_5 : decode cX2_at 5 = .ok (.bipush 8, 2) := by decide +kernel
theorem dX2_at_7 : decode cX2_at 7 = .ok (.imul, 1) := by decide +kernel
theorem dX2_at_8 : decode cX2_at 8 = .ok (.iload_n 2, 1) := by decide +kernel
theorem dX2_at_9 : decode cX2_at 9 = .ok (.iadd, 1) := by decide +kernel
theorem dX2_at_10 : decode cX2_at 10 = .ok (.iaload, 1) := by decide +kernel
theorem dX2_at_11 : decode cX2_at 11 = .ok (.istore_n 3, 1) := by decide +kernel
theorem dX2_at_12 : decode cX2_at 12 = .ok (.iload_n 3, 1) := by decide +kernel
theorem dX2_at_13 : decode cX2_at 13 = .ok (.ifCond .ne 7, 3) := by decide +kernel
theorem dX2_at_16 : decode cX2_at 16 = .ok (.iconst (-1), 1) := by decide +kernel
theorem dX2_at_17 : decode cX2_at 17 = .ok (.goto 6, 3) := by decide +kernel
theorem dX2_at_20 : decode cX2_at 20 = .ok (.iload_n 3, 1) := by decide +kernel
theorem dX2_at_21 : decode cX2_at 21 = .ok (.iconst 1, 1) := by decide +kernel
theorem dX2_at_22 : decode cX2_at 22 = .ok (.isub, 1) := by decide +kernel
theorem dX2_at_23 : decode cX2_at 23 = .ok (.ireturn, 1) := by decide +kernel
theorem dX2_typeOf_0 : decode cX2_typeOf 0 = .ok (.aload_n 0, 1) := by decide +kernel
theorem dX2_typeOf_1 : decode cX2_typeOf 1 = .ok (.getfield 9, 3) := by decide +kernel
theorem dX2_typeOf_4 : decode cX2_typeOf 4 = .ok (.iload_n 1, 1) := by decide +kernel
theorem dX2_typeOf_5 : decode cX2_typeOf 5 = .ok (.iaload, 1) := by decide +kernel
theorem dX2_typeOf_6 : decode cX2_typeOf 6 = .ok (.ireturn, 1) := by decide +kernel
theorem dX2_nameOf_0 : decode cX2_nameOf 0 = .ok (.aload_n 0, 1) := by decide +kernel
theorem dX2_nameOf_1 : decode cX2_nameOf 1 = .ok (.getfield 15, 3) := by decide +kernel
theorem dX2_nameOf_4 : decode cX2_nameOf 4 = .ok (.iload_n 1, 1) := by decide +kernel
theorem dX2_nameOf_5 : decode cX2_nameOf 5 = .ok (.iaload, 1) := by decide +kernel
theorem dX2_nameOf_6 : decode cX2_nameOf 6 = .ok (.ireturn, 1) := by decide +kernel
theorem dX2_resultOf_0 : decode cX2_resultOf 0 = .ok (.aload_n 0, 1) := by decide +kernel
theorem dX2_resultOf_1 : decode cX2_resultOf 1 = .ok (.getfield 18, 3) := by decide +kernel
theorem dX2_resultOf_4 : decode cX2_resultOf 4 = .ok (.iload_n 1, 1) := by decide +kernel
theorem dX2_resultOf_5 : decode cX2_resultOf 5 = .ok (.iaload, 1) := by decide +kernel
theorem dX2_resultOf_6 : decode cX2_resultOf 6 = .ok (.ireturn, 1) := by decide +kernel
theorem dX2_thrownBy_0 : decode cX2_thrownBy 0 = .ok (.aload_n 0, 1) := by decide +kernel
theorem dX2_thrownBy_1 : decode cX2_thrownBy 1 = .ok (.getfield 24, 3) := by decide +kernel
theorem dX2_thrownBy_4 : decode cX2_thrownBy 4 = .ok (.iload_n 1, 1) := by decide +kernel
theorem dX2_thrownBy_5 : decode cX2_thrownBy 5 = .ok (.iaload, 1) := by decide +kernel
theorem dX2_thrownBy_6 : decode cX2_thrownBy 6 = .ok (.ireturn, 1) := by decide +kernel
theorem dX2_hasMark_0 : decode cX2_hasMark 0 = .ok (.aload_n 0, 1) := by decide +kernel
theorem dX2_hasMark_1 : decode cX2_hasMark 1 = .ok (.getfield 21, 3) := by decide +kernel
theorem dX2_hasMark_4 : decode cX2_hasMark 4 = .ok (.iload_n 1, 1) := by decide +kernel
theorem dX2_hasMark_5 : decode cX2_hasMark 5 = .ok (.iaload, 1) := by decide +kernel
theorem dX2_hasMark_6 : decode cX2_hasMark 6 = .ok (.iload_n 2, 1) := by decide +kernel
theorem dX2_hasMark_7 : decode cX2_hasMark 7 = .ok (.iand, 1) := by decide +kernel
theorem dX2_hasMark_8 : decode cX2_hasMark 8 = .ok (.ifCond .eq 7, 3) := by decide +kernel
theorem dX2_hasMark_11 : decode cX2_hasMark 11 = .ok (.iconst 1, 1) := by decide +kernel
theorem dX2_hasMark_12 : decode cX2_hasMark 12 = .ok (.goto 4, 3) := by decide +kernel
theorem dX2_hasMark_15 : decode cX2_hasMark 15 = .ok (.iconst 0, 1) := by decide +kernel
theorem dX2_hasMark_16 : decode cX2_hasMark 16 = .ok (.ireturn, 1) := by decide +kernel
theorem dX2_isInheritable_0 : decode cX2_isInheritable 0 = .ok (.iload_n 1, 1) := by decide +kernel
theorem dX2_isInheritable_1 : decode cX2_isInheritable 1 = .ok (.iconst (-1), 1) := by decide +kernel
theorem dX2_isInheritable_2 : decode cX2_isInheritable 2 = .ok (.if_icmp .eq 19, 3) := by decide +kernel
theorem dX2_isInheritable_5 : decode cX2_isInheritable 5 = .ok (.aload_n 0, 1) := by decide +kernel
theorem dX2_isInheritable_6 : decode cX2_isInheritable 6 = .ok (.getfield 21, 3) := by decide +kernel
theorem dX2_isInheritable_9 : decode cX2_isInheritable 9 = .ok (.iload_n 1, 1) := by decide +kernel
theorem dX2_isInheritable_10 : decode cX2_isInheritable 10 = .ok (.iaload, 1) := by decide +kernel
theorem dX2_isInheritable_11 : decode cX2_isInheritable 11 = .ok (.bipush 12, 2) := by decide +kernel
theorem dX2_isInheritable_13 : decode cX2_isInheritable 13 = .ok (.iand, 1) := by decide +kernel
theorem dX2_isInheritable_14 : decode cX2_isInheritable 14 = .ok (.ifCond .ne 7, 3) := by decide +kernel
theorem dX2_isInheritable_17 : decode cX2_isInheritable 17 = .ok (.iconst 1, 1) := by decide +kernel
theorem dX2_isInheritable_18 : decode cX2_isInheritable 18 = .ok (.goto 4, 3) := by decide +kernel
theorem dX2_isInheritable_21 : decode cX2_isInheritable 21 = .ok (.iconst 0, 1) := by decide +kernel
theorem dX2_isInheritable_22 : decode cX2_isInheritable 22 = .ok (.ireturn, 1) := by decide +kernel
theorem dX2_accessOf_0 : decode cX2_accessOf 0 = .ok (.aload_n 0, 1) := by decide +kernel
theorem dX2_accessOf_1 : decode cX2_accessOf 1 = .ok (.iload_n 1, 1) := by decide +kernel
theorem dX2_accessOf_2 : decode cX2_accessOf 2 = .ok (.iconst 4, 1) := by decide +kernel
theorem dX2_accessOf_3 : decode cX2_accessOf 3 = .ok (.invokevirtual 48, 3) := by decide +kernel
theorem dX2_accessOf_6 : decode cX2_accessOf 6 = .ok (.ifCond .eq 5, 3) := by decide +kernel
theorem dX2_accessOf_9 : decode cX2_accessOf 9 = .ok (.iconst 0, 1) := by decide +kernel
theorem dX2_accessOf_10 : decode cX2_accessOf 10 = .ok (.ireturn, 1) := by decide +kernel
theorem dX2_accessOf_11 : decode cX2_accessOf 11 = .ok (.aload_n 0, 1) := by decide +kernel
theorem dX2_accessOf_12 : decode cX2_accessOf 12 = .ok (.iload_n 1, 1) := by decide +kernel
theorem dX2_accessOf_13 : decode cX2_accessOf 13 = .ok (.iconst 2, 1) := by decide +kernel
theorem dX2_accessOf_14 : decode cX2_accessOf 14 = .ok (.invokevirtual 48, 3) := by decide +kernel
theorem dX2_accessOf_17 : decode cX2_accessOf 17 = .ok (.ifCond .eq 5, 3) := by decide +kernel
theorem dX2_accessOf_20 : decode cX2_accessOf 20 = .ok (.iconst 2, 1) := by decide +kernel
theorem dX2_accessOf_21 : decode cX2_accessOf 21 = .ok (.ireturn, 1) := by decide +kernel
theorem dX2_accessOf_22 : decode cX2_accessOf 22 = .ok (.aload_n 0, 1) := by decide +kernel
theorem dX2_accessOf_23 : decode cX2_accessOf 23 = .ok (.iload_n 1, 1) := by decide +kernel
theorem dX2_accessOf_24 : decode cX2_accessOf 24 = .ok (.iconst 1, 1) := by decide +kernel
theorem dX2_accessOf_25 : decode cX2_accessOf 25 = .ok (.invokevirtual 48, 3) := by decide +kernel
theorem dX2_accessOf_28 : decode cX2_accessOf 28 = .ok (.ifCond .eq 7, 3) := by decide +kernel
theorem dX2_accessOf_31 : decode cX2_accessOf 31 = .ok (.iconst 3, 1) := by decide +kernel
theorem dX2_accessOf_32 : decode cX2_accessOf 32 = .ok (.goto 4, 3) := by decide +kernel
theorem dX2_accessOf_35 : decode cX2_accessOf 35 = .ok (.iconst 1, 1) := by decide +kernel
theorem dX2_accessOf_36 : decode cX2_accessOf 36 = .ok (.ireturn, 1) := by decide +kernel
theorem dX2_isOverriding_0 : decode cX2_isOverriding 0 = .ok (.aload_n 0, 1) := by decide +kernel
theorem dX2_isOverriding_1 : decode cX2_isOverriding 1 = .ok (.iload_n 1, 1) := by decide +kernel
theorem dX2_isOverriding_2 : decode cX2_isOverriding 2 = .ok (.iload_n 2, 1) := by decide +kernel
theorem dX2_isOverriding_3 : decode cX2_isOverriding 3 = .ok (.invokevirtual 51, 3) := by decide +kernel
theorem dX2_isOverriding_6 : decode cX2_isOverriding 6 = .ok (.ifCond .eq 21, 3) := by decide +kernel
theorem dX2_isOverriding_9 : decode cX2_isOverriding 9 = .ok (.aload_n 0, 1) := by decide +kernel
theorem dX2_isOverriding_10 : decode cX2_isOverriding 10 = .ok (.iload_n 1, 1) := by decide +kernel
theorem dX2_isOverriding_11 : decode cX2_isOverriding 11 = .ok (.bipush 8, 2) := by decide +kernel
theorem dX2_isOverriding_13 : decode cX2_isOverriding 13 = .ok (.invokevirtual 48, 3) := by decide +kernel
theorem dX2_isOverriding_16 : decode cX2_isOverriding 16 = .ok (.ifCond .ne 11, 3) := by decide +kernel
theorem dX2_isOverriding_19 : decode cX2_isOverriding 19 = .ok (.aload_n 0, 1) := by decide +kernel
theorem dX2_isOverriding_20 : decode cX2_isOverriding 20 = .ok (.iload_n 2, 1) := by decide +kernel
theorem dX2_isOverriding_21 : decode cX2_isOverriding 21 = .ok (.invokevirtual 54, 3) := by decide +kernel
theorem dX2_isOverriding_24 : decode cX2_isOverriding 24 = .ok (.ifCond .ne 5, 3) := by decide +kernel
theorem dX2_isOverriding_27 : decode cX2_isOverriding 27 = .ok (.iconst 0, 1) := by decide +kernel
theorem dX2_isOverriding_28 : decode cX2_isOverriding 28 = .ok (.ireturn, 1) := by decide +kernel
theorem dX2_isOverriding_29 : decode cX2_isOverriding 29 = .ok (.aload_n 0, 1) := by decide +kernel
theorem dX2_isOverriding_30 : decode cX2_isOverriding 30 = .ok (.getfield 34, 3) := by decide +kernel
theorem dX2_isOverriding_33 : decode cX2_isOverriding 33 = .ok (.aload_n 0, 1) := by decide +kernel
theorem dX2_isOverriding_34 : decode cX2_isOverriding 34 = .ok (.getfield 9, 3) := by decide +kernel
theorem dX2_isOverriding_37 : decode cX2_isOverriding 37 = .ok (.iload_n 2, 1) := by decide +kernel
theorem dX2_isOverriding_38 : decode cX2_isOverriding 38 = .ok (.iaload, 1) := by decide +kernel
theorem dX2_isOverriding_39 : decode cX2_isOverriding 39 = .ok (.invokevirtual 38, 3) := by decide +kernel
theorem dX2_isOverriding_42 : decode cX2_isOverriding 42 = .ok (.ifCond .ne 12, 3) := by decide +kernel
theorem dX2_isOverriding_45 : decode cX2_isOverriding 45 = .ok (.aload_n 0, 1) := by decide +kernel
theorem dX2_isOverriding_46 : decode cX2_isOverriding 46 = .ok (.iload_n 1, 1) := by decide +kernel
theorem dX2_isOverriding_47 : decode cX2_isOverriding 47 = .ok (.iload_n 2, 1) := by decide +kernel
theorem dX2_isOverriding_48 : decode cX2_isOverriding 48 = .ok (.invokevirtual 57, 3) := by decide +kernel
theorem dX2_isOverriding_51 : decode cX2_isOverriding 51 = .ok (.ifCond .eq 7, 3) := by decide +kernel
theorem dX2_isOverriding_54 : decode cX2_isOverriding 54 = .ok (.iconst 1, 1) := by decide +kernel
theorem dX2_isOverriding_55 : decode cX2_isOverriding 55 = .ok (.goto 4, 3) := by decide +kernel
theorem dX2_isOverriding_58 : decode cX2_isOverriding 58 = .ok (.iconst 0, 1) := by decide +kernel
theorem dX2_isOverriding_59 : decode cX2_isOverriding 59 = .ok (.ireturn, 1) := by decide +kernel
theorem dX2_isHiding_0 : decode cX2_isHiding 0 = .ok (.aload_n 0, 1) := by decide +kernel
theorem dX2_isHiding_1 : decode cX2_isHiding 1 = .ok (.iload_n 1, 1) := by decide +kernel
theorem dX2_isHiding_2 : decode cX2_isHiding 2 = .ok (.iload_n 2, 1) := by decide +kernel
theorem dX2_isHiding_3 : decode cX2_isHiding 3 = .ok (.invokevirtual 51, 3) := by decide +kernel
theorem dX2_isHiding_6 : decode cX2_isHiding 6 = .ok (.ifCond .eq 52, 3) := by decide +kernel
theorem dX2_isHiding_9 : decode cX2_isHiding 9 = .ok (.aload_n 0, 1) := by decide +kernel
theorem dX2_isHiding_10 : decode cX2_isHiding 10 = .ok (.iload_n 1, 1) := by decide +kernel
theorem dX2_isHiding_11 : decode cX2_isHiding 11 = .ok (.bipush 8, 2) := by decide +kernel
theorem dX2_isHiding_13 : decode cX2_isHiding 13 = .ok (.invokevirtual 48, 3) := by decide +kernel
theorem dX2_isHiding_16 : decode cX2_isHiding 16 = .ok (.ifCond .eq 42, 3) := by decide +kernel
theorem dX2_isHiding_19 : decode cX2_isHiding 19 = .ok (.aload_n 0, 1) := by decide +kernel
theorem dX2_isHiding_20 : decode cX2_isHiding 20 = .ok (.iload_n 2, 1) := by decide +kernel
theorem dX2_isHiding_21 : decode cX2_isHiding 21 = .ok (.bipush 8, 2) := by decide +kernel
theorem dX2_isHiding_23 : decode cX2_isHiding 23 = .ok (.invokevirtual 48, 3) := by decide +kernel
theorem dX2_isHiding_26 : decode cX2_isHiding 26 = .ok (.ifCond .eq 32, 3) := by decide +kernel
theorem dX2_isHiding_29 : decode cX2_isHiding 29 = .ok (.aload_n 0, 1) := by decide +kernel
theorem dX2_isHiding_30 : decode cX2_isHiding 30 = .ok (.getfield 34, 3) := by decide +kernel
theorem dX2_isHiding_33 : decode cX2_isHiding 33 = .ok (.aload_n 0, 1) := by decide +kernel
theorem dX2_isHiding_34 : decode cX2_isHiding 34 = .ok (.getfield 9, 3) := by decide +kernel
theorem dX2_isHiding_37 : decode cX2_isHiding 37 = .ok (.iload_n 2, 1) := by decide +kernel
theorem dX2_isHiding_38 : decode cX2_isHiding 38 = .ok (.iaload, 1) := by decide +kernel
theorem dX2_isHiding_39 : decode cX2_isHiding 39 = .ok (.invokevirtual 38, 3) := by decide +kernel
theorem dX2_isHiding_42 : decode cX2_isHiding 42 = .ok (.ifCond .ne 16, 3) := by decide +kernel
theorem dX2_isHiding_45 : decode cX2_isHiding 45 = .ok (.aload_n 0, 1) := by decide +kernel
theorem dX2_isHiding_46 : decode cX2_isHiding 46 = .ok (.iload_n 1, 1) := by decide +kernel
theorem dX2_isHiding_47 : decode cX2_isHiding 47 = .ok (.iload_n 2, 1) := by decide +kernel
theorem dX2_isHiding_48 : decode cX2_isHiding 48 = .ok (.invokevirtual 60, 3) := by decide +kernel
theorem dX2_isHiding_51 : decode cX2_isHiding 51 = .ok (.ifCond .eq 7, 3) := by decide +kernel
theorem dX2_isHiding_54 : decode cX2_isHiding 54 = .ok (.iconst 1, 1) := by decide +kernel
theorem dX2_isHiding_55 : decode cX2_isHiding 55 = .ok (.goto 4, 3) := by decide +kernel
theorem dX2_isHiding_58 : decode cX2_isHiding 58 = .ok (.iconst 0, 1) := by decide +kernel
theorem dX2_isHiding_59 : decode cX2_isHiding 59 = .ok (.ireturn, 1) := by decide +kernel
theorem dX2_isMixed_0 : decode cX2_isMixed 0 = .ok (.aload_n 0, 1) := by decide +kernel
theorem dX2_isMixed_1 : decode cX2_isMixed 1 = .ok (.iload_n 1, 1) := by decide +kernel
theorem dX2_isMixed_2 : decode cX2_isMixed 2 = .ok (.iload_n 2, 1) := by decide +kernel
theorem dX2_isMixed_3 : decode cX2_isMixed 3 = .ok (.invokevirtual 51, 3) := by decide +kernel
theorem dX2_isMixed_6 : decode cX2_isMixed 6 = .ok (.ifCond .eq 20, 3) := by decide +kernel
theorem dX2_isMixed_9 : decode cX2_isMixed 9 = .ok (.aload_n 0, 1) := by decide +kernel
theorem dX2_isMixed_10 : decode cX2_isMixed 10 = .ok (.iload_n 1, 1) := by decide +kernel
theorem dX2_isMixed_11 : decode cX2_isMixed 11 = .ok (.bipush 8, 2) := by decide +kernel
theorem dX2_isMixed_13 : decode cX2_isMixed 13 = .ok (.invokevirtual 48, 3) := by decide +kernel
theorem dX2_isMixed_16 : decode cX2_isMixed 16 = .ok (.aload_n 0, 1) := by decide +kernel
theorem dX2_isMixed_17 : decode cX2_isMixed 17 = .ok (.iload_n 2, 1) := by decide +kernel
theorem dX2_isMixed_18 : decode cX2_isMixed 18 = .ok (.bipush 8, 2) := by decide +kernel
theorem dX2_isMixed_20 : decode cX2_isMixed 20 = .ok (.invokevirtual 48, 3) := by decide +kernel
theorem dX2_isMixed_23 : decode cX2_isMixed 23 = .ok (.if_icmp .ne 5, 3) := by decide +kernel
theorem dX2_isMixed_26 : decode cX2_isMixed 26 = .ok (.iconst 0, 1) := by decide +kernel
theorem dX2_isMixed_27 : decode cX2_isMixed 27 = .ok (.ireturn, 1) := by decide +kernel
theorem dX2_isMixed_28 : decode cX2_isMixed 28 = .ok (.aload_n 0, 1) := by decide +kernel
theorem dX2_isMixed_29 : decode cX2_isMixed 29 = .ok (.getfield 34, 3) := by decide +kernel
theorem dX2_isMixed_32 : decode cX2_isMixed 32 = .ok (.aload_n 0, 1) := by decide +kernel
theorem dX2_isMixed_33 : decode cX2_isMixed 33 = .ok (.getfield 9, 3) := by decide +kernel
theorem dX2_isMixed_36 : decode cX2_isMixed 36 = .ok (.iload_n 2, 1) := by decide +kernel
theorem dX2_isMixed_37 : decode cX2_isMixed 37 = .ok (.iaload, 1) := by decide +kernel
theorem dX2_isMixed_38 : decode cX2_isMixed 38 = .ok (.invokevirtual 38, 3) := by decide +kernel
theorem dX2_isMixed_41 : decode cX2_isMixed 41 = .ok (.ifCond .eq 11, 3) := by decide +kernel
theorem dX2_isMixed_44 : decode cX2_isMixed 44 = .ok (.aload_n 0, 1) := by decide +kernel
theorem dX2_isMixed_45 : decode cX2_isMixed 45 = .ok (.iload_n 2, 1) := by decide +kernel
theorem dX2_isMixed_46 : decode cX2_isMixed 46 = .ok (.invokevirtual 54, 3) := by decide +kernel
theorem dX2_isMixed_49 : decode cX2_isMixed 49 = .ok (.goto 9, 3) := by decide +kernel
theorem dX2_isMixed_52 : decode cX2_isMixed 52 = .ok (.aload_n 0, 1) := by decide +kernel
theorem dX2_isMixed_53 : decode cX2_isMixed 53 = .ok (.iload_n 1, 1) := by decide +kernel
theorem dX2_isMixed_54 : decode cX2_isMixed 54 = .ok (.iload_n 2, 1) := by decide +kernel
theorem dX2_isMixed_55 : decode cX2_isMixed 55 = .ok (.invokevirtual 60, 3) := by decide +kernel
theorem dX2_isMixed_58 : decode cX2_isMixed 58 = .ok (.ireturn, 1) := by decide +kernel
theorem dX2_isOfNameBelow_0 : decode cX2_isOfNameBelow 0 = .ok (.aload_n 0, 1) := by decide +kernel
theorem dX2_isOfNameBelow_1 : decode cX2_isOfNameBelow 1 = .ok (.getfield 15, 3) := by decide +kernel
theorem dX2_isOfNameBelow_4 : decode cX2_isOfNameBelow 4 = .ok (.iload_n 1, 1) := by decide +kernel
theorem dX2_isOfNameBelow_5 : decode cX2_isOfNameBelow 5 = .ok (.iaload, 1) := by decide +kernel
theorem dX2_isOfNameBelow_6 : decode cX2_isOfNameBelow 6 = .ok (.aload_n 0, 1) := by decide +kernel
theorem dX2_isOfNameBelow_7 : decode cX2_isOfNameBelow 7 = .ok (.getfield 15, 3) := by decide +kernel
theorem dX2_isOfNameBelow_10 : decode cX2_isOfNameBelow 10 = .ok (.iload_n 2, 1) := by decide +kernel
theorem dX2_isOfNameBelow_11 : decode cX2_isOfNameBelow 11 = .ok (.iaload, 1) := by decide +kernel
theorem dX2_isOfNameBelow_12 : decode cX2_isOfNameBelow 12 = .ok (.if_icmp .ne 29, 3) := by decide +kernel
theorem dX2_isOfNameBelow_15 : decode cX2_isOfNameBelow 15 = .ok (.aload_n 0, 1) := by decide +kernel
theorem dX2_isOfNameBelow_16 : decode cX2_isOfNameBelow 16 = .ok (.getfield 34, 3) := by decide +kernel
theorem dX2_isOfNameBelow_19 : decode cX2_isOfNameBelow 19 = .ok (.aload_n 0, 1) := by decide +kernel
theorem dX2_isOfNameBelow_20 : decode cX2_isOfNameBelow 20 = .ok (.getfield 9, 3) := by decide +kernel
theorem dX2_isOfNameBelow_23 : decode cX2_isOfNameBelow 23 = .ok (.iload_n 1, 1) := by decide +kernel
theorem dX2_isOfNameBelow_24 : decode cX2_isOfNameBelow 24 = .ok (.iaload, 1) := by decide +kernel
theorem dX2_isOfNameBelow_25 : decode cX2_isOfNameBelow 25 = .ok (.aload_n 0, 1) := by decide +kernel
theorem dX2_isOfNameBelow_26 : decode cX2_isOfNameBelow 26 = .ok (.getfield 9, 3) := by decide +kernel
theorem dX2_isOfNameBelow_29 : decode cX2_isOfNameBelow 29 = .ok (.iload_n 2, 1) := by decide +kernel
theorem dX2_isOfNameBelow_30 : decode cX2_isOfNameBelow 30 = .ok (.iaload, 1) := by decide +kernel
theorem dX2_isOfNameBelow_31 : decode cX2_isOfNameBelow 31 = .ok (.invokevirtual 63, 3) := by decide +kernel
theorem dX2_isOfNameBelow_34 : decode cX2_isOfNameBelow 34 = .ok (.ifCond .eq 7, 3) := by decide +kernel
theorem dX2_isOfNameBelow_37 : decode cX2_isOfNameBelow 37 = .ok (.iconst 1, 1) := by decide +kernel
theorem dX2_isOfNameBelow_38 : decode cX2_isOfNameBelow 38 = .ok (.goto 4, 3) := by decide +kernel
theorem dX2_isOfNameBelow_41 : decode cX2_isOfNameBelow 41 = .ok (.iconst 0, 1) := by decide +kernel
theorem dX2_isOfNameBelow_42 : decode cX2_isOfNameBelow 42 = .ok (.ireturn, 1) := by decide +kernel
theorem dX2_isSeen_0 : decode cX2_isSeen 0 = .ok (.aload_n 0, 1) := by decide +kernel
theorem dX2_isSeen_1 : decode cX2_isSeen 1 = .ok (.iload_n 2, 1) := by decide +kernel
theorem dX2_isSeen_2 : decode cX2_isSeen 2 = .ok (.iconst 4, 1) := by decide +kernel
theorem dX2_isSeen_3 : decode cX2_isSeen 3 = .ok (.invokevirtual 48, 3) := by decide +kernel
theorem dX2_isSeen_6 : decode cX2_isSeen 6 = .ok (.ifCond .eq 5, 3) := by decide +kernel
theorem dX2_isSeen_9 : decode cX2_isSeen 9 = .ok (.iconst 0, 1) := by decide +kernel
theorem dX2_isSeen_10 : decode cX2_isSeen 10 = .ok (.ireturn, 1) := by decide +kernel
theorem dX2_isSeen_11 : decode cX2_isSeen 11 = .ok (.aload_n 0, 1) := by decide +kernel
theorem dX2_isSeen_12 : decode cX2_isSeen 12 = .ok (.iload_n 2, 1) := by decide +kernel
theorem dX2_isSeen_13 : decode cX2_isSeen 13 = .ok (.iconst 3, 1) := by decide +kernel
theorem dX2_isSeen_14 : decode cX2_isSeen 14 = .ok (.invokevirtual 48, 3) := by decide +kernel
theorem dX2_isSeen_17 : decode cX2_isSeen 17 = .ok (.ifCond .ne 32, 3) := by decide +kernel
theorem dX2_isSeen_20 : decode cX2_isSeen 20 = .ok (.aload_n 0, 1) := by decide +kernel
theorem dX2_isSeen_21 : decode cX2_isSeen 21 = .ok (.getfield 34, 3) := by decide +kernel
theorem dX2_isSeen_24 : decode cX2_isSeen 24 = .ok (.aload_n 0, 1) := by decide +kernel
theorem dX2_isSeen_25 : decode cX2_isSeen 25 = .ok (.getfield 9, 3) := by decide +kernel
theorem dX2_isSeen_28 : decode cX2_isSeen 28 = .ok (.iload_n 1, 1) := by decide +kernel
theorem dX2_isSeen_29 : decode cX2_isSeen 29 = .ok (.iaload, 1) := by decide +kernel
theorem dX2_isSeen_30 : decode cX2_isSeen 30 = .ok (.invokevirtual 66, 3) := by decide +kernel
theorem dX2_isSeen_33 : decode cX2_isSeen 33 = .ok (.aload_n 0, 1) := by decide +kernel
theorem dX2_isSeen_34 : decode cX2_isSeen 34 = .ok (.getfield 34, 3) := by decide +kernel
theorem dX2_isSeen_37 : decode cX2_isSeen 37 = .ok (.aload_n 0, 1) := by decide +kernel
theorem dX2_isSeen_38 : decode cX2_isSeen 38 = .ok (.getfield 9, 3) := by decide +kernel
theorem dX2_isSeen_41 : decode cX2_isSeen 41 = .ok (.iload_n 2, 1) := by decide +kernel
theorem dX2_isSeen_42 : decode cX2_isSeen 42 = .ok (.iaload, 1) := by decide +kernel
theorem dX2_isSeen_43 : decode cX2_isSeen 43 = .ok (.invokevirtual 66, 3) := by decide +kernel
theorem dX2_isSeen_46 : decode cX2_isSeen 46 = .ok (.if_icmp .ne 7, 3) := by decide +kernel
theorem dX2_isSeen_49 : decode cX2_isSeen 49 = .ok (.iconst 1, 1) := by decide +kernel
theorem dX2_isSeen_50 : decode cX2_isSeen 50 = .ok (.goto 4, 3) := by decide +kernel
theorem dX2_isSeen_53 : decode cX2_isSeen 53 = .ok (.iconst 0, 1) := by decide +kernel
theorem dX2_isSeen_54 : decode cX2_isSeen 54 = .ok (.ireturn, 1) := by decide +kernel
theorem dX2_isReached_0 : decode cX2_isReached 0 = .ok (.iconst 1, 1) := by decide +kernel
theorem dX2_isReached_1 : decode cX2_isReached 1 = .ok (.aload_n 0, 1) := by decide +kernel
theorem dX2_isReached_2 : decode cX2_isReached 2 = .ok (.getfield 34, 3) := by decide +kernel
theorem dX2_isReached_5 : decode cX2_isReached 5 = .ok (.aload_n 0, 1) := by decide +kernel
theorem dX2_isReached_6 : decode cX2_isReached 6 = .ok (.getfield 9, 3) := by decide +kernel
theorem dX2_isReached_9 : decode cX2_isReached 9 = .ok (.iload_n 1, 1) := by decide +kernel
theorem dX2_isReached_10 : decode cX2_isReached 10 = .ok (.iaload, 1) := by decide +kernel
theorem dX2_isReached_11 : decode cX2_isReached 11 = .ok (.invokevirtual 66, 3) := by decide +kernel
theorem dX2_isReached_14 : decode cX2_isReached 14 = .ok (.ishl, 1) := by decide +kernel
theorem dX2_isReached_15 : decode cX2_isReached 15 = .ok (.istore_n 3, 1) := by decide +kernel
theorem dX2_isReached_16 : decode cX2_isReached 16 = .ok (.aload_n 0, 1) := by decide +kernel
theorem dX2_isReached_17 : decode cX2_isReached 17 = .ok (.getfield 34, 3) := by decide +kernel
theorem dX2_isReached_20 : decode cX2_isReached 20 = .ok (.aload_n 0, 1) := by decide +kernel
theorem dX2_isReached_21 : decode cX2_isReached 21 = .ok (.getfield 9, 3) := by decide +kernel
theorem dX2_isReached_24 : decode cX2_isReached 24 = .ok (.iload_n 1, 1) := by decide +kernel
theorem dX2_isReached_25 : decode cX2_isReached 25 = .ok (.iaload, 1) := by decide +kernel
theorem dX2_isReached_26 : decode cX2_isReached 26 = .ok (.invokevirtual 70, 3) := by decide +kernel
theorem dX2_isReached_29 : decode cX2_isReached 29 = .ok (.istore 4, 2) := by decide +kernel
theorem dX2_isReached_31 : decode cX2_isReached 31 = .ok (.iconst 0, 1) := by decide +kernel
theorem dX2_isReached_32 : decode cX2_isReached 32 = .ok (.istore 5, 2) := by decide +kernel
theorem dX2_isReached_34 : decode cX2_isReached 34 = .ok (.iload 5, 2) := by decide +kernel
theorem dX2_isReached_36 : decode cX2_isReached 36 = .ok (.bipush 16, 2) := by decide +kernel
theorem dX2_isReached_38 : decode cX2_isReached 38 = .ok (.if_icmp .ge 107, 3) := by decide +kernel
theorem dX2_isReached_41 : decode cX2_isReached 41 = .ok (.iload 4, 2) := by decide +kernel
theorem dX2_isReached_43 : decode cX2_isReached 43 = .ok (.iconst (-1), 1) := by decide +kernel
theorem dX2_isReached_44 : decode cX2_isReached 44 = .ok (.if_icmp .eq 101, 3) := by decide +kernel
theorem dX2_isReached_47 : decode cX2_isReached 47 = .ok (.aload_n 0, 1) := by decide +kernel
theorem dX2_isReached_48 : decode cX2_isReached 48 = .ok (.iload 4, 2) := by decide +kernel
theorem dX2_isReached_50 : decode cX2_isReached 50 = .ok (.aload_n 0, 1) := by decide +kernel
theorem dX2_isReached_51 : decode cX2_isReached 51 = .ok (.getfield 15, 3) := by decide +kernel
theorem dX2_isReached_54 : decode cX2_isReached 54 = .ok (.iload_n 1, 1) := by decide +kernel
theorem dX2_isReached_55 : decode cX2_isReached 55 = .ok (.iaload, 1) := by decide +kernel
theorem dX2_isReached_56 : decode cX2_isReached 56 = .ok (.invokevirtual 73, 3) := by decide +kernel
theorem dX2_isReached_59 : decode cX2_isReached 59 = .ok (.istore 6, 2) := by decide +kernel
theorem dX2_isReached_61 : decode cX2_isReached 61 = .ok (.aload_n 0, 1) := by decide +kernel
theorem dX2_isReached_62 : decode cX2_isReached 62 = .ok (.getfield 34, 3) := by decide +kernel
theorem dX2_isReached_65 : decode cX2_isReached 65 = .ok (.iload 4, 2) := by decide +kernel
theorem dX2_isReached_67 : decode cX2_isReached 67 = .ok (.invokevirtual 66, 3) := by decide +kernel
theorem dX2_isReached_70 : decode cX2_isReached 70 = .ok (.istore 7, 2) := by decide +kernel
theorem dX2_isReached_72 : decode cX2_isReached 72 = .ok (.aload_n 0, 1) := by decide +kernel
theorem dX2_isReached_73 : decode cX2_isReached 73 = .ok (.iload 6, 2) := by decide +kernel
theorem dX2_isReached_75 : decode cX2_isReached 75 = .ok (.invokevirtual 54, 3) := by decide +kernel
theorem dX2_isReached_78 : decode cX2_isReached 78 = .ok (.ifCond .eq 26, 3) := by decide +kernel
theorem dX2_isReached_81 : decode cX2_isReached 81 = .ok (.aload_n 0, 1) := by decide +kernel
theorem dX2_isReached_82 : decode cX2_isReached 82 = .ok (.iload 6, 2) := by decide +kernel
theorem dX2_isReached_84 : decode cX2_isReached 84 = .ok (.iconst 3, 1) := by decide +kernel
theorem dX2_isReached_85 : decode cX2_isReached 85 = .ok (.invokevirtual 48, 3) := by decide +kernel
theorem dX2_isReached_88 : decode cX2_isReached 88 = .ok (.ifCond .ne 12, 3) := by decide +kernel
theorem dX2_isReached_91 : decode cX2_isReached 91 = .ok (.iload_n 3, 1) := by decide +kernel
theorem dX2_isReached_92 : decode cX2_isReached 92 = .ok (.iload 7, 2) := by decide +kernel
theorem dX2_isReached_94 : decode cX2_isReached 94 = .ok (.invokestatic 44, 3) := by decide +kernel
theorem dX2_isReached_97 : decode cX2_isReached 97 = .ok (.ifCond .eq 7, 3) := by decide +kernel
theorem dX2_isReached_100 : decode cX2_isReached 100 = .ok (.iconst 1, 1) := by decide +kernel
theorem dX2_isReached_101 : decode cX2_isReached 101 = .ok (.goto 4, 3) := by decide +kernel
theorem dX2_isReached_104 : decode cX2_isReached 104 = .ok (.iconst 0, 1) := by decide +kernel
end
section
theorem dX2_isReached_105 : decode cX2_isReached 105 = .ok (.istore 8, 2) := by decide +kernel
theorem dX2_isReached_107 : decode cX2_isReached 107 = .ok (.iload 6, 2) := by decide +kernel
theorem dX2_isReached_109 : decode cX2_isReached 109 = .ok (.iload_n 2, 1) := by decide +kernel
theorem dX2_isReached_110 : decode cX2_isReached 110 = .ok (.if_icmp .ne 6, 3) := by decide +kernel
theorem dX2_isReached_113 : decode cX2_isReached 113 = .ok (.iload 8, 2) := by decide +kernel
theorem dX2_isReached_115 : decode cX2_isReached 115 = .ok (.ireturn, 1) := by decide +kernel
theorem dX2_isReached_116 : decode cX2_isReached 116 = .ok (.iload 8, 2) := by decide +kernel
theorem dX2_isReached_118 : decode cX2_isReached 118 = .ok (.ifCond .eq 10, 3) := by decide +kernel
theorem dX2_isReached_121 : decode cX2_isReached 121 = .ok (.iload_n 3, 1) := by decide +kernel
theorem dX2_isReached_122 : decode cX2_isReached 122 = .ok (.iconst 1, 1) := by decide +kernel
theorem dX2_isReached_123 : decode cX2_isReached 123 = .ok (.iload 7, 2) := by decide +kernel
theorem dX2_isReached_125 : decode cX2_isReached 125 = .ok (.ishl, 1) := by decide +kernel
theorem dX2_isReached_126 : decode cX2_isReached 126 = .ok (.ior, 1) := by decide +kernel
theorem dX2_isReached_127 : decode cX2_isReached 127 = .ok (.istore_n 3, 1) := by decide +kernel
theorem dX2_isReached_128 : decode cX2_isReached 128 = .ok (.aload_n 0, 1) := by decide +kernel
theorem dX2_isReached_129 : decode cX2_isReached 129 = .ok (.getfield 34, 3) := by decide +kernel
theorem dX2_isReached_132 : decode cX2_isReached 132 = .ok (.iload 4, 2) := by decide +kernel
theorem dX2_isReached_134 : decode cX2_isReached 134 = .ok (.invokevirtual 70, 3) := by decide +kernel
theorem dX2_isReached_137 : decode cX2_isReached 137 = .ok (.istore 4, 2) := by decide +kernel
theorem dX2_isReached_139 : decode cX2_isReached 139 = .ok (.iinc 5 1, 3) := by decide +kernel
theorem dX2_isReached_142 : decode cX2_isReached 142 = .ok (.goto (-108), 3) := by decide +kernel
theorem dX2_isReached_145 : decode cX2_isReached 145 = .ok (.iconst 0, 1) := by decide +kernel
theorem dX2_isReached_146 : decode cX2_isReached 146 = .ok (.ireturn, 1) := by decide +kernel
theorem dX2_countOverridden_0 : decode cX2_countOverridden 0 = .ok (.iconst 0, 1) := by decide +kernel
theorem dX2_countOverridden_1 : decode cX2_countOverridden 1 = .ok (.istore_n 2, 1) := by decide +kernel
theorem dX2_countOverridden_2 : decode cX2_countOverridden 2 = .ok (.iconst 0, 1) := by decide +kernel
theorem dX2_countOverridden_3 : decode cX2_countOverridden 3 = .ok (.istore_n 3, 1) := by decide +kernel
theorem dX2_countOverridden_4 : decode cX2_countOverridden 4 = .ok (.iload_n 3, 1) := by decide +kernel
theorem dX2_countOverridden_5 : decode cX2_countOverridden 5 = .ok (.aload_n 0, 1) := by decide +kernel
theorem dX2_countOverridden_6 : decode cX2_countOverridden 6 = .ok (.getfield 30, 3) := by decide +kernel
theorem dX2_countOverridden_9 : decode cX2_countOverridden 9 = .ok (.if_icmp .ge 21, 3) := by decide +kernel
theorem dX2_countOverridden_12 : decode cX2_countOverridden 12 = .ok (.iload_n 2, 1) := by decide +kernel
theorem dX2_countOverridden_13 : decode cX2_countOverridden 13 = .ok (.aload_n 0, 1) := by decide +kernel
theorem dX2_countOverridden_14 : decode cX2_countOverridden 14 = .ok (.iload_n 1, 1) := by decide +kernel
theorem dX2_countOverridden_15 : decode cX2_countOverridden 15 = .ok (.iload_n 3, 1) := by decide +kernel
theorem dX2_countOverridden_16 : decode cX2_countOverridden 16 = .ok (.invokevirtual 77, 3) := by decide +kernel
theorem dX2_countOverridden_19 : decode cX2_countOverridden 19 = .ok (.invokestatic 80, 3) := by decide +kernel
theorem dX2_countOverridden_22 : decode cX2_countOverridden 22 = .ok (.iadd, 1) := by decide +kernel
theorem dX2_countOverridden_23 : decode cX2_countOverridden 23 = .ok (.istore_n 2, 1) := by decide +kernel
theorem dX2_countOverridden_24 : decode cX2_countOverridden 24 = .ok (.iinc 3 1, 3) := by decide +kernel
theorem dX2_countOverridden_27 : decode cX2_countOverridden 27 = .ok (.goto (-23), 3) := by decide +kernel
theorem dX2_countOverridden_30 : decode cX2_countOverridden 30 = .ok (.iload_n 2, 1) := by decide +kernel
theorem dX2_countOverridden_31 : decode cX2_countOverridden 31 = .ok (.ireturn, 1) := by decide +kernel
theorem dX2_countBridges_0 : decode cX2_countBridges 0 = .ok (.iconst 0, 1) := by decide +kernel
theorem dX2_countBridges_1 : decode cX2_countBridges 1 = .ok (.istore_n 2, 1) := by decide +kernel
theorem dX2_countBridges_2 : decode cX2_countBridges 2 = .ok (.iconst 0, 1) := by decide +kernel
theorem dX2_countBridges_3 : decode cX2_countBridges 3 = .ok (.istore_n 3, 1) := by decide +kernel
theorem dX2_countBridges_4 : decode cX2_countBridges 4 = .ok (.iload_n 3, 1) := by decide +kernel
theorem dX2_countBridges_5 : decode cX2_countBridges 5 = .ok (.aload_n 0, 1) := by decide +kernel
theorem dX2_countBridges_6 : decode cX2_countBridges 6 = .ok (.getfield 30, 3) := by decide +kernel
theorem dX2_countBridges_9 : decode cX2_countBridges 9 = .ok (.if_icmp .ge 44, 3) := by decide +kernel
theorem dX2_countBridges_12 : decode cX2_countBridges 12 = .ok (.aload_n 0, 1) := by decide +kernel
theorem dX2_countBridges_13 : decode cX2_countBridges 13 = .ok (.getfield 18, 3) := by decide +kernel
theorem dX2_countBridges_16 : decode cX2_countBridges 16 = .ok (.iload_n 3, 1) := by decide +kernel
theorem dX2_countBridges_17 : decode cX2_countBridges 17 = .ok (.iaload, 1) := by decide +kernel
theorem dX2_countBridges_18 : decode cX2_countBridges 18 = .ok (.aload_n 0, 1) := by decide +kernel
theorem dX2_countBridges_19 : decode cX2_countBridges 19 = .ok (.getfield 18, 3) := by decide +kernel
theorem dX2_countBridges_22 : decode cX2_countBridges 22 = .ok (.iload_n 1, 1) := by decide +kernel
theorem dX2_countBridges_23 : decode cX2_countBridges 23 = .ok (.iaload, 1) := by decide +kernel
theorem dX2_countBridges_24 : decode cX2_countBridges 24 = .ok (.if_icmp .eq 23, 3) := by decide +kernel
theorem dX2_countBridges_27 : decode cX2_countBridges 27 = .ok (.aload_n 0, 1) := by decide +kernel
theorem dX2_countBridges_28 : decode cX2_countBridges 28 = .ok (.iload_n 1, 1) := by decide +kernel
theorem dX2_countBridges_29 : decode cX2_countBridges 29 = .ok (.iload_n 3, 1) := by decide +kernel
theorem dX2_countBridges_30 : decode cX2_countBridges 30 = .ok (.invokevirtual 77, 3) := by decide +kernel
theorem dX2_countBridges_33 : decode cX2_countBridges 33 = .ok (.ifCond .eq 14, 3) := by decide +kernel
theorem dX2_countBridges_36 : decode cX2_countBridges 36 = .ok (.iload_n 2, 1) := by decide +kernel
theorem dX2_countBridges_37 : decode cX2_countBridges 37 = .ok (.iconst 1, 1) := by decide +kernel
theorem dX2_countBridges_38 : decode cX2_countBridges 38 = .ok (.aload_n 0, 1) := by decide +kernel
theorem dX2_countBridges_39 : decode cX2_countBridges 39 = .ok (.getfield 18, 3) := by decide +kernel
theorem dX2_countBridges_42 : decode cX2_countBridges 42 = .ok (.iload_n 3, 1) := by decide +kernel
theorem dX2_countBridges_43 : decode cX2_countBridges 43 = .ok (.iaload, 1) := by decide +kernel
theorem dX2_countBridges_44 : decode cX2_countBridges 44 = .ok (.ishl, 1) := by decide +kernel
theorem dX2_countBridges_45 : decode cX2_countBridges 45 = .ok (.ior, 1) := by decide +kernel
theorem dX2_countBridges_46 : decode cX2_countBridges 46 = .ok (.istore_n 2, 1) := by decide +kernel
theorem dX2_countBridges_47 : decode cX2_countBridges 47 = .ok (.iinc 3 1, 3) := by decide +kernel
theorem dX2_countBridges_50 : decode cX2_countBridges 50 = .ok (.goto (-46), 3) := by decide +kernel
theorem dX2_countBridges_53 : decode cX2_countBridges 53 = .ok (.iload_n 2, 1) := by decide +kernel
theorem dX2_countBridges_54 : decode cX2_countBridges 54 = .ok (.invokestatic 84, 3) := by decide +kernel
theorem dX2_countBridges_57 : decode cX2_countBridges 57 = .ok (.ireturn, 1) := by decide +kernel
theorem dX0_init_0 : decode cX0_init 0 = .ok (.aload_n 0, 1) := by decide +kernel
theorem dX0_init_1 : decode cX0_init 1 = .ok (.invokespecial 3, 3) := by decide +kernel
theorem dX0_init_4 : decode cX0_init 4 = .ok (.aload_n 0, 1) := by decide +kernel
theorem dX0_init_5 : decode cX0_init 5 = .ok (.aload_n 1, 1) := by decide +kernel
theorem dX0_init_6 : decode cX0_init 6 = .ok (.putfield 9, 3) := by decide +kernel
theorem dX0_init_9 : decode cX0_init 9 = .ok (.aload_n 0, 1) := by decide +kernel
theorem dX0_init_10 : decode cX0_init 10 = .ok (.aload_n 2, 1) := by decide +kernel
theorem dX0_init_11 : decode cX0_init 11 = .ok (.putfield 15, 3) := by decide +kernel
theorem dX0_init_14 : decode cX0_init 14 = .ok (.return_, 1) := by decide +kernel
theorem dX0_choose_0 : decode cX0_choose 0 = .ok (.aload_n 0, 1) := by decide +kernel
theorem dX0_choose_1 : decode cX0_choose 1 = .ok (.getfield 15, 3) := by decide +kernel
theorem dX0_choose_4 : decode cX0_choose 4 = .ok (.iload_n 2, 1) := by decide +kernel
theorem dX0_choose_5 : decode cX0_choose 5 = .ok (.invokevirtual 19, 3) := by decide +kernel
theorem dX0_choose_8 : decode cX0_choose 8 = .ok (.istore_n 3, 1) := by decide +kernel
theorem dX0_choose_9 : decode cX0_choose 9 = .ok (.aload_n 0, 1) := by decide +kernel
theorem dX0_choose_10 : decode cX0_choose 10 = .ok (.getfield 9, 3) := by decide +kernel
theorem dX0_choose_13 : decode cX0_choose 13 = .ok (.aload_n 0, 1) := by decide +kernel
theorem dX0_choose_14 : decode cX0_choose 14 = .ok (.getfield 15, 3) := by decide +kernel
theorem dX0_choose_17 : decode cX0_choose 17 = .ok (.iload_n 2, 1) := by decide +kernel
theorem dX0_choose_18 : decode cX0_choose 18 = .ok (.invokevirtual 25, 3) := by decide +kernel
theorem dX0_choose_21 : decode cX0_choose 21 = .ok (.invokevirtual 28, 3) := by decide +kernel
theorem dX0_choose_24 : decode cX0_choose 24 = .ok (.istore 4, 2) := by decide +kernel
theorem dX0_choose_26 : decode cX0_choose 26 = .ok (.iload_n 1, 1) := by decide +kernel
theorem dX0_choose_27 : decode cX0_choose 27 = .ok (.istore 5, 2) := by decide +kernel
theorem dX0_choose_29 : decode cX0_choose 29 = .ok (.iconst 0, 1) := by decide +kernel
theorem dX0_choose_30 : decode cX0_choose 30 = .ok (.istore 6, 2) := by decide +kernel
theorem dX0_choose_32 : decode cX0_choose 32 = .ok (.iload 6, 2) := by decide +kernel
theorem dX0_choose_34 : decode cX0_choose 34 = .ok (.bipush 16, 2) := by decide +kernel
theorem dX0_choose_36 : decode cX0_choose 36 = .ok (.if_icmp .ge 77, 3) := by decide +kernel
theorem dX0_choose_39 : decode cX0_choose 39 = .ok (.iload 5, 2) := by decide +kernel
theorem dX0_choose_41 : decode cX0_choose 41 = .ok (.iconst (-1), 1) := by decide +kernel
theorem dX0_choose_42 : decode cX0_choose 42 = .ok (.if_icmp .eq 71, 3) := by decide +kernel
theorem dX0_choose_45 : decode cX0_choose 45 = .ok (.aload_n 0, 1) := by decide +kernel
theorem dX0_choose_46 : decode cX0_choose 46 = .ok (.getfield 15, 3) := by decide +kernel
theorem dX0_choose_49 : decode cX0_choose 49 = .ok (.iload 5, 2) := by decide +kernel
theorem dX0_choose_51 : decode cX0_choose 51 = .ok (.iload_n 3, 1) := by decide +kernel
theorem dX0_choose_52 : decode cX0_choose 52 = .ok (.invokevirtual 34, 3) := by decide +kernel
theorem dX0_choose_55 : decode cX0_choose 55 = .ok (.istore 7, 2) := by decide +kernel
theorem dX0_choose_57 : decode cX0_choose 57 = .ok (.aload_n 0, 1) := by decide +kernel
theorem dX0_choose_58 : decode cX0_choose 58 = .ok (.getfield 15, 3) := by decide +kernel
theorem dX0_choose_61 : decode cX0_choose 61 = .ok (.iload 7, 2) := by decide +kernel
theorem dX0_choose_63 : decode cX0_choose 63 = .ok (.invokevirtual 38, 3) := by decide +kernel
theorem dX0_choose_66 : decode cX0_choose 66 = .ok (.ifCond .eq 30, 3) := by decide +kernel
theorem dX0_choose_69 : decode cX0_choose 69 = .ok (.iload 4, 2) := by decide +kernel
theorem dX0_choose_71 : decode cX0_choose 71 = .ok (.ifCond .ne 22, 3) := by decide +kernel
theorem dX0_choose_74 : decode cX0_choose 74 = .ok (.iload 7, 2) := by decide +kernel
theorem dX0_choose_76 : decode cX0_choose 76 = .ok (.iload_n 2, 1) := by decide +kernel
theorem dX0_choose_77 : decode cX0_choose 77 = .ok (.if_icmp .eq 16, 3) := by decide +kernel
theorem dX0_choose_80 : decode cX0_choose 80 = .ok (.aload_n 0, 1) := by decide +kernel
theorem dX0_choose_81 : decode cX0_choose 81 = .ok (.getfield 15, 3) := by decide +kernel
theorem dX0_choose_84 : decode cX0_choose 84 = .ok (.iload 7, 2) := by decide +kernel
theorem dX0_choose_86 : decode cX0_choose 86 = .ok (.iload_n 2, 1) := by decide +kernel
theorem dX0_choose_87 : decode cX0_choose 87 = .ok (.invokevirtual 41, 3) := by decide +kernel
theorem dX0_choose_90 : decode cX0_choose 90 = .ok (.ifCond .eq 6, 3) := by decide +kernel
theorem dX0_choose_93 : decode cX0_choose 93 = .ok (.iload 7, 2) := by decide +kernel
theorem dX0_choose_95 : decode cX0_choose 95 = .ok (.ireturn, 1) := by decide +kernel
theorem dX0_choose_96 : decode cX0_choose 96 = .ok (.aload_n 0, 1) := by decide +kernel
theorem dX0_choose_97 : decode cX0_choose 97 = .ok (.getfield 9, 3) := by decide +kernel
theorem dX0_choose_100 : decode cX0_choose 100 = .ok (.iload 5, 2) := by decide +kernel
theorem dX0_choose_102 : decode cX0_choose 102 = .ok (.invokevirtual 45, 3) := by decide +kernel
theorem dX0_choose_105 : decode cX0_choose 105 = .ok (.istore 5, 2) := by decide +kernel
theorem dX0_choose_107 : decode cX0_choose 107 = .ok (.iinc 6 1, 3) := by decide +kernel
theorem dX0_choose_110 : decode cX0_choose 110 = .ok (.goto (-78), 3) := by decide +kernel
theorem dX0_choose_113 : decode cX0_choose 113 = .ok (.aload_n 0, 1) := by decide +kernel
theorem dX0_choose_114 : decode cX0_choose 114 = .ok (.iload_n 1, 1) := by decide +kernel
theorem dX0_choose_115 : decode cX0_choose 115 = .ok (.iload_n 3, 1) := by decide +kernel
theorem dX0_choose_116 : decode cX0_choose 116 = .ok (.invokevirtual 48, 3) := by decide +kernel
theorem dX0_choose_119 : decode cX0_choose 119 = .ok (.ireturn, 1) := by decide +kernel
theorem dX0_chooseOfInterfaces_0 : decode cX0_chooseOfInterfaces 0 = .ok (.iconst 0, 1) := by decide +kernel
theorem dX0_chooseOfInterfaces_1 : decode cX0_chooseOfInterfaces 1 = .ok (.istore_n 3, 1) := by decide +kernel
theorem dX0_chooseOfInterfaces_2 : decode cX0_chooseOfInterfaces 2 = .ok (.iconst 0, 1) := by decide +kernel
theorem dX0_chooseOfInterfaces_3 : decode cX0_chooseOfInterfaces 3 = .ok (.istore 4, 2) := by decide +kernel
theorem dX0_chooseOfInterfaces_5 : decode cX0_chooseOfInterfaces 5 = .ok (.iconst 0, 1) := by decide +kernel
theorem dX0_chooseOfInterfaces_6 : decode cX0_chooseOfInterfaces 6 = .ok (.istore 5, 2) := by decide +kernel
theorem dX0_chooseOfInterfaces_8 : decode cX0_chooseOfInterfaces 8 = .ok (.iload 5, 2) := by decide +kernel
theorem dX0_chooseOfInterfaces_10 : decode cX0_chooseOfInterfaces 10 = .ok (.iload_n 1, 1) := by decide +kernel
theorem dX0_chooseOfInterfaces_11 : decode cX0_chooseOfInterfaces 11 = .ok (.if_icmp .ge 75, 3) := by decide +kernel
theorem dX0_chooseOfInterfaces_14 : decode cX0_chooseOfInterfaces 14 = .ok (.aload_n 0, 1) := by decide +kernel
theorem dX0_chooseOfInterfaces_15 : decode cX0_chooseOfInterfaces 15 = .ok (.getfield 9, 3) := by decide +kernel
theorem dX0_chooseOfInterfaces_18 : decode cX0_chooseOfInterfaces 18 = .ok (.iload 5, 2) := by decide +kernel
theorem dX0_chooseOfInterfaces_20 : decode cX0_chooseOfInterfaces 20 = .ok (.invokevirtual 28, 3) := by decide +kernel
theorem dX0_chooseOfInterfaces_23 : decode cX0_chooseOfInterfaces 23 = .ok (.ifCond .eq 57, 3) := by decide +kernel
theorem dX0_chooseOfInterfaces_26 : decode cX0_chooseOfInterfaces 26 = .ok (.aload_n 0, 1) := by decide +kernel
theorem dX0_chooseOfInterfaces_27 : decode cX0_chooseOfInterfaces 27 = .ok (.getfield 9, 3) := by decide +kernel
theorem dX0_chooseOfInterfaces_30 : decode cX0_chooseOfInterfaces 30 = .ok (.iload_n 1, 1) := by decide +kernel
theorem dX0_chooseOfInterfaces_31 : decode cX0_chooseOfInterfaces 31 = .ok (.iload 5, 2) := by decide +kernel
theorem dX0_chooseOfInterfaces_33 : decode cX0_chooseOfInterfaces 33 = .ok (.invokevirtual 51, 3) := by decide +kernel
theorem dX0_chooseOfInterfaces_36 : decode cX0_chooseOfInterfaces 36 = .ok (.ifCond .eq 44, 3) := by decide +kernel
theorem dX0_chooseOfInterfaces_39 : decode cX0_chooseOfInterfaces 39 = .ok (.aload_n 0, 1) := by decide +kernel
theorem dX0_chooseOfInterfaces_40 : decode cX0_chooseOfInterfaces 40 = .ok (.getfield 15, 3) := by decide +kernel
theorem dX0_chooseOfInterfaces_43 : decode cX0_chooseOfInterfaces 43 = .ok (.aload_n 0, 1) := by decide +kernel
theorem dX0_chooseOfInterfaces_44 : decode cX0_chooseOfInterfaces 44 = .ok (.getfield 15, 3) := by decide +kernel
theorem dX0_chooseOfInterfaces_47 : decode cX0_chooseOfInterfaces 47 = .ok (.iload 5, 2) := by decide +kernel
theorem dX0_chooseOfInterfaces_49 : decode cX0_chooseOfInterfaces 49 = .ok (.iload_n 2, 1) := by decide +kernel
theorem dX0_chooseOfInterfaces_50 : decode cX0_chooseOfInterfaces 50 = .ok (.invokevirtual 34, 3) := by decide +kernel
theorem dX0_chooseOfInterfaces_53 : decode cX0_chooseOfInterfaces 53 = .ok (.invokevirtual 38, 3) := by decide +kernel
theorem dX0_chooseOfInterfaces_56 : decode cX0_chooseOfInterfaces 56 = .ok (.ifCond .eq 24, 3) := by decide +kernel
theorem dX0_chooseOfInterfaces_59 : decode cX0_chooseOfInterfaces 59 = .ok (.iload_n 3, 1) := by decide +kernel
theorem dX0_chooseOfInterfaces_60 : decode cX0_chooseOfInterfaces 60 = .ok (.iconst 1, 1) := by decide +kernel
theorem dX0_chooseOfInterfaces_61 : decode cX0_chooseOfInterfaces 61 = .ok (.iload 5, 2) := by decide +kernel
theorem dX0_chooseOfInterfaces_63 : decode cX0_chooseOfInterfaces 63 = .ok (.ishl, 1) := by decide +kernel
theorem dX0_chooseOfInterfaces_64 : decode cX0_chooseOfInterfaces 64 = .ok (.ior, 1) := by decide +kernel
theorem dX0_chooseOfInterfaces_65 : decode cX0_chooseOfInterfaces 65 = .ok (.istore_n 3, 1) := by decide +kernel
theorem dX0_chooseOfInterfaces_66 : decode cX0_chooseOfInterfaces 66 = .ok (.iload 4, 2) := by decide +kernel
theorem dX0_chooseOfInterfaces_68 : decode cX0_chooseOfInterfaces 68 = .ok (.aload_n 0, 1) := by decide +kernel
theorem dX0_chooseOfInterfaces_69 : decode cX0_chooseOfInterfaces 69 = .ok (.getfield 9, 3) := by decide +kernel
theorem dX0_chooseOfInterfaces_72 : decode cX0_chooseOfInterfaces 72 = .ok (.iload 5, 2) := by decide +kernel
theorem dX0_chooseOfInterfaces_74 : decode cX0_chooseOfInterfaces 74 = .ok (.invokevirtual 54, 3) := by decide +kernel
theorem dX0_chooseOfInterfaces_77 : decode cX0_chooseOfInterfaces 77 = .ok (.ior, 1) := by decide +kernel
theorem dX0_chooseOfInterfaces_78 : decode cX0_chooseOfInterfaces 78 = .ok (.istore 4, 2) := by decide +kernel
theorem dX0_chooseOfInterfaces_80 : decode cX0_chooseOfInterfaces 80 = .ok (.iinc 5 1, 3) := by decide +kernel
theorem dX0_chooseOfInterfaces_83 : decode cX0_chooseOfInterfaces 83 = .ok (.goto (-75), 3) := by decide +kernel
theorem dX0_chooseOfInterfaces_86 : decode cX0_chooseOfInterfaces 86 = .ok (.aload_n 0, 1) := by decide +kernel
theorem dX0_chooseOfInterfaces_87 : decode cX0_chooseOfInterfaces 87 = .ok (.iload_n 3, 1) := by decide +kernel
theorem dX0_chooseOfInterfaces_88 : decode cX0_chooseOfInterfaces 88 = .ok (.iload 4, 2) := by decide +kernel
theorem dX0_chooseOfInterfaces_90 : decode cX0_chooseOfInterfaces 90 = .ok (.iconst (-1), 1) := by decide +kernel
theorem dX0_chooseOfInterfaces_91 : decode cX0_chooseOfInterfaces 91 = .ok (.ixor, 1) := by decide +kernel
theorem dX0_chooseOfInterfaces_92 : decode cX0_chooseOfInterfaces 92 = .ok (.iand, 1) := by decide +kernel
theorem dX0_chooseOfInterfaces_93 : decode cX0_chooseOfInterfaces 93 = .ok (.iload_n 2, 1) := by decide +kernel
theorem dX0_chooseOfInterfaces_94 : decode cX0_chooseOfInterfaces 94 = .ok (.invokevirtual 57, 3) := by decide +kernel
theorem dX0_chooseOfInterfaces_97 : decode cX0_chooseOfInterfaces 97 = .ok (.ireturn, 1) := by decide +kernel
theorem dX0_leastOrFight_0 : decode cX0_leastOrFight 0 = .ok (.iconst (-1), 1) := by decide +kernel
theorem dX0_leastOrFight_1 : decode cX0_leastOrFight 1 = .ok (.istore_n 3, 1) := by decide +kernel
theorem dX0_leastOrFight_2 : decode cX0_leastOrFight 2 = .ok (.iconst 0, 1) := by decide +kernel
theorem dX0_leastOrFight_3 : decode cX0_leastOrFight 3 = .ok (.istore 4, 2) := by decide +kernel
theorem dX0_leastOrFight_5 : decode cX0_leastOrFight 5 = .ok (.iconst 0, 1) := by decide +kernel
theorem dX0_leastOrFight_6 : decode cX0_leastOrFight 6 = .ok (.istore 5, 2) := by decide +kernel
theorem dX0_leastOrFight_8 : decode cX0_leastOrFight 8 = .ok (.iload 5, 2) := by decide +kernel
theorem dX0_leastOrFight_10 : decode cX0_leastOrFight 10 = .ok (.aload_n 0, 1) := by decide +kernel
theorem dX0_leastOrFight_11 : decode cX0_leastOrFight 11 = .ok (.getfield 9, 3) := by decide +kernel
theorem dX0_leastOrFight_14 : decode cX0_leastOrFight 14 = .ok (.invokevirtual 60, 3) := by decide +kernel
theorem dX0_leastOrFight_17 : decode cX0_leastOrFight 17 = .ok (.if_icmp .ge 83, 3) := by decide +kernel
theorem dX0_leastOrFight_20 : decode cX0_leastOrFight 20 = .ok (.iload_n 1, 1) := by decide +kernel
theorem dX0_leastOrFight_21 : decode cX0_leastOrFight 21 = .ok (.iload 5, 2) := by decide +kernel
theorem dX0_leastOrFight_23 : decode cX0_leastOrFight 23 = .ok (.invokestatic 64, 3) := by decide +kernel
theorem dX0_leastOrFight_26 : decode cX0_leastOrFight 26 = .ok (.ifCond .eq 16, 3) := by decide +kernel
theorem dX0_leastOrFight_29 : decode cX0_leastOrFight 29 = .ok (.aload_n 0, 1) := by decide +kernel
theorem dX0_leastOrFight_30 : decode cX0_leastOrFight 30 = .ok (.getfield 15, 3) := by decide +kernel
theorem dX0_leastOrFight_33 : decode cX0_leastOrFight 33 = .ok (.iload 5, 2) := by decide +kernel
theorem dX0_leastOrFight_35 : decode cX0_leastOrFight 35 = .ok (.iload_n 2, 1) := by decide +kernel
theorem dX0_leastOrFight_36 : decode cX0_leastOrFight 36 = .ok (.invokevirtual 34, 3) := by decide +kernel
theorem dX0_leastOrFight_39 : decode cX0_leastOrFight 39 = .ok (.goto 4, 3) := by decide +kernel
theorem dX0_leastOrFight_42 : decode cX0_leastOrFight 42 = .ok (.iconst (-1), 1) := by decide +kernel
theorem dX0_leastOrFight_43 : decode cX0_leastOrFight 43 = .ok (.istore 6, 2) := by decide +kernel
theorem dX0_leastOrFight_45 : decode cX0_leastOrFight 45 = .ok (.iload 6, 2) := by decide +kernel
theorem dX0_leastOrFight_47 : decode cX0_leastOrFight 47 = .ok (.iconst (-1), 1) := by decide +kernel
theorem dX0_leastOrFight_48 : decode cX0_leastOrFight 48 = .ok (.if_icmp .eq 46, 3) := by decide +kernel
theorem dX0_leastOrFight_51 : decode cX0_leastOrFight 51 = .ok (.iload_n 3, 1) := by decide +kernel
theorem dX0_leastOrFight_52 : decode cX0_leastOrFight 52 = .ok (.iconst (-1), 1) := by decide +kernel
theorem dX0_leastOrFight_53 : decode cX0_leastOrFight 53 = .ok (.if_icmp .ne 8, 3) := by decide +kernel
theorem dX0_leastOrFight_56 : decode cX0_leastOrFight 56 = .ok (.iload 6, 2) := by decide +kernel
theorem dX0_leastOrFight_58 : decode cX0_leastOrFight 58 = .ok (.goto 9, 3) := by decide +kernel
theorem dX0_leastOrFight_61 : decode cX0_leastOrFight 61 = .ok (.iload_n 3, 1) := by decide +kernel
theorem dX0_leastOrFight_62 : decode cX0_leastOrFight 62 = .ok (.iload 6, 2) := by decide +kernel
theorem dX0_leastOrFight_64 : decode cX0_leastOrFight 64 = .ok (.invokestatic 67, 3) := by decide +kernel
theorem dX0_leastOrFight_67 : decode cX0_leastOrFight 67 = .ok (.istore_n 3, 1) := by decide +kernel
theorem dX0_leastOrFight_68 : decode cX0_leastOrFight 68 = .ok (.iload 4, 2) := by decide +kernel
theorem dX0_leastOrFight_70 : decode cX0_leastOrFight 70 = .ok (.ifCond .ne 17, 3) := by decide +kernel
theorem dX0_leastOrFight_73 : decode cX0_leastOrFight 73 = .ok (.aload_n 0, 1) := by decide +kernel
theorem dX0_leastOrFight_74 : decode cX0_leastOrFight 74 = .ok (.getfield 15, 3) := by decide +kernel
theorem dX0_leastOrFight_77 : decode cX0_leastOrFight 77 = .ok (.iload 6, 2) := by decide +kernel
theorem dX0_leastOrFight_79 : decode cX0_leastOrFight 79 = .ok (.bipush 64, 2) := by decide +kernel
theorem dX0_leastOrFight_81 : decode cX0_leastOrFight 81 = .ok (.invokevirtual 72, 3) := by decide +kernel
theorem dX0_leastOrFight_84 : decode cX0_leastOrFight 84 = .ok (.ifCond .eq 7, 3) := by decide +kernel
theorem dX0_leastOrFight_87 : decode cX0_leastOrFight 87 = .ok (.iconst 1, 1) := by decide +kernel
theorem dX0_leastOrFight_88 : decode cX0_leastOrFight 88 = .ok (.goto 4, 3) := by decide +kernel
theorem dX0_leastOrFight_91 : decode cX0_leastOrFight 91 = .ok (.iconst 0, 1) := by decide +kernel
theorem dX0_leastOrFight_92 : decode cX0_leastOrFight 92 = .ok (.istore 4, 2) := by decide +kernel
theorem dX0_leastOrFight_94 : decode cX0_leastOrFight 94 = .ok (.iinc 5 1, 3) := by decide +kernel
theorem dX0_leastOrFight_97 : decode cX0_leastOrFight 97 = .ok (.goto (-89), 3) := by decide +kernel
theorem dX0_leastOrFight_100 : decode cX0_leastOrFight 100 = .ok (.iload 4, 2) := by decide +kernel
theorem dX0_leastOrFight_102 : decode cX0_leastOrFight 102 = .ok (.ifCond .eq 16, 3) := by decide +kernel
theorem dX0_leastOrFight_105 : decode cX0_leastOrFight 105 = .ok (.iload_n 1, 1) := by decide +kernel
theorem dX0_leastOrFight_106 : decode cX0_leastOrFight 106 = .ok (.invokestatic 75, 3) := by decide +kernel
theorem dX0_leastOrFight_109 : decode cX0_leastOrFight 109 = .ok (.iconst 1, 1) := by decide +kernel
theorem dX0_leastOrFight_110 : decode cX0_leastOrFight 110 = .ok (.if_icmp .le 8, 3) := by decide +kernel
theorem dX0_leastOrFight_113 : decode cX0_leastOrFight 113 = .ok (.bipush (-5), 2) := by decide +kernel
theorem dX0_leastOrFight_115 : decode cX0_leastOrFight 115 = .ok (.goto 4, 3) := by decide +kernel
theorem dX0_leastOrFight_118 : decode cX0_leastOrFight 118 = .ok (.iload_n 3, 1) := by decide +kernel
theorem dX0_leastOrFight_119 : decode cX0_leastOrFight 119 = .ok (.ireturn, 1) := by decide +kernel
theorem dX1_init_0 : decode cX1_init 0 = .ok (.aload_n 0, 1) := by decide +kernel
theorem dX1_init_1 : decode cX1_init 1 = .ok (.invokespecial 3, 3) := by decide +kernel
theorem dX1_init_4 : decode cX1_init 4 = .ok (.aload_n 0, 1) := by decide +kernel
theorem dX1_init_5 : decode cX1_init 5 = .ok (.iconst (-1), 1) := by decide +kernel
theorem dX1_init_6 : decode cX1_init 6 = .ok (.putfield 9, 3) := by decide +kernel
theorem dX1_init_9 : decode cX1_init 9 = .ok (.aload_n 0, 1) := by decide +kernel
theorem dX1_init_10 : decode cX1_init 10 = .ok (.iconst 0, 1) := by decide +kernel
theorem dX1_init_11 : decode cX1_init 11 = .ok (.putfield 15, 3) := by decide +kernel
theorem dX1_init_14 : decode cX1_init 14 = .ok (.aload_n 0, 1) := by decide +kernel
theorem dX1_init_15 : decode cX1_init 15 = .ok (.iconst (-1), 1) := by decide +kernel
theorem dX1_init_16 : decode cX1_init 16 = .ok (.putfield 18, 3) := by decide +kernel
theorem dX1_init_19 : decode cX1_init 19 = .ok (.aload_n 0, 1) := by decide +kernel
theorem dX1_init_20 : decode cX1_init 20 = .ok (.iconst (-1), 1) := by decide +kernel
theorem dX1_init_21 : decode cX1_init 21 = .ok (.putfield 21, 3) := by decide +kernel
theorem dX1_init_24 : decode cX1_init 24 = .ok (.aload_n 0, 1) := by decide +kernel
theorem dX1_init_25 : decode cX1_init 25 = .ok (.iconst (-1), 1) := by decide +kernel
theorem dX1_init_26 : decode cX1_init 26 = .ok (.putfield 24, 3) := by decide +kernel
theorem dX1_init_29 : decode cX1_init 29 = .ok (.aload_n 0, 1) := by decide +kernel
theorem dX1_init_30 : decode cX1_init 30 = .ok (.aload_n 1, 1) := by decide +kernel
theorem dX1_init_31 : decode cX1_init 31 = .ok (.putfield 27, 3) := by decide +kernel
theorem dX1_init_34 : decode cX1_init 34 = .ok (.aload_n 0, 1) := by decide +kernel
theorem dX1_init_35 : decode cX1_init 35 = .ok (.aload_n 2, 1) := by decide +kernel
theorem dX1_init_36 : decode cX1_init 36 = .ok (.putfield 31, 3) := by decide +kernel
theorem dX1_init_39 : decode cX1_init 39 = .ok (.aload_n 0, 1) := by decide +kernel
theorem dX1_init_40 : decode cX1_init 40 = .ok (.aload_n 3, 1) := by decide +kernel
theorem dX1_init_41 : decode cX1_init 41 = .ok (.putfield 35, 3) := by decide +kernel
theorem dX1_init_44 : decode cX1_init 44 = .ok (.aload_n 0, 1) := by decide +kernel
theorem dX1_init_45 : decode cX1_init 45 = .ok (.aload 4, 2) := by decide +kernel
theorem dX1_init_47 : decode cX1_init 47 = .ok (.putfield 39, 3) := by decide +kernel
theorem dX1_init_50 : decode cX1_init 50 = .ok (.return_, 1) := by decide +kernel
theorem dX1_walk_0 : decode cX1_walk 0 = .ok (.aload_n 0, 1) := by decide +kernel
theorem dX1_walk_1 : decode cX1_walk 1 = .ok (.iload_n 2, 1) := by decide +kernel
theorem dX1_walk_2 : decode cX1_walk 2 = .ok (.putfield 9, 3) := by decide +kernel
theorem dX1_walk_5 : decode cX1_walk 5 = .ok (.aload_n 0, 1) := by decide +kernel
theorem dX1_walk_6 : decode cX1_walk 6 = .ok (.iconst 0, 1) := by decide +kernel
theorem dX1_walk_7 : decode cX1_walk 7 = .ok (.putfield 15, 3) := by decide +kernel
theorem dX1_walk_10 : decode cX1_walk 10 = .ok (.aload_n 0, 1) := by decide +kernel
theorem dX1_walk_11 : decode cX1_walk 11 = .ok (.iconst (-1), 1) := by decide +kernel
theorem dX1_walk_12 : decode cX1_walk 12 = .ok (.putfield 18, 3) := by decide +kernel
theorem dX1_walk_15 : decode cX1_walk 15 = .ok (.aload_n 0, 1) := by decide +kernel
theorem dX1_walk_16 : decode cX1_walk 16 = .ok (.iconst (-1), 1) := by decide +kernel
theorem dX1_walk_17 : decode cX1_walk 17 = .ok (.putfield 21, 3) := by decide +kernel
theorem dX1_walk_20 : decode cX1_walk 20 = .ok (.aload_n 0, 1) := by decide +kernel
theorem dX1_walk_21 : decode cX1_walk 21 = .ok (.iconst (-1), 1) := by decide +kernel
theorem dX1_walk_22 : decode cX1_walk 22 = .ok (.putfield 24, 3) := by decide +kernel
theorem dX1_walk_25 : decode cX1_walk 25 = .ok (.iconst 0, 1) := by decide +kernel
theorem dX1_walk_26 : decode cX1_walk 26 = .ok (.istore_n 3, 1) := by decide +kernel
theorem dX1_walk_27 : decode cX1_walk 27 = .ok (.iload_n 3, 1) := by decide +kernel
theorem dX1_walk_28 : decode cX1_walk 28 = .ok (.aload_n 0, 1) := by decide +kernel
theorem dX1_walk_29 : decode cX1_walk 29 = .ok (.getfield 35, 3) := by decide +kernel
theorem dX1_walk_32 : decode cX1_walk 32 = .ok (.invokevirtual 43, 3) := by decide +kernel
theorem dX1_walk_35 : decode cX1_walk 35 = .ok (.if_icmp .ge 26, 3) := by decide +kernel
theorem dX1_walk_38 : decode cX1_walk 38 = .ok (.aload_n 0, 1) := by decide +kernel
theorem dX1_walk_39 : decode cX1_walk 39 = .ok (.getfield 35, 3) := by decide +kernel
theorem dX1_walk_42 : decode cX1_walk 42 = .ok (.iload_n 3, 1) := by decide +kernel
theorem dX1_walk_43 : decode cX1_walk 43 = .ok (.invokevirtual 49, 3) := by decide +kernel
theorem dX1_walk_46 : decode cX1_walk 46 = .ok (.iload_n 1, 1) := by decide +kernel
theorem dX1_walk_47 : decode cX1_walk 47 = .ok (.if_icmp .ne 8, 3) := by decide +kernel
theorem dX1_walk_50 : decode cX1_walk 50 = .ok (.aload_n 0, 1) := by decide +kernel
theorem dX1_walk_51 : decode cX1_walk 51 = .ok (.iload_n 3, 1) := by decide +kernel
theorem dX1_walk_52 : decode cX1_walk 52 = .ok (.invokevirtual 53, 3) := by decide +kernel
theorem dX1_walk_55 : decode cX1_walk 55 = .ok (.iinc 3 1, 3) := by decide +kernel
theorem dX1_walk_58 : decode cX1_walk 58 = .ok (.goto (-31), 3) := by decide +kernel
theorem dX1_walk_61 : decode cX1_walk 61 = .ok (.aload_n 0, 1) := by decide +kernel
theorem dX1_walk_62 : decode cX1_walk 62 = .ok (.getfield 27, 3) := by decide +kernel
theorem dX1_walk_65 : decode cX1_walk 65 = .ok (.iload_n 1, 1) := by decide +kernel
theorem dX1_walk_66 : decode cX1_walk 66 = .ok (.invokevirtual 57, 3) := by decide +kernel
theorem dX1_walk_69 : decode cX1_walk 69 = .ok (.ifCond .ne 8, 3) := by decide +kernel
theorem dX1_walk_72 : decode cX1_walk 72 = .ok (.aload_n 0, 1) := by decide +kernel
theorem dX1_walk_73 : decode cX1_walk 73 = .ok (.iload_n 1, 1) := by decide +kernel
theorem dX1_walk_74 : decode cX1_walk 74 = .ok (.invokevirtual 63, 3) := by decide +kernel
theorem dX1_walk_77 : decode cX1_walk 77 = .ok (.aload_n 0, 1) := by decide +kernel
theorem dX1_walk_78 : decode cX1_walk 78 = .ok (.getfield 15, 3) := by decide +kernel
theorem dX1_walk_81 : decode cX1_walk 81 = .ok (.ireturn, 1) := by decide +kernel
theorem dX1_pickedPart_0 : decode cX1_pickedPart 0 = .ok (.iload_n 1, 1) := by decide +kernel
theorem dX1_pickedPart_1 : decode cX1_pickedPart 1 = .ok (.ifCond .ne 8, 3) := by decide +kernel
theorem dX1_pickedPart_4 : decode cX1_pickedPart 4 = .ok (.aload_n 0, 1) := by decide +kernel
theorem dX1_pickedPart_5 : decode cX1_pickedPart 5 = .ok (.getfield 18, 3) := by decide +kernel
theorem dX1_pickedPart_8 : decode cX1_pickedPart 8 = .ok (.ireturn, 1) := by decide +kernel
theorem dX1_pickedPart_9 : decode cX1_pickedPart 9 = .ok (.iload_n 1, 1) := by decide +kernel
theorem dX1_pickedPart_10 : decode cX1_pickedPart 10 = .ok (.iconst 1, 1) := by decide +kernel
theorem dX1_pickedPart_11 : decode cX1_pickedPart 11 = .ok (.if_icmp .ne 10, 3) := by decide +kernel
theorem dX1_pickedPart_14 : decode cX1_pickedPart 14 = .ok (.aload_n 0, 1) := by decide +kernel
theorem dX1_pickedPart_15 : decode cX1_pickedPart 15 = .ok (.getfield 21, 3) := by decide +kernel
theorem dX1_pickedPart_18 : decode cX1_pickedPart 18 = .ok (.goto 7, 3) := by decide +kernel
theorem dX1_pickedPart_21 : decode cX1_pickedPart 21 = .ok (.aload_n 0, 1) := by decide +kernel
theorem dX1_pickedPart_22 : decode cX1_pickedPart 22 = .ok (.getfield 24, 3) := by decide +kernel
theorem dX1_pickedPart_25 : decode cX1_pickedPart 25 = .ok (.ireturn, 1) := by decide +kernel
theorem dX1_note_0 : decode cX1_note 0 = .ok (.aload_n 0, 1) := by decide +kernel
theorem dX1_note_1 : decode cX1_note 1 = .ok (.getfield 15, 3) := by decide +kernel
theorem dX1_note_4 : decode cX1_note 4 = .ok (.aload_n 0, 1) := by decide +kernel
theorem dX1_note_5 : decode cX1_note 5 = .ok (.getfield 9, 3) := by decide +kernel
theorem dX1_note_8 : decode cX1_note 8 = .ok (.if_icmp .ne 18, 3) := by decide +kernel
theorem dX1_note_11 : decode cX1_note 11 = .ok (.aload_n 0, 1) := by decide +kernel
theorem dX1_note_12 : decode cX1_note 12 = .ok (.iload_n 1, 1) := by decide +kernel
theorem dX1_note_13 : decode cX1_note 13 = .ok (.putfield 18, 3) := by decide +kernel
theorem dX1_note_16 : decode cX1_note 16 = .ok (.aload_n 0, 1) := by decide +kernel
theorem dX1_note_17 : decode cX1_note 17 = .ok (.iload_n 2, 1) := by decide +kernel
theorem dX1_note_18 : decode cX1_note 18 = .ok (.putfield 21, 3) := by decide +kernel
theorem dX1_note_21 : decode cX1_note 21 = .ok (.aload_n 0, 1) := by decide +kernel
theorem dX1_note_22 : decode cX1_note 22 = .ok (.iload_n 3, 1) := by decide +kernel
theorem dX1_note_23 : decode cX1_note 23 = .ok (.putfield 24, 3) := by decide +kernel
theorem dX1_note_26 : decode cX1_note 26 = .ok (.aload_n 0, 1) := by decide +kernel
theorem dX1_note_27 : decode cX1_note 27 = .ok (.dup, 1) := by decide +kernel
theorem dX1_note_28 : decode cX1_note 28 = .ok (.getfield 15, 3) := by decide +kernel
theorem dX1_note_31 : decode cX1_note 31 = .ok (.iconst 1, 1) := by decide +kernel
theorem dX1_note_32 : decode cX1_note 32 = .ok (.iadd, 1) := by decide +kernel
theorem dX1_note_33 : decode cX1_note 33 = .ok (.putfield 15, 3) := by decide +kernel
theorem dX1_note_36 : decode cX1_note 36 = .ok (.return_, 1) := by decide +kernel
theorem dX1_noteIf_0 : decode cX1_noteIf 0 = .ok (.iload_n 1, 1) := by decide +kernel
theorem dX1_noteIf_1 : decode cX1_noteIf 1 = .ok (.ifCond .eq 11, 3) := by decide +kernel
theorem dX1_noteIf_4 : decode cX1_noteIf 4 = .ok (.aload_n 0, 1) := by decide +kernel
theorem dX1_noteIf_5 : decode cX1_noteIf 5 = .ok (.iload_n 2, 1) := by decide +kernel
theorem dX1_noteIf_6 : decode cX1_noteIf 6 = .ok (.iload_n 3, 1) := by decide +kernel
theorem dX1_noteIf_7 : decode cX1_noteIf 7 = .ok (.iload 4, 2) := by decide +kernel
theorem dX1_noteIf_9 : decode cX1_noteIf 9 = .ok (.invokevirtual 66, 3) := by decide +kernel
theorem dX1_noteIf_12 : decode cX1_noteIf 12 = .ok (.return_, 1) := by decide +kernel
theorem dX1_walkOwn_0 : decode cX1_walkOwn 0 = .ok (.iconst 0, 1) := by decide +kernel
theorem dX1_walkOwn_1 : decode cX1_walkOwn 1 = .ok (.istore_n 2, 1) := by decide +kernel
theorem dX1_walkOwn_2 : decode cX1_walkOwn 2 = .ok (.iconst 0, 1) := by decide +kernel
theorem dX1_walkOwn_3 : decode cX1_walkOwn 3 = .ok (.istore_n 3, 1) := by decide +kernel
theorem dX1_walkOwn_4 : decode cX1_walkOwn 4 = .ok (.iload_n 3, 1) := by decide +kernel
theorem dX1_walkOwn_5 : decode cX1_walkOwn 5 = .ok (.aload_n 0, 1) := by decide +kernel
theorem dX1_walkOwn_6 : decode cX1_walkOwn 6 = .ok (.getfield 35, 3) := by decide +kernel
theorem dX1_walkOwn_9 : decode cX1_walkOwn 9 = .ok (.invokevirtual 43, 3) := by decide +kernel
theorem dX1_walkOwn_12 : decode cX1_walkOwn 12 = .ok (.if_icmp .ge 91, 3) := by decide +kernel
theorem dX1_walkOwn_15 : decode cX1_walkOwn 15 = .ok (.aload_n 0, 1) := by decide +kernel
theorem dX1_walkOwn_16 : decode cX1_walkOwn 16 = .ok (.getfield 35, 3) := by decide +kernel
theorem dX1_walkOwn_19 : decode cX1_walkOwn 19 = .ok (.iload_n 1, 1) := by decide +kernel
theorem dX1_walkOwn_20 : decode cX1_walkOwn 20 = .ok (.iload_n 3, 1) := by decide +kernel
theorem dX1_walkOwn_21 : decode cX1_walkOwn 21 = .ok (.invokevirtual 70, 3) := by decide +kernel
theorem dX1_walkOwn_24 : decode cX1_walkOwn 24 = .ok (.istore 4, 2) := by decide +kernel
theorem dX1_walkOwn_26 : decode cX1_walkOwn 26 = .ok (.iload_n 2, 1) := by decide +kernel
theorem dX1_walkOwn_27 : decode cX1_walkOwn 27 = .ok (.ifCond .ne 8, 3) := by decide +kernel
theorem dX1_walkOwn_30 : decode cX1_walkOwn 30 = .ok (.iload 4, 2) := by decide +kernel
theorem dX1_walkOwn_32 : decode cX1_walkOwn 32 = .ok (.ifCond .eq 7, 3) := by decide +kernel
theorem dX1_walkOwn_35 : decode cX1_walkOwn 35 = .ok (.iconst 1, 1) := by decide +kernel
theorem dX1_walkOwn_36 : decode cX1_walkOwn 36 = .ok (.goto 4, 3) := by decide +kernel
theorem dX1_walkOwn_39 : decode cX1_walkOwn 39 = .ok (.iconst 0, 1) := by decide +kernel
theorem dX1_walkOwn_40 : decode cX1_walkOwn 40 = .ok (.istore_n 2, 1) := by decide +kernel
theorem dX1_walkOwn_41 : decode cX1_walkOwn 41 = .ok (.aload_n 0, 1) := by decide +kernel
theorem dX1_walkOwn_42 : decode cX1_walkOwn 42 = .ok (.aload_n 0, 1) := by decide +kernel
theorem dX1_walkOwn_43 : decode cX1_walkOwn 43 = .ok (.getfield 35, 3) := by decide +kernel
theorem dX1_walkOwn_46 : decode cX1_walkOwn 46 = .ok (.iload_n 1, 1) := by decide +kernel
theorem dX1_walkOwn_47 : decode cX1_walkOwn 47 = .ok (.iload_n 3, 1) := by decide +kernel
theorem dX1_walkOwn_48 : decode cX1_walkOwn 48 = .ok (.invokevirtual 74, 3) := by decide +kernel
theorem dX1_walkOwn_51 : decode cX1_walkOwn 51 = .ok (.iconst 1, 1) := by decide +kernel
theorem dX1_walkOwn_52 : decode cX1_walkOwn 52 = .ok (.iload_n 1, 1) := by decide +kernel
theorem dX1_walkOwn_53 : decode cX1_walkOwn 53 = .ok (.iload_n 3, 1) := by decide +kernel
theorem dX1_walkOwn_54 : decode cX1_walkOwn 54 = .ok (.invokevirtual 77, 3) := by decide +kernel
theorem dX1_walkOwn_57 : decode cX1_walkOwn 57 = .ok (.iload 4, 2) := by decide +kernel
theorem dX1_walkOwn_59 : decode cX1_walkOwn 59 = .ok (.ifCond .ne 15, 3) := by decide +kernel
theorem dX1_walkOwn_62 : decode cX1_walkOwn 62 = .ok (.aload_n 0, 1) := by decide +kernel
theorem dX1_walkOwn_63 : decode cX1_walkOwn 63 = .ok (.getfield 35, 3) := by decide +kernel
theorem dX1_walkOwn_66 : decode cX1_walkOwn 66 = .ok (.iload_n 1, 1) := by decide +kernel
theorem dX1_walkOwn_67 : decode cX1_walkOwn 67 = .ok (.iload_n 3, 1) := by decide +kernel
theorem dX1_walkOwn_68 : decode cX1_walkOwn 68 = .ok (.invokevirtual 81, 3) := by decide +kernel
theorem dX1_walkOwn_71 : decode cX1_walkOwn 71 = .ok (.ifCond .eq 26, 3) := by decide +kernel
theorem dX1_walkOwn_74 : decode cX1_walkOwn 74 = .ok (.aload_n 0, 1) := by decide +kernel
theorem dX1_walkOwn_75 : decode cX1_walkOwn 75 = .ok (.aload_n 0, 1) := by decide +kernel
theorem dX1_walkOwn_76 : decode cX1_walkOwn 76 = .ok (.getfield 35, 3) := by decide +kernel
theorem dX1_walkOwn_79 : decode cX1_walkOwn 79 = .ok (.iload_n 3, 1) := by decide +kernel
theorem dX1_walkOwn_80 : decode cX1_walkOwn 80 = .ok (.bipush 16, 2) := by decide +kernel
theorem dX1_walkOwn_82 : decode cX1_walkOwn 82 = .ok (.invokevirtual 84, 3) := by decide +kernel
theorem dX1_walkOwn_85 : decode cX1_walkOwn 85 = .ok (.iconst 2, 1) := by decide +kernel
theorem dX1_walkOwn_86 : decode cX1_walkOwn 86 = .ok (.iload_n 1, 1) := by decide +kernel
theorem dX1_walkOwn_87 : decode cX1_walkOwn 87 = .ok (.iload_n 3, 1) := by decide +kernel
theorem dX1_walkOwn_88 : decode cX1_walkOwn 88 = .ok (.invokevirtual 77, 3) := by decide +kernel
theorem dX1_walkOwn_91 : decode cX1_walkOwn 91 = .ok (.aload_n 0, 1) := by decide +kernel
theorem dX1_walkOwn_92 : decode cX1_walkOwn 92 = .ok (.iload_n 1, 1) := by decide +kernel
theorem dX1_walkOwn_93 : decode cX1_walkOwn 93 = .ok (.iload_n 3, 1) := by decide +kernel
theorem dX1_walkOwn_94 : decode cX1_walkOwn 94 = .ok (.invokevirtual 87, 3) := by decide +kernel
theorem dX1_walkOwn_97 : decode cX1_walkOwn 97 = .ok (.iinc 3 1, 3) := by decide +kernel
theorem dX1_walkOwn_100 : decode cX1_walkOwn 100 = .ok (.goto (-96), 3) := by decide +kernel
theorem dX1_walkOwn_103 : decode cX1_walkOwn 103 = .ok (.aload_n 0, 1) := by decide +kernel
theorem dX1_walkOwn_104 : decode cX1_walkOwn 104 = .ok (.aload_n 0, 1) := by decide +kernel
theorem dX1_walkOwn_105 : decode cX1_walkOwn 105 = .ok (.getfield 35, 3) := by decide +kernel
theorem dX1_walkOwn_108 : decode cX1_walkOwn 108 = .ok (.iload_n 1, 1) := by decide +kernel
theorem dX1_walkOwn_109 : decode cX1_walkOwn 109 = .ok (.sipush 128, 3) := by decide +kernel
theorem dX1_walkOwn_112 : decode cX1_walkOwn 112 = .ok (.invokevirtual 84, 3) := by decide +kernel
theorem dX1_walkOwn_115 : decode cX1_walkOwn 115 = .ok (.ifCond .eq 11, 3) := by decide +kernel
theorem dX1_walkOwn_118 : decode cX1_walkOwn 118 = .ok (.iload_n 2, 1) := by decide +kernel
theorem dX1_walkOwn_119 : decode cX1_walkOwn 119 = .ok (.ifCond .ne 7, 3) := by decide +kernel
theorem dX1_walkOwn_122 : decode cX1_walkOwn 122 = .ok (.iconst 1, 1) := by decide +kernel
theorem dX1_walkOwn_123 : decode cX1_walkOwn 123 = .ok (.goto 4, 3) := by decide +kernel
theorem dX1_walkOwn_126 : decode cX1_walkOwn 126 = .ok (.iconst 0, 1) := by decide +kernel
theorem dX1_walkOwn_127 : decode cX1_walkOwn 127 = .ok (.bipush 6, 2) := by decide +kernel
theorem dX1_walkOwn_129 : decode cX1_walkOwn 129 = .ok (.iload_n 1, 1) := by decide +kernel
theorem dX1_walkOwn_130 : decode cX1_walkOwn 130 = .ok (.iconst (-1), 1) := by decide +kernel
theorem dX1_walkOwn_131 : decode cX1_walkOwn 131 = .ok (.invokevirtual 77, 3) := by decide +kernel
theorem dX1_walkOwn_134 : decode cX1_walkOwn 134 = .ok (.aload_n 0, 1) := by decide +kernel
theorem dX1_walkOwn_135 : decode cX1_walkOwn 135 = .ok (.aload_n 0, 1) := by decide +kernel
theorem dX1_walkOwn_136 : decode cX1_walkOwn 136 = .ok (.getfield 35, 3) := by decide +kernel
theorem dX1_walkOwn_139 : decode cX1_walkOwn 139 = .ok (.iload_n 1, 1) := by decide +kernel
theorem dX1_walkOwn_140 : decode cX1_walkOwn 140 = .ok (.bipush 32, 2) := by decide +kernel
theorem dX1_walkOwn_142 : decode cX1_walkOwn 142 = .ok (.invokevirtual 84, 3) := by decide +kernel
theorem dX1_walkOwn_145 : decode cX1_walkOwn 145 = .ok (.ifCond .eq 25, 3) := by decide +kernel
theorem dX1_walkOwn_148 : decode cX1_walkOwn 148 = .ok (.aload_n 0, 1) := by decide +kernel
theorem dX1_walkOwn_149 : decode cX1_walkOwn 149 = .ok (.getfield 27, 3) := by decide +kernel
theorem dX1_walkOwn_152 : decode cX1_walkOwn 152 = .ok (.aload_n 0, 1) := by decide +kernel
theorem dX1_walkOwn_153 : decode cX1_walkOwn 153 = .ok (.getfield 35, 3) := by decide +kernel
theorem dX1_walkOwn_156 : decode cX1_walkOwn 156 = .ok (.iload_n 1, 1) := by decide +kernel
theorem dX1_walkOwn_157 : decode cX1_walkOwn 157 = .ok (.invokevirtual 49, 3) := by decide +kernel
theorem dX1_walkOwn_160 : decode cX1_walkOwn 160 = .ok (.invokevirtual 91, 3) := by decide +kernel
theorem dX1_walkOwn_163 : decode cX1_walkOwn 163 = .ok (.ifCond .eq 7, 3) := by decide +kernel
theorem dX1_walkOwn_166 : decode cX1_walkOwn 166 = .ok (.iconst 1, 1) := by decide +kernel
theorem dX1_walkOwn_167 : decode cX1_walkOwn 167 = .ok (.goto 4, 3) := by decide +kernel
theorem dX1_walkOwn_170 : decode cX1_walkOwn 170 = .ok (.iconst 0, 1) := by decide +kernel
theorem dX1_walkOwn_171 : decode cX1_walkOwn 171 = .ok (.bipush 7, 2) := by decide +kernel
theorem dX1_walkOwn_173 : decode cX1_walkOwn 173 = .ok (.iload_n 1, 1) := by decide +kernel
theorem dX1_walkOwn_174 : decode cX1_walkOwn 174 = .ok (.iconst (-1), 1) := by decide +kernel
theorem dX1_walkOwn_175 : decode cX1_walkOwn 175 = .ok (.invokevirtual 77, 3) := by decide +kernel
theorem dX1_walkOwn_178 : decode cX1_walkOwn 178 = .ok (.return_, 1) := by decide +kernel
theorem dX1_compare_0 : decode cX1_compare 0 = .ok (.aload_n 0, 1) := by decide +kernel
theorem dX1_compare_1 : decode cX1_compare 1 = .ok (.aload_n 0, 1) := by decide +kernel
theorem dX1_compare_2 : decode cX1_compare 2 = .ok (.getfield 35, 3) := by decide +kernel
theorem dX1_compare_5 : decode cX1_compare 5 = .ok (.iload_n 1, 1) := by decide +kernel
theorem dX1_compare_6 : decode cX1_compare 6 = .ok (.invokevirtual 94, 3) := by decide +kernel
theorem dX1_compare_9 : decode cX1_compare 9 = .ok (.aload_n 0, 1) := by decide +kernel
theorem dX1_compare_10 : decode cX1_compare 10 = .ok (.getfield 35, 3) := by decide +kernel
theorem dX1_compare_13 : decode cX1_compare 13 = .ok (.iload_n 2, 1) := by decide +kernel
theorem dX1_compare_14 : decode cX1_compare 14 = .ok (.invokevirtual 94, 3) := by decide +kernel
theorem dX1_compare_17 : decode cX1_compare 17 = .ok (.if_icmp .ge 7, 3) := by decide +kernel
theorem dX1_compare_20 : decode cX1_compare 20 = .ok (.iconst 1, 1) := by decide +kernel
theorem dX1_compare_21 : decode cX1_compare 21 = .ok (.goto 4, 3) := by decide +kernel
theorem dX1_compare_24 : decode cX1_compare 24 = .ok (.iconst 0, 1) := by decide +kernel
theorem dX1_compare_25 : decode cX1_compare 25 = .ok (.iconst 3, 1) := by decide +kernel
theorem dX1_compare_26 : decode cX1_compare 26 = .ok (.iload_n 1, 1) := by decide +kernel
theorem dX1_compare_27 : decode cX1_compare 27 = .ok (.iload_n 2, 1) := by decide +kernel
theorem dX1_compare_28 : decode cX1_compare 28 = .ok (.invokevirtual 77, 3) := by decide +kernel
theorem dX1_compare_31 : decode cX1_compare 31 = .ok (.aload_n 0, 1) := by decide +kernel
theorem dX1_compare_32 : decode cX1_compare 32 = .ok (.aload_n 0, 1) := by decide +kernel
theorem dX1_compare_33 : decode cX1_compare 33 = .ok (.aload_n 0, 1) := by decide +kernel
theorem dX1_compare_34 : decode cX1_compare 34 = .ok (.getfield 35, 3) := by decide +kernel
theorem dX1_compare_37 : decode cX1_compare 37 = .ok (.iload_n 1, 1) := by decide +kernel
theorem dX1_compare_38 : decode cX1_compare 38 = .ok (.invokevirtual 97, 3) := by decide +kernel
theorem dX1_compare_41 : decode cX1_compare 41 = .ok (.aload_n 0, 1) := by decide +kernel
theorem dX1_compare_42 : decode cX1_compare 42 = .ok (.getfield 35, 3) := by decide +kernel
theorem dX1_compare_45 : decode cX1_compare 45 = .ok (.iload_n 2, 1) := by decide +kernel
theorem dX1_compare_46 : decode cX1_compare 46 = .ok (.invokevirtual 97, 3) := by decide +kernel
theorem dX1_compare_49 : decode cX1_compare 49 = .ok (.invokevirtual 100, 3) := by decide +kernel
theorem dX1_compare_52 : decode cX1_compare 52 = .ok (.ifCond .ne 7, 3) := by decide +kernel
theorem dX1_compare_55 : decode cX1_compare 55 = .ok (.iconst 1, 1) := by decide +kernel
theorem dX1_compare_56 : decode cX1_compare 56 = .ok (.goto 4, 3) := by decide +kernel
theorem dX1_compare_59 : decode cX1_compare 59 = .ok (.iconst 0, 1) := by decide +kernel
theorem dX1_compare_60 : decode cX1_compare 60 = .ok (.iconst 4, 1) := by decide +kernel
theorem dX1_compare_61 : decode cX1_compare 61 = .ok (.iload_n 1, 1) := by decide +kernel
theorem dX1_compare_62 : decode cX1_compare 62 = .ok (.iload_n 2, 1) := by decide +kernel
theorem dX1_compare_63 : decode cX1_compare 63 = .ok (.invokevirtual 77, 3) := by decide +kernel
theorem dX1_compare_66 : decode cX1_compare 66 = .ok (.aload_n 0, 1) := by decide +kernel
theorem dX1_compare_67 : decode cX1_compare 67 = .ok (.aload_n 0, 1) := by decide +kernel
theorem dX1_compare_68 : decode cX1_compare 68 = .ok (.getfield 31, 3) := by decide +kernel
theorem dX1_compare_71 : decode cX1_compare 71 = .ok (.aload_n 0, 1) := by decide +kernel
theorem dX1_compare_72 : decode cX1_compare 72 = .ok (.getfield 35, 3) := by decide +kernel
theorem dX1_compare_75 : decode cX1_compare 75 = .ok (.iload_n 1, 1) := by decide +kernel
theorem dX1_compare_76 : decode cX1_compare 76 = .ok (.invokevirtual 103, 3) := by decide +kernel
theorem dX1_compare_79 : decode cX1_compare 79 = .ok (.aload_n 0, 1) := by decide +kernel
theorem dX1_compare_80 : decode cX1_compare 80 = .ok (.getfield 35, 3) := by decide +kernel
theorem dX1_compare_83 : decode cX1_compare 83 = .ok (.iload_n 2, 1) := by decide +kernel
theorem dX1_compare_84 : decode cX1_compare 84 = .ok (.invokevirtual 103, 3) := by decide +kernel
theorem dX1_compare_87 : decode cX1_compare 87 = .ok (.invokevirtual 106, 3) := by decide +kernel
theorem dX1_compare_90 : decode cX1_compare 90 = .ok (.ifCond .ne 7, 3) := by decide +kernel
theorem dX1_compare_93 : decode cX1_compare 93 = .ok (.iconst 1, 1) := by decide +kernel
theorem dX1_compare_94 : decode cX1_compare 94 = .ok (.goto 4, 3) := by decide +kernel
theorem dX1_compare_97 : decode cX1_compare 97 = .ok (.iconst 0, 1) := by decide +kernel
theorem dX1_compare_98 : decode cX1_compare 98 = .ok (.iconst 5, 1) := by decide +kernel
theorem dX1_compare_99 : decode cX1_compare 99 = .ok (.iload_n 1, 1) := by decide +kernel
theorem dX1_compare_100 : decode cX1_compare 100 = .ok (.iload_n 2, 1) := by decide +kernel
theorem dX1_compare_101 : decode cX1_compare 101 = .ok (.invokevirtual 77, 3) := by decide +kernel
theorem dX1_compare_104 : decode cX1_compare 104 = .ok (.return_, 1) := by decide +kernel
theorem dX1_suits_0 : decode cX1_suits 0 = .ok (.iload_n 1, 1) := by decide +kernel
theorem dX1_suits_1 : decode cX1_suits 1 = .ok (.iload_n 2, 1) := by decide +kernel
theorem dX1_suits_2 : decode cX1_suits 2 = .ok (.if_icmp .ne 5, 3) := by decide +kernel
theorem dX1_suits_5 : decode cX1_suits 5 = .ok (.iconst 1, 1) := by decide +kernel
theorem dX1_suits_6 : decode cX1_suits 6 = .ok (.ireturn, 1) := by decide +kernel
theorem dX1_suits_7 : decode cX1_suits 7 = .ok (.aload_n 0, 1) := by decide +kernel
theorem dX1_suits_8 : decode cX1_suits 8 = .ok (.getfield 27, 3) := by decide +kernel
theorem dX1_suits_11 : decode cX1_suits 11 = .ok (.iload_n 1, 1) := by decide +kernel
theorem dX1_suits_12 : decode cX1_suits 12 = .ok (.invokevirtual 111, 3) := by decide +kernel
theorem dX1_suits_15 : decode cX1_suits 15 = .ok (.ifCond .eq 30, 3) := by decide +kernel
theorem dX1_suits_18 : decode cX1_suits 18 = .ok (.aload_n 0, 1) := by decide +kernel
theorem dX1_suits_19 : decode cX1_suits 19 = .ok (.getfield 27, 3) := by decide +kernel
theorem dX1_suits_22 : decode cX1_suits 22 = .ok (.iload_n 2, 1) := by decide +kernel
theorem dX1_suits_23 : decode cX1_suits 23 = .ok (.invokevirtual 111, 3) := by decide +kernel
theorem dX1_suits_26 : decode cX1_suits 26 = .ok (.ifCond .eq 19, 3) := by decide +kernel
theorem dX1_suits_29 : decode cX1_suits 29 = .ok (.aload_n 0, 1) := by decide +kernel
theorem dX1_suits_30 : decode cX1_suits 30 = .ok (.getfield 27, 3) := by decide +kernel
theorem dX1_suits_33 : decode cX1_suits 33 = .ok (.iload_n 1, 1) := by decide +kernel
theorem dX1_suits_34 : decode cX1_suits 34 = .ok (.iload_n 2, 1) := by decide +kernel
theorem dX1_suits_35 : decode cX1_suits 35 = .ok (.invokevirtual 114, 3) := by decide +kernel
theorem dX1_suits_38 : decode cX1_suits 38 = .ok (.ifCond .eq 7, 3) := by decide +kernel
theorem dX1_suits_41 : decode cX1_suits 41 = .ok (.iconst 1, 1) := by decide +kernel
theorem dX1_suits_42 : decode cX1_suits 42 = .ok (.goto 4, 3) := by decide +kernel
theorem dX1_suits_45 : decode cX1_suits 45 = .ok (.iconst 0, 1) := by decide +kernel
theorem dX1_suits_46 : decode cX1_suits 46 = .ok (.ireturn, 1) := by decide +kernel
theorem dX1_walkInherited_0 : decode cX1_walkInherited 0 = .ok (.iconst 0, 1) := by decide +kernel
theorem dX1_walkInherited_1 : decode cX1_walkInherited 1 = .ok (.istore_n 2, 1) := by decide +kernel
theorem dX1_walkInherited_2 : decode cX1_walkInherited 2 = .ok (.iload_n 2, 1) := by decide +kernel
theorem dX1_walkInherited_3 : decode cX1_walkInherited 3 = .ok (.aload_n 0, 1) := by decide +kernel
theorem dX1_walkInherited_4 : decode cX1_walkInherited 4 = .ok (.getfield 35, 3) := by decide +kernel
theorem dX1_walkInherited_7 : decode cX1_walkInherited 7 = .ok (.invokevirtual 43, 3) := by decide +kernel
theorem dX1_walkInherited_10 : decode cX1_walkInherited 10 = .ok (.if_icmp .ge 67, 3) := by decide +kernel
theorem dX1_walkInherited_13 : decode cX1_walkInherited 13 = .ok (.aload_n 0, 1) := by decide +kernel
theorem dX1_walkInherited_14 : decode cX1_walkInherited 14 = .ok (.getfield 35, 3) := by decide +kernel
theorem dX1_walkInherited_17 : decode cX1_walkInherited 17 = .ok (.iload_n 2, 1) := by decide +kernel
theorem dX1_walkInherited_18 : decode cX1_walkInherited 18 = .ok (.invokevirtual 117, 3) := by decide +kernel
theorem dX1_walkInherited_21 : decode cX1_walkInherited 21 = .ok (.ifCond .eq 50, 3) := by decide +kernel
theorem dX1_walkInherited_24 : decode cX1_walkInherited 24 = .ok (.aload_n 0, 1) := by decide +kernel
theorem dX1_walkInherited_25 : decode cX1_walkInherited 25 = .ok (.getfield 35, 3) := by decide +kernel
theorem dX1_walkInherited_28 : decode cX1_walkInherited 28 = .ok (.iload_n 2, 1) := by decide +kernel
theorem dX1_walkInherited_29 : decode cX1_walkInherited 29 = .ok (.bipush 96, 2) := by decide +kernel
theorem dX1_walkInherited_31 : decode cX1_walkInherited 31 = .ok (.invokevirtual 84, 3) := by decide +kernel
theorem dX1_walkInherited_34 : decode cX1_walkInherited 34 = .ok (.ifCond .eq 37, 3) := by decide +kernel
theorem dX1_walkInherited_37 : decode cX1_walkInherited 37 = .ok (.aload_n 0, 1) := by decide +kernel
theorem dX1_walkInherited_38 : decode cX1_walkInherited 38 = .ok (.getfield 27, 3) := by decide +kernel
theorem dX1_walkInherited_41 : decode cX1_walkInherited 41 = .ok (.iload_n 1, 1) := by decide +kernel
theorem dX1_walkInherited_42 : decode cX1_walkInherited 42 = .ok (.aload_n 0, 1) := by decide +kernel
theorem dX1_walkInherited_43 : decode cX1_walkInherited 43 = .ok (.getfield 35, 3) := by decide +kernel
theorem dX1_walkInherited_46 : decode cX1_walkInherited 46 = .ok (.iload_n 2, 1) := by decide +kernel
theorem dX1_walkInherited_47 : decode cX1_walkInherited 47 = .ok (.invokevirtual 49, 3) := by decide +kernel
theorem dX1_walkInherited_50 : decode cX1_walkInherited 50 = .ok (.invokevirtual 120, 3) := by decide +kernel
theorem dX1_walkInherited_53 : decode cX1_walkInherited 53 = .ok (.ifCond .eq 18, 3) := by decide +kernel
theorem dX1_walkInherited_56 : decode cX1_walkInherited 56 = .ok (.aload_n 0, 1) := by decide +kernel
theorem dX1_walkInherited_57 : decode cX1_walkInherited 57 = .ok (.iload_n 1, 1) := by decide +kernel
theorem dX1_walkInherited_58 : decode cX1_walkInherited 58 = .ok (.aload_n 0, 1) := by decide +kernel
theorem dX1_walkInherited_59 : decode cX1_walkInherited 59 = .ok (.getfield 39, 3) := by decide +kernel
theorem dX1_walkInherited_62 : decode cX1_walkInherited 62 = .ok (.iload_n 1, 1) := by decide +kernel
theorem dX1_walkInherited_63 : decode cX1_walkInherited 63 = .ok (.iload_n 2, 1) := by decide +kernel
theorem dX1_walkInherited_64 : decode cX1_walkInherited 64 = .ok (.invokevirtual 123, 3) := by decide +kernel
theorem dX1_walkInherited_67 : decode cX1_walkInherited 67 = .ok (.iload_n 2, 1) := by decide +kernel
theorem dX1_walkInherited_68 : decode cX1_walkInherited 68 = .ok (.invokevirtual 129, 3) := by decide +kernel
theorem dX1_walkInherited_71 : decode cX1_walkInherited 71 = .ok (.iinc 2 1, 3) := by decide +kernel
theorem dX1_walkInherited_74 : decode cX1_walkInherited 74 = .ok (.goto (-72), 3) := by decide +kernel
theorem dX1_walkInherited_77 : decode cX1_walkInherited 77 = .ok (.return_, 1) := by decide +kernel
theorem dX1_noteChosen_0 : decode cX1_noteChosen 0 = .ok (.iload_n 2, 1) := by decide +kernel
theorem dX1_noteChosen_1 : decode cX1_noteChosen 1 = .ok (.bipush (-5), 2) := by decide +kernel
theorem dX1_noteChosen_3 : decode cX1_noteChosen 3 = .ok (.if_icmp .ne 14, 3) := by decide +kernel
theorem dX1_noteChosen_6 : decode cX1_noteChosen 6 = .ok (.aload_n 0, 1) := by decide +kernel
theorem dX1_noteChosen_7 : decode cX1_noteChosen 7 = .ok (.bipush 8, 2) := by decide +kernel
theorem dX1_noteChosen_9 : decode cX1_noteChosen 9 = .ok (.iconst (-1), 1) := by decide +kernel
theorem dX1_noteChosen_10 : decode cX1_noteChosen 10 = .ok (.iload_n 3, 1) := by decide +kernel
theorem dX1_noteChosen_11 : decode cX1_noteChosen 11 = .ok (.invokevirtual 66, 3) := by decide +kernel
theorem dX1_noteChosen_14 : decode cX1_noteChosen 14 = .ok (.goto 72, 3) := by decide +kernel
theorem dX1_noteChosen_17 : decode cX1_noteChosen 17 = .ok (.iload_n 2, 1) := by decide +kernel
theorem dX1_noteChosen_18 : decode cX1_noteChosen 18 = .ok (.iconst (-1), 1) := by decide +kernel
theorem dX1_noteChosen_19 : decode cX1_noteChosen 19 = .ok (.if_icmp .eq 67, 3) := by decide +kernel
theorem dX1_noteChosen_22 : decode cX1_noteChosen 22 = .ok (.aload_n 0, 1) := by decide +kernel
theorem dX1_noteChosen_23 : decode cX1_noteChosen 23 = .ok (.getfield 35, 3) := by decide +kernel
theorem dX1_noteChosen_26 : decode cX1_noteChosen 26 = .ok (.iload_n 2, 1) := by decide +kernel
theorem dX1_noteChosen_27 : decode cX1_noteChosen 27 = .ok (.invokevirtual 49, 3) := by decide +kernel
theorem dX1_noteChosen_30 : decode cX1_noteChosen 30 = .ok (.iload_n 1, 1) := by decide +kernel
theorem dX1_noteChosen_31 : decode cX1_noteChosen 31 = .ok (.if_icmp .eq 55, 3) := by decide +kernel
theorem dX1_noteChosen_34 : decode cX1_noteChosen 34 = .ok (.aload_n 0, 1) := by decide +kernel
theorem dX1_noteChosen_35 : decode cX1_noteChosen 35 = .ok (.aload_n 0, 1) := by decide +kernel
theorem dX1_noteChosen_36 : decode cX1_noteChosen 36 = .ok (.getfield 27, 3) := by decide +kernel
theorem dX1_noteChosen_39 : decode cX1_noteChosen 39 = .ok (.iload_n 1, 1) := by decide +kernel
theorem dX1_noteChosen_40 : decode cX1_noteChosen 40 = .ok (.invokevirtual 91, 3) := by decide +kernel
theorem dX1_noteChosen_43 : decode cX1_noteChosen 43 = .ok (.ifCond .eq 20, 3) := by decide +kernel
theorem dX1_noteChosen_46 : decode cX1_noteChosen 46 = .ok (.aload_n 0, 1) := by decide +kernel
theorem dX1_noteChosen_47 : decode cX1_noteChosen 47 = .ok (.getfield 35, 3) := by decide +kernel
theorem dX1_noteChosen_50 : decode cX1_noteChosen 50 = .ok (.iload_n 2, 1) := by decide +kernel
theorem dX1_noteChosen_51 : decode cX1_noteChosen 51 = .ok (.bipush 32, 2) := by decide +kernel
theorem dX1_noteChosen_53 : decode cX1_noteChosen 53 = .ok (.invokevirtual 84, 3) := by decide +kernel
theorem dX1_noteChosen_56 : decode cX1_noteChosen 56 = .ok (.ifCond .eq 7, 3) := by decide +kernel
theorem dX1_noteChosen_59 : decode cX1_noteChosen 59 = .ok (.iconst 1, 1) := by decide +kernel
theorem dX1_noteChosen_60 : decode cX1_noteChosen 60 = .ok (.goto 4, 3) := by decide +kernel
theorem dX1_noteChosen_63 : decode cX1_noteChosen 63 = .ok (.iconst 0, 1) := by decide +kernel
theorem dX1_noteChosen_64 : decode cX1_noteChosen 64 = .ok (.bipush 9, 2) := by decide +kernel
theorem dX1_noteChosen_66 : decode cX1_noteChosen 66 = .ok (.iload_n 2, 1) := by decide +kernel
theorem dX1_noteChosen_67 : decode cX1_noteChosen 67 = .ok (.iload_n 3, 1) := by decide +kernel
theorem dX1_noteChosen_68 : decode cX1_noteChosen 68 = .ok (.invokevirtual 77, 3) := by decide +kernel
theorem dX1_noteChosen_71 : decode cX1_noteChosen 71 = .ok (.aload_n 0, 1) := by decide +kernel
theorem dX1_noteChosen_72 : decode cX1_noteChosen 72 = .ok (.iload_n 2, 1) := by decide +kernel
theorem dX1_noteChosen_73 : decode cX1_noteChosen 73 = .ok (.iload_n 3, 1) := by decide +kernel
theorem dX1_noteChosen_74 : decode cX1_noteChosen 74 = .ok (.invokevirtual 132, 3) := by decide +kernel
theorem dX1_noteChosen_77 : decode cX1_noteChosen 77 = .ok (.ifCond .eq 9, 3) := by decide +kernel
theorem dX1_noteChosen_80 : decode cX1_noteChosen 80 = .ok (.aload_n 0, 1) := by decide +kernel
theorem dX1_noteChosen_81 : decode cX1_noteChosen 81 = .ok (.iload_n 2, 1) := by decide +kernel
theorem dX1_noteChosen_82 : decode cX1_noteChosen 82 = .ok (.iload_n 3, 1) := by decide +kernel
theorem dX1_noteChosen_83 : decode cX1_noteChosen 83 = .ok (.invokevirtual 87, 3) := by decide +kernel
theorem dX1_noteChosen_86 : decode cX1_noteChosen 86 = .ok (.return_, 1) := by decide +kernel
theorem dX1_isMetByChance_0 : decode cX1_isMetByChance 0 = .ok (.aload_n 0, 1) := by decide +kernel
theorem dX1_isMetByChance_1 : decode cX1_isMetByChance 1 = .ok (.getfield 35, 3) := by decide +kernel
theorem dX1_isMetByChance_4 : decode cX1_isMetByChance 4 = .ok (.iload_n 1, 1) := by decide +kernel
theorem dX1_isMetByChance_5 : decode cX1_isMetByChance 5 = .ok (.invokevirtual 49, 3) := by decide +kernel
theorem dX1_isMetByChance_8 : decode cX1_isMetByChance 8 = .ok (.istore_n 3, 1) := by decide +kernel
theorem dX1_isMetByChance_9 : decode cX1_isMetByChance 9 = .ok (.aload_n 0, 1) := by decide +kernel
theorem dX1_isMetByChance_10 : decode cX1_isMetByChance 10 = .ok (.getfield 35, 3) := by decide +kernel
theorem dX1_isMetByChance_13 : decode cX1_isMetByChance 13 = .ok (.iload_n 2, 1) := by decide +kernel
theorem dX1_isMetByChance_14 : decode cX1_isMetByChance 14 = .ok (.invokevirtual 49, 3) := by decide +kernel
theorem dX1_isMetByChance_17 : decode cX1_isMetByChance 17 = .ok (.istore 4, 2) := by decide +kernel
theorem dX1_isMetByChance_19 : decode cX1_isMetByChance 19 = .ok (.aload_n 0, 1) := by decide +kernel
theorem dX1_isMetByChance_20 : decode cX1_isMetByChance 20 = .ok (.getfield 27, 3) := by decide +kernel
theorem dX1_isMetByChance_23 : decode cX1_isMetByChance 23 = .ok (.iload 4, 2) := by decide +kernel
theorem dX1_isMetByChance_25 : decode cX1_isMetByChance 25 = .ok (.invokevirtual 57, 3) := by decide +kernel
theorem dX1_isMetByChance_28 : decode cX1_isMetByChance 28 = .ok (.ifCond .eq 31, 3) := by decide +kernel
theorem dX1_isMetByChance_31 : decode cX1_isMetByChance 31 = .ok (.aload_n 0, 1) := by decide +kernel
theorem dX1_isMetByChance_32 : decode cX1_isMetByChance 32 = .ok (.getfield 27, 3) := by decide +kernel
theorem dX1_isMetByChance_35 : decode cX1_isMetByChance 35 = .ok (.iload_n 3, 1) := by decide +kernel
theorem dX1_isMetByChance_36 : decode cX1_isMetByChance 36 = .ok (.invokevirtual 57, 3) := by decide +kernel
theorem dX1_isMetByChance_39 : decode cX1_isMetByChance 39 = .ok (.ifCond .ne 20, 3) := by decide +kernel
theorem dX1_isMetByChance_42 : decode cX1_isMetByChance 42 = .ok (.aload_n 0, 1) := by decide +kernel
theorem dX1_isMetByChance_43 : decode cX1_isMetByChance 43 = .ok (.getfield 27, 3) := by decide +kernel
theorem dX1_isMetByChance_46 : decode cX1_isMetByChance 46 = .ok (.iload_n 3, 1) := by decide +kernel
theorem dX1_isMetByChance_47 : decode cX1_isMetByChance 47 = .ok (.iload 4, 2) := by decide +kernel
theorem dX1_isMetByChance_49 : decode cX1_isMetByChance 49 = .ok (.invokevirtual 120, 3) := by decide +kernel
theorem dX1_isMetByChance_52 : decode cX1_isMetByChance 52 = .ok (.ifCond .ne 7, 3) := by decide +kernel
theorem dX1_isMetByChance_55 : decode cX1_isMetByChance 55 = .ok (.iconst 1, 1) := by decide +kernel
theorem dX1_isMetByChance_56 : decode cX1_isMetByChance 56 = .ok (.goto 4, 3) := by decide +kernel
theorem dX1_isMetByChance_59 : decode cX1_isMetByChance 59 = .ok (.iconst 0, 1) := by decide +kernel
theorem dX1_isMetByChance_60 : decode cX1_isMetByChance 60 = .ok (.ireturn, 1) := by decide +kernel
theorem dX5_init_0 : decode cX5_init 0 = .ok (.aload_n 0, 1) := by decide +kernel
theorem dX5_init_1 : decode cX5_init 1 = .ok (.invokespecial 1, 3) := by decide +kernel
theorem dX5_init_4 : decode cX5_init 4 = .ok (.aload_n 0, 1) := by decide +kernel
theorem dX5_init_5 : decode cX5_init 5 = .ok (.new 7, 3) := by decide +kernel
theorem dX5_init_8 : decode cX5_init 8 = .ok (.dup, 1) := by decide +kernel
theorem dX5_init_9 : decode cX5_init 9 = .ok (.invokespecial 9, 3) := by decide +kernel
theorem dX5_init_12 : decode cX5_init 12 = .ok (.putfield 10, 3) := by decide +kernel
theorem dX5_init_15 : decode cX5_init 15 = .ok (.aload_n 0, 1) := by decide +kernel
theorem dX5_init_16 : decode cX5_init 16 = .ok (.new 16, 3) := by decide +kernel
theorem dX5_init_19 : decode cX5_init 19 = .ok (.dup, 1) := by decide +kernel
theorem dX5_init_20 : decode cX5_init 20 = .ok (.invokespecial 18, 3) := by decide +kernel
theorem dX5_init_23 : decode cX5_init 23 = .ok (.putfield 19, 3) := by decide +kernel
theorem dX5_init_26 : decode cX5_init 26 = .ok (.aload_n 0, 1) := by decide +kernel
theorem dX5_init_27 : decode cX5_init 27 = .ok (.new 23, 3) := by decide +kernel
theorem dX5_init_30 : decode cX5_init 30 = .ok (.dup, 1) := by decide +kernel
theorem dX5_init_31 : decode cX5_init 31 = .ok (.aload_n 0, 1) := by decide +kernel
theorem dX5_init_32 : decode cX5_init 32 = .ok (.getfield 10, 3) := by decide +kernel
theorem dX5_init_35 : decode cX5_init 35 = .ok (.invokespecial 25, 3) := by decide +kernel
theorem dX5_init_38 : decode cX5_init 38 = .ok (.putfield 28, 3) := by decide +kernel
theorem dX5_init_41 : decode cX5_init 41 = .ok (.aload_n 0, 1) := by decide +kernel
theorem dX5_init_42 : decode cX5_init 42 = .ok (.new 32, 3) := by decide +kernel
theorem dX5_init_45 : decode cX5_init 45 = .ok (.dup, 1) := by decide +kernel
theorem dX5_init_46 : decode cX5_init 46 = .ok (.aload_n 0, 1) := by decide +kernel
theorem dX5_init_47 : decode cX5_init 47 = .ok (.getfield 10, 3) := by decide +kernel
theorem dX5_init_50 : decode cX5_init 50 = .ok (.aload_n 0, 1) := by decide +kernel
theorem dX5_init_51 : decode cX5_init 51 = .ok (.getfield 28, 3) := by decide +kernel
theorem dX5_init_54 : decode cX5_init 54 = .ok (.invokespecial 34, 3) := by decide +kernel
theorem dX5_init_57 : decode cX5_init 57 = .ok (.putfield 37, 3) := by decide +kernel
theorem dX5_init_60 : decode cX5_init 60 = .ok (.aload_n 0, 1) := by decide +kernel
theorem dX5_init_61 : decode cX5_init 61 = .ok (.new 41, 3) := by decide +kernel
theorem dX5_init_64 : decode cX5_init 64 = .ok (.dup, 1) := by decide +kernel
theorem dX5_init_65 : decode cX5_init 65 = .ok (.aload_n 0, 1) := by decide +kernel
theorem dX5_init_66 : decode cX5_init 66 = .ok (.getfield 10, 3) := by decide +kernel
theorem dX5_init_69 : decode cX5_init 69 = .ok (.aload_n 0, 1) := by decide +kernel
theorem dX5_init_70 : decode cX5_init 70 = .ok (.getfield 19, 3) := by decide +kernel
theorem dX5_init_73 : decode cX5_init 73 = .ok (.aload_n 0, 1) := by decide +kernel
theorem dX5_init_74 : decode cX5_init 74 = .ok (.getfield 28, 3) := by decide +kernel
theorem dX5_init_77 : decode cX5_init 77 = .ok (.aload_n 0, 1) := by decide +kernel
theorem dX5_init_78 : decode cX5_init 78 = .ok (.getfield 37, 3) := by decide +kernel
theorem dX5_init_81 : decode cX5_init 81 = .ok (.invokespecial 43, 3) := by decide +kernel
theorem dX5_init_84 : decode cX5_init 84 = .ok (.putfield 46, 3) := by decide +kernel
theorem dX5_init_87 : decode cX5_init 87 = .ok (.return_, 1) := by decide +kernel
theorem dX5_clear_0 : decode cX5_clear 0 = .ok (.aload_n 0, 1) := by decide +kernel
theorem dX5_clear_1 : decode cX5_clear 1 = .ok (.getfield 28, 3) := by decide +kernel
theorem dX5_clear_4 : decode cX5_clear 4 = .ok (.invokevirtual 50, 3) := by decide +kernel
theorem dX5_clear_7 : decode cX5_clear 7 = .ok (.istore_n 1, 1) := by decide +kernel
theorem dX5_clear_8 : decode cX5_clear 8 = .ok (.aload_n 0, 1) := by decide +kernel
theorem dX5_clear_9 : decode cX5_clear 9 = .ok (.getfield 10, 3) := by decide +kernel
theorem dX5_clear_12 : decode cX5_clear 12 = .ok (.invokevirtual 54, 3) := by decide +kernel
theorem dX5_clear_15 : decode cX5_clear 15 = .ok (.aload_n 0, 1) := by decide +kernel
theorem dX5_clear_16 : decode cX5_clear 16 = .ok (.getfield 19, 3) := by decide +kernel
theorem dX5_clear_19 : decode cX5_clear 19 = .ok (.invokevirtual 57, 3) := by decide +kernel
theorem dX5_clear_22 : decode cX5_clear 22 = .ok (.aload_n 0, 1) := by decide +kernel
theorem dX5_clear_23 : decode cX5_clear 23 = .ok (.getfield 28, 3) := by decide +kernel
theorem dX5_clear_26 : decode cX5_clear 26 = .ok (.invokevirtual 58, 3) := by decide +kernel
theorem dX5_clear_29 : decode cX5_clear 29 = .ok (.iload_n 1, 1) := by decide +kernel
theorem dX5_clear_30 : decode cX5_clear 30 = .ok (.ireturn, 1) := by decide +kernel
theorem dX5_type_0 : decode cX5_type 0 = .ok (.iload_n 3, 1) := by decide +kernel
theorem dX5_type_1 : decode cX5_type 1 = .ok (.iconst (-1), 1) := by decide +kernel
theorem dX5_type_2 : decode cX5_type 2 = .ok (.if_icmp .eq 17, 3) := by decide +kernel
theorem dX5_type_5 : decode cX5_type 5 = .ok (.aload_n 0, 1) := by decide +kernel
theorem dX5_type_6 : decode cX5_type 6 = .ok (.getfield 10, 3) := by decide +kernel
theorem dX5_type_9 : decode cX5_type 9 = .ok (.iload_n 3, 1) := by decide +kernel
theorem dX5_type_10 : decode cX5_type 10 = .ok (.invokevirtual 59, 3) := by decide +kernel
theorem dX5_type_13 : decode cX5_type 13 = .ok (.ifCond .ne 6, 3) := by decide +kernel
theorem dX5_type_16 : decode cX5_type 16 = .ok (.bipush (-2), 2) := by decide +kernel
theorem dX5_type_18 : decode cX5_type 18 = .ok (.ireturn, 1) := by decide +kernel
theorem dX5_type_19 : decode cX5_type 19 = .ok (.iload_n 1, 1) := by decide +kernel
theorem dX5_type_20 : decode cX5_type 20 = .ok (.ifCond .lt 17, 3) := by decide +kernel
theorem dX5_type_23 : decode cX5_type 23 = .ok (.iload_n 1, 1) := by decide +kernel
theorem dX5_type_24 : decode cX5_type 24 = .ok (.iconst 2, 1) := by decide +kernel
theorem dX5_type_25 : decode cX5_type 25 = .ok (.if_icmp .gt 12, 3) := by decide +kernel
theorem dX5_type_28 : decode cX5_type 28 = .ok (.iload_n 2, 1) := by decide +kernel
theorem dX5_type_29 : decode cX5_type 29 = .ok (.ifCond .lt 8, 3) := by decide +kernel
theorem dX5_type_32 : decode cX5_type 32 = .ok (.iload_n 2, 1) := by decide +kernel
theorem dX5_type_33 : decode cX5_type 33 = .ok (.iconst 4, 1) := by decide +kernel
theorem dX5_type_34 : decode cX5_type 34 = .ok (.if_icmp .lt 6, 3) := by decide +kernel
theorem dX5_type_37 : decode cX5_type 37 = .ok (.bipush (-3), 2) := by decide +kernel
theorem dX5_type_39 : decode cX5_type 39 = .ok (.ireturn, 1) := by decide +kernel
theorem dX5_type_40 : decode cX5_type 40 = .ok (.iload_n 3, 1) := by decide +kernel
theorem dX5_type_41 : decode cX5_type 41 = .ok (.iconst (-1), 1) := by decide +kernel
theorem dX5_type_42 : decode cX5_type 42 = .ok (.if_icmp .eq 22, 3) := by decide +kernel
theorem dX5_type_45 : decode cX5_type 45 = .ok (.iload_n 1, 1) := by decide +kernel
theorem dX5_type_46 : decode cX5_type 46 = .ok (.iconst 2, 1) := by decide +kernel
theorem dX5_type_47 : decode cX5_type 47 = .ok (.if_icmp .eq 14, 3) := by decide +kernel
theorem dX5_type_50 : decode cX5_type 50 = .ok (.aload_n 0, 1) := by decide +kernel
theorem dX5_type_51 : decode cX5_type 51 = .ok (.getfield 10, 3) := by decide +kernel
theorem dX5_type_54 : decode cX5_type 54 = .ok (.iload_n 3, 1) := by decide +kernel
theorem dX5_type_55 : decode cX5_type 55 = .ok (.invokevirtual 63, 3) := by decide +kernel
theorem dX5_type_58 : decode cX5_type 58 = .ok (.ifCond .eq 6, 3) := by decide +kernel
theorem dX5_type_61 : decode cX5_type 61 = .ok (.bipush (-3), 2) := by decide +kernel
theorem dX5_type_63 : decode cX5_type 63 = .ok (.ireturn, 1) := by decide +kernel
theorem dX5_type_64 : decode cX5_type 64 = .ok (.aload_n 0, 1) := by decide +kernel
theorem dX5_type_65 : decode cX5_type 65 = .ok (.getfield 10, 3) := by decide +kernel
theorem dX5_type_68 : decode cX5_type 68 = .ok (.invokevirtual 66, 3) := by decide +kernel
theorem dX5_type_71 : decode cX5_type 71 = .ok (.ifCond .eq 8, 3) := by decide +kernel
theorem dX5_type_74 : decode cX5_type 74 = .ok (.bipush (-4), 2) := by decide +kernel
theorem dX5_type_76 : decode cX5_type 76 = .ok (.goto 13, 3) := by decide +kernel
theorem dX5_type_79 : decode cX5_type 79 = .ok (.aload_n 0, 1) := by decide +kernel
theorem dX5_type_80 : decode cX5_type 80 = .ok (.getfield 10, 3) := by decide +kernel
theorem dX5_type_83 : decode cX5_type 83 = .ok (.iload_n 1, 1) := by decide +kernel
theorem dX5_type_84 : decode cX5_type 84 = .ok (.iload_n 2, 1) := by decide +kernel
theorem dX5_type_85 : decode cX5_type 85 = .ok (.iload_n 3, 1) := by decide +kernel
theorem dX5_type_86 : decode cX5_type 86 = .ok (.invokevirtual 70, 3) := by decide +kernel
theorem dX5_type_89 : decode cX5_type 89 = .ok (.ireturn, 1) := by decide +kernel
theorem dX5_face_0 : decode cX5_face 0 = .ok (.aload_n 0, 1) := by decide +kernel
theorem dX5_face_1 : decode cX5_face 1 = .ok (.getfield 10, 3) := by decide +kernel
theorem dX5_face_4 : decode cX5_face 4 = .ok (.iload_n 1, 1) := by decide +kernel
theorem dX5_face_5 : decode cX5_face 5 = .ok (.invokevirtual 59, 3) := by decide +kernel
theorem dX5_face_8 : decode cX5_face 8 = .ok (.ifCond .eq 14, 3) := by decide +kernel
theorem dX5_face_11 : decode cX5_face 11 = .ok (.aload_n 0, 1) := by decide +kernel
theorem dX5_face_12 : decode cX5_face 12 = .ok (.getfield 10, 3) := by decide +kernel
theorem dX5_face_15 : decode cX5_face 15 = .ok (.iload_n 2, 1) := by decide +kernel
theorem dX5_face_16 : decode cX5_face 16 = .ok (.invokevirtual 59, 3) := by decide +kernel
theorem dX5_face_19 : decode cX5_face 19 = .ok (.ifCond .ne 6, 3) := by decide +kernel
theorem dX5_face_22 : decode cX5_face 22 = .ok (.bipush (-2), 2) := by decide +kernel
theorem dX5_face_24 : decode cX5_face 24 = .ok (.ireturn, 1) := by decide +kernel
theorem dX5_face_25 : decode cX5_face 25 = .ok (.aload_n 0, 1) := by decide +kernel
theorem dX5_face_26 : decode cX5_face 26 = .ok (.getfield 10, 3) := by decide +kernel
theorem dX5_face_29 : decode cX5_face 29 = .ok (.iload_n 2, 1) := by decide +kernel
theorem dX5_face_30 : decode cX5_face 30 = .ok (.invokevirtual 63, 3) := by decide +kernel
theorem dX5_face_33 : decode cX5_face 33 = .ok (.ifCond .eq 20, 3) := by decide +kernel
theorem dX5_face_36 : decode cX5_face 36 = .ok (.iload_n 2, 1) := by decide +kernel
theorem dX5_face_37 : decode cX5_face 37 = .ok (.iload_n 1, 1) := by decide +kernel
theorem dX5_face_38 : decode cX5_face 38 = .ok (.if_icmp .ge 15, 3) := by decide +kernel
theorem dX5_face_41 : decode cX5_face 41 = .ok (.aload_n 0, 1) := by decide +kernel
theorem dX5_face_42 : decode cX5_face 42 = .ok (.getfield 10, 3) := by decide +kernel
theorem dX5_face_45 : decode cX5_face 45 = .ok (.iload_n 1, 1) := by decide +kernel
theorem dX5_face_46 : decode cX5_face 46 = .ok (.iload_n 2, 1) := by decide +kernel
theorem dX5_face_47 : decode cX5_face 47 = .ok (.invokevirtual 74, 3) := by decide +kernel
end
section
theorem dX5_face_50 : decode cX5_face 50 = .ok (.ifCond .eq 6, 3) := by decide +kernel
theorem dX5_face_53 : decode cX5_face 53 = .ok (.bipush (-3), 2) := by decide +kernel
theorem dX5_face_55 : decode cX5_face 55 = .ok (.ireturn, 1) := by decide +kernel
theorem dX5_face_56 : decode cX5_face 56 = .ok (.aload_n 0, 1) := by decide +kernel
theorem dX5_face_57 : decode cX5_face 57 = .ok (.getfield 10, 3) := by decide +kernel
theorem dX5_face_60 : decode cX5_face 60 = .ok (.iload_n 1, 1) := by decide +kernel
theorem dX5_face_61 : decode cX5_face 61 = .ok (.invokevirtual 78, 3) := by decide +kernel
theorem dX5_face_64 : decode cX5_face 64 = .ok (.iconst 3, 1) := by decide +kernel
theorem dX5_face_65 : decode cX5_face 65 = .ok (.if_icmp .lt 8, 3) := by decide +kernel
theorem dX5_face_68 : decode cX5_face 68 = .ok (.bipush (-4), 2) := by decide +kernel
theorem dX5_face_70 : decode cX5_face 70 = .ok (.goto 12, 3) := by decide +kernel
theorem dX5_face_73 : decode cX5_face 73 = .ok (.aload_n 0, 1) := by decide +kernel
theorem dX5_face_74 : decode cX5_face 74 = .ok (.getfield 10, 3) := by decide +kernel
theorem dX5_face_77 : decode cX5_face 77 = .ok (.iload_n 1, 1) := by decide +kernel
theorem dX5_face_78 : decode cX5_face 78 = .ok (.iload_n 2, 1) := by decide +kernel
theorem dX5_face_79 : decode cX5_face 79 = .ok (.invokevirtual 82, 3) := by decide +kernel
theorem dX5_face_82 : decode cX5_face 82 = .ok (.ireturn, 1) := by decide +kernel
theorem dX5_thrown0_0 : decode cX5_thrown0 0 = .ok (.iload_n 1, 1) := by decide +kernel
theorem dX5_thrown0_1 : decode cX5_thrown0 1 = .ok (.iconst (-1), 1) := by decide +kernel
theorem dX5_thrown0_2 : decode cX5_thrown0 2 = .ok (.if_icmp .eq 17, 3) := by decide +kernel
theorem dX5_thrown0_5 : decode cX5_thrown0 5 = .ok (.aload_n 0, 1) := by decide +kernel
theorem dX5_thrown0_6 : decode cX5_thrown0 6 = .ok (.getfield 19, 3) := by decide +kernel
theorem dX5_thrown0_9 : decode cX5_thrown0 9 = .ok (.iload_n 1, 1) := by decide +kernel
theorem dX5_thrown0_10 : decode cX5_thrown0 10 = .ok (.invokevirtual 86, 3) := by decide +kernel
theorem dX5_thrown0_13 : decode cX5_thrown0 13 = .ok (.ifCond .ne 6, 3) := by decide +kernel
theorem dX5_thrown0_16 : decode cX5_thrown0 16 = .ok (.bipush (-2), 2) := by decide +kernel
theorem dX5_thrown0_18 : decode cX5_thrown0 18 = .ok (.ireturn, 1) := by decide +kernel
theorem dX5_thrown0_19 : decode cX5_thrown0 19 = .ok (.aload_n 0, 1) := by decide +kernel
theorem dX5_thrown0_20 : decode cX5_thrown0 20 = .ok (.getfield 19, 3) := by decide +kernel
theorem dX5_thrown0_23 : decode cX5_thrown0 23 = .ok (.invokevirtual 87, 3) := by decide +kernel
theorem dX5_thrown0_26 : decode cX5_thrown0 26 = .ok (.ifCond .eq 8, 3) := by decide +kernel
theorem dX5_thrown0_29 : decode cX5_thrown0 29 = .ok (.bipush (-4), 2) := by decide +kernel
theorem dX5_thrown0_31 : decode cX5_thrown0 31 = .ok (.goto 12, 3) := by decide +kernel
theorem dX5_thrown0_34 : decode cX5_thrown0 34 = .ok (.aload_n 0, 1) := by decide +kernel
theorem dX5_thrown0_35 : decode cX5_thrown0 35 = .ok (.getfield 19, 3) := by decide +kernel
theorem dX5_thrown0_38 : decode cX5_thrown0 38 = .ok (.iload_n 1, 1) := by decide +kernel
theorem dX5_thrown0_39 : decode cX5_thrown0 39 = .ok (.iload_n 2, 1) := by decide +kernel
theorem dX5_thrown0_40 : decode cX5_thrown0 40 = .ok (.invokevirtual 88, 3) := by decide +kernel
theorem dX5_thrown0_43 : decode cX5_thrown0 43 = .ok (.ireturn, 1) := by decide +kernel
theorem dX5_member_0 : decode cX5_member 0 = .ok (.aload_n 0, 1) := by decide +kernel
theorem dX5_member_1 : decode cX5_member 1 = .ok (.getfield 10, 3) := by decide +kernel
theorem dX5_member_4 : decode cX5_member 4 = .ok (.iload_n 1, 1) := by decide +kernel
theorem dX5_member_5 : decode cX5_member 5 = .ok (.invokevirtual 59, 3) := by decide +kernel
theorem dX5_member_8 : decode cX5_member 8 = .ok (.ifCond .eq 11, 3) := by decide +kernel
theorem dX5_member_11 : decode cX5_member 11 = .ok (.aload_n 0, 1) := by decide +kernel
theorem dX5_member_12 : decode cX5_member 12 = .ok (.iload_n 3, 1) := by decide +kernel
theorem dX5_member_13 : decode cX5_member 13 = .ok (.invokevirtual 91, 3) := by decide +kernel
theorem dX5_member_16 : decode cX5_member 16 = .ok (.ifCond .eq 6, 3) := by decide +kernel
theorem dX5_member_19 : decode cX5_member 19 = .ok (.bipush (-2), 2) := by decide +kernel
theorem dX5_member_21 : decode cX5_member 21 = .ok (.ireturn, 1) := by decide +kernel
theorem dX5_member_22 : decode cX5_member 22 = .ok (.iload_n 2, 1) := by decide +kernel
theorem dX5_member_23 : decode cX5_member 23 = .ok (.ifCond .lt 19, 3) := by decide +kernel
theorem dX5_member_26 : decode cX5_member 26 = .ok (.iload_n 2, 1) := by decide +kernel
theorem dX5_member_27 : decode cX5_member 27 = .ok (.bipush 8, 2) := by decide +kernel
theorem dX5_member_29 : decode cX5_member 29 = .ok (.if_icmp .ge 13, 3) := by decide +kernel
theorem dX5_member_32 : decode cX5_member 32 = .ok (.iload_n 3, 1) := by decide +kernel
theorem dX5_member_33 : decode cX5_member 33 = .ok (.ifCond .lt 9, 3) := by decide +kernel
theorem dX5_member_36 : decode cX5_member 36 = .ok (.iload_n 3, 1) := by decide +kernel
theorem dX5_member_37 : decode cX5_member 37 = .ok (.bipush 20, 2) := by decide +kernel
theorem dX5_member_39 : decode cX5_member 39 = .ok (.if_icmp .lt 6, 3) := by decide +kernel
theorem dX5_member_42 : decode cX5_member 42 = .ok (.bipush (-3), 2) := by decide +kernel
theorem dX5_member_44 : decode cX5_member 44 = .ok (.ireturn, 1) := by decide +kernel
theorem dX5_member_45 : decode cX5_member 45 = .ok (.aload_n 0, 1) := by decide +kernel
theorem dX5_member_46 : decode cX5_member 46 = .ok (.getfield 10, 3) := by decide +kernel
theorem dX5_member_49 : decode cX5_member 49 = .ok (.iload_n 1, 1) := by decide +kernel
theorem dX5_member_50 : decode cX5_member 50 = .ok (.invokevirtual 63, 3) := by decide +kernel
theorem dX5_member_53 : decode cX5_member 53 = .ok (.iload 4, 2) := by decide +kernel
theorem dX5_member_55 : decode cX5_member 55 = .ok (.invokestatic 94, 3) := by decide +kernel
theorem dX5_member_58 : decode cX5_member 58 = .ok (.ifCond .eq 16, 3) := by decide +kernel
theorem dX5_member_61 : decode cX5_member 61 = .ok (.aload_n 0, 1) := by decide +kernel
theorem dX5_member_62 : decode cX5_member 62 = .ok (.getfield 28, 3) := by decide +kernel
theorem dX5_member_65 : decode cX5_member 65 = .ok (.iload_n 1, 1) := by decide +kernel
theorem dX5_member_66 : decode cX5_member 66 = .ok (.iload_n 2, 1) := by decide +kernel
theorem dX5_member_67 : decode cX5_member 67 = .ok (.invokevirtual 98, 3) := by decide +kernel
theorem dX5_member_70 : decode cX5_member 70 = .ok (.iconst (-1), 1) := by decide +kernel
theorem dX5_member_71 : decode cX5_member 71 = .ok (.if_icmp .eq 6, 3) := by decide +kernel
theorem dX5_member_74 : decode cX5_member 74 = .ok (.bipush (-3), 2) := by decide +kernel
theorem dX5_member_76 : decode cX5_member 76 = .ok (.ireturn, 1) := by decide +kernel
theorem dX5_member_77 : decode cX5_member 77 = .ok (.aload_n 0, 1) := by decide +kernel
theorem dX5_member_78 : decode cX5_member 78 = .ok (.getfield 28, 3) := by decide +kernel
theorem dX5_member_81 : decode cX5_member 81 = .ok (.invokevirtual 101, 3) := by decide +kernel
theorem dX5_member_84 : decode cX5_member 84 = .ok (.ifCond .eq 8, 3) := by decide +kernel
theorem dX5_member_87 : decode cX5_member 87 = .ok (.bipush (-4), 2) := by decide +kernel
theorem dX5_member_89 : decode cX5_member 89 = .ok (.goto 15, 3) := by decide +kernel
theorem dX5_member_92 : decode cX5_member 92 = .ok (.aload_n 0, 1) := by decide +kernel
theorem dX5_member_93 : decode cX5_member 93 = .ok (.getfield 28, 3) := by decide +kernel
theorem dX5_member_96 : decode cX5_member 96 = .ok (.iload_n 1, 1) := by decide +kernel
theorem dX5_member_97 : decode cX5_member 97 = .ok (.iload_n 2, 1) := by decide +kernel
theorem dX5_member_98 : decode cX5_member 98 = .ok (.iload_n 3, 1) := by decide +kernel
theorem dX5_member_99 : decode cX5_member 99 = .ok (.iload 4, 2) := by decide +kernel
theorem dX5_member_101 : decode cX5_member 101 = .ok (.invokevirtual 102, 3) := by decide +kernel
theorem dX5_member_104 : decode cX5_member 104 = .ok (.ireturn, 1) := by decide +kernel
theorem dX5_throws0_0 : decode cX5_throws0 0 = .ok (.aload_n 0, 1) := by decide +kernel
theorem dX5_throws0_1 : decode cX5_throws0 1 = .ok (.getfield 28, 3) := by decide +kernel
theorem dX5_throws0_4 : decode cX5_throws0 4 = .ok (.iload_n 1, 1) := by decide +kernel
theorem dX5_throws0_5 : decode cX5_throws0 5 = .ok (.invokevirtual 105, 3) := by decide +kernel
theorem dX5_throws0_8 : decode cX5_throws0 8 = .ok (.ifCond .eq 14, 3) := by decide +kernel
theorem dX5_throws0_11 : decode cX5_throws0 11 = .ok (.aload_n 0, 1) := by decide +kernel
theorem dX5_throws0_12 : decode cX5_throws0 12 = .ok (.getfield 19, 3) := by decide +kernel
theorem dX5_throws0_15 : decode cX5_throws0 15 = .ok (.iload_n 2, 1) := by decide +kernel
theorem dX5_throws0_16 : decode cX5_throws0 16 = .ok (.invokevirtual 86, 3) := by decide +kernel
theorem dX5_throws0_19 : decode cX5_throws0 19 = .ok (.ifCond .ne 6, 3) := by decide +kernel
theorem dX5_throws0_22 : decode cX5_throws0 22 = .ok (.bipush (-2), 2) := by decide +kernel
theorem dX5_throws0_24 : decode cX5_throws0 24 = .ok (.ireturn, 1) := by decide +kernel
theorem dX5_throws0_25 : decode cX5_throws0 25 = .ok (.aload_n 0, 1) := by decide +kernel
theorem dX5_throws0_26 : decode cX5_throws0 26 = .ok (.getfield 28, 3) := by decide +kernel
theorem dX5_throws0_29 : decode cX5_throws0 29 = .ok (.iload_n 1, 1) := by decide +kernel
theorem dX5_throws0_30 : decode cX5_throws0 30 = .ok (.iload_n 2, 1) := by decide +kernel
theorem dX5_throws0_31 : decode cX5_throws0 31 = .ok (.invokevirtual 106, 3) := by decide +kernel
theorem dX5_throws0_34 : decode cX5_throws0 34 = .ok (.invokestatic 109, 3) := by decide +kernel
theorem dX5_throws0_37 : decode cX5_throws0 37 = .ok (.ireturn, 1) := by decide +kernel
theorem dX5_overrides_0 : decode cX5_overrides 0 = .ok (.aload_n 0, 1) := by decide +kernel
theorem dX5_overrides_1 : decode cX5_overrides 1 = .ok (.getfield 28, 3) := by decide +kernel
theorem dX5_overrides_4 : decode cX5_overrides 4 = .ok (.iload_n 1, 1) := by decide +kernel
theorem dX5_overrides_5 : decode cX5_overrides 5 = .ok (.invokevirtual 105, 3) := by decide +kernel
theorem dX5_overrides_8 : decode cX5_overrides 8 = .ok (.ifCond .eq 14, 3) := by decide +kernel
theorem dX5_overrides_11 : decode cX5_overrides 11 = .ok (.aload_n 0, 1) := by decide +kernel
theorem dX5_overrides_12 : decode cX5_overrides 12 = .ok (.getfield 28, 3) := by decide +kernel
theorem dX5_overrides_15 : decode cX5_overrides 15 = .ok (.iload_n 2, 1) := by decide +kernel
theorem dX5_overrides_16 : decode cX5_overrides 16 = .ok (.invokevirtual 105, 3) := by decide +kernel
theorem dX5_overrides_19 : decode cX5_overrides 19 = .ok (.ifCond .ne 6, 3) := by decide +kernel
theorem dX5_overrides_22 : decode cX5_overrides 22 = .ok (.bipush (-2), 2) := by decide +kernel
theorem dX5_overrides_24 : decode cX5_overrides 24 = .ok (.ireturn, 1) := by decide +kernel
theorem dX5_overrides_25 : decode cX5_overrides 25 = .ok (.aload_n 0, 1) := by decide +kernel
theorem dX5_overrides_26 : decode cX5_overrides 26 = .ok (.getfield 28, 3) := by decide +kernel
theorem dX5_overrides_29 : decode cX5_overrides 29 = .ok (.iload_n 1, 1) := by decide +kernel
theorem dX5_overrides_30 : decode cX5_overrides 30 = .ok (.iload_n 2, 1) := by decide +kernel
theorem dX5_overrides_31 : decode cX5_overrides 31 = .ok (.invokevirtual 113, 3) := by decide +kernel
theorem dX5_overrides_34 : decode cX5_overrides 34 = .ok (.invokestatic 109, 3) := by decide +kernel
theorem dX5_overrides_37 : decode cX5_overrides 37 = .ok (.ireturn, 1) := by decide +kernel
theorem dX5_hides_0 : decode cX5_hides 0 = .ok (.aload_n 0, 1) := by decide +kernel
theorem dX5_hides_1 : decode cX5_hides 1 = .ok (.getfield 28, 3) := by decide +kernel
theorem dX5_hides_4 : decode cX5_hides 4 = .ok (.iload_n 1, 1) := by decide +kernel
theorem dX5_hides_5 : decode cX5_hides 5 = .ok (.invokevirtual 105, 3) := by decide +kernel
theorem dX5_hides_8 : decode cX5_hides 8 = .ok (.ifCond .eq 14, 3) := by decide +kernel
theorem dX5_hides_11 : decode cX5_hides 11 = .ok (.aload_n 0, 1) := by decide +kernel
theorem dX5_hides_12 : decode cX5_hides 12 = .ok (.getfield 28, 3) := by decide +kernel
theorem dX5_hides_15 : decode cX5_hides 15 = .ok (.iload_n 2, 1) := by decide +kernel
theorem dX5_hides_16 : decode cX5_hides 16 = .ok (.invokevirtual 105, 3) := by decide +kernel
theorem dX5_hides_19 : decode cX5_hides 19 = .ok (.ifCond .ne 6, 3) := by decide +kernel
theorem dX5_hides_22 : decode cX5_hides 22 = .ok (.bipush (-2), 2) := by decide +kernel
theorem dX5_hides_24 : decode cX5_hides 24 = .ok (.ireturn, 1) := by decide +kernel
theorem dX5_hides_25 : decode cX5_hides 25 = .ok (.aload_n 0, 1) := by decide +kernel
theorem dX5_hides_26 : decode cX5_hides 26 = .ok (.getfield 28, 3) := by decide +kernel
theorem dX5_hides_29 : decode cX5_hides 29 = .ok (.iload_n 1, 1) := by decide +kernel
theorem dX5_hides_30 : decode cX5_hides 30 = .ok (.iload_n 2, 1) := by decide +kernel
theorem dX5_hides_31 : decode cX5_hides 31 = .ok (.invokevirtual 116, 3) := by decide +kernel
theorem dX5_hides_34 : decode cX5_hides 34 = .ok (.invokestatic 109, 3) := by decide +kernel
theorem dX5_hides_37 : decode cX5_hides 37 = .ok (.ireturn, 1) := by decide +kernel
theorem dX5_chosen_0 : decode cX5_chosen 0 = .ok (.aload_n 0, 1) := by decide +kernel
theorem dX5_chosen_1 : decode cX5_chosen 1 = .ok (.getfield 10, 3) := by decide +kernel
theorem dX5_chosen_4 : decode cX5_chosen 4 = .ok (.iload_n 1, 1) := by decide +kernel
theorem dX5_chosen_5 : decode cX5_chosen 5 = .ok (.invokevirtual 59, 3) := by decide +kernel
theorem dX5_chosen_8 : decode cX5_chosen 8 = .ok (.ifCond .eq 14, 3) := by decide +kernel
theorem dX5_chosen_11 : decode cX5_chosen 11 = .ok (.aload_n 0, 1) := by decide +kernel
theorem dX5_chosen_12 : decode cX5_chosen 12 = .ok (.getfield 28, 3) := by decide +kernel
theorem dX5_chosen_15 : decode cX5_chosen 15 = .ok (.iload_n 2, 1) := by decide +kernel
theorem dX5_chosen_16 : decode cX5_chosen 16 = .ok (.invokevirtual 105, 3) := by decide +kernel
theorem dX5_chosen_19 : decode cX5_chosen 19 = .ok (.ifCond .ne 6, 3) := by decide +kernel
theorem dX5_chosen_22 : decode cX5_chosen 22 = .ok (.bipush (-2), 2) := by decide +kernel
theorem dX5_chosen_24 : decode cX5_chosen 24 = .ok (.ireturn, 1) := by decide +kernel
theorem dX5_chosen_25 : decode cX5_chosen 25 = .ok (.aload_n 0, 1) := by decide +kernel
theorem dX5_chosen_26 : decode cX5_chosen 26 = .ok (.getfield 10, 3) := by decide +kernel
theorem dX5_chosen_29 : decode cX5_chosen 29 = .ok (.iload_n 1, 1) := by decide +kernel
theorem dX5_chosen_30 : decode cX5_chosen 30 = .ok (.invokevirtual 63, 3) := by decide +kernel
theorem dX5_chosen_33 : decode cX5_chosen 33 = .ok (.ifCond .ne 33, 3) := by decide +kernel
theorem dX5_chosen_36 : decode cX5_chosen 36 = .ok (.aload_n 0, 1) := by decide +kernel
theorem dX5_chosen_37 : decode cX5_chosen 37 = .ok (.getfield 28, 3) := by decide +kernel
theorem dX5_chosen_40 : decode cX5_chosen 40 = .ok (.iload_n 2, 1) := by decide +kernel
theorem dX5_chosen_41 : decode cX5_chosen 41 = .ok (.invokevirtual 119, 3) := by decide +kernel
theorem dX5_chosen_44 : decode cX5_chosen 44 = .ok (.ifCond .eq 22, 3) := by decide +kernel
theorem dX5_chosen_47 : decode cX5_chosen 47 = .ok (.aload_n 0, 1) := by decide +kernel
theorem dX5_chosen_48 : decode cX5_chosen 48 = .ok (.getfield 10, 3) := by decide +kernel
theorem dX5_chosen_51 : decode cX5_chosen 51 = .ok (.iload_n 1, 1) := by decide +kernel
theorem dX5_chosen_52 : decode cX5_chosen 52 = .ok (.aload_n 0, 1) := by decide +kernel
theorem dX5_chosen_53 : decode cX5_chosen 53 = .ok (.getfield 28, 3) := by decide +kernel
theorem dX5_chosen_56 : decode cX5_chosen 56 = .ok (.iload_n 2, 1) := by decide +kernel
theorem dX5_chosen_57 : decode cX5_chosen 57 = .ok (.invokevirtual 122, 3) := by decide +kernel
theorem dX5_chosen_60 : decode cX5_chosen 60 = .ok (.invokevirtual 125, 3) := by decide +kernel
theorem dX5_chosen_63 : decode cX5_chosen 63 = .ok (.ifCond .ne 6, 3) := by decide +kernel
theorem dX5_chosen_66 : decode cX5_chosen 66 = .ok (.bipush (-3), 2) := by decide +kernel
theorem dX5_chosen_68 : decode cX5_chosen 68 = .ok (.ireturn, 1) := by decide +kernel
theorem dX5_chosen_69 : decode cX5_chosen 69 = .ok (.aload_n 0, 1) := by decide +kernel
theorem dX5_chosen_70 : decode cX5_chosen 70 = .ok (.getfield 37, 3) := by decide +kernel
theorem dX5_chosen_73 : decode cX5_chosen 73 = .ok (.iload_n 1, 1) := by decide +kernel
theorem dX5_chosen_74 : decode cX5_chosen 74 = .ok (.iload_n 2, 1) := by decide +kernel
theorem dX5_chosen_75 : decode cX5_chosen 75 = .ok (.invokevirtual 128, 3) := by decide +kernel
theorem dX5_chosen_78 : decode cX5_chosen 78 = .ok (.ireturn, 1) := by decide +kernel
theorem dX5_sub_0 : decode cX5_sub 0 = .ok (.aload_n 0, 1) := by decide +kernel
theorem dX5_sub_1 : decode cX5_sub 1 = .ok (.getfield 10, 3) := by decide +kernel
theorem dX5_sub_4 : decode cX5_sub 4 = .ok (.iload_n 1, 1) := by decide +kernel
theorem dX5_sub_5 : decode cX5_sub 5 = .ok (.invokevirtual 59, 3) := by decide +kernel
theorem dX5_sub_8 : decode cX5_sub 8 = .ok (.ifCond .eq 14, 3) := by decide +kernel
theorem dX5_sub_11 : decode cX5_sub 11 = .ok (.aload_n 0, 1) := by decide +kernel
theorem dX5_sub_12 : decode cX5_sub 12 = .ok (.getfield 10, 3) := by decide +kernel
theorem dX5_sub_15 : decode cX5_sub 15 = .ok (.iload_n 2, 1) := by decide +kernel
theorem dX5_sub_16 : decode cX5_sub 16 = .ok (.invokevirtual 59, 3) := by decide +kernel
theorem dX5_sub_19 : decode cX5_sub 19 = .ok (.ifCond .ne 6, 3) := by decide +kernel
theorem dX5_sub_22 : decode cX5_sub 22 = .ok (.bipush (-2), 2) := by decide +kernel
theorem dX5_sub_24 : decode cX5_sub 24 = .ok (.ireturn, 1) := by decide +kernel
theorem dX5_sub_25 : decode cX5_sub 25 = .ok (.aload_n 0, 1) := by decide +kernel
theorem dX5_sub_26 : decode cX5_sub 26 = .ok (.getfield 10, 3) := by decide +kernel
theorem dX5_sub_29 : decode cX5_sub 29 = .ok (.iload_n 1, 1) := by decide +kernel
theorem dX5_sub_30 : decode cX5_sub 30 = .ok (.iload_n 2, 1) := by decide +kernel
theorem dX5_sub_31 : decode cX5_sub 31 = .ok (.invokevirtual 125, 3) := by decide +kernel
theorem dX5_sub_34 : decode cX5_sub 34 = .ok (.invokestatic 109, 3) := by decide +kernel
theorem dX5_sub_37 : decode cX5_sub 37 = .ok (.ireturn, 1) := by decide +kernel
theorem dX5_check_0 : decode cX5_check 0 = .ok (.aload_n 0, 1) := by decide +kernel
theorem dX5_check_1 : decode cX5_check 1 = .ok (.getfield 10, 3) := by decide +kernel
theorem dX5_check_4 : decode cX5_check 4 = .ok (.iload_n 1, 1) := by decide +kernel
theorem dX5_check_5 : decode cX5_check 5 = .ok (.invokevirtual 59, 3) := by decide +kernel
theorem dX5_check_8 : decode cX5_check 8 = .ok (.ifCond .ne 6, 3) := by decide +kernel
theorem dX5_check_11 : decode cX5_check 11 = .ok (.bipush (-2), 2) := by decide +kernel
theorem dX5_check_13 : decode cX5_check 13 = .ok (.ireturn, 1) := by decide +kernel
theorem dX5_check_14 : decode cX5_check 14 = .ok (.aload_n 0, 1) := by decide +kernel
theorem dX5_check_15 : decode cX5_check 15 = .ok (.getfield 46, 3) := by decide +kernel
theorem dX5_check_18 : decode cX5_check 18 = .ok (.iload_n 1, 1) := by decide +kernel
theorem dX5_check_19 : decode cX5_check 19 = .ok (.iconst (-1), 1) := by decide +kernel
theorem dX5_check_20 : decode cX5_check 20 = .ok (.invokevirtual 131, 3) := by decide +kernel
theorem dX5_check_23 : decode cX5_check 23 = .ok (.ireturn, 1) := by decide +kernel
theorem dX5_fault_0 : decode cX5_fault 0 = .ok (.aload_n 0, 1) := by decide +kernel
theorem dX5_fault_1 : decode cX5_fault 1 = .ok (.getfield 10, 3) := by decide +kernel
theorem dX5_fault_4 : decode cX5_fault 4 = .ok (.iload_n 1, 1) := by decide +kernel
theorem dX5_fault_5 : decode cX5_fault 5 = .ok (.invokevirtual 59, 3) := by decide +kernel
theorem dX5_fault_8 : decode cX5_fault 8 = .ok (.ifCond .ne 6, 3) := by decide +kernel
theorem dX5_fault_11 : decode cX5_fault 11 = .ok (.bipush (-2), 2) := by decide +kernel
theorem dX5_fault_13 : decode cX5_fault 13 = .ok (.ireturn, 1) := by decide +kernel
theorem dX5_fault_14 : decode cX5_fault 14 = .ok (.iload_n 3, 1) := by decide +kernel
theorem dX5_fault_15 : decode cX5_fault 15 = .ok (.ifCond .lt 8, 3) := by decide +kernel
theorem dX5_fault_18 : decode cX5_fault 18 = .ok (.iload_n 3, 1) := by decide +kernel
theorem dX5_fault_19 : decode cX5_fault 19 = .ok (.iconst 2, 1) := by decide +kernel
theorem dX5_fault_20 : decode cX5_fault 20 = .ok (.if_icmp .le 6, 3) := by decide +kernel
theorem dX5_fault_23 : decode cX5_fault 23 = .ok (.bipush (-3), 2) := by decide +kernel
theorem dX5_fault_25 : decode cX5_fault 25 = .ok (.ireturn, 1) := by decide +kernel
theorem dX5_fault_26 : decode cX5_fault 26 = .ok (.aload_n 0, 1) := by decide +kernel
theorem dX5_fault_27 : decode cX5_fault 27 = .ok (.getfield 46, 3) := by decide +kernel
theorem dX5_fault_30 : decode cX5_fault 30 = .ok (.iload_n 1, 1) := by decide +kernel
theorem dX5_fault_31 : decode cX5_fault 31 = .ok (.iload_n 2, 1) := by decide +kernel
theorem dX5_fault_32 : decode cX5_fault 32 = .ok (.invokevirtual 131, 3) := by decide +kernel
theorem dX5_fault_35 : decode cX5_fault 35 = .ok (.pop, 1) := by decide +kernel
theorem dX5_fault_36 : decode cX5_fault 36 = .ok (.aload_n 0, 1) := by decide +kernel
theorem dX5_fault_37 : decode cX5_fault 37 = .ok (.getfield 46, 3) := by decide +kernel
theorem dX5_fault_40 : decode cX5_fault 40 = .ok (.iload_n 3, 1) := by decide +kernel
theorem dX5_fault_41 : decode cX5_fault 41 = .ok (.invokevirtual 134, 3) := by decide +kernel
theorem dX5_fault_44 : decode cX5_fault 44 = .ok (.ireturn, 1) := by decide +kernel
theorem dX5_bridges_0 : decode cX5_bridges 0 = .ok (.aload_n 0, 1) := by decide +kernel
theorem dX5_bridges_1 : decode cX5_bridges 1 = .ok (.getfield 10, 3) := by decide +kernel
theorem dX5_bridges_4 : decode cX5_bridges 4 = .ok (.iload_n 1, 1) := by decide +kernel
theorem dX5_bridges_5 : decode cX5_bridges 5 = .ok (.invokevirtual 59, 3) := by decide +kernel
theorem dX5_bridges_8 : decode cX5_bridges 8 = .ok (.ifCond .ne 6, 3) := by decide +kernel
theorem dX5_bridges_11 : decode cX5_bridges 11 = .ok (.bipush (-2), 2) := by decide +kernel
theorem dX5_bridges_13 : decode cX5_bridges 13 = .ok (.ireturn, 1) := by decide +kernel
theorem dX5_bridges_14 : decode cX5_bridges 14 = .ok (.iconst 0, 1) := by decide +kernel
theorem dX5_bridges_15 : decode cX5_bridges 15 = .ok (.istore_n 2, 1) := by decide +kernel
theorem dX5_bridges_16 : decode cX5_bridges 16 = .ok (.iconst 0, 1) := by decide +kernel
theorem dX5_bridges_17 : decode cX5_bridges 17 = .ok (.istore_n 3, 1) := by decide +kernel
theorem dX5_bridges_18 : decode cX5_bridges 18 = .ok (.iload_n 3, 1) := by decide +kernel
theorem dX5_bridges_19 : decode cX5_bridges 19 = .ok (.aload_n 0, 1) := by decide +kernel
theorem dX5_bridges_20 : decode cX5_bridges 20 = .ok (.getfield 28, 3) := by decide +kernel
theorem dX5_bridges_23 : decode cX5_bridges 23 = .ok (.invokevirtual 50, 3) := by decide +kernel
theorem dX5_bridges_26 : decode cX5_bridges 26 = .ok (.if_icmp .ge 45, 3) := by decide +kernel
theorem dX5_bridges_29 : decode cX5_bridges 29 = .ok (.aload_n 0, 1) := by decide +kernel
theorem dX5_bridges_30 : decode cX5_bridges 30 = .ok (.getfield 28, 3) := by decide +kernel
theorem dX5_bridges_33 : decode cX5_bridges 33 = .ok (.iload_n 3, 1) := by decide +kernel
theorem dX5_bridges_34 : decode cX5_bridges 34 = .ok (.invokevirtual 122, 3) := by decide +kernel
theorem dX5_bridges_37 : decode cX5_bridges 37 = .ok (.iload_n 1, 1) := by decide +kernel
theorem dX5_bridges_38 : decode cX5_bridges 38 = .ok (.if_icmp .ne 27, 3) := by decide +kernel
theorem dX5_bridges_41 : decode cX5_bridges 41 = .ok (.aload_n 0, 1) := by decide +kernel
theorem dX5_bridges_42 : decode cX5_bridges 42 = .ok (.getfield 28, 3) := by decide +kernel
theorem dX5_bridges_45 : decode cX5_bridges 45 = .ok (.iload_n 3, 1) := by decide +kernel
theorem dX5_bridges_46 : decode cX5_bridges 46 = .ok (.bipush 40, 2) := by decide +kernel
theorem dX5_bridges_48 : decode cX5_bridges 48 = .ok (.invokevirtual 137, 3) := by decide +kernel
theorem dX5_bridges_51 : decode cX5_bridges 51 = .ok (.ifCond .ne 14, 3) := by decide +kernel
theorem dX5_bridges_54 : decode cX5_bridges 54 = .ok (.iload_n 2, 1) := by decide +kernel
theorem dX5_bridges_55 : decode cX5_bridges 55 = .ok (.aload_n 0, 1) := by decide +kernel
theorem dX5_bridges_56 : decode cX5_bridges 56 = .ok (.getfield 28, 3) := by decide +kernel
theorem dX5_bridges_59 : decode cX5_bridges 59 = .ok (.iload_n 3, 1) := by decide +kernel
theorem dX5_bridges_60 : decode cX5_bridges 60 = .ok (.invokevirtual 140, 3) := by decide +kernel
theorem dX5_bridges_63 : decode cX5_bridges 63 = .ok (.iadd, 1) := by decide +kernel
theorem dX5_bridges_64 : decode cX5_bridges 64 = .ok (.istore_n 2, 1) := by decide +kernel
theorem dX5_bridges_65 : decode cX5_bridges 65 = .ok (.iinc 3 1, 3) := by decide +kernel
theorem dX5_bridges_68 : decode cX5_bridges 68 = .ok (.goto (-50), 3) := by decide +kernel
theorem dX5_bridges_71 : decode cX5_bridges 71 = .ok (.iload_n 2, 1) := by decide +kernel
theorem dX5_bridges_72 : decode cX5_bridges 72 = .ok (.ireturn, 1) := by decide +kernel
theorem dX5_first_0 : decode cX5_first 0 = .ok (.aload_n 0, 1) := by decide +kernel
theorem dX5_first_1 : decode cX5_first 1 = .ok (.getfield 10, 3) := by decide +kernel
theorem dX5_first_4 : decode cX5_first 4 = .ok (.iload_n 1, 1) := by decide +kernel
theorem dX5_first_5 : decode cX5_first 5 = .ok (.invokevirtual 59, 3) := by decide +kernel
theorem dX5_first_8 : decode cX5_first 8 = .ok (.ifCond .ne 6, 3) := by decide +kernel
theorem dX5_first_11 : decode cX5_first 11 = .ok (.bipush (-2), 2) := by decide +kernel
theorem dX5_first_13 : decode cX5_first 13 = .ok (.ireturn, 1) := by decide +kernel
theorem dX5_first_14 : decode cX5_first 14 = .ok (.iconst (-1), 1) := by decide +kernel
theorem dX5_first_15 : decode cX5_first 15 = .ok (.istore_n 2, 1) := by decide +kernel
theorem dX5_first_16 : decode cX5_first 16 = .ok (.iconst (-1), 1) := by decide +kernel
theorem dX5_first_17 : decode cX5_first 17 = .ok (.istore_n 3, 1) := by decide +kernel
theorem dX5_first_18 : decode cX5_first 18 = .ok (.iconst 0, 1) := by decide +kernel
theorem dX5_first_19 : decode cX5_first 19 = .ok (.istore 4, 2) := by decide +kernel
theorem dX5_first_21 : decode cX5_first 21 = .ok (.iload 4, 2) := by decide +kernel
theorem dX5_first_23 : decode cX5_first 23 = .ok (.aload_n 0, 1) := by decide +kernel
theorem dX5_first_24 : decode cX5_first 24 = .ok (.getfield 28, 3) := by decide +kernel
theorem dX5_first_27 : decode cX5_first 27 = .ok (.invokevirtual 50, 3) := by decide +kernel
theorem dX5_first_30 : decode cX5_first 30 = .ok (.if_icmp .ge 49, 3) := by decide +kernel
theorem dX5_first_33 : decode cX5_first 33 = .ok (.aload_n 0, 1) := by decide +kernel
theorem dX5_first_34 : decode cX5_first 34 = .ok (.getfield 28, 3) := by decide +kernel
theorem dX5_first_37 : decode cX5_first 37 = .ok (.iload 4, 2) := by decide +kernel
theorem dX5_first_39 : decode cX5_first 39 = .ok (.invokevirtual 122, 3) := by decide +kernel
theorem dX5_first_42 : decode cX5_first 42 = .ok (.iload_n 1, 1) := by decide +kernel
theorem dX5_first_43 : decode cX5_first 43 = .ok (.if_icmp .ne 15, 3) := by decide +kernel
theorem dX5_first_46 : decode cX5_first 46 = .ok (.aload_n 0, 1) := by decide +kernel
theorem dX5_first_47 : decode cX5_first 47 = .ok (.getfield 28, 3) := by decide +kernel
theorem dX5_first_50 : decode cX5_first 50 = .ok (.iload 4, 2) := by decide +kernel
theorem dX5_first_52 : decode cX5_first 52 = .ok (.invokevirtual 143, 3) := by decide +kernel
theorem dX5_first_55 : decode cX5_first 55 = .ok (.goto 4, 3) := by decide +kernel
theorem dX5_first_58 : decode cX5_first 58 = .ok (.iconst (-1), 1) := by decide +kernel
theorem dX5_first_59 : decode cX5_first 59 = .ok (.istore 5, 2) := by decide +kernel
theorem dX5_first_61 : decode cX5_first 61 = .ok (.iload 5, 2) := by decide +kernel
theorem dX5_first_63 : decode cX5_first 63 = .ok (.iload_n 3, 1) := by decide +kernel
theorem dX5_first_64 : decode cX5_first 64 = .ok (.if_icmp .le 9, 3) := by decide +kernel
theorem dX5_first_67 : decode cX5_first 67 = .ok (.iload 4, 2) := by decide +kernel
theorem dX5_first_69 : decode cX5_first 69 = .ok (.istore_n 2, 1) := by decide +kernel
theorem dX5_first_70 : decode cX5_first 70 = .ok (.iload 5, 2) := by decide +kernel
theorem dX5_first_72 : decode cX5_first 72 = .ok (.istore_n 3, 1) := by decide +kernel
theorem dX5_first_73 : decode cX5_first 73 = .ok (.iinc 4 1, 3) := by decide +kernel
theorem dX5_first_76 : decode cX5_first 76 = .ok (.goto (-55), 3) := by decide +kernel
theorem dX5_first_79 : decode cX5_first 79 = .ok (.iload_n 2, 1) := by decide +kernel
theorem dX5_first_80 : decode cX5_first 80 = .ok (.ireturn, 1) := by decide +kernel
theorem dX5_told_0 : decode cX5_told 0 = .ok (.iload_n 1, 1) := by decide +kernel
theorem dX5_told_1 : decode cX5_told 1 = .ok (.tableswitch 90 0 3 #[31, 39, 47, 55], 31) := by decide +kernel
theorem dX5_told_32 : decode cX5_told 32 = .ok (.aload_n 0, 1) := by decide +kernel
theorem dX5_told_33 : decode cX5_told 33 = .ok (.getfield 10, 3) := by decide +kernel
theorem dX5_told_36 : decode cX5_told 36 = .ok (.invokevirtual 146, 3) := by decide +kernel
theorem dX5_told_39 : decode cX5_told 39 = .ok (.ireturn, 1) := by decide +kernel
theorem dX5_told_40 : decode cX5_told 40 = .ok (.aload_n 0, 1) := by decide +kernel
theorem dX5_told_41 : decode cX5_told 41 = .ok (.getfield 19, 3) := by decide +kernel
theorem dX5_told_44 : decode cX5_told 44 = .ok (.invokevirtual 147, 3) := by decide +kernel
theorem dX5_told_47 : decode cX5_told 47 = .ok (.ireturn, 1) := by decide +kernel
theorem dX5_told_48 : decode cX5_told 48 = .ok (.aload_n 0, 1) := by decide +kernel
theorem dX5_told_49 : decode cX5_told 49 = .ok (.getfield 28, 3) := by decide +kernel
theorem dX5_told_52 : decode cX5_told 52 = .ok (.invokevirtual 50, 3) := by decide +kernel
theorem dX5_told_55 : decode cX5_told 55 = .ok (.ireturn, 1) := by decide +kernel
theorem dX5_told_56 : decode cX5_told 56 = .ok (.iconst 0, 1) := by decide +kernel
theorem dX5_told_57 : decode cX5_told 57 = .ok (.istore_n 2, 1) := by decide +kernel
theorem dX5_told_58 : decode cX5_told 58 = .ok (.iconst 0, 1) := by decide +kernel
theorem dX5_told_59 : decode cX5_told 59 = .ok (.istore_n 3, 1) := by decide +kernel
theorem dX5_told_60 : decode cX5_told 60 = .ok (.iload_n 3, 1) := by decide +kernel
theorem dX5_told_61 : decode cX5_told 61 = .ok (.aload_n 0, 1) := by decide +kernel
theorem dX5_told_62 : decode cX5_told 62 = .ok (.getfield 10, 3) := by decide +kernel
theorem dX5_told_65 : decode cX5_told 65 = .ok (.invokevirtual 146, 3) := by decide +kernel
theorem dX5_told_68 : decode cX5_told 68 = .ok (.if_icmp .ge 21, 3) := by decide +kernel
theorem dX5_told_71 : decode cX5_told 71 = .ok (.iload_n 2, 1) := by decide +kernel
theorem dX5_told_72 : decode cX5_told 72 = .ok (.aload_n 0, 1) := by decide +kernel
theorem dX5_told_73 : decode cX5_told 73 = .ok (.getfield 46, 3) := by decide +kernel
theorem dX5_told_76 : decode cX5_told 76 = .ok (.iload_n 3, 1) := by decide +kernel
theorem dX5_told_77 : decode cX5_told 77 = .ok (.iconst (-1), 1) := by decide +kernel
theorem dX5_told_78 : decode cX5_told 78 = .ok (.invokevirtual 131, 3) := by decide +kernel
theorem dX5_told_81 : decode cX5_told 81 = .ok (.iadd, 1) := by decide +kernel
theorem dX5_told_82 : decode cX5_told 82 = .ok (.istore_n 2, 1) := by decide +kernel
theorem dX5_told_83 : decode cX5_told 83 = .ok (.iinc 3 1, 3) := by decide +kernel
theorem dX5_told_86 : decode cX5_told 86 = .ok (.goto (-26), 3) := by decide +kernel
theorem dX5_told_89 : decode cX5_told 89 = .ok (.iload_n 2, 1) := by decide +kernel
theorem dX5_told_90 : decode cX5_told 90 = .ok (.ireturn, 1) := by decide +kernel
theorem dX5_told_91 : decode cX5_told 91 = .ok (.bipush (-3), 2) := by decide +kernel
theorem dX5_told_93 : decode cX5_told 93 = .ok (.ireturn, 1) := by decide +kernel
theorem dX5_isMissingType_0 : decode cX5_isMissingType 0 = .ok (.iload_n 1, 1) := by decide +kernel
theorem dX5_isMissingType_1 : decode cX5_isMissingType 1 = .ok (.ifCond .lt 24, 3) := by decide +kernel
theorem dX5_isMissingType_4 : decode cX5_isMissingType 4 = .ok (.iload_n 1, 1) := by decide +kernel
theorem dX5_isMissingType_5 : decode cX5_isMissingType 5 = .ok (.bipush 16, 2) := by decide +kernel
theorem dX5_isMissingType_7 : decode cX5_isMissingType 7 = .ok (.if_icmp .ge 18, 3) := by decide +kernel
theorem dX5_isMissingType_10 : decode cX5_isMissingType 10 = .ok (.aload_n 0, 1) := by decide +kernel
theorem dX5_isMissingType_11 : decode cX5_isMissingType 11 = .ok (.getfield 10, 3) := by decide +kernel
theorem dX5_isMissingType_14 : decode cX5_isMissingType 14 = .ok (.iload_n 1, 1) := by decide +kernel
theorem dX5_isMissingType_15 : decode cX5_isMissingType 15 = .ok (.invokevirtual 59, 3) := by decide +kernel
theorem dX5_isMissingType_18 : decode cX5_isMissingType 18 = .ok (.ifCond .ne 7, 3) := by decide +kernel
theorem dX5_isMissingType_21 : decode cX5_isMissingType 21 = .ok (.iconst 1, 1) := by decide +kernel
theorem dX5_isMissingType_22 : decode cX5_isMissingType 22 = .ok (.goto 4, 3) := by decide +kernel
theorem dX5_isMissingType_25 : decode cX5_isMissingType 25 = .ok (.iconst 0, 1) := by decide +kernel
theorem dX5_isMissingType_26 : decode cX5_isMissingType 26 = .ok (.ireturn, 1) := by decide +kernel
theorem dX5_areMarks_0 : decode cX5_areMarks 0 = .ok (.iload_n 1, 1) := by decide +kernel
theorem dX5_areMarks_1 : decode cX5_areMarks 1 = .ok (.ifCond .lt 10, 3) := by decide +kernel
theorem dX5_areMarks_4 : decode cX5_areMarks 4 = .ok (.iload_n 1, 1) := by decide +kernel
theorem dX5_areMarks_5 : decode cX5_areMarks 5 = .ok (.sipush 255, 3) := by decide +kernel
theorem dX5_areMarks_8 : decode cX5_areMarks 8 = .ok (.if_icmp .le 5, 3) := by decide +kernel
theorem dX5_areMarks_11 : decode cX5_areMarks 11 = .ok (.iconst 0, 1) := by decide +kernel
theorem dX5_areMarks_12 : decode cX5_areMarks 12 = .ok (.ireturn, 1) := by decide +kernel
theorem dX5_areMarks_13 : decode cX5_areMarks 13 = .ok (.iload_n 1, 1) := by decide +kernel
theorem dX5_areMarks_14 : decode cX5_areMarks 14 = .ok (.bipush 7, 2) := by decide +kernel
theorem dX5_areMarks_16 : decode cX5_areMarks 16 = .ok (.iand, 1) := by decide +kernel
theorem dX5_areMarks_17 : decode cX5_areMarks 17 = .ok (.invokestatic 148, 3) := by decide +kernel
theorem dX5_areMarks_20 : decode cX5_areMarks 20 = .ok (.iconst 1, 1) := by decide +kernel
theorem dX5_areMarks_21 : decode cX5_areMarks 21 = .ok (.if_icmp .le 5, 3) := by decide +kernel
theorem dX5_areMarks_24 : decode cX5_areMarks 24 = .ok (.iconst 0, 1) := by decide +kernel
theorem dX5_areMarks_25 : decode cX5_areMarks 25 = .ok (.ireturn, 1) := by decide +kernel
theorem dX5_areMarks_26 : decode cX5_areMarks 26 = .ok (.iload_n 0, 1) := by decide +kernel
theorem dX5_areMarks_27 : decode cX5_areMarks 27 = .ok (.ifCond .eq 10, 3) := by decide +kernel
theorem dX5_areMarks_30 : decode cX5_areMarks 30 = .ok (.iload_n 1, 1) := by decide +kernel
theorem dX5_areMarks_31 : decode cX5_areMarks 31 = .ok (.invokestatic 153, 3) := by decide +kernel
theorem dX5_areMarks_34 : decode cX5_areMarks 34 = .ok (.goto 7, 3) := by decide +kernel
theorem dX5_areMarks_37 : decode cX5_areMarks 37 = .ok (.iload_n 1, 1) := by decide +kernel
theorem dX5_areMarks_38 : decode cX5_areMarks 38 = .ok (.invokestatic 156, 3) := by decide +kernel
theorem dX5_areMarks_41 : decode cX5_areMarks 41 = .ok (.ireturn, 1) := by decide +kernel
theorem dX5_areClassMarks_0 : decode cX5_areClassMarks 0 = .ok (.iload_n 0, 1) := by decide +kernel
theorem dX5_areClassMarks_1 : decode cX5_areClassMarks 1 = .ok (.bipush 64, 2) := by decide +kernel
theorem dX5_areClassMarks_3 : decode cX5_areClassMarks 3 = .ok (.iand, 1) := by decide +kernel
theorem dX5_areClassMarks_4 : decode cX5_areClassMarks 4 = .ok (.ifCond .eq 5, 3) := by decide +kernel
theorem dX5_areClassMarks_7 : decode cX5_areClassMarks 7 = .ok (.iconst 0, 1) := by decide +kernel
theorem dX5_areClassMarks_8 : decode cX5_areClassMarks 8 = .ok (.ireturn, 1) := by decide +kernel
theorem dX5_areClassMarks_9 : decode cX5_areClassMarks 9 = .ok (.iload_n 0, 1) := by decide +kernel
theorem dX5_areClassMarks_10 : decode cX5_areClassMarks 10 = .ok (.bipush 32, 2) := by decide +kernel
theorem dX5_areClassMarks_12 : decode cX5_areClassMarks 12 = .ok (.iand, 1) := by decide +kernel
theorem dX5_areClassMarks_13 : decode cX5_areClassMarks 13 = .ok (.ifCond .eq 10, 3) := by decide +kernel
theorem dX5_areClassMarks_16 : decode cX5_areClassMarks 16 = .ok (.iload_n 0, 1) := by decide +kernel
theorem dX5_areClassMarks_17 : decode cX5_areClassMarks 17 = .ok (.bipush 28, 2) := by decide +kernel
theorem dX5_areClassMarks_19 : decode cX5_areClassMarks 19 = .ok (.iand, 1) := by decide +kernel
theorem dX5_areClassMarks_20 : decode cX5_areClassMarks 20 = .ok (.ifCond .ne 7, 3) := by decide +kernel
theorem dX5_areClassMarks_23 : decode cX5_areClassMarks 23 = .ok (.iconst 1, 1) := by decide +kernel
theorem dX5_areClassMarks_24 : decode cX5_areClassMarks 24 = .ok (.goto 4, 3) := by decide +kernel
theorem dX5_areClassMarks_27 : decode cX5_areClassMarks 27 = .ok (.iconst 0, 1) := by decide +kernel
theorem dX5_areClassMarks_28 : decode cX5_areClassMarks 28 = .ok (.ireturn, 1) := by decide +kernel
theorem dX5_areInterfaceMarks_0 : decode cX5_areInterfaceMarks 0 = .ok (.iload_n 0, 1) := by decide +kernel
theorem dX5_areInterfaceMarks_1 : decode cX5_areInterfaceMarks 1 = .ok (.bipush 18, 2) := by decide +kernel
theorem dX5_areInterfaceMarks_3 : decode cX5_areInterfaceMarks 3 = .ok (.iand, 1) := by decide +kernel
theorem dX5_areInterfaceMarks_4 : decode cX5_areInterfaceMarks 4 = .ok (.ifCond .eq 5, 3) := by decide +kernel
theorem dX5_areInterfaceMarks_7 : decode cX5_areInterfaceMarks 7 = .ok (.iconst 0, 1) := by decide +kernel
theorem dX5_areInterfaceMarks_8 : decode cX5_areInterfaceMarks 8 = .ok (.ireturn, 1) := by decide +kernel
theorem dX5_areInterfaceMarks_9 : decode cX5_areInterfaceMarks 9 = .ok (.iload_n 0, 1) := by decide +kernel
theorem dX5_areInterfaceMarks_10 : decode cX5_areInterfaceMarks 10 = .ok (.bipush 108, 2) := by decide +kernel
theorem dX5_areInterfaceMarks_12 : decode cX5_areInterfaceMarks 12 = .ok (.iand, 1) := by decide +kernel
theorem dX5_areInterfaceMarks_13 : decode cX5_areInterfaceMarks 13 = .ok (.istore_n 1, 1) := by decide +kernel
theorem dX5_areInterfaceMarks_14 : decode cX5_areInterfaceMarks 14 = .ok (.iload_n 1, 1) := by decide +kernel
theorem dX5_areInterfaceMarks_15 : decode cX5_areInterfaceMarks 15 = .ok (.invokestatic 148, 3) := by decide +kernel
theorem dX5_areInterfaceMarks_18 : decode cX5_areInterfaceMarks 18 = .ok (.iconst 1, 1) := by decide +kernel
theorem dX5_areInterfaceMarks_19 : decode cX5_areInterfaceMarks 19 = .ok (.if_icmp .eq 9, 3) := by decide +kernel
theorem dX5_areInterfaceMarks_22 : decode cX5_areInterfaceMarks 22 = .ok (.iload_n 1, 1) := by decide +kernel
theorem dX5_areInterfaceMarks_23 : decode cX5_areInterfaceMarks 23 = .ok (.bipush 12, 2) := by decide +kernel
theorem dX5_areInterfaceMarks_25 : decode cX5_areInterfaceMarks 25 = .ok (.if_icmp .ne 7, 3) := by decide +kernel
theorem dX5_areInterfaceMarks_28 : decode cX5_areInterfaceMarks 28 = .ok (.iconst 1, 1) := by decide +kernel
theorem dX5_areInterfaceMarks_29 : decode cX5_areInterfaceMarks 29 = .ok (.goto 4, 3) := by decide +kernel
theorem dX5_areInterfaceMarks_32 : decode cX5_areInterfaceMarks 32 = .ok (.iconst 0, 1) := by decide +kernel
theorem dX5_areInterfaceMarks_33 : decode cX5_areInterfaceMarks 33 = .ok (.ireturn, 1) := by decide +kernel
theorem dX5_oneIf_0 : decode cX5_oneIf 0 = .ok (.iload_n 0, 1) := by decide +kernel
theorem dX5_oneIf_1 : decode cX5_oneIf 1 = .ok (.ifCond .eq 7, 3) := by decide +kernel
theorem dX5_oneIf_4 : decode cX5_oneIf 4 = .ok (.iconst 1, 1) := by decide +kernel
theorem dX5_oneIf_5 : decode cX5_oneIf 5 = .ok (.goto 4, 3) := by decide +kernel
theorem dX5_oneIf_8 : decode cX5_oneIf 8 = .ok (.iconst 0, 1) := by decide +kernel
theorem dX5_oneIf_9 : decode cX5_oneIf 9 = .ok (.ireturn, 1) := by decide +kernel
theorem dX5_hasBit_0 : decode cX5_hasBit 0 = .ok (.iload_n 0, 1) := by decide +kernel
theorem dX5_hasBit_1 : decode cX5_hasBit 1 = .ok (.iload_n 1, 1) := by decide +kernel
theorem dX5_hasBit_2 : decode cX5_hasBit 2 = .ok (.ishr, 1) := by decide +kernel
theorem dX5_hasBit_3 : decode cX5_hasBit 3 = .ok (.iconst 1, 1) := by decide +kernel
theorem dX5_hasBit_4 : decode cX5_hasBit 4 = .ok (.iand, 1) := by decide +kernel
theorem dX5_hasBit_5 : decode cX5_hasBit 5 = .ok (.ifCond .eq 7, 3) := by decide +kernel
theorem dX5_hasBit_8 : decode cX5_hasBit 8 = .ok (.iconst 1, 1) := by decide +kernel
theorem dX5_hasBit_9 : decode cX5_hasBit 9 = .ok (.goto 4, 3) := by decide +kernel
theorem dX5_hasBit_12 : decode cX5_hasBit 12 = .ok (.iconst 0, 1) := by decide +kernel
theorem dX5_hasBit_13 : decode cX5_hasBit 13 = .ok (.ireturn, 1) := by decide +kernel
theorem dJ6_bitCount_0f7a4_0 : decode cJ6_bitCount_0f7a4 0 = .ok (.iload_n 0, 1) := by decide +kernel
theorem dJ6_bitCount_0f7a4_1 : decode cJ6_bitCount_0f7a4 1 = .ok (.iload_n 0, 1) := by decide +kernel
theorem dJ6_bitCount_0f7a4_2 : decode cJ6_bitCount_0f7a4 2 = .ok (.iconst 1, 1) := by decide +kernel
theorem dJ6_bitCount_0f7a4_3 : decode cJ6_bitCount_0f7a4 3 = .ok (.iushr, 1) := by decide +kernel
theorem dJ6_bitCount_0f7a4_4 : decode cJ6_bitCount_0f7a4 4 = .ok (.ldc_w 265, 3) := by decide +kernel
theorem dJ6_bitCount_0f7a4_7 : decode cJ6_bitCount_0f7a4 7 = .ok (.iand, 1) := by decide +kernel
theorem dJ6_bitCount_0f7a4_8 : decode cJ6_bitCount_0f7a4 8 = .ok (.isub, 1) := by decide +kernel
theorem dJ6_bitCount_0f7a4_9 : decode cJ6_bitCount_0f7a4 9 = .ok (.istore_n 0, 1) := by decide +kernel
theorem dJ6_bitCount_0f7a4_10 : decode cJ6_bitCount_0f7a4 10 = .ok (.iload_n 0, 1) := by decide +kernel
theorem dJ6_bitCount_0f7a4_11 : decode cJ6_bitCount_0f7a4 11 = .ok (.ldc_w 266, 3) := by decide +kernel
theorem dJ6_bitCount_0f7a4_14 : decode cJ6_bitCount_0f7a4 14 = .ok (.iand, 1) := by decide +kernel
theorem dJ6_bitCount_0f7a4_15 : decode cJ6_bitCount_0f7a4 15 = .ok (.iload_n 0, 1) := by decide +kernel
theorem dJ6_bitCount_0f7a4_16 : decode cJ6_bitCount_0f7a4 16 = .ok (.iconst 2, 1) := by decide +kernel
theorem dJ6_bitCount_0f7a4_17 : decode cJ6_bitCount_0f7a4 17 = .ok (.iushr, 1) := by decide +kernel
theorem dJ6_bitCount_0f7a4_18 : decode cJ6_bitCount_0f7a4 18 = .ok (.ldc_w 266, 3) := by decide +kernel
theorem dJ6_bitCount_0f7a4_21 : decode cJ6_bitCount_0f7a4 21 = .ok (.iand, 1) := by decide +kernel
theorem dJ6_bitCount_0f7a4_22 : decode cJ6_bitCount_0f7a4 22 = .ok (.iadd, 1) := by decide +kernel
theorem dJ6_bitCount_0f7a4_23 : decode cJ6_bitCount_0f7a4 23 = .ok (.istore_n 0, 1) := by decide +kernel
theorem dJ6_bitCount_0f7a4_24 : decode cJ6_bitCount_0f7a4 24 = .ok (.iload_n 0, 1) := by decide +kernel
theorem dJ6_bitCount_0f7a4_25 : decode cJ6_bitCount_0f7a4 25 = .ok (.iload_n 0, 1) := by decide +kernel
theorem dJ6_bitCount_0f7a4_26 : decode cJ6_bitCount_0f7a4 26 = .ok (.iconst 4, 1) := by decide +kernel
theorem dJ6_bitCount_0f7a4_27 : decode cJ6_bitCount_0f7a4 27 = .ok (.iushr, 1) := by decide +kernel
theorem dJ6_bitCount_0f7a4_28 : decode cJ6_bitCount_0f7a4 28 = .ok (.iadd, 1) := by decide +kernel
theorem dJ6_bitCount_0f7a4_29 : decode cJ6_bitCount_0f7a4 29 = .ok (.ldc_w 267, 3) := by decide +kernel
theorem dJ6_bitCount_0f7a4_32 : decode cJ6_bitCount_0f7a4 32 = .ok (.iand, 1) := by decide +kernel
theorem dJ6_bitCount_0f7a4_33 : decode cJ6_bitCount_0f7a4 33 = .ok (.istore_n 0, 1) := by decide +kernel
theorem dJ6_bitCount_0f7a4_34 : decode cJ6_bitCount_0f7a4 34 = .ok (.iload_n 0, 1) := by decide +kernel
theorem dJ6_bitCount_0f7a4_35 : decode cJ6_bitCount_0f7a4 35 = .ok (.iload_n 0, 1) := by decide +kernel
theorem dJ6_bitCount_0f7a4_36 : decode cJ6_bitCount_0f7a4 36 = .ok (.bipush 8, 2) := by decide +kernel
theorem dJ6_bitCount_0f7a4_38 : decode cJ6_bitCount_0f7a4 38 = .ok (.iushr, 1) := by decide +kernel
theorem dJ6_bitCount_0f7a4_39 : decode cJ6_bitCount_0f7a4 39 = .ok (.iadd, 1) := by decide +kernel
theorem dJ6_bitCount_0f7a4_40 : decode cJ6_bitCount_0f7a4 40 = .ok (.istore_n 0, 1) := by decide +kernel
theorem dJ6_bitCount_0f7a4_41 : decode cJ6_bitCount_0f7a4 41 = .ok (.iload_n 0, 1) := by decide +kernel
theorem dJ6_bitCount_0f7a4_42 : decode cJ6_bitCount_0f7a4 42 = .ok (.iload_n 0, 1) := by decide +kernel
theorem dJ6_bitCount_0f7a4_43 : decode cJ6_bitCount_0f7a4 43 = .ok (.bipush 16, 2) := by decide +kernel
theorem dJ6_bitCount_0f7a4_45 : decode cJ6_bitCount_0f7a4 45 = .ok (.iushr, 1) := by decide +kernel
theorem dJ6_bitCount_0f7a4_46 : decode cJ6_bitCount_0f7a4 46 = .ok (.iadd, 1) := by decide +kernel
theorem dJ6_bitCount_0f7a4_47 : decode cJ6_bitCount_0f7a4 47 = .ok (.istore_n 0, 1) := by decide +kernel
theorem dJ6_bitCount_0f7a4_48 : decode cJ6_bitCount_0f7a4 48 = .ok (.iload_n 0, 1) := by decide +kernel
theorem dJ6_bitCount_0f7a4_49 : decode cJ6_bitCount_0f7a4 49 = .ok (.bipush 63, 2) := by decide +kernel
theorem dJ6_bitCount_0f7a4_51 : decode cJ6_bitCount_0f7a4 51 = .ok (.iand, 1) := by decide +kernel
theorem dJ6_bitCount_0f7a4_52 : decode cJ6_bitCount_0f7a4 52 = .ok (.ireturn, 1) := by decide +kernel
theorem dX6_init_0 : decode cX6_init 0 = .ok (.aload_n 0, 1) := by decide +kernel
theorem dX6_init_1 : decode cX6_init 1 = .ok (.invokespecial 1, 3) := by decide +kernel
theorem dX6_init_4 : decode cX6_init 4 = .ok (.aload_n 0, 1) := by decide +kernel
theorem dX6_init_5 : decode cX6_init 5 = .ok (.bipush 16, 2) := by decide +kernel
theorem dX6_init_7 : decode cX6_init 7 = .ok (.newarray .int, 2) := by decide +kernel
theorem dX6_init_9 : decode cX6_init 9 = .ok (.putfield 7, 3) := by decide +kernel
theorem dX6_init_12 : decode cX6_init 12 = .ok (.aload_n 0, 1) := by decide +kernel
theorem dX6_init_13 : decode cX6_init 13 = .ok (.bipush 16, 2) := by decide +kernel
theorem dX6_init_15 : decode cX6_init 15 = .ok (.newarray .int, 2) := by decide +kernel
theorem dX6_init_17 : decode cX6_init 17 = .ok (.putfield 13, 3) := by decide +kernel
theorem dX6_init_20 : decode cX6_init 20 = .ok (.aload_n 0, 1) := by decide +kernel
theorem dX6_init_21 : decode cX6_init 21 = .ok (.bipush 16, 2) := by decide +kernel
theorem dX6_init_23 : decode cX6_init 23 = .ok (.newarray .int, 2) := by decide +kernel
theorem dX6_init_25 : decode cX6_init 25 = .ok (.putfield 16, 3) := by decide +kernel
theorem dX6_init_28 : decode cX6_init 28 = .ok (.aload_n 0, 1) := by decide +kernel
theorem dX6_init_29 : decode cX6_init 29 = .ok (.bipush 16, 2) := by decide +kernel
theorem dX6_init_31 : decode cX6_init 31 = .ok (.newarray .int, 2) := by decide +kernel
theorem dX6_init_33 : decode cX6_init 33 = .ok (.putfield 19, 3) := by decide +kernel
theorem dX6_init_36 : decode cX6_init 36 = .ok (.aload_n 0, 1) := by decide +kernel
theorem dX6_init_37 : decode cX6_init 37 = .ok (.bipush 48, 2) := by decide +kernel
theorem dX6_init_39 : decode cX6_init 39 = .ok (.newarray .int, 2) := by decide +kernel
theorem dX6_init_41 : decode cX6_init 41 = .ok (.putfield 22, 3) := by decide +kernel
theorem dX6_init_44 : decode cX6_init 44 = .ok (.aload_n 0, 1) := by decide +kernel
theorem dX6_init_45 : decode cX6_init 45 = .ok (.sipush 256, 3) := by decide +kernel
theorem dX6_init_48 : decode cX6_init 48 = .ok (.newarray .boolean, 2) := by decide +kernel
theorem dX6_init_50 : decode cX6_init 50 = .ok (.putfield 25, 3) := by decide +kernel
theorem dX6_init_53 : decode cX6_init 53 = .ok (.aload_n 0, 1) := by decide +kernel
theorem dX6_init_54 : decode cX6_init 54 = .ok (.bipush 8, 2) := by decide +kernel
theorem dX6_init_56 : decode cX6_init 56 = .ok (.newarray .int, 2) := by decide +kernel
theorem dX6_init_58 : decode cX6_init 58 = .ok (.putfield 29, 3) := by decide +kernel
theorem dX6_init_61 : decode cX6_init 61 = .ok (.aload_n 0, 1) := by decide +kernel
theorem dX6_init_62 : decode cX6_init 62 = .ok (.bipush 8, 2) := by decide +kernel
theorem dX6_init_64 : decode cX6_init 64 = .ok (.newarray .boolean, 2) := by decide +kernel
theorem dX6_init_66 : decode cX6_init 66 = .ok (.putfield 32, 3) := by decide +kernel
theorem dX6_init_69 : decode cX6_init 69 = .ok (.aload_n 0, 1) := by decide +kernel
theorem dX6_init_70 : decode cX6_init 70 = .ok (.bipush 60, 2) := by decide +kernel
theorem dX6_init_72 : decode cX6_init 72 = .ok (.newarray .int, 2) := by decide +kernel
theorem dX6_init_74 : decode cX6_init 74 = .ok (.putfield 35, 3) := by decide +kernel
theorem dX6_init_77 : decode cX6_init 77 = .ok (.aload_n 0, 1) := by decide +kernel
theorem dX6_init_78 : decode cX6_init 78 = .ok (.bipush 60, 2) := by decide +kernel
theorem dX6_init_80 : decode cX6_init 80 = .ok (.newarray .int, 2) := by decide +kernel
theorem dX6_init_82 : decode cX6_init 82 = .ok (.putfield 38, 3) := by decide +kernel
theorem dX6_init_85 : decode cX6_init 85 = .ok (.aload_n 0, 1) := by decide +kernel
theorem dX6_init_86 : decode cX6_init 86 = .ok (.bipush 60, 2) := by decide +kernel
theorem dX6_init_88 : decode cX6_init 88 = .ok (.newarray .int, 2) := by decide +kernel
theorem dX6_init_90 : decode cX6_init 90 = .ok (.putfield 41, 3) := by decide +kernel
theorem dX6_init_93 : decode cX6_init 93 = .ok (.aload_n 0, 1) := by decide +kernel
theorem dX6_init_94 : decode cX6_init 94 = .ok (.bipush 60, 2) := by decide +kernel
theorem dX6_init_96 : decode cX6_init 96 = .ok (.newarray .int, 2) := by decide +kernel
theorem dX6_init_98 : decode cX6_init 98 = .ok (.putfield 44, 3) := by decide +kernel
theorem dX6_init_101 : decode cX6_init 101 = .ok (.aload_n 0, 1) := by decide +kernel
theorem dX6_init_102 : decode cX6_init 102 = .ok (.bipush 60, 2) := by decide +kernel
theorem dX6_init_104 : decode cX6_init 104 = .ok (.newarray .int, 2) := by decide +kernel
theorem dX6_init_106 : decode cX6_init 106 = .ok (.putfield 47, 3) := by decide +kernel
theorem dX6_init_109 : decode cX6_init 109 = .ok (.aload_n 0, 1) := by decide +kernel
theorem dX6_init_110 : decode cX6_init 110 = .ok (.sipush 3600, 3) := by decide +kernel
theorem dX6_init_113 : decode cX6_init 113 = .ok (.newarray .boolean, 2) := by decide +kernel
theorem dX6_init_115 : decode cX6_init 115 = .ok (.putfield 50, 3) := by decide +kernel
theorem dX6_init_118 : decode cX6_init 118 = .ok (.aload_n 0, 1) := by decide +kernel
theorem dX6_init_119 : decode cX6_init 119 = .ok (.sipush 2400, 3) := by decide +kernel
theorem dX6_init_122 : decode cX6_init 122 = .ok (.newarray .int, 2) := by decide +kernel
theorem dX6_init_124 : decode cX6_init 124 = .ok (.putfield 53, 3) := by decide +kernel
theorem dX6_init_127 : decode cX6_init 127 = .ok (.aload_n 0, 1) := by decide +kernel
theorem dX6_init_128 : decode cX6_init 128 = .ok (.sipush 2400, 3) := by decide +kernel
theorem dX6_init_131 : decode cX6_init 131 = .ok (.newarray .int, 2) := by decide +kernel
theorem dX6_init_133 : decode cX6_init 133 = .ok (.putfield 56, 3) := by decide +kernel
theorem dX6_init_136 : decode cX6_init 136 = .ok (.aload_n 0, 1) := by decide +kernel
theorem dX6_init_137 : decode cX6_init 137 = .ok (.sipush 2400, 3) := by decide +kernel
theorem dX6_init_140 : decode cX6_init 140 = .ok (.newarray .int, 2) := by decide +kernel
theorem dX6_init_142 : decode cX6_init 142 = .ok (.putfield 59, 3) := by decide +kernel
theorem dX6_init_145 : decode cX6_init 145 = .ok (.return_, 1) := by decide +kernel
theorem dX6_in_0 : decode cX6_in 0 = .ok (.iload_n 0, 1) := by decide +kernel
theorem dX6_in_1 : decode cX6_in 1 = .ok (.iload_n 1, 1) := by decide +kernel
theorem dX6_in_2 : decode cX6_in 2 = .ok (.if_icmp .lt 12, 3) := by decide +kernel
theorem dX6_in_5 : decode cX6_in 5 = .ok (.iload_n 0, 1) := by decide +kernel
theorem dX6_in_6 : decode cX6_in 6 = .ok (.iload_n 2, 1) := by decide +kernel
theorem dX6_in_7 : decode cX6_in 7 = .ok (.if_icmp .gt 7, 3) := by decide +kernel
theorem dX6_in_10 : decode cX6_in 10 = .ok (.iconst 1, 1) := by decide +kernel
theorem dX6_in_11 : decode cX6_in 11 = .ok (.goto 4, 3) := by decide +kernel
theorem dX6_in_14 : decode cX6_in 14 = .ok (.iconst 0, 1) := by decide +kernel
theorem dX6_in_15 : decode cX6_in 15 = .ok (.ireturn, 1) := by decide +kernel
theorem dX6_isType_0 : decode cX6_isType 0 = .ok (.iload_n 1, 1) := by decide +kernel
theorem dX6_isType_1 : decode cX6_isType 1 = .ok (.iconst 0, 1) := by decide +kernel
theorem dX6_isType_2 : decode cX6_isType 2 = .ok (.aload_n 0, 1) := by decide +kernel
theorem dX6_isType_3 : decode cX6_isType 3 = .ok (.getfield 62, 3) := by decide +kernel
theorem dX6_isType_6 : decode cX6_isType 6 = .ok (.iconst 1, 1) := by decide +kernel
theorem dX6_isType_7 : decode cX6_isType 7 = .ok (.isub, 1) := by decide +kernel
theorem dX6_isType_8 : decode cX6_isType 8 = .ok (.invokestatic 66, 3) := by decide +kernel
theorem dX6_isType_11 : decode cX6_isType 11 = .ok (.ireturn, 1) := by decide +kernel
theorem dX6_isMember_0 : decode cX6_isMember 0 = .ok (.iload_n 1, 1) := by decide +kernel
theorem dX6_isMember_1 : decode cX6_isMember 1 = .ok (.iconst 0, 1) := by decide +kernel
theorem dX6_isMember_2 : decode cX6_isMember 2 = .ok (.aload_n 0, 1) := by decide +kernel
theorem dX6_isMember_3 : decode cX6_isMember 3 = .ok (.getfield 70, 3) := by decide +kernel
theorem dX6_isMember_6 : decode cX6_isMember 6 = .ok (.iconst 1, 1) := by decide +kernel
theorem dX6_isMember_7 : decode cX6_isMember 7 = .ok (.isub, 1) := by decide +kernel
theorem dX6_isMember_8 : decode cX6_isMember 8 = .ok (.invokestatic 66, 3) := by decide +kernel
theorem dX6_isMember_11 : decode cX6_isMember 11 = .ok (.ireturn, 1) := by decide +kernel
theorem dX6_clear_0 : decode cX6_clear 0 = .ok (.aload_n 0, 1) := by decide +kernel
theorem dX6_clear_1 : decode cX6_clear 1 = .ok (.getfield 70, 3) := by decide +kernel
theorem dX6_clear_4 : decode cX6_clear 4 = .ok (.istore_n 1, 1) := by decide +kernel
theorem dX6_clear_5 : decode cX6_clear 5 = .ok (.aload_n 0, 1) := by decide +kernel
theorem dX6_clear_6 : decode cX6_clear 6 = .ok (.iconst 0, 1) := by decide +kernel
theorem dX6_clear_7 : decode cX6_clear 7 = .ok (.putfield 62, 3) := by decide +kernel
theorem dX6_clear_10 : decode cX6_clear 10 = .ok (.aload_n 0, 1) := by decide +kernel
theorem dX6_clear_11 : decode cX6_clear 11 = .ok (.iconst 0, 1) := by decide +kernel
theorem dX6_clear_12 : decode cX6_clear 12 = .ok (.putfield 73, 3) := by decide +kernel
theorem dX6_clear_15 : decode cX6_clear 15 = .ok (.aload_n 0, 1) := by decide +kernel
theorem dX6_clear_16 : decode cX6_clear 16 = .ok (.iconst 0, 1) := by decide +kernel
theorem dX6_clear_17 : decode cX6_clear 17 = .ok (.putfield 70, 3) := by decide +kernel
theorem dX6_clear_20 : decode cX6_clear 20 = .ok (.iload_n 1, 1) := by decide +kernel
theorem dX6_clear_21 : decode cX6_clear 21 = .ok (.ireturn, 1) := by decide +kernel
theorem dX6_rise_0 : decode cX6_rise 0 = .ok (.iconst 0, 1) := by decide +kernel
theorem dX6_rise_1 : decode cX6_rise 1 = .ok (.istore_n 1, 1) := by decide +kernel
theorem dX6_rise_2 : decode cX6_rise 2 = .ok (.iload_n 1, 1) := by decide +kernel
theorem dX6_rise_3 : decode cX6_rise 3 = .ok (.aload_n 0, 1) := by decide +kernel
theorem dX6_rise_4 : decode cX6_rise 4 = .ok (.getfield 62, 3) := by decide +kernel
theorem dX6_rise_7 : decode cX6_rise 7 = .ok (.if_icmp .ge 89, 3) := by decide +kernel
theorem dX6_rise_10 : decode cX6_rise 10 = .ok (.iconst 0, 1) := by decide +kernel
theorem dX6_rise_11 : decode cX6_rise 11 = .ok (.istore_n 2, 1) := by decide +kernel
theorem dX6_rise_12 : decode cX6_rise 12 = .ok (.iload_n 2, 1) := by decide +kernel
theorem dX6_rise_13 : decode cX6_rise 13 = .ok (.bipush 16, 2) := by decide +kernel
theorem dX6_rise_15 : decode cX6_rise 15 = .ok (.if_icmp .ge 21, 3) := by decide +kernel
theorem dX6_rise_18 : decode cX6_rise 18 = .ok (.aload_n 0, 1) := by decide +kernel
theorem dX6_rise_19 : decode cX6_rise 19 = .ok (.getfield 25, 3) := by decide +kernel
theorem dX6_rise_22 : decode cX6_rise 22 = .ok (.bipush 16, 2) := by decide +kernel
theorem dX6_rise_24 : decode cX6_rise 24 = .ok (.iload_n 1, 1) := by decide +kernel
theorem dX6_rise_25 : decode cX6_rise 25 = .ok (.imul, 1) := by decide +kernel
theorem dX6_rise_26 : decode cX6_rise 26 = .ok (.iload_n 2, 1) := by decide +kernel
theorem dX6_rise_27 : decode cX6_rise 27 = .ok (.iadd, 1) := by decide +kernel
theorem dX6_rise_28 : decode cX6_rise 28 = .ok (.iconst 0, 1) := by decide +kernel
theorem dX6_rise_29 : decode cX6_rise 29 = .ok (.bastore, 1) := by decide +kernel
theorem dX6_rise_30 : decode cX6_rise 30 = .ok (.iinc 2 1, 3) := by decide +kernel
theorem dX6_rise_33 : decode cX6_rise 33 = .ok (.goto (-21), 3) := by decide +kernel
theorem dX6_rise_36 : decode cX6_rise 36 = .ok (.aload_n 0, 1) := by decide +kernel
theorem dX6_rise_37 : decode cX6_rise 37 = .ok (.getfield 16, 3) := by decide +kernel
theorem dX6_rise_40 : decode cX6_rise 40 = .ok (.iload_n 1, 1) := by decide +kernel
theorem dX6_rise_41 : decode cX6_rise 41 = .ok (.iaload, 1) := by decide +kernel
theorem dX6_rise_42 : decode cX6_rise 42 = .ok (.iconst (-1), 1) := by decide +kernel
theorem dX6_rise_43 : decode cX6_rise 43 = .ok (.if_icmp .eq 14, 3) := by decide +kernel
theorem dX6_rise_46 : decode cX6_rise 46 = .ok (.aload_n 0, 1) := by decide +kernel
theorem dX6_rise_47 : decode cX6_rise 47 = .ok (.iload_n 1, 1) := by decide +kernel
theorem dX6_rise_48 : decode cX6_rise 48 = .ok (.aload_n 0, 1) := by decide +kernel
theorem dX6_rise_49 : decode cX6_rise 49 = .ok (.getfield 16, 3) := by decide +kernel
theorem dX6_rise_52 : decode cX6_rise 52 = .ok (.iload_n 1, 1) := by decide +kernel
theorem dX6_rise_53 : decode cX6_rise 53 = .ok (.iaload, 1) := by decide +kernel
theorem dX6_rise_54 : decode cX6_rise 54 = .ok (.invokevirtual 76, 3) := by decide +kernel
theorem dX6_rise_57 : decode cX6_rise 57 = .ok (.iconst 0, 1) := by decide +kernel
theorem dX6_rise_58 : decode cX6_rise 58 = .ok (.istore_n 2, 1) := by decide +kernel
theorem dX6_rise_59 : decode cX6_rise 59 = .ok (.iload_n 2, 1) := by decide +kernel
theorem dX6_rise_60 : decode cX6_rise 60 = .ok (.aload_n 0, 1) := by decide +kernel
theorem dX6_rise_61 : decode cX6_rise 61 = .ok (.getfield 19, 3) := by decide +kernel
theorem dX6_rise_64 : decode cX6_rise 64 = .ok (.iload_n 1, 1) := by decide +kernel
theorem dX6_rise_65 : decode cX6_rise 65 = .ok (.iaload, 1) := by decide +kernel
theorem dX6_rise_66 : decode cX6_rise 66 = .ok (.if_icmp .ge 24, 3) := by decide +kernel
theorem dX6_rise_69 : decode cX6_rise 69 = .ok (.aload_n 0, 1) := by decide +kernel
theorem dX6_rise_70 : decode cX6_rise 70 = .ok (.iload_n 1, 1) := by decide +kernel
theorem dX6_rise_71 : decode cX6_rise 71 = .ok (.aload_n 0, 1) := by decide +kernel
theorem dX6_rise_72 : decode cX6_rise 72 = .ok (.getfield 22, 3) := by decide +kernel
theorem dX6_rise_75 : decode cX6_rise 75 = .ok (.iconst 3, 1) := by decide +kernel
theorem dX6_rise_76 : decode cX6_rise 76 = .ok (.iload_n 1, 1) := by decide +kernel
theorem dX6_rise_77 : decode cX6_rise 77 = .ok (.imul, 1) := by decide +kernel
theorem dX6_rise_78 : decode cX6_rise 78 = .ok (.iload_n 2, 1) := by decide +kernel
theorem dX6_rise_79 : decode cX6_rise 79 = .ok (.iadd, 1) := by decide +kernel
theorem dX6_rise_80 : decode cX6_rise 80 = .ok (.iaload, 1) := by decide +kernel
theorem dX6_rise_81 : decode cX6_rise 81 = .ok (.invokevirtual 76, 3) := by decide +kernel
theorem dX6_rise_84 : decode cX6_rise 84 = .ok (.iinc 2 1, 3) := by decide +kernel
theorem dX6_rise_87 : decode cX6_rise 87 = .ok (.goto (-28), 3) := by decide +kernel
theorem dX6_rise_90 : decode cX6_rise 90 = .ok (.iinc 1 1, 3) := by decide +kernel
theorem dX6_rise_93 : decode cX6_rise 93 = .ok (.goto (-91), 3) := by decide +kernel
theorem dX6_rise_96 : decode cX6_rise 96 = .ok (.aload_n 0, 1) := by decide +kernel
theorem dX6_rise_97 : decode cX6_rise 97 = .ok (.invokevirtual 80, 3) := by decide +kernel
theorem dX6_rise_100 : decode cX6_rise 100 = .ok (.return_, 1) := by decide +kernel
theorem dX6_lift_0 : decode cX6_lift 0 = .ok (.aload_n 0, 1) := by decide +kernel
theorem dX6_lift_1 : decode cX6_lift 1 = .ok (.getfield 25, 3) := by decide +kernel
theorem dX6_lift_4 : decode cX6_lift 4 = .ok (.bipush 16, 2) := by decide +kernel
theorem dX6_lift_6 : decode cX6_lift 6 = .ok (.iload_n 1, 1) := by decide +kernel
theorem dX6_lift_7 : decode cX6_lift 7 = .ok (.imul, 1) := by decide +kernel
theorem dX6_lift_8 : decode cX6_lift 8 = .ok (.iload_n 2, 1) := by decide +kernel
theorem dX6_lift_9 : decode cX6_lift 9 = .ok (.iadd, 1) := by decide +kernel
theorem dX6_lift_10 : decode cX6_lift 10 = .ok (.iconst 1, 1) := by decide +kernel
theorem dX6_lift_11 : decode cX6_lift 11 = .ok (.bastore, 1) := by decide +kernel
theorem dX6_lift_12 : decode cX6_lift 12 = .ok (.iconst 0, 1) := by decide +kernel
theorem dX6_lift_13 : decode cX6_lift 13 = .ok (.istore_n 3, 1) := by decide +kernel
theorem dX6_lift_14 : decode cX6_lift 14 = .ok (.iload_n 3, 1) := by decide +kernel
theorem dX6_lift_15 : decode cX6_lift 15 = .ok (.bipush 16, 2) := by decide +kernel
theorem dX6_lift_17 : decode cX6_lift 17 = .ok (.if_icmp .ge 53, 3) := by decide +kernel
theorem dX6_lift_20 : decode cX6_lift 20 = .ok (.aload_n 0, 1) := by decide +kernel
theorem dX6_lift_21 : decode cX6_lift 21 = .ok (.getfield 25, 3) := by decide +kernel
theorem dX6_lift_24 : decode cX6_lift 24 = .ok (.bipush 16, 2) := by decide +kernel
theorem dX6_lift_26 : decode cX6_lift 26 = .ok (.iload_n 1, 1) := by decide +kernel
theorem dX6_lift_27 : decode cX6_lift 27 = .ok (.imul, 1) := by decide +kernel
theorem dX6_lift_28 : decode cX6_lift 28 = .ok (.iload_n 3, 1) := by decide +kernel
theorem dX6_lift_29 : decode cX6_lift 29 = .ok (.iadd, 1) := by decide +kernel
theorem dX6_lift_30 : decode cX6_lift 30 = .ok (.aload_n 0, 1) := by decide +kernel
theorem dX6_lift_31 : decode cX6_lift 31 = .ok (.getfield 25, 3) := by decide +kernel
theorem dX6_lift_34 : decode cX6_lift 34 = .ok (.bipush 16, 2) := by decide +kernel
theorem dX6_lift_36 : decode cX6_lift 36 = .ok (.iload_n 1, 1) := by decide +kernel
theorem dX6_lift_37 : decode cX6_lift 37 = .ok (.imul, 1) := by decide +kernel
theorem dX6_lift_38 : decode cX6_lift 38 = .ok (.iload_n 3, 1) := by decide +kernel
theorem dX6_lift_39 : decode cX6_lift 39 = .ok (.iadd, 1) := by decide +kernel
theorem dX6_lift_40 : decode cX6_lift 40 = .ok (.baload, 1) := by decide +kernel
theorem dX6_lift_41 : decode cX6_lift 41 = .ok (.ifCond .ne 17, 3) := by decide +kernel
theorem dX6_lift_44 : decode cX6_lift 44 = .ok (.aload_n 0, 1) := by decide +kernel
theorem dX6_lift_45 : decode cX6_lift 45 = .ok (.getfield 25, 3) := by decide +kernel
theorem dX6_lift_48 : decode cX6_lift 48 = .ok (.bipush 16, 2) := by decide +kernel
theorem dX6_lift_50 : decode cX6_lift 50 = .ok (.iload_n 2, 1) := by decide +kernel
theorem dX6_lift_51 : decode cX6_lift 51 = .ok (.imul, 1) := by decide +kernel
theorem dX6_lift_52 : decode cX6_lift 52 = .ok (.iload_n 3, 1) := by decide +kernel
theorem dX6_lift_53 : decode cX6_lift 53 = .ok (.iadd, 1) := by decide +kernel
theorem dX6_lift_54 : decode cX6_lift 54 = .ok (.baload, 1) := by decide +kernel
theorem dX6_lift_55 : decode cX6_lift 55 = .ok (.ifCond .eq 7, 3) := by decide +kernel
theorem dX6_lift_58 : decode cX6_lift 58 = .ok (.iconst 1, 1) := by decide +kernel
theorem dX6_lift_59 : decode cX6_lift 59 = .ok (.goto 4, 3) := by decide +kernel
theorem dX6_lift_62 : decode cX6_lift 62 = .ok (.iconst 0, 1) := by decide +kernel
theorem dX6_lift_63 : decode cX6_lift 63 = .ok (.bastore, 1) := by decide +kernel
theorem dX6_lift_64 : decode cX6_lift 64 = .ok (.iinc 3 1, 3) := by decide +kernel
theorem dX6_lift_67 : decode cX6_lift 67 = .ok (.goto (-53), 3) := by decide +kernel
theorem dX6_lift_70 : decode cX6_lift 70 = .ok (.return_, 1) := by decide +kernel
theorem dX6_type_0 : decode cX6_type 0 = .ok (.iload_n 3, 1) := by decide +kernel
theorem dX6_type_1 : decode cX6_type 1 = .ok (.iconst (-1), 1) := by decide +kernel
theorem dX6_type_2 : decode cX6_type 2 = .ok (.if_icmp .eq 14, 3) := by decide +kernel
theorem dX6_type_5 : decode cX6_type 5 = .ok (.aload_n 0, 1) := by decide +kernel
theorem dX6_type_6 : decode cX6_type 6 = .ok (.iload_n 3, 1) := by decide +kernel
theorem dX6_type_7 : decode cX6_type 7 = .ok (.invokevirtual 83, 3) := by decide +kernel
theorem dX6_type_10 : decode cX6_type 10 = .ok (.ifCond .ne 6, 3) := by decide +kernel
theorem dX6_type_13 : decode cX6_type 13 = .ok (.bipush (-2), 2) := by decide +kernel
theorem dX6_type_15 : decode cX6_type 15 = .ok (.ireturn, 1) := by decide +kernel
theorem dX6_type_16 : decode cX6_type 16 = .ok (.iload_n 1, 1) := by decide +kernel
theorem dX6_type_17 : decode cX6_type 17 = .ok (.iconst 0, 1) := by decide +kernel
theorem dX6_type_18 : decode cX6_type 18 = .ok (.iconst 2, 1) := by decide +kernel
theorem dX6_type_19 : decode cX6_type 19 = .ok (.invokestatic 66, 3) := by decide +kernel
theorem dX6_type_22 : decode cX6_type 22 = .ok (.ifCond .eq 32, 3) := by decide +kernel
theorem dX6_type_25 : decode cX6_type 25 = .ok (.iload_n 2, 1) := by decide +kernel
theorem dX6_type_26 : decode cX6_type 26 = .ok (.iconst 0, 1) := by decide +kernel
theorem dX6_type_27 : decode cX6_type 27 = .ok (.iconst 3, 1) := by decide +kernel
theorem dX6_type_28 : decode cX6_type 28 = .ok (.invokestatic 66, 3) := by decide +kernel
theorem dX6_type_31 : decode cX6_type 31 = .ok (.ifCond .eq 23, 3) := by decide +kernel
theorem dX6_type_34 : decode cX6_type 34 = .ok (.iload_n 3, 1) := by decide +kernel
theorem dX6_type_35 : decode cX6_type 35 = .ok (.iconst (-1), 1) := by decide +kernel
theorem dX6_type_36 : decode cX6_type 36 = .ok (.if_icmp .eq 21, 3) := by decide +kernel
theorem dX6_type_39 : decode cX6_type 39 = .ok (.iload_n 1, 1) := by decide +kernel
theorem dX6_type_40 : decode cX6_type 40 = .ok (.iconst 2, 1) := by decide +kernel
theorem dX6_type_41 : decode cX6_type 41 = .ok (.if_icmp .eq 13, 3) := by decide +kernel
theorem dX6_type_44 : decode cX6_type 44 = .ok (.aload_n 0, 1) := by decide +kernel
theorem dX6_type_45 : decode cX6_type 45 = .ok (.getfield 7, 3) := by decide +kernel
theorem dX6_type_48 : decode cX6_type 48 = .ok (.iload_n 3, 1) := by decide +kernel
theorem dX6_type_49 : decode cX6_type 49 = .ok (.iaload, 1) := by decide +kernel
theorem dX6_type_50 : decode cX6_type 50 = .ok (.iconst 2, 1) := by decide +kernel
theorem dX6_type_51 : decode cX6_type 51 = .ok (.if_icmp .ne 6, 3) := by decide +kernel
theorem dX6_type_54 : decode cX6_type 54 = .ok (.bipush (-3), 2) := by decide +kernel
theorem dX6_type_56 : decode cX6_type 56 = .ok (.ireturn, 1) := by decide +kernel
theorem dX6_type_57 : decode cX6_type 57 = .ok (.aload_n 0, 1) := by decide +kernel
theorem dX6_type_58 : decode cX6_type 58 = .ok (.getfield 62, 3) := by decide +kernel
theorem dX6_type_61 : decode cX6_type 61 = .ok (.bipush 16, 2) := by decide +kernel
theorem dX6_type_63 : decode cX6_type 63 = .ok (.if_icmp .ne 6, 3) := by decide +kernel
theorem dX6_type_66 : decode cX6_type 66 = .ok (.bipush (-4), 2) := by decide +kernel
theorem dX6_type_68 : decode cX6_type 68 = .ok (.ireturn, 1) := by decide +kernel
theorem dX6_type_69 : decode cX6_type 69 = .ok (.aload_n 0, 1) := by decide +kernel
theorem dX6_type_70 : decode cX6_type 70 = .ok (.getfield 7, 3) := by decide +kernel
theorem dX6_type_73 : decode cX6_type 73 = .ok (.aload_n 0, 1) := by decide +kernel
theorem dX6_type_74 : decode cX6_type 74 = .ok (.getfield 62, 3) := by decide +kernel
theorem dX6_type_77 : decode cX6_type 77 = .ok (.iload_n 1, 1) := by decide +kernel
theorem dX6_type_78 : decode cX6_type 78 = .ok (.iastore, 1) := by decide +kernel
theorem dX6_type_79 : decode cX6_type 79 = .ok (.aload_n 0, 1) := by decide +kernel
theorem dX6_type_80 : decode cX6_type 80 = .ok (.getfield 13, 3) := by decide +kernel
theorem dX6_type_83 : decode cX6_type 83 = .ok (.aload_n 0, 1) := by decide +kernel
theorem dX6_type_84 : decode cX6_type 84 = .ok (.getfield 62, 3) := by decide +kernel
theorem dX6_type_87 : decode cX6_type 87 = .ok (.iload_n 2, 1) := by decide +kernel
theorem dX6_type_88 : decode cX6_type 88 = .ok (.iastore, 1) := by decide +kernel
theorem dX6_type_89 : decode cX6_type 89 = .ok (.aload_n 0, 1) := by decide +kernel
theorem dX6_type_90 : decode cX6_type 90 = .ok (.getfield 16, 3) := by decide +kernel
theorem dX6_type_93 : decode cX6_type 93 = .ok (.aload_n 0, 1) := by decide +kernel
theorem dX6_type_94 : decode cX6_type 94 = .ok (.getfield 62, 3) := by decide +kernel
theorem dX6_type_97 : decode cX6_type 97 = .ok (.iload_n 3, 1) := by decide +kernel
theorem dX6_type_98 : decode cX6_type 98 = .ok (.iastore, 1) := by decide +kernel
theorem dX6_type_99 : decode cX6_type 99 = .ok (.aload_n 0, 1) := by decide +kernel
theorem dX6_type_100 : decode cX6_type 100 = .ok (.getfield 19, 3) := by decide +kernel
theorem dX6_type_103 : decode cX6_type 103 = .ok (.aload_n 0, 1) := by decide +kernel
theorem dX6_type_104 : decode cX6_type 104 = .ok (.getfield 62, 3) := by decide +kernel
theorem dX6_type_107 : decode cX6_type 107 = .ok (.iconst 0, 1) := by decide +kernel
theorem dX6_type_108 : decode cX6_type 108 = .ok (.iastore, 1) := by decide +kernel
theorem dX6_type_109 : decode cX6_type 109 = .ok (.aload_n 0, 1) := by decide +kernel
theorem dX6_type_110 : decode cX6_type 110 = .ok (.dup, 1) := by decide +kernel
theorem dX6_type_111 : decode cX6_type 111 = .ok (.getfield 62, 3) := by decide +kernel
theorem dX6_type_114 : decode cX6_type 114 = .ok (.iconst 1, 1) := by decide +kernel
theorem dX6_type_115 : decode cX6_type 115 = .ok (.iadd, 1) := by decide +kernel
theorem dX6_type_116 : decode cX6_type 116 = .ok (.putfield 62, 3) := by decide +kernel
theorem dX6_type_119 : decode cX6_type 119 = .ok (.aload_n 0, 1) := by decide +kernel
theorem dX6_type_120 : decode cX6_type 120 = .ok (.invokevirtual 87, 3) := by decide +kernel
theorem dX6_type_123 : decode cX6_type 123 = .ok (.aload_n 0, 1) := by decide +kernel
theorem dX6_type_124 : decode cX6_type 124 = .ok (.getfield 62, 3) := by decide +kernel
theorem dX6_type_127 : decode cX6_type 127 = .ok (.iconst 1, 1) := by decide +kernel
theorem dX6_type_128 : decode cX6_type 128 = .ok (.isub, 1) := by decide +kernel
theorem dX6_type_129 : decode cX6_type 129 = .ok (.ireturn, 1) := by decide +kernel
theorem dX6_face_0 : decode cX6_face 0 = .ok (.aload_n 0, 1) := by decide +kernel
theorem dX6_face_1 : decode cX6_face 1 = .ok (.iload_n 1, 1) := by decide +kernel
theorem dX6_face_2 : decode cX6_face 2 = .ok (.invokevirtual 83, 3) := by decide +kernel
theorem dX6_face_5 : decode cX6_face 5 = .ok (.ifCond .eq 11, 3) := by decide +kernel
theorem dX6_face_8 : decode cX6_face 8 = .ok (.aload_n 0, 1) := by decide +kernel
theorem dX6_face_9 : decode cX6_face 9 = .ok (.iload_n 2, 1) := by decide +kernel
theorem dX6_face_10 : decode cX6_face 10 = .ok (.invokevirtual 83, 3) := by decide +kernel
theorem dX6_face_13 : decode cX6_face 13 = .ok (.ifCond .ne 6, 3) := by decide +kernel
theorem dX6_face_16 : decode cX6_face 16 = .ok (.bipush (-2), 2) := by decide +kernel
end
section
theorem dX6_face_18 : decode cX6_face 18 = .ok (.ireturn, 1) := by decide +kernel
theorem dX6_face_19 : decode cX6_face 19 = .ok (.aload_n 0, 1) := by decide +kernel
theorem dX6_face_20 : decode cX6_face 20 = .ok (.getfield 7, 3) := by decide +kernel
theorem dX6_face_23 : decode cX6_face 23 = .ok (.iload_n 2, 1) := by decide +kernel
theorem dX6_face_24 : decode cX6_face 24 = .ok (.iaload, 1) := by decide +kernel
theorem dX6_face_25 : decode cX6_face 25 = .ok (.iconst 2, 1) := by decide +kernel
theorem dX6_face_26 : decode cX6_face 26 = .ok (.if_icmp .ne 12, 3) := by decide +kernel
theorem dX6_face_29 : decode cX6_face 29 = .ok (.iload_n 2, 1) := by decide +kernel
theorem dX6_face_30 : decode cX6_face 30 = .ok (.iload_n 1, 1) := by decide +kernel
theorem dX6_face_31 : decode cX6_face 31 = .ok (.if_icmp .ge 7, 3) := by decide +kernel
theorem dX6_face_34 : decode cX6_face 34 = .ok (.iconst 1, 1) := by decide +kernel
theorem dX6_face_35 : decode cX6_face 35 = .ok (.goto 4, 3) := by decide +kernel
theorem dX6_face_38 : decode cX6_face 38 = .ok (.iconst 0, 1) := by decide +kernel
theorem dX6_face_39 : decode cX6_face 39 = .ok (.istore_n 3, 1) := by decide +kernel
theorem dX6_face_40 : decode cX6_face 40 = .ok (.iconst 0, 1) := by decide +kernel
theorem dX6_face_41 : decode cX6_face 41 = .ok (.istore 4, 2) := by decide +kernel
theorem dX6_face_43 : decode cX6_face 43 = .ok (.iload 4, 2) := by decide +kernel
theorem dX6_face_45 : decode cX6_face 45 = .ok (.aload_n 0, 1) := by decide +kernel
theorem dX6_face_46 : decode cX6_face 46 = .ok (.getfield 19, 3) := by decide +kernel
theorem dX6_face_49 : decode cX6_face 49 = .ok (.iload_n 1, 1) := by decide +kernel
theorem dX6_face_50 : decode cX6_face 50 = .ok (.iaload, 1) := by decide +kernel
theorem dX6_face_51 : decode cX6_face 51 = .ok (.if_icmp .ge 34, 3) := by decide +kernel
theorem dX6_face_54 : decode cX6_face 54 = .ok (.iload_n 3, 1) := by decide +kernel
theorem dX6_face_55 : decode cX6_face 55 = .ok (.ifCond .eq 22, 3) := by decide +kernel
theorem dX6_face_58 : decode cX6_face 58 = .ok (.aload_n 0, 1) := by decide +kernel
theorem dX6_face_59 : decode cX6_face 59 = .ok (.getfield 22, 3) := by decide +kernel
theorem dX6_face_62 : decode cX6_face 62 = .ok (.iconst 3, 1) := by decide +kernel
theorem dX6_face_63 : decode cX6_face 63 = .ok (.iload_n 1, 1) := by decide +kernel
theorem dX6_face_64 : decode cX6_face 64 = .ok (.imul, 1) := by decide +kernel
theorem dX6_face_65 : decode cX6_face 65 = .ok (.iload 4, 2) := by decide +kernel
theorem dX6_face_67 : decode cX6_face 67 = .ok (.iadd, 1) := by decide +kernel
theorem dX6_face_68 : decode cX6_face 68 = .ok (.iaload, 1) := by decide +kernel
theorem dX6_face_69 : decode cX6_face 69 = .ok (.iload_n 2, 1) := by decide +kernel
theorem dX6_face_70 : decode cX6_face 70 = .ok (.if_icmp .eq 7, 3) := by decide +kernel
theorem dX6_face_73 : decode cX6_face 73 = .ok (.iconst 1, 1) := by decide +kernel
theorem dX6_face_74 : decode cX6_face 74 = .ok (.goto 4, 3) := by decide +kernel
theorem dX6_face_77 : decode cX6_face 77 = .ok (.iconst 0, 1) := by decide +kernel
theorem dX6_face_78 : decode cX6_face 78 = .ok (.istore_n 3, 1) := by decide +kernel
theorem dX6_face_79 : decode cX6_face 79 = .ok (.iinc 4 1, 3) := by decide +kernel
theorem dX6_face_82 : decode cX6_face 82 = .ok (.goto (-39), 3) := by decide +kernel
theorem dX6_face_85 : decode cX6_face 85 = .ok (.iload_n 3, 1) := by decide +kernel
theorem dX6_face_86 : decode cX6_face 86 = .ok (.ifCond .ne 6, 3) := by decide +kernel
theorem dX6_face_89 : decode cX6_face 89 = .ok (.bipush (-3), 2) := by decide +kernel
theorem dX6_face_91 : decode cX6_face 91 = .ok (.ireturn, 1) := by decide +kernel
theorem dX6_face_92 : decode cX6_face 92 = .ok (.aload_n 0, 1) := by decide +kernel
theorem dX6_face_93 : decode cX6_face 93 = .ok (.getfield 19, 3) := by decide +kernel
theorem dX6_face_96 : decode cX6_face 96 = .ok (.iload_n 1, 1) := by decide +kernel
theorem dX6_face_97 : decode cX6_face 97 = .ok (.iaload, 1) := by decide +kernel
theorem dX6_face_98 : decode cX6_face 98 = .ok (.iconst 3, 1) := by decide +kernel
theorem dX6_face_99 : decode cX6_face 99 = .ok (.if_icmp .ne 6, 3) := by decide +kernel
theorem dX6_face_102 : decode cX6_face 102 = .ok (.bipush (-4), 2) := by decide +kernel
theorem dX6_face_104 : decode cX6_face 104 = .ok (.ireturn, 1) := by decide +kernel
theorem dX6_face_105 : decode cX6_face 105 = .ok (.aload_n 0, 1) := by decide +kernel
theorem dX6_face_106 : decode cX6_face 106 = .ok (.getfield 22, 3) := by decide +kernel
theorem dX6_face_109 : decode cX6_face 109 = .ok (.iconst 3, 1) := by decide +kernel
theorem dX6_face_110 : decode cX6_face 110 = .ok (.iload_n 1, 1) := by decide +kernel
theorem dX6_face_111 : decode cX6_face 111 = .ok (.imul, 1) := by decide +kernel
theorem dX6_face_112 : decode cX6_face 112 = .ok (.aload_n 0, 1) := by decide +kernel
theorem dX6_face_113 : decode cX6_face 113 = .ok (.getfield 19, 3) := by decide +kernel
theorem dX6_face_116 : decode cX6_face 116 = .ok (.iload_n 1, 1) := by decide +kernel
theorem dX6_face_117 : decode cX6_face 117 = .ok (.iaload, 1) := by decide +kernel
theorem dX6_face_118 : decode cX6_face 118 = .ok (.iadd, 1) := by decide +kernel
theorem dX6_face_119 : decode cX6_face 119 = .ok (.iload_n 2, 1) := by decide +kernel
theorem dX6_face_120 : decode cX6_face 120 = .ok (.iastore, 1) := by decide +kernel
theorem dX6_face_121 : decode cX6_face 121 = .ok (.aload_n 0, 1) := by decide +kernel
theorem dX6_face_122 : decode cX6_face 122 = .ok (.getfield 19, 3) := by decide +kernel
theorem dX6_face_125 : decode cX6_face 125 = .ok (.iload_n 1, 1) := by decide +kernel
theorem dX6_face_126 : decode cX6_face 126 = .ok (.dup2, 1) := by decide +kernel
theorem dX6_face_127 : decode cX6_face 127 = .ok (.iaload, 1) := by decide +kernel
theorem dX6_face_128 : decode cX6_face 128 = .ok (.iconst 1, 1) := by decide +kernel
theorem dX6_face_129 : decode cX6_face 129 = .ok (.iadd, 1) := by decide +kernel
theorem dX6_face_130 : decode cX6_face 130 = .ok (.iastore, 1) := by decide +kernel
theorem dX6_face_131 : decode cX6_face 131 = .ok (.aload_n 0, 1) := by decide +kernel
theorem dX6_face_132 : decode cX6_face 132 = .ok (.invokevirtual 87, 3) := by decide +kernel
theorem dX6_face_135 : decode cX6_face 135 = .ok (.aload_n 0, 1) := by decide +kernel
theorem dX6_face_136 : decode cX6_face 136 = .ok (.getfield 19, 3) := by decide +kernel
theorem dX6_face_139 : decode cX6_face 139 = .ok (.iload_n 1, 1) := by decide +kernel
theorem dX6_face_140 : decode cX6_face 140 = .ok (.iaload, 1) := by decide +kernel
theorem dX6_face_141 : decode cX6_face 141 = .ok (.ireturn, 1) := by decide +kernel
theorem dX6_isBelow_0 : decode cX6_isBelow 0 = .ok (.aload_n 0, 1) := by decide +kernel
theorem dX6_isBelow_1 : decode cX6_isBelow 1 = .ok (.getfield 25, 3) := by decide +kernel
theorem dX6_isBelow_4 : decode cX6_isBelow 4 = .ok (.bipush 16, 2) := by decide +kernel
theorem dX6_isBelow_6 : decode cX6_isBelow 6 = .ok (.iload_n 1, 1) := by decide +kernel
theorem dX6_isBelow_7 : decode cX6_isBelow 7 = .ok (.imul, 1) := by decide +kernel
theorem dX6_isBelow_8 : decode cX6_isBelow 8 = .ok (.iload_n 2, 1) := by decide +kernel
theorem dX6_isBelow_9 : decode cX6_isBelow 9 = .ok (.iadd, 1) := by decide +kernel
theorem dX6_isBelow_10 : decode cX6_isBelow 10 = .ok (.baload, 1) := by decide +kernel
theorem dX6_isBelow_11 : decode cX6_isBelow 11 = .ok (.ireturn, 1) := by decide +kernel
theorem dX6_isSub_0 : decode cX6_isSub 0 = .ok (.iload_n 1, 1) := by decide +kernel
theorem dX6_isSub_1 : decode cX6_isSub 1 = .ok (.iload_n 2, 1) := by decide +kernel
theorem dX6_isSub_2 : decode cX6_isSub 2 = .ok (.if_icmp .eq 12, 3) := by decide +kernel
theorem dX6_isSub_5 : decode cX6_isSub 5 = .ok (.aload_n 0, 1) := by decide +kernel
theorem dX6_isSub_6 : decode cX6_isSub 6 = .ok (.iload_n 1, 1) := by decide +kernel
theorem dX6_isSub_7 : decode cX6_isSub 7 = .ok (.iload_n 2, 1) := by decide +kernel
theorem dX6_isSub_8 : decode cX6_isSub 8 = .ok (.invokevirtual 90, 3) := by decide +kernel
theorem dX6_isSub_11 : decode cX6_isSub 11 = .ok (.ifCond .eq 7, 3) := by decide +kernel
theorem dX6_isSub_14 : decode cX6_isSub 14 = .ok (.iconst 1, 1) := by decide +kernel
theorem dX6_isSub_15 : decode cX6_isSub 15 = .ok (.goto 4, 3) := by decide +kernel
theorem dX6_isSub_18 : decode cX6_isSub 18 = .ok (.iconst 0, 1) := by decide +kernel
theorem dX6_isSub_19 : decode cX6_isSub 19 = .ok (.ireturn, 1) := by decide +kernel
theorem dX6_sub_0 : decode cX6_sub 0 = .ok (.aload_n 0, 1) := by decide +kernel
theorem dX6_sub_1 : decode cX6_sub 1 = .ok (.iload_n 1, 1) := by decide +kernel
theorem dX6_sub_2 : decode cX6_sub 2 = .ok (.invokevirtual 83, 3) := by decide +kernel
theorem dX6_sub_5 : decode cX6_sub 5 = .ok (.ifCond .eq 11, 3) := by decide +kernel
theorem dX6_sub_8 : decode cX6_sub 8 = .ok (.aload_n 0, 1) := by decide +kernel
theorem dX6_sub_9 : decode cX6_sub 9 = .ok (.iload_n 2, 1) := by decide +kernel
theorem dX6_sub_10 : decode cX6_sub 10 = .ok (.invokevirtual 83, 3) := by decide +kernel
theorem dX6_sub_13 : decode cX6_sub 13 = .ok (.ifCond .ne 8, 3) := by decide +kernel
theorem dX6_sub_16 : decode cX6_sub 16 = .ok (.bipush (-2), 2) := by decide +kernel
theorem dX6_sub_18 : decode cX6_sub 18 = .ok (.goto 17, 3) := by decide +kernel
theorem dX6_sub_21 : decode cX6_sub 21 = .ok (.aload_n 0, 1) := by decide +kernel
theorem dX6_sub_22 : decode cX6_sub 22 = .ok (.iload_n 1, 1) := by decide +kernel
theorem dX6_sub_23 : decode cX6_sub 23 = .ok (.iload_n 2, 1) := by decide +kernel
theorem dX6_sub_24 : decode cX6_sub 24 = .ok (.invokevirtual 94, 3) := by decide +kernel
theorem dX6_sub_27 : decode cX6_sub 27 = .ok (.ifCond .eq 7, 3) := by decide +kernel
theorem dX6_sub_30 : decode cX6_sub 30 = .ok (.iconst 1, 1) := by decide +kernel
theorem dX6_sub_31 : decode cX6_sub 31 = .ok (.goto 4, 3) := by decide +kernel
theorem dX6_sub_34 : decode cX6_sub 34 = .ok (.iconst 0, 1) := by decide +kernel
theorem dX6_sub_35 : decode cX6_sub 35 = .ok (.ireturn, 1) := by decide +kernel
theorem dX6_thrown0_0 : decode cX6_thrown0 0 = .ok (.iload_n 1, 1) := by decide +kernel
theorem dX6_thrown0_1 : decode cX6_thrown0 1 = .ok (.iconst (-1), 1) := by decide +kernel
theorem dX6_thrown0_2 : decode cX6_thrown0 2 = .ok (.if_icmp .eq 20, 3) := by decide +kernel
theorem dX6_thrown0_5 : decode cX6_thrown0 5 = .ok (.iload_n 1, 1) := by decide +kernel
theorem dX6_thrown0_6 : decode cX6_thrown0 6 = .ok (.iconst 0, 1) := by decide +kernel
theorem dX6_thrown0_7 : decode cX6_thrown0 7 = .ok (.aload_n 0, 1) := by decide +kernel
theorem dX6_thrown0_8 : decode cX6_thrown0 8 = .ok (.getfield 73, 3) := by decide +kernel
theorem dX6_thrown0_11 : decode cX6_thrown0 11 = .ok (.iconst 1, 1) := by decide +kernel
theorem dX6_thrown0_12 : decode cX6_thrown0 12 = .ok (.isub, 1) := by decide +kernel
theorem dX6_thrown0_13 : decode cX6_thrown0 13 = .ok (.invokestatic 66, 3) := by decide +kernel
theorem dX6_thrown0_16 : decode cX6_thrown0 16 = .ok (.ifCond .ne 6, 3) := by decide +kernel
theorem dX6_thrown0_19 : decode cX6_thrown0 19 = .ok (.bipush (-2), 2) := by decide +kernel
theorem dX6_thrown0_21 : decode cX6_thrown0 21 = .ok (.ireturn, 1) := by decide +kernel
theorem dX6_thrown0_22 : decode cX6_thrown0 22 = .ok (.aload_n 0, 1) := by decide +kernel
theorem dX6_thrown0_23 : decode cX6_thrown0 23 = .ok (.getfield 73, 3) := by decide +kernel
theorem dX6_thrown0_26 : decode cX6_thrown0 26 = .ok (.bipush 8, 2) := by decide +kernel
theorem dX6_thrown0_28 : decode cX6_thrown0 28 = .ok (.if_icmp .ne 6, 3) := by decide +kernel
theorem dX6_thrown0_31 : decode cX6_thrown0 31 = .ok (.bipush (-4), 2) := by decide +kernel
theorem dX6_thrown0_33 : decode cX6_thrown0 33 = .ok (.ireturn, 1) := by decide +kernel
theorem dX6_thrown0_34 : decode cX6_thrown0 34 = .ok (.aload_n 0, 1) := by decide +kernel
theorem dX6_thrown0_35 : decode cX6_thrown0 35 = .ok (.getfield 29, 3) := by decide +kernel
theorem dX6_thrown0_38 : decode cX6_thrown0 38 = .ok (.aload_n 0, 1) := by decide +kernel
theorem dX6_thrown0_39 : decode cX6_thrown0 39 = .ok (.getfield 73, 3) := by decide +kernel
theorem dX6_thrown0_42 : decode cX6_thrown0 42 = .ok (.iload_n 1, 1) := by decide +kernel
theorem dX6_thrown0_43 : decode cX6_thrown0 43 = .ok (.iastore, 1) := by decide +kernel
theorem dX6_thrown0_44 : decode cX6_thrown0 44 = .ok (.aload_n 0, 1) := by decide +kernel
theorem dX6_thrown0_45 : decode cX6_thrown0 45 = .ok (.getfield 32, 3) := by decide +kernel
theorem dX6_thrown0_48 : decode cX6_thrown0 48 = .ok (.aload_n 0, 1) := by decide +kernel
theorem dX6_thrown0_49 : decode cX6_thrown0 49 = .ok (.getfield 73, 3) := by decide +kernel
theorem dX6_thrown0_52 : decode cX6_thrown0 52 = .ok (.iload_n 2, 1) := by decide +kernel
theorem dX6_thrown0_53 : decode cX6_thrown0 53 = .ok (.bastore, 1) := by decide +kernel
theorem dX6_thrown0_54 : decode cX6_thrown0 54 = .ok (.aload_n 0, 1) := by decide +kernel
theorem dX6_thrown0_55 : decode cX6_thrown0 55 = .ok (.dup, 1) := by decide +kernel
theorem dX6_thrown0_56 : decode cX6_thrown0 56 = .ok (.getfield 73, 3) := by decide +kernel
theorem dX6_thrown0_59 : decode cX6_thrown0 59 = .ok (.iconst 1, 1) := by decide +kernel
theorem dX6_thrown0_60 : decode cX6_thrown0 60 = .ok (.iadd, 1) := by decide +kernel
theorem dX6_thrown0_61 : decode cX6_thrown0 61 = .ok (.putfield 73, 3) := by decide +kernel
theorem dX6_thrown0_64 : decode cX6_thrown0 64 = .ok (.aload_n 0, 1) := by decide +kernel
theorem dX6_thrown0_65 : decode cX6_thrown0 65 = .ok (.getfield 73, 3) := by decide +kernel
theorem dX6_thrown0_68 : decode cX6_thrown0 68 = .ok (.iconst 1, 1) := by decide +kernel
theorem dX6_thrown0_69 : decode cX6_thrown0 69 = .ok (.isub, 1) := by decide +kernel
theorem dX6_thrown0_70 : decode cX6_thrown0 70 = .ok (.ireturn, 1) := by decide +kernel
theorem dX6_throws0_0 : decode cX6_throws0 0 = .ok (.aload_n 0, 1) := by decide +kernel
theorem dX6_throws0_1 : decode cX6_throws0 1 = .ok (.iload_n 1, 1) := by decide +kernel
theorem dX6_throws0_2 : decode cX6_throws0 2 = .ok (.invokevirtual 97, 3) := by decide +kernel
theorem dX6_throws0_5 : decode cX6_throws0 5 = .ok (.ifCond .eq 17, 3) := by decide +kernel
theorem dX6_throws0_8 : decode cX6_throws0 8 = .ok (.iload_n 2, 1) := by decide +kernel
theorem dX6_throws0_9 : decode cX6_throws0 9 = .ok (.iconst 0, 1) := by decide +kernel
theorem dX6_throws0_10 : decode cX6_throws0 10 = .ok (.aload_n 0, 1) := by decide +kernel
theorem dX6_throws0_11 : decode cX6_throws0 11 = .ok (.getfield 73, 3) := by decide +kernel
theorem dX6_throws0_14 : decode cX6_throws0 14 = .ok (.iconst 1, 1) := by decide +kernel
theorem dX6_throws0_15 : decode cX6_throws0 15 = .ok (.isub, 1) := by decide +kernel
theorem dX6_throws0_16 : decode cX6_throws0 16 = .ok (.invokestatic 66, 3) := by decide +kernel
theorem dX6_throws0_19 : decode cX6_throws0 19 = .ok (.ifCond .ne 6, 3) := by decide +kernel
theorem dX6_throws0_22 : decode cX6_throws0 22 = .ok (.bipush (-2), 2) := by decide +kernel
theorem dX6_throws0_24 : decode cX6_throws0 24 = .ok (.ireturn, 1) := by decide +kernel
theorem dX6_throws0_25 : decode cX6_throws0 25 = .ok (.iconst 1, 1) := by decide +kernel
theorem dX6_throws0_26 : decode cX6_throws0 26 = .ok (.iload_n 2, 1) := by decide +kernel
theorem dX6_throws0_27 : decode cX6_throws0 27 = .ok (.ishl, 1) := by decide +kernel
theorem dX6_throws0_28 : decode cX6_throws0 28 = .ok (.istore_n 3, 1) := by decide +kernel
theorem dX6_throws0_29 : decode cX6_throws0 29 = .ok (.aload_n 0, 1) := by decide +kernel
theorem dX6_throws0_30 : decode cX6_throws0 30 = .ok (.getfield 47, 3) := by decide +kernel
theorem dX6_throws0_33 : decode cX6_throws0 33 = .ok (.iload_n 1, 1) := by decide +kernel
theorem dX6_throws0_34 : decode cX6_throws0 34 = .ok (.iaload, 1) := by decide +kernel
theorem dX6_throws0_35 : decode cX6_throws0 35 = .ok (.iload_n 3, 1) := by decide +kernel
theorem dX6_throws0_36 : decode cX6_throws0 36 = .ok (.iand, 1) := by decide +kernel
theorem dX6_throws0_37 : decode cX6_throws0 37 = .ok (.istore 4, 2) := by decide +kernel
theorem dX6_throws0_39 : decode cX6_throws0 39 = .ok (.aload_n 0, 1) := by decide +kernel
theorem dX6_throws0_40 : decode cX6_throws0 40 = .ok (.getfield 47, 3) := by decide +kernel
theorem dX6_throws0_43 : decode cX6_throws0 43 = .ok (.iload_n 1, 1) := by decide +kernel
theorem dX6_throws0_44 : decode cX6_throws0 44 = .ok (.aload_n 0, 1) := by decide +kernel
theorem dX6_throws0_45 : decode cX6_throws0 45 = .ok (.getfield 47, 3) := by decide +kernel
theorem dX6_throws0_48 : decode cX6_throws0 48 = .ok (.iload_n 1, 1) := by decide +kernel
theorem dX6_throws0_49 : decode cX6_throws0 49 = .ok (.iaload, 1) := by decide +kernel
theorem dX6_throws0_50 : decode cX6_throws0 50 = .ok (.iload_n 3, 1) := by decide +kernel
theorem dX6_throws0_51 : decode cX6_throws0 51 = .ok (.ior, 1) := by decide +kernel
theorem dX6_throws0_52 : decode cX6_throws0 52 = .ok (.iastore, 1) := by decide +kernel
theorem dX6_throws0_53 : decode cX6_throws0 53 = .ok (.iload 4, 2) := by decide +kernel
theorem dX6_throws0_55 : decode cX6_throws0 55 = .ok (.ifCond .ne 7, 3) := by decide +kernel
theorem dX6_throws0_58 : decode cX6_throws0 58 = .ok (.iconst 1, 1) := by decide +kernel
theorem dX6_throws0_59 : decode cX6_throws0 59 = .ok (.goto 4, 3) := by decide +kernel
theorem dX6_throws0_62 : decode cX6_throws0 62 = .ok (.iconst 0, 1) := by decide +kernel
theorem dX6_throws0_63 : decode cX6_throws0 63 = .ok (.ireturn, 1) := by decide +kernel
theorem dX6_throwsMore_0 : decode cX6_throwsMore 0 = .ok (.iconst 0, 1) := by decide +kernel
theorem dX6_throwsMore_1 : decode cX6_throwsMore 1 = .ok (.istore_n 3, 1) := by decide +kernel
theorem dX6_throwsMore_2 : decode cX6_throwsMore 2 = .ok (.iload_n 3, 1) := by decide +kernel
theorem dX6_throwsMore_3 : decode cX6_throwsMore 3 = .ok (.aload_n 0, 1) := by decide +kernel
theorem dX6_throwsMore_4 : decode cX6_throwsMore 4 = .ok (.getfield 73, 3) := by decide +kernel
theorem dX6_throwsMore_7 : decode cX6_throwsMore 7 = .ok (.if_icmp .ge 90, 3) := by decide +kernel
theorem dX6_throwsMore_10 : decode cX6_throwsMore 10 = .ok (.aload_n 0, 1) := by decide +kernel
theorem dX6_throwsMore_11 : decode cX6_throwsMore 11 = .ok (.getfield 47, 3) := by decide +kernel
theorem dX6_throwsMore_14 : decode cX6_throwsMore 14 = .ok (.iload_n 1, 1) := by decide +kernel
theorem dX6_throwsMore_15 : decode cX6_throwsMore 15 = .ok (.iaload, 1) := by decide +kernel
theorem dX6_throwsMore_16 : decode cX6_throwsMore 16 = .ok (.iload_n 3, 1) := by decide +kernel
theorem dX6_throwsMore_17 : decode cX6_throwsMore 17 = .ok (.ishr, 1) := by decide +kernel
theorem dX6_throwsMore_18 : decode cX6_throwsMore 18 = .ok (.iconst 1, 1) := by decide +kernel
theorem dX6_throwsMore_19 : decode cX6_throwsMore 19 = .ok (.iand, 1) := by decide +kernel
theorem dX6_throwsMore_20 : decode cX6_throwsMore 20 = .ok (.iconst 1, 1) := by decide +kernel
theorem dX6_throwsMore_21 : decode cX6_throwsMore 21 = .ok (.if_icmp .ne 70, 3) := by decide +kernel
theorem dX6_throwsMore_24 : decode cX6_throwsMore 24 = .ok (.aload_n 0, 1) := by decide +kernel
theorem dX6_throwsMore_25 : decode cX6_throwsMore 25 = .ok (.getfield 32, 3) := by decide +kernel
theorem dX6_throwsMore_28 : decode cX6_throwsMore 28 = .ok (.iload_n 3, 1) := by decide +kernel
theorem dX6_throwsMore_29 : decode cX6_throwsMore 29 = .ok (.baload, 1) := by decide +kernel
theorem dX6_throwsMore_30 : decode cX6_throwsMore 30 = .ok (.ifCond .eq 61, 3) := by decide +kernel
theorem dX6_throwsMore_33 : decode cX6_throwsMore 33 = .ok (.iconst 0, 1) := by decide +kernel
theorem dX6_throwsMore_34 : decode cX6_throwsMore 34 = .ok (.istore 4, 2) := by decide +kernel
theorem dX6_throwsMore_36 : decode cX6_throwsMore 36 = .ok (.iload_n 3, 1) := by decide +kernel
theorem dX6_throwsMore_37 : decode cX6_throwsMore 37 = .ok (.istore 5, 2) := by decide +kernel
theorem dX6_throwsMore_39 : decode cX6_throwsMore 39 = .ok (.iload 5, 2) := by decide +kernel
theorem dX6_throwsMore_41 : decode cX6_throwsMore 41 = .ok (.iconst (-1), 1) := by decide +kernel
theorem dX6_throwsMore_42 : decode cX6_throwsMore 42 = .ok (.if_icmp .eq 42, 3) := by decide +kernel
theorem dX6_throwsMore_45 : decode cX6_throwsMore 45 = .ok (.iload 4, 2) := by decide +kernel
theorem dX6_throwsMore_47 : decode cX6_throwsMore 47 = .ok (.ifCond .ne 18, 3) := by decide +kernel
theorem dX6_throwsMore_50 : decode cX6_throwsMore 50 = .ok (.aload_n 0, 1) := by decide +kernel
theorem dX6_throwsMore_51 : decode cX6_throwsMore 51 = .ok (.getfield 47, 3) := by decide +kernel
theorem dX6_throwsMore_54 : decode cX6_throwsMore 54 = .ok (.iload_n 2, 1) := by decide +kernel
theorem dX6_throwsMore_55 : decode cX6_throwsMore 55 = .ok (.iaload, 1) := by decide +kernel
theorem dX6_throwsMore_56 : decode cX6_throwsMore 56 = .ok (.iload 5, 2) := by decide +kernel
theorem dX6_throwsMore_58 : decode cX6_throwsMore 58 = .ok (.ishr, 1) := by decide +kernel
theorem dX6_throwsMore_59 : decode cX6_throwsMore 59 = .ok (.iconst 1, 1) := by decide +kernel
theorem dX6_throwsMore_60 : decode cX6_throwsMore 60 = .ok (.iand, 1) := by decide +kernel
theorem dX6_throwsMore_61 : decode cX6_throwsMore 61 = .ok (.iconst 1, 1) := by decide +kernel
theorem dX6_throwsMore_62 : decode cX6_throwsMore 62 = .ok (.if_icmp .ne 7, 3) := by decide +kernel
theorem dX6_throwsMore_65 : decode cX6_throwsMore 65 = .ok (.iconst 1, 1) := by decide +kernel
theorem dX6_throwsMore_66 : decode cX6_throwsMore 66 = .ok (.goto 4, 3) := by decide +kernel
theorem dX6_throwsMore_69 : decode cX6_throwsMore 69 = .ok (.iconst 0, 1) := by decide +kernel
theorem dX6_throwsMore_70 : decode cX6_throwsMore 70 = .ok (.istore 4, 2) := by decide +kernel
theorem dX6_throwsMore_72 : decode cX6_throwsMore 72 = .ok (.aload_n 0, 1) := by decide +kernel
theorem dX6_throwsMore_73 : decode cX6_throwsMore 73 = .ok (.getfield 29, 3) := by decide +kernel
theorem dX6_throwsMore_76 : decode cX6_throwsMore 76 = .ok (.iload 5, 2) := by decide +kernel
theorem dX6_throwsMore_78 : decode cX6_throwsMore 78 = .ok (.iaload, 1) := by decide +kernel
theorem dX6_throwsMore_79 : decode cX6_throwsMore 79 = .ok (.istore 5, 2) := by decide +kernel
theorem dX6_throwsMore_81 : decode cX6_throwsMore 81 = .ok (.goto (-42), 3) := by decide +kernel
theorem dX6_throwsMore_84 : decode cX6_throwsMore 84 = .ok (.iload 4, 2) := by decide +kernel
theorem dX6_throwsMore_86 : decode cX6_throwsMore 86 = .ok (.ifCond .ne 5, 3) := by decide +kernel
theorem dX6_throwsMore_89 : decode cX6_throwsMore 89 = .ok (.iconst 1, 1) := by decide +kernel
theorem dX6_throwsMore_90 : decode cX6_throwsMore 90 = .ok (.ireturn, 1) := by decide +kernel
theorem dX6_throwsMore_91 : decode cX6_throwsMore 91 = .ok (.iinc 3 1, 3) := by decide +kernel
theorem dX6_throwsMore_94 : decode cX6_throwsMore 94 = .ok (.goto (-92), 3) := by decide +kernel
theorem dX6_throwsMore_97 : decode cX6_throwsMore 97 = .ok (.iconst 0, 1) := by decide +kernel
theorem dX6_throwsMore_98 : decode cX6_throwsMore 98 = .ok (.ireturn, 1) := by decide +kernel
theorem dX6_has_0 : decode cX6_has 0 = .ok (.aload_n 0, 1) := by decide +kernel
theorem dX6_has_1 : decode cX6_has 1 = .ok (.getfield 44, 3) := by decide +kernel
theorem dX6_has_4 : decode cX6_has 4 = .ok (.iload_n 1, 1) := by decide +kernel
theorem dX6_has_5 : decode cX6_has 5 = .ok (.iaload, 1) := by decide +kernel
theorem dX6_has_6 : decode cX6_has 6 = .ok (.iload_n 2, 1) := by decide +kernel
theorem dX6_has_7 : decode cX6_has 7 = .ok (.iand, 1) := by decide +kernel
theorem dX6_has_8 : decode cX6_has 8 = .ok (.ifCond .eq 7, 3) := by decide +kernel
theorem dX6_has_11 : decode cX6_has 11 = .ok (.iconst 1, 1) := by decide +kernel
theorem dX6_has_12 : decode cX6_has 12 = .ok (.goto 4, 3) := by decide +kernel
theorem dX6_has_15 : decode cX6_has 15 = .ok (.iconst 0, 1) := by decide +kernel
theorem dX6_has_16 : decode cX6_has 16 = .ok (.ireturn, 1) := by decide +kernel
theorem dX6_isStatic_0 : decode cX6_isStatic 0 = .ok (.aload_n 0, 1) := by decide +kernel
theorem dX6_isStatic_1 : decode cX6_isStatic 1 = .ok (.iload_n 1, 1) := by decide +kernel
theorem dX6_isStatic_2 : decode cX6_isStatic 2 = .ok (.bipush 8, 2) := by decide +kernel
theorem dX6_isStatic_4 : decode cX6_isStatic 4 = .ok (.invokevirtual 100, 3) := by decide +kernel
theorem dX6_isStatic_7 : decode cX6_isStatic 7 = .ok (.ireturn, 1) := by decide +kernel
theorem dX6_isPrivate_0 : decode cX6_isPrivate 0 = .ok (.aload_n 0, 1) := by decide +kernel
theorem dX6_isPrivate_1 : decode cX6_isPrivate 1 = .ok (.iload_n 1, 1) := by decide +kernel
theorem dX6_isPrivate_2 : decode cX6_isPrivate 2 = .ok (.iconst 4, 1) := by decide +kernel
theorem dX6_isPrivate_3 : decode cX6_isPrivate 3 = .ok (.invokevirtual 100, 3) := by decide +kernel
theorem dX6_isPrivate_6 : decode cX6_isPrivate 6 = .ok (.ireturn, 1) := by decide +kernel
theorem dX6_isInterface_0 : decode cX6_isInterface 0 = .ok (.aload_n 0, 1) := by decide +kernel
theorem dX6_isInterface_1 : decode cX6_isInterface 1 = .ok (.getfield 7, 3) := by decide +kernel
theorem dX6_isInterface_4 : decode cX6_isInterface 4 = .ok (.aload_n 0, 1) := by decide +kernel
theorem dX6_isInterface_5 : decode cX6_isInterface 5 = .ok (.getfield 35, 3) := by decide +kernel
theorem dX6_isInterface_8 : decode cX6_isInterface 8 = .ok (.iload_n 1, 1) := by decide +kernel
theorem dX6_isInterface_9 : decode cX6_isInterface 9 = .ok (.iaload, 1) := by decide +kernel
theorem dX6_isInterface_10 : decode cX6_isInterface 10 = .ok (.iaload, 1) := by decide +kernel
theorem dX6_isInterface_11 : decode cX6_isInterface 11 = .ok (.iconst 2, 1) := by decide +kernel
theorem dX6_isInterface_12 : decode cX6_isInterface 12 = .ok (.if_icmp .ne 7, 3) := by decide +kernel
theorem dX6_isInterface_15 : decode cX6_isInterface 15 = .ok (.iconst 1, 1) := by decide +kernel
theorem dX6_isInterface_16 : decode cX6_isInterface 16 = .ok (.goto 4, 3) := by decide +kernel
theorem dX6_isInterface_19 : decode cX6_isInterface 19 = .ok (.iconst 0, 1) := by decide +kernel
theorem dX6_isInterface_20 : decode cX6_isInterface 20 = .ok (.ireturn, 1) := by decide +kernel
theorem dX6_one_0 : decode cX6_one 0 = .ok (.iload_n 0, 1) := by decide +kernel
theorem dX6_one_1 : decode cX6_one 1 = .ok (.iload_n 1, 1) := by decide +kernel
theorem dX6_one_2 : decode cX6_one 2 = .ok (.iand, 1) := by decide +kernel
theorem dX6_one_3 : decode cX6_one 3 = .ok (.ifCond .ne 7, 3) := by decide +kernel
theorem dX6_one_6 : decode cX6_one 6 = .ok (.iconst 0, 1) := by decide +kernel
theorem dX6_one_7 : decode cX6_one 7 = .ok (.goto 4, 3) := by decide +kernel
theorem dX6_one_10 : decode cX6_one 10 = .ok (.iconst 1, 1) := by decide +kernel
theorem dX6_one_11 : decode cX6_one 11 = .ok (.ireturn, 1) := by decide +kernel
theorem dX6_mayBe_0 : decode cX6_mayBe 0 = .ok (.iload_n 1, 1) := by decide +kernel
theorem dX6_mayBe_1 : decode cX6_mayBe 1 = .ok (.iconst 0, 1) := by decide +kernel
theorem dX6_mayBe_2 : decode cX6_mayBe 2 = .ok (.sipush 255, 3) := by decide +kernel
theorem dX6_mayBe_5 : decode cX6_mayBe 5 = .ok (.invokestatic 66, 3) := by decide +kernel
theorem dX6_mayBe_8 : decode cX6_mayBe 8 = .ok (.ifCond .eq 24, 3) := by decide +kernel
theorem dX6_mayBe_11 : decode cX6_mayBe 11 = .ok (.iload_n 1, 1) := by decide +kernel
theorem dX6_mayBe_12 : decode cX6_mayBe 12 = .ok (.iconst 1, 1) := by decide +kernel
theorem dX6_mayBe_13 : decode cX6_mayBe 13 = .ok (.invokestatic 103, 3) := by decide +kernel
theorem dX6_mayBe_16 : decode cX6_mayBe 16 = .ok (.iload_n 1, 1) := by decide +kernel
theorem dX6_mayBe_17 : decode cX6_mayBe 17 = .ok (.iconst 2, 1) := by decide +kernel
theorem dX6_mayBe_18 : decode cX6_mayBe 18 = .ok (.invokestatic 103, 3) := by decide +kernel
theorem dX6_mayBe_21 : decode cX6_mayBe 21 = .ok (.iadd, 1) := by decide +kernel
theorem dX6_mayBe_22 : decode cX6_mayBe 22 = .ok (.iload_n 1, 1) := by decide +kernel
theorem dX6_mayBe_23 : decode cX6_mayBe 23 = .ok (.iconst 4, 1) := by decide +kernel
theorem dX6_mayBe_24 : decode cX6_mayBe 24 = .ok (.invokestatic 103, 3) := by decide +kernel
theorem dX6_mayBe_27 : decode cX6_mayBe 27 = .ok (.iadd, 1) := by decide +kernel
theorem dX6_mayBe_28 : decode cX6_mayBe 28 = .ok (.iconst 1, 1) := by decide +kernel
theorem dX6_mayBe_29 : decode cX6_mayBe 29 = .ok (.if_icmp .le 5, 3) := by decide +kernel
theorem dX6_mayBe_32 : decode cX6_mayBe 32 = .ok (.iconst 0, 1) := by decide +kernel
theorem dX6_mayBe_33 : decode cX6_mayBe 33 = .ok (.ireturn, 1) := by decide +kernel
theorem dX6_mayBe_34 : decode cX6_mayBe 34 = .ok (.iload_n 0, 1) := by decide +kernel
theorem dX6_mayBe_35 : decode cX6_mayBe 35 = .ok (.iconst 2, 1) := by decide +kernel
theorem dX6_mayBe_36 : decode cX6_mayBe 36 = .ok (.if_icmp .ge 49, 3) := by decide +kernel
theorem dX6_mayBe_39 : decode cX6_mayBe 39 = .ok (.iload_n 1, 1) := by decide +kernel
theorem dX6_mayBe_40 : decode cX6_mayBe 40 = .ok (.bipush 64, 2) := by decide +kernel
theorem dX6_mayBe_42 : decode cX6_mayBe 42 = .ok (.invokestatic 103, 3) := by decide +kernel
theorem dX6_mayBe_45 : decode cX6_mayBe 45 = .ok (.ifCond .ne 38, 3) := by decide +kernel
theorem dX6_mayBe_48 : decode cX6_mayBe 48 = .ok (.iload_n 1, 1) := by decide +kernel
theorem dX6_mayBe_49 : decode cX6_mayBe 49 = .ok (.bipush 32, 2) := by decide +kernel
theorem dX6_mayBe_51 : decode cX6_mayBe 51 = .ok (.invokestatic 103, 3) := by decide +kernel
theorem dX6_mayBe_54 : decode cX6_mayBe 54 = .ok (.ifCond .eq 25, 3) := by decide +kernel
theorem dX6_mayBe_57 : decode cX6_mayBe 57 = .ok (.iload_n 1, 1) := by decide +kernel
theorem dX6_mayBe_58 : decode cX6_mayBe 58 = .ok (.iconst 4, 1) := by decide +kernel
theorem dX6_mayBe_59 : decode cX6_mayBe 59 = .ok (.invokestatic 103, 3) := by decide +kernel
theorem dX6_mayBe_62 : decode cX6_mayBe 62 = .ok (.iload_n 1, 1) := by decide +kernel
theorem dX6_mayBe_63 : decode cX6_mayBe 63 = .ok (.bipush 8, 2) := by decide +kernel
theorem dX6_mayBe_65 : decode cX6_mayBe 65 = .ok (.invokestatic 103, 3) := by decide +kernel
theorem dX6_mayBe_68 : decode cX6_mayBe 68 = .ok (.iadd, 1) := by decide +kernel
theorem dX6_mayBe_69 : decode cX6_mayBe 69 = .ok (.iload_n 1, 1) := by decide +kernel
theorem dX6_mayBe_70 : decode cX6_mayBe 70 = .ok (.bipush 16, 2) := by decide +kernel
theorem dX6_mayBe_72 : decode cX6_mayBe 72 = .ok (.invokestatic 103, 3) := by decide +kernel
theorem dX6_mayBe_75 : decode cX6_mayBe 75 = .ok (.iadd, 1) := by decide +kernel
theorem dX6_mayBe_76 : decode cX6_mayBe 76 = .ok (.ifCond .ne 7, 3) := by decide +kernel
theorem dX6_mayBe_79 : decode cX6_mayBe 79 = .ok (.iconst 1, 1) := by decide +kernel
theorem dX6_mayBe_80 : decode cX6_mayBe 80 = .ok (.goto 4, 3) := by decide +kernel
theorem dX6_mayBe_83 : decode cX6_mayBe 83 = .ok (.iconst 0, 1) := by decide +kernel
theorem dX6_mayBe_84 : decode cX6_mayBe 84 = .ok (.ireturn, 1) := by decide +kernel
theorem dX6_mayBe_85 : decode cX6_mayBe 85 = .ok (.iload_n 1, 1) := by decide +kernel
theorem dX6_mayBe_86 : decode cX6_mayBe 86 = .ok (.iconst 4, 1) := by decide +kernel
theorem dX6_mayBe_87 : decode cX6_mayBe 87 = .ok (.invokestatic 103, 3) := by decide +kernel
theorem dX6_mayBe_90 : decode cX6_mayBe 90 = .ok (.iload_n 1, 1) := by decide +kernel
theorem dX6_mayBe_91 : decode cX6_mayBe 91 = .ok (.bipush 8, 2) := by decide +kernel
theorem dX6_mayBe_93 : decode cX6_mayBe 93 = .ok (.invokestatic 103, 3) := by decide +kernel
theorem dX6_mayBe_96 : decode cX6_mayBe 96 = .ok (.iadd, 1) := by decide +kernel
theorem dX6_mayBe_97 : decode cX6_mayBe 97 = .ok (.iload_n 1, 1) := by decide +kernel
theorem dX6_mayBe_98 : decode cX6_mayBe 98 = .ok (.bipush 32, 2) := by decide +kernel
theorem dX6_mayBe_100 : decode cX6_mayBe 100 = .ok (.invokestatic 103, 3) := by decide +kernel
theorem dX6_mayBe_103 : decode cX6_mayBe 103 = .ok (.iadd, 1) := by decide +kernel
theorem dX6_mayBe_104 : decode cX6_mayBe 104 = .ok (.iload_n 1, 1) := by decide +kernel
theorem dX6_mayBe_105 : decode cX6_mayBe 105 = .ok (.bipush 64, 2) := by decide +kernel
theorem dX6_mayBe_107 : decode cX6_mayBe 107 = .ok (.invokestatic 103, 3) := by decide +kernel
theorem dX6_mayBe_110 : decode cX6_mayBe 110 = .ok (.iadd, 1) := by decide +kernel
theorem dX6_mayBe_111 : decode cX6_mayBe 111 = .ok (.istore_n 2, 1) := by decide +kernel
theorem dX6_mayBe_112 : decode cX6_mayBe 112 = .ok (.iload_n 1, 1) := by decide +kernel
theorem dX6_mayBe_113 : decode cX6_mayBe 113 = .ok (.iconst 2, 1) := by decide +kernel
theorem dX6_mayBe_114 : decode cX6_mayBe 114 = .ok (.invokestatic 103, 3) := by decide +kernel
theorem dX6_mayBe_117 : decode cX6_mayBe 117 = .ok (.iload_n 1, 1) := by decide +kernel
theorem dX6_mayBe_118 : decode cX6_mayBe 118 = .ok (.bipush 16, 2) := by decide +kernel
theorem dX6_mayBe_120 : decode cX6_mayBe 120 = .ok (.invokestatic 103, 3) := by decide +kernel
theorem dX6_mayBe_123 : decode cX6_mayBe 123 = .ok (.iadd, 1) := by decide +kernel
theorem dX6_mayBe_124 : decode cX6_mayBe 124 = .ok (.ifCond .ne 33, 3) := by decide +kernel
theorem dX6_mayBe_127 : decode cX6_mayBe 127 = .ok (.iload_n 2, 1) := by decide +kernel
theorem dX6_mayBe_128 : decode cX6_mayBe 128 = .ok (.iconst 1, 1) := by decide +kernel
theorem dX6_mayBe_129 : decode cX6_mayBe 129 = .ok (.if_icmp .eq 24, 3) := by decide +kernel
theorem dX6_mayBe_132 : decode cX6_mayBe 132 = .ok (.iload_n 2, 1) := by decide +kernel
theorem dX6_mayBe_133 : decode cX6_mayBe 133 = .ok (.iconst 2, 1) := by decide +kernel
theorem dX6_mayBe_134 : decode cX6_mayBe 134 = .ok (.if_icmp .ne 23, 3) := by decide +kernel
theorem dX6_mayBe_137 : decode cX6_mayBe 137 = .ok (.iload_n 1, 1) := by decide +kernel
theorem dX6_mayBe_138 : decode cX6_mayBe 138 = .ok (.iconst 4, 1) := by decide +kernel
theorem dX6_mayBe_139 : decode cX6_mayBe 139 = .ok (.invokestatic 103, 3) := by decide +kernel
theorem dX6_mayBe_142 : decode cX6_mayBe 142 = .ok (.iload_n 1, 1) := by decide +kernel
theorem dX6_mayBe_143 : decode cX6_mayBe 143 = .ok (.bipush 8, 2) := by decide +kernel
theorem dX6_mayBe_145 : decode cX6_mayBe 145 = .ok (.invokestatic 103, 3) := by decide +kernel
theorem dX6_mayBe_148 : decode cX6_mayBe 148 = .ok (.iadd, 1) := by decide +kernel
theorem dX6_mayBe_149 : decode cX6_mayBe 149 = .ok (.iconst 2, 1) := by decide +kernel
theorem dX6_mayBe_150 : decode cX6_mayBe 150 = .ok (.if_icmp .ne 7, 3) := by decide +kernel
theorem dX6_mayBe_153 : decode cX6_mayBe 153 = .ok (.iconst 1, 1) := by decide +kernel
theorem dX6_mayBe_154 : decode cX6_mayBe 154 = .ok (.goto 4, 3) := by decide +kernel
theorem dX6_mayBe_157 : decode cX6_mayBe 157 = .ok (.iconst 0, 1) := by decide +kernel
theorem dX6_mayBe_158 : decode cX6_mayBe 158 = .ok (.ireturn, 1) := by decide +kernel
theorem dX6_member_0 : decode cX6_member 0 = .ok (.aload_n 0, 1) := by decide +kernel
theorem dX6_member_1 : decode cX6_member 1 = .ok (.iload_n 1, 1) := by decide +kernel
theorem dX6_member_2 : decode cX6_member 2 = .ok (.invokevirtual 83, 3) := by decide +kernel
theorem dX6_member_5 : decode cX6_member 5 = .ok (.ifCond .eq 16, 3) := by decide +kernel
theorem dX6_member_8 : decode cX6_member 8 = .ok (.iload_n 3, 1) := by decide +kernel
theorem dX6_member_9 : decode cX6_member 9 = .ok (.aload_n 0, 1) := by decide +kernel
theorem dX6_member_10 : decode cX6_member 10 = .ok (.getfield 62, 3) := by decide +kernel
theorem dX6_member_13 : decode cX6_member 13 = .ok (.bipush 15, 2) := by decide +kernel
theorem dX6_member_15 : decode cX6_member 15 = .ok (.invokestatic 66, 3) := by decide +kernel
theorem dX6_member_18 : decode cX6_member 18 = .ok (.ifCond .eq 6, 3) := by decide +kernel
theorem dX6_member_21 : decode cX6_member 21 = .ok (.bipush (-2), 2) := by decide +kernel
theorem dX6_member_23 : decode cX6_member 23 = .ok (.ireturn, 1) := by decide +kernel
theorem dX6_member_24 : decode cX6_member 24 = .ok (.iload_n 2, 1) := by decide +kernel
theorem dX6_member_25 : decode cX6_member 25 = .ok (.iconst 0, 1) := by decide +kernel
theorem dX6_member_26 : decode cX6_member 26 = .ok (.bipush 7, 2) := by decide +kernel
theorem dX6_member_28 : decode cX6_member 28 = .ok (.invokestatic 66, 3) := by decide +kernel
theorem dX6_member_31 : decode cX6_member 31 = .ok (.ifCond .eq 31, 3) := by decide +kernel
theorem dX6_member_34 : decode cX6_member 34 = .ok (.iload_n 3, 1) := by decide +kernel
theorem dX6_member_35 : decode cX6_member 35 = .ok (.iconst 0, 1) := by decide +kernel
theorem dX6_member_36 : decode cX6_member 36 = .ok (.bipush 19, 2) := by decide +kernel
theorem dX6_member_38 : decode cX6_member 38 = .ok (.invokestatic 66, 3) := by decide +kernel
theorem dX6_member_41 : decode cX6_member 41 = .ok (.ifCond .eq 21, 3) := by decide +kernel
theorem dX6_member_44 : decode cX6_member 44 = .ok (.aload_n 0, 1) := by decide +kernel
theorem dX6_member_45 : decode cX6_member 45 = .ok (.getfield 7, 3) := by decide +kernel
theorem dX6_member_48 : decode cX6_member 48 = .ok (.iload_n 1, 1) := by decide +kernel
theorem dX6_member_49 : decode cX6_member 49 = .ok (.iaload, 1) := by decide +kernel
theorem dX6_member_50 : decode cX6_member 50 = .ok (.iload 4, 2) := by decide +kernel
theorem dX6_member_52 : decode cX6_member 52 = .ok (.invokestatic 107, 3) := by decide +kernel
theorem dX6_member_55 : decode cX6_member 55 = .ok (.ifCond .eq 7, 3) := by decide +kernel
theorem dX6_member_58 : decode cX6_member 58 = .ok (.iconst 1, 1) := by decide +kernel
theorem dX6_member_59 : decode cX6_member 59 = .ok (.goto 4, 3) := by decide +kernel
theorem dX6_member_62 : decode cX6_member 62 = .ok (.iconst 0, 1) := by decide +kernel
theorem dX6_member_63 : decode cX6_member 63 = .ok (.istore 5, 2) := by decide +kernel
theorem dX6_member_65 : decode cX6_member 65 = .ok (.iconst 0, 1) := by decide +kernel
theorem dX6_member_66 : decode cX6_member 66 = .ok (.istore 6, 2) := by decide +kernel
theorem dX6_member_68 : decode cX6_member 68 = .ok (.iload 6, 2) := by decide +kernel
theorem dX6_member_70 : decode cX6_member 70 = .ok (.aload_n 0, 1) := by decide +kernel
theorem dX6_member_71 : decode cX6_member 71 = .ok (.getfield 70, 3) := by decide +kernel
theorem dX6_member_74 : decode cX6_member 74 = .ok (.if_icmp .ge 43, 3) := by decide +kernel
theorem dX6_member_77 : decode cX6_member 77 = .ok (.iload 5, 2) := by decide +kernel
theorem dX6_member_79 : decode cX6_member 79 = .ok (.ifCond .eq 29, 3) := by decide +kernel
theorem dX6_member_82 : decode cX6_member 82 = .ok (.aload_n 0, 1) := by decide +kernel
theorem dX6_member_83 : decode cX6_member 83 = .ok (.getfield 35, 3) := by decide +kernel
theorem dX6_member_86 : decode cX6_member 86 = .ok (.iload 6, 2) := by decide +kernel
theorem dX6_member_88 : decode cX6_member 88 = .ok (.iaload, 1) := by decide +kernel
theorem dX6_member_89 : decode cX6_member 89 = .ok (.iload_n 1, 1) := by decide +kernel
theorem dX6_member_90 : decode cX6_member 90 = .ok (.if_icmp .ne 14, 3) := by decide +kernel
theorem dX6_member_93 : decode cX6_member 93 = .ok (.aload_n 0, 1) := by decide +kernel
theorem dX6_member_94 : decode cX6_member 94 = .ok (.getfield 38, 3) := by decide +kernel
theorem dX6_member_97 : decode cX6_member 97 = .ok (.iload 6, 2) := by decide +kernel
theorem dX6_member_99 : decode cX6_member 99 = .ok (.iaload, 1) := by decide +kernel
theorem dX6_member_100 : decode cX6_member 100 = .ok (.iload_n 2, 1) := by decide +kernel
theorem dX6_member_101 : decode cX6_member 101 = .ok (.if_icmp .eq 7, 3) := by decide +kernel
theorem dX6_member_104 : decode cX6_member 104 = .ok (.iconst 1, 1) := by decide +kernel
theorem dX6_member_105 : decode cX6_member 105 = .ok (.goto 4, 3) := by decide +kernel
theorem dX6_member_108 : decode cX6_member 108 = .ok (.iconst 0, 1) := by decide +kernel
theorem dX6_member_109 : decode cX6_member 109 = .ok (.istore 5, 2) := by decide +kernel
theorem dX6_member_111 : decode cX6_member 111 = .ok (.iinc 6 1, 3) := by decide +kernel
theorem dX6_member_114 : decode cX6_member 114 = .ok (.goto (-46), 3) := by decide +kernel
theorem dX6_member_117 : decode cX6_member 117 = .ok (.iload 5, 2) := by decide +kernel
theorem dX6_member_119 : decode cX6_member 119 = .ok (.ifCond .ne 6, 3) := by decide +kernel
theorem dX6_member_122 : decode cX6_member 122 = .ok (.bipush (-3), 2) := by decide +kernel
theorem dX6_member_124 : decode cX6_member 124 = .ok (.ireturn, 1) := by decide +kernel
theorem dX6_member_125 : decode cX6_member 125 = .ok (.aload_n 0, 1) := by decide +kernel
theorem dX6_member_126 : decode cX6_member 126 = .ok (.getfield 70, 3) := by decide +kernel
theorem dX6_member_129 : decode cX6_member 129 = .ok (.bipush 60, 2) := by decide +kernel
theorem dX6_member_131 : decode cX6_member 131 = .ok (.if_icmp .ne 6, 3) := by decide +kernel
theorem dX6_member_134 : decode cX6_member 134 = .ok (.bipush (-4), 2) := by decide +kernel
theorem dX6_member_136 : decode cX6_member 136 = .ok (.ireturn, 1) := by decide +kernel
theorem dX6_member_137 : decode cX6_member 137 = .ok (.aload_n 0, 1) := by decide +kernel
theorem dX6_member_138 : decode cX6_member 138 = .ok (.getfield 35, 3) := by decide +kernel
theorem dX6_member_141 : decode cX6_member 141 = .ok (.aload_n 0, 1) := by decide +kernel
theorem dX6_member_142 : decode cX6_member 142 = .ok (.getfield 70, 3) := by decide +kernel
theorem dX6_member_145 : decode cX6_member 145 = .ok (.iload_n 1, 1) := by decide +kernel
theorem dX6_member_146 : decode cX6_member 146 = .ok (.iastore, 1) := by decide +kernel
theorem dX6_member_147 : decode cX6_member 147 = .ok (.aload_n 0, 1) := by decide +kernel
theorem dX6_member_148 : decode cX6_member 148 = .ok (.getfield 38, 3) := by decide +kernel
theorem dX6_member_151 : decode cX6_member 151 = .ok (.aload_n 0, 1) := by decide +kernel
theorem dX6_member_152 : decode cX6_member 152 = .ok (.getfield 70, 3) := by decide +kernel
theorem dX6_member_155 : decode cX6_member 155 = .ok (.iload_n 2, 1) := by decide +kernel
theorem dX6_member_156 : decode cX6_member 156 = .ok (.iastore, 1) := by decide +kernel
theorem dX6_member_157 : decode cX6_member 157 = .ok (.aload_n 0, 1) := by decide +kernel
theorem dX6_member_158 : decode cX6_member 158 = .ok (.getfield 41, 3) := by decide +kernel
theorem dX6_member_161 : decode cX6_member 161 = .ok (.aload_n 0, 1) := by decide +kernel
theorem dX6_member_162 : decode cX6_member 162 = .ok (.getfield 70, 3) := by decide +kernel
theorem dX6_member_165 : decode cX6_member 165 = .ok (.iload_n 3, 1) := by decide +kernel
theorem dX6_member_166 : decode cX6_member 166 = .ok (.iastore, 1) := by decide +kernel
theorem dX6_member_167 : decode cX6_member 167 = .ok (.aload_n 0, 1) := by decide +kernel
theorem dX6_member_168 : decode cX6_member 168 = .ok (.getfield 44, 3) := by decide +kernel
theorem dX6_member_171 : decode cX6_member 171 = .ok (.aload_n 0, 1) := by decide +kernel
theorem dX6_member_172 : decode cX6_member 172 = .ok (.getfield 70, 3) := by decide +kernel
theorem dX6_member_175 : decode cX6_member 175 = .ok (.iload 4, 2) := by decide +kernel
theorem dX6_member_177 : decode cX6_member 177 = .ok (.iastore, 1) := by decide +kernel
theorem dX6_member_178 : decode cX6_member 178 = .ok (.aload_n 0, 1) := by decide +kernel
theorem dX6_member_179 : decode cX6_member 179 = .ok (.getfield 47, 3) := by decide +kernel
theorem dX6_member_182 : decode cX6_member 182 = .ok (.aload_n 0, 1) := by decide +kernel
theorem dX6_member_183 : decode cX6_member 183 = .ok (.getfield 70, 3) := by decide +kernel
theorem dX6_member_186 : decode cX6_member 186 = .ok (.iconst 0, 1) := by decide +kernel
theorem dX6_member_187 : decode cX6_member 187 = .ok (.iastore, 1) := by decide +kernel
theorem dX6_member_188 : decode cX6_member 188 = .ok (.aload_n 0, 1) := by decide +kernel
theorem dX6_member_189 : decode cX6_member 189 = .ok (.dup, 1) := by decide +kernel
theorem dX6_member_190 : decode cX6_member 190 = .ok (.getfield 70, 3) := by decide +kernel
theorem dX6_member_193 : decode cX6_member 193 = .ok (.iconst 1, 1) := by decide +kernel
theorem dX6_member_194 : decode cX6_member 194 = .ok (.iadd, 1) := by decide +kernel
theorem dX6_member_195 : decode cX6_member 195 = .ok (.putfield 70, 3) := by decide +kernel
theorem dX6_member_198 : decode cX6_member 198 = .ok (.aload_n 0, 1) := by decide +kernel
theorem dX6_member_199 : decode cX6_member 199 = .ok (.invokevirtual 80, 3) := by decide +kernel
theorem dX6_member_202 : decode cX6_member 202 = .ok (.aload_n 0, 1) := by decide +kernel
theorem dX6_member_203 : decode cX6_member 203 = .ok (.getfield 70, 3) := by decide +kernel
theorem dX6_member_206 : decode cX6_member 206 = .ok (.iconst 1, 1) := by decide +kernel
theorem dX6_member_207 : decode cX6_member 207 = .ok (.isub, 1) := by decide +kernel
theorem dX6_member_208 : decode cX6_member 208 = .ok (.ireturn, 1) := by decide +kernel
theorem dX6_access_0 : decode cX6_access 0 = .ok (.aload_n 0, 1) := by decide +kernel
theorem dX6_access_1 : decode cX6_access 1 = .ok (.iload_n 1, 1) := by decide +kernel
theorem dX6_access_2 : decode cX6_access 2 = .ok (.iconst 4, 1) := by decide +kernel
theorem dX6_access_3 : decode cX6_access 3 = .ok (.invokevirtual 100, 3) := by decide +kernel
theorem dX6_access_6 : decode cX6_access 6 = .ok (.ifCond .eq 7, 3) := by decide +kernel
theorem dX6_access_9 : decode cX6_access 9 = .ok (.iconst 0, 1) := by decide +kernel
theorem dX6_access_10 : decode cX6_access 10 = .ok (.goto 38, 3) := by decide +kernel
theorem dX6_access_13 : decode cX6_access 13 = .ok (.aload_n 0, 1) := by decide +kernel
theorem dX6_access_14 : decode cX6_access 14 = .ok (.iload_n 1, 1) := by decide +kernel
theorem dX6_access_15 : decode cX6_access 15 = .ok (.iconst 1, 1) := by decide +kernel
theorem dX6_access_16 : decode cX6_access 16 = .ok (.invokevirtual 100, 3) := by decide +kernel
theorem dX6_access_19 : decode cX6_access 19 = .ok (.ifCond .ne 11, 3) := by decide +kernel
theorem dX6_access_22 : decode cX6_access 22 = .ok (.aload_n 0, 1) := by decide +kernel
theorem dX6_access_23 : decode cX6_access 23 = .ok (.iload_n 1, 1) := by decide +kernel
theorem dX6_access_24 : decode cX6_access 24 = .ok (.invokevirtual 110, 3) := by decide +kernel
theorem dX6_access_27 : decode cX6_access 27 = .ok (.ifCond .eq 7, 3) := by decide +kernel
theorem dX6_access_30 : decode cX6_access 30 = .ok (.iconst 3, 1) := by decide +kernel
theorem dX6_access_31 : decode cX6_access 31 = .ok (.goto 17, 3) := by decide +kernel
theorem dX6_access_34 : decode cX6_access 34 = .ok (.aload_n 0, 1) := by decide +kernel
theorem dX6_access_35 : decode cX6_access 35 = .ok (.iload_n 1, 1) := by decide +kernel
theorem dX6_access_36 : decode cX6_access 36 = .ok (.iconst 2, 1) := by decide +kernel
theorem dX6_access_37 : decode cX6_access 37 = .ok (.invokevirtual 100, 3) := by decide +kernel
theorem dX6_access_40 : decode cX6_access 40 = .ok (.ifCond .eq 7, 3) := by decide +kernel
theorem dX6_access_43 : decode cX6_access 43 = .ok (.iconst 2, 1) := by decide +kernel
theorem dX6_access_44 : decode cX6_access 44 = .ok (.goto 4, 3) := by decide +kernel
theorem dX6_access_47 : decode cX6_access 47 = .ok (.iconst 1, 1) := by decide +kernel
theorem dX6_access_48 : decode cX6_access 48 = .ok (.ireturn, 1) := by decide +kernel
theorem dX6_suits_0 : decode cX6_suits 0 = .ok (.iload_n 1, 1) := by decide +kernel
theorem dX6_suits_1 : decode cX6_suits 1 = .ok (.iload_n 2, 1) := by decide +kernel
theorem dX6_suits_2 : decode cX6_suits 2 = .ok (.if_icmp .eq 24, 3) := by decide +kernel
theorem dX6_suits_5 : decode cX6_suits 5 = .ok (.iload_n 1, 1) := by decide +kernel
theorem dX6_suits_6 : decode cX6_suits 6 = .ok (.bipush 16, 2) := by decide +kernel
theorem dX6_suits_8 : decode cX6_suits 8 = .ok (.if_icmp .ge 22, 3) := by decide +kernel
theorem dX6_suits_11 : decode cX6_suits 11 = .ok (.iload_n 2, 1) := by decide +kernel
theorem dX6_suits_12 : decode cX6_suits 12 = .ok (.bipush 16, 2) := by decide +kernel
theorem dX6_suits_14 : decode cX6_suits 14 = .ok (.if_icmp .ge 16, 3) := by decide +kernel
theorem dX6_suits_17 : decode cX6_suits 17 = .ok (.aload_n 0, 1) := by decide +kernel
theorem dX6_suits_18 : decode cX6_suits 18 = .ok (.iload_n 1, 1) := by decide +kernel
theorem dX6_suits_19 : decode cX6_suits 19 = .ok (.iload_n 2, 1) := by decide +kernel
theorem dX6_suits_20 : decode cX6_suits 20 = .ok (.invokevirtual 94, 3) := by decide +kernel
theorem dX6_suits_23 : decode cX6_suits 23 = .ok (.ifCond .eq 7, 3) := by decide +kernel
theorem dX6_suits_26 : decode cX6_suits 26 = .ok (.iconst 1, 1) := by decide +kernel
theorem dX6_suits_27 : decode cX6_suits 27 = .ok (.goto 4, 3) := by decide +kernel
theorem dX6_suits_30 : decode cX6_suits 30 = .ok (.iconst 0, 1) := by decide +kernel
theorem dX6_suits_31 : decode cX6_suits 31 = .ok (.ireturn, 1) := by decide +kernel
theorem dX6_isSeen_0 : decode cX6_isSeen 0 = .ok (.aload_n 0, 1) := by decide +kernel
theorem dX6_isSeen_1 : decode cX6_isSeen 1 = .ok (.iload_n 2, 1) := by decide +kernel
theorem dX6_isSeen_2 : decode cX6_isSeen 2 = .ok (.invokevirtual 113, 3) := by decide +kernel
theorem dX6_isSeen_5 : decode cX6_isSeen 5 = .ok (.iconst 2, 1) := by decide +kernel
theorem dX6_isSeen_6 : decode cX6_isSeen 6 = .ok (.if_icmp .ge 28, 3) := by decide +kernel
theorem dX6_isSeen_9 : decode cX6_isSeen 9 = .ok (.aload_n 0, 1) := by decide +kernel
theorem dX6_isSeen_10 : decode cX6_isSeen 10 = .ok (.getfield 13, 3) := by decide +kernel
theorem dX6_isSeen_13 : decode cX6_isSeen 13 = .ok (.aload_n 0, 1) := by decide +kernel
theorem dX6_isSeen_14 : decode cX6_isSeen 14 = .ok (.getfield 35, 3) := by decide +kernel
theorem dX6_isSeen_17 : decode cX6_isSeen 17 = .ok (.iload_n 1, 1) := by decide +kernel
theorem dX6_isSeen_18 : decode cX6_isSeen 18 = .ok (.iaload, 1) := by decide +kernel
theorem dX6_isSeen_19 : decode cX6_isSeen 19 = .ok (.iaload, 1) := by decide +kernel
theorem dX6_isSeen_20 : decode cX6_isSeen 20 = .ok (.aload_n 0, 1) := by decide +kernel
theorem dX6_isSeen_21 : decode cX6_isSeen 21 = .ok (.getfield 13, 3) := by decide +kernel
theorem dX6_isSeen_24 : decode cX6_isSeen 24 = .ok (.aload_n 0, 1) := by decide +kernel
theorem dX6_isSeen_25 : decode cX6_isSeen 25 = .ok (.getfield 35, 3) := by decide +kernel
theorem dX6_isSeen_28 : decode cX6_isSeen 28 = .ok (.iload_n 2, 1) := by decide +kernel
theorem dX6_isSeen_29 : decode cX6_isSeen 29 = .ok (.iaload, 1) := by decide +kernel
theorem dX6_isSeen_30 : decode cX6_isSeen 30 = .ok (.iaload, 1) := by decide +kernel
theorem dX6_isSeen_31 : decode cX6_isSeen 31 = .ok (.if_icmp .ne 7, 3) := by decide +kernel
theorem dX6_isSeen_34 : decode cX6_isSeen 34 = .ok (.iconst 1, 1) := by decide +kernel
theorem dX6_isSeen_35 : decode cX6_isSeen 35 = .ok (.goto 4, 3) := by decide +kernel
theorem dX6_isSeen_38 : decode cX6_isSeen 38 = .ok (.iconst 0, 1) := by decide +kernel
theorem dX6_isSeen_39 : decode cX6_isSeen 39 = .ok (.ireturn, 1) := by decide +kernel
theorem dX6_work_0 : decode cX6_work 0 = .ok (.iconst 0, 1) := by decide +kernel
theorem dX6_work_1 : decode cX6_work 1 = .ok (.istore_n 1, 1) := by decide +kernel
theorem dX6_work_2 : decode cX6_work 2 = .ok (.iload_n 1, 1) := by decide +kernel
theorem dX6_work_3 : decode cX6_work 3 = .ok (.sipush 3600, 3) := by decide +kernel
theorem dX6_work_6 : decode cX6_work 6 = .ok (.if_icmp .ge 16, 3) := by decide +kernel
theorem dX6_work_9 : decode cX6_work 9 = .ok (.aload_n 0, 1) := by decide +kernel
theorem dX6_work_10 : decode cX6_work 10 = .ok (.getfield 50, 3) := by decide +kernel
theorem dX6_work_13 : decode cX6_work 13 = .ok (.iload_n 1, 1) := by decide +kernel
theorem dX6_work_14 : decode cX6_work 14 = .ok (.iconst 0, 1) := by decide +kernel
theorem dX6_work_15 : decode cX6_work 15 = .ok (.bastore, 1) := by decide +kernel
theorem dX6_work_16 : decode cX6_work 16 = .ok (.iinc 1 1, 3) := by decide +kernel
theorem dX6_work_19 : decode cX6_work 19 = .ok (.goto (-17), 3) := by decide +kernel
theorem dX6_work_22 : decode cX6_work 22 = .ok (.iconst 0, 1) := by decide +kernel
theorem dX6_work_23 : decode cX6_work 23 = .ok (.istore_n 1, 1) := by decide +kernel
theorem dX6_work_24 : decode cX6_work 24 = .ok (.iload_n 1, 1) := by decide +kernel
theorem dX6_work_25 : decode cX6_work 25 = .ok (.aload_n 0, 1) := by decide +kernel
theorem dX6_work_26 : decode cX6_work 26 = .ok (.getfield 62, 3) := by decide +kernel
theorem dX6_work_29 : decode cX6_work 29 = .ok (.if_icmp .ge 156, 3) := by decide +kernel
theorem dX6_work_32 : decode cX6_work 32 = .ok (.iload_n 1, 1) := by decide +kernel
theorem dX6_work_33 : decode cX6_work 33 = .ok (.iconst 1, 1) := by decide +kernel
theorem dX6_work_34 : decode cX6_work 34 = .ok (.isub, 1) := by decide +kernel
theorem dX6_work_35 : decode cX6_work 35 = .ok (.istore_n 2, 1) := by decide +kernel
theorem dX6_work_36 : decode cX6_work 36 = .ok (.iload_n 2, 1) := by decide +kernel
theorem dX6_work_37 : decode cX6_work 37 = .ok (.ifCond .lt 142, 3) := by decide +kernel
theorem dX6_work_40 : decode cX6_work 40 = .ok (.iconst 0, 1) := by decide +kernel
theorem dX6_work_41 : decode cX6_work 41 = .ok (.istore_n 3, 1) := by decide +kernel
theorem dX6_work_42 : decode cX6_work 42 = .ok (.iload_n 3, 1) := by decide +kernel
theorem dX6_work_43 : decode cX6_work 43 = .ok (.aload_n 0, 1) := by decide +kernel
theorem dX6_work_44 : decode cX6_work 44 = .ok (.getfield 70, 3) := by decide +kernel
theorem dX6_work_47 : decode cX6_work 47 = .ok (.if_icmp .ge 126, 3) := by decide +kernel
theorem dX6_work_50 : decode cX6_work 50 = .ok (.aload_n 0, 1) := by decide +kernel
theorem dX6_work_51 : decode cX6_work 51 = .ok (.iload_n 1, 1) := by decide +kernel
theorem dX6_work_52 : decode cX6_work 52 = .ok (.iload_n 2, 1) := by decide +kernel
theorem dX6_work_53 : decode cX6_work 53 = .ok (.invokevirtual 90, 3) := by decide +kernel
theorem dX6_work_56 : decode cX6_work 56 = .ok (.ifCond .eq 117, 3) := by decide +kernel
theorem dX6_work_59 : decode cX6_work 59 = .ok (.iconst 0, 1) := by decide +kernel
theorem dX6_work_60 : decode cX6_work 60 = .ok (.istore 4, 2) := by decide +kernel
theorem dX6_work_62 : decode cX6_work 62 = .ok (.iload 4, 2) := by decide +kernel
theorem dX6_work_64 : decode cX6_work 64 = .ok (.aload_n 0, 1) := by decide +kernel
theorem dX6_work_65 : decode cX6_work 65 = .ok (.getfield 70, 3) := by decide +kernel
theorem dX6_work_68 : decode cX6_work 68 = .ok (.if_icmp .ge 99, 3) := by decide +kernel
theorem dX6_work_71 : decode cX6_work 71 = .ok (.aload_n 0, 1) := by decide +kernel
theorem dX6_work_72 : decode cX6_work 72 = .ok (.getfield 35, 3) := by decide +kernel
theorem dX6_work_75 : decode cX6_work 75 = .ok (.iload_n 3, 1) := by decide +kernel
theorem dX6_work_76 : decode cX6_work 76 = .ok (.iaload, 1) := by decide +kernel
theorem dX6_work_77 : decode cX6_work 77 = .ok (.iload_n 1, 1) := by decide +kernel
theorem dX6_work_78 : decode cX6_work 78 = .ok (.if_icmp .ne 89, 3) := by decide +kernel
theorem dX6_work_81 : decode cX6_work 81 = .ok (.aload_n 0, 1) := by decide +kernel
theorem dX6_work_82 : decode cX6_work 82 = .ok (.getfield 35, 3) := by decide +kernel
theorem dX6_work_85 : decode cX6_work 85 = .ok (.iload 4, 2) := by decide +kernel
theorem dX6_work_87 : decode cX6_work 87 = .ok (.iaload, 1) := by decide +kernel
theorem dX6_work_88 : decode cX6_work 88 = .ok (.iload_n 2, 1) := by decide +kernel
theorem dX6_work_89 : decode cX6_work 89 = .ok (.if_icmp .ne 72, 3) := by decide +kernel
theorem dX6_work_92 : decode cX6_work 92 = .ok (.aload_n 0, 1) := by decide +kernel
theorem dX6_work_93 : decode cX6_work 93 = .ok (.getfield 50, 3) := by decide +kernel
theorem dX6_work_96 : decode cX6_work 96 = .ok (.bipush 60, 2) := by decide +kernel
theorem dX6_work_98 : decode cX6_work 98 = .ok (.iload_n 3, 1) := by decide +kernel
theorem dX6_work_99 : decode cX6_work 99 = .ok (.imul, 1) := by decide +kernel
theorem dX6_work_100 : decode cX6_work 100 = .ok (.iload 4, 2) := by decide +kernel
theorem dX6_work_102 : decode cX6_work 102 = .ok (.iadd, 1) := by decide +kernel
theorem dX6_work_103 : decode cX6_work 103 = .ok (.aload_n 0, 1) := by decide +kernel
theorem dX6_work_104 : decode cX6_work 104 = .ok (.getfield 38, 3) := by decide +kernel
theorem dX6_work_107 : decode cX6_work 107 = .ok (.iload_n 3, 1) := by decide +kernel
theorem dX6_work_108 : decode cX6_work 108 = .ok (.iaload, 1) := by decide +kernel
theorem dX6_work_109 : decode cX6_work 109 = .ok (.aload_n 0, 1) := by decide +kernel
theorem dX6_work_110 : decode cX6_work 110 = .ok (.getfield 38, 3) := by decide +kernel
theorem dX6_work_113 : decode cX6_work 113 = .ok (.iload 4, 2) := by decide +kernel
theorem dX6_work_115 : decode cX6_work 115 = .ok (.iaload, 1) := by decide +kernel
theorem dX6_work_116 : decode cX6_work 116 = .ok (.if_icmp .ne 43, 3) := by decide +kernel
theorem dX6_work_119 : decode cX6_work 119 = .ok (.aload_n 0, 1) := by decide +kernel
theorem dX6_work_120 : decode cX6_work 120 = .ok (.iload_n 3, 1) := by decide +kernel
theorem dX6_work_121 : decode cX6_work 121 = .ok (.invokevirtual 117, 3) := by decide +kernel
theorem dX6_work_124 : decode cX6_work 124 = .ok (.ifCond .ne 35, 3) := by decide +kernel
theorem dX6_work_127 : decode cX6_work 127 = .ok (.aload_n 0, 1) := by decide +kernel
theorem dX6_work_128 : decode cX6_work 128 = .ok (.iload 4, 2) := by decide +kernel
theorem dX6_work_130 : decode cX6_work 130 = .ok (.invokevirtual 117, 3) := by decide +kernel
theorem dX6_work_133 : decode cX6_work 133 = .ok (.ifCond .ne 26, 3) := by decide +kernel
theorem dX6_work_136 : decode cX6_work 136 = .ok (.aload_n 0, 1) := by decide +kernel
theorem dX6_work_137 : decode cX6_work 137 = .ok (.iload 4, 2) := by decide +kernel
theorem dX6_work_139 : decode cX6_work 139 = .ok (.invokevirtual 120, 3) := by decide +kernel
theorem dX6_work_142 : decode cX6_work 142 = .ok (.ifCond .ne 17, 3) := by decide +kernel
theorem dX6_work_145 : decode cX6_work 145 = .ok (.aload_n 0, 1) := by decide +kernel
theorem dX6_work_146 : decode cX6_work 146 = .ok (.iload_n 3, 1) := by decide +kernel
theorem dX6_work_147 : decode cX6_work 147 = .ok (.iload 4, 2) := by decide +kernel
theorem dX6_work_149 : decode cX6_work 149 = .ok (.invokevirtual 123, 3) := by decide +kernel
theorem dX6_work_152 : decode cX6_work 152 = .ok (.ifCond .eq 7, 3) := by decide +kernel
theorem dX6_work_155 : decode cX6_work 155 = .ok (.iconst 1, 1) := by decide +kernel
theorem dX6_work_156 : decode cX6_work 156 = .ok (.goto 4, 3) := by decide +kernel
theorem dX6_work_159 : decode cX6_work 159 = .ok (.iconst 0, 1) := by decide +kernel
theorem dX6_work_160 : decode cX6_work 160 = .ok (.bastore, 1) := by decide +kernel
theorem dX6_work_161 : decode cX6_work 161 = .ok (.iinc 4 1, 3) := by decide +kernel
theorem dX6_work_164 : decode cX6_work 164 = .ok (.goto (-102), 3) := by decide +kernel
theorem dX6_work_167 : decode cX6_work 167 = .ok (.iinc 3 1, 3) := by decide +kernel
theorem dX6_work_170 : decode cX6_work 170 = .ok (.goto (-128), 3) := by decide +kernel
theorem dX6_work_173 : decode cX6_work 173 = .ok (.iinc 2 (-1), 3) := by decide +kernel
theorem dX6_work_176 : decode cX6_work 176 = .ok (.goto (-140), 3) := by decide +kernel
theorem dX6_work_179 : decode cX6_work 179 = .ok (.iinc 1 1, 3) := by decide +kernel
theorem dX6_work_182 : decode cX6_work 182 = .ok (.goto (-158), 3) := by decide +kernel
theorem dX6_work_185 : decode cX6_work 185 = .ok (.return_, 1) := by decide +kernel
theorem dX6_goesOver_0 : decode cX6_goesOver 0 = .ok (.aload_n 0, 1) := by decide +kernel
theorem dX6_goesOver_1 : decode cX6_goesOver 1 = .ok (.iload_n 2, 1) := by decide +kernel
theorem dX6_goesOver_2 : decode cX6_goesOver 2 = .ok (.invokevirtual 110, 3) := by decide +kernel
theorem dX6_goesOver_5 : decode cX6_goesOver 5 = .ok (.ifCond .ne 12, 3) := by decide +kernel
theorem dX6_goesOver_8 : decode cX6_goesOver 8 = .ok (.aload_n 0, 1) := by decide +kernel
theorem dX6_goesOver_9 : decode cX6_goesOver 9 = .ok (.iload_n 1, 1) := by decide +kernel
theorem dX6_goesOver_10 : decode cX6_goesOver 10 = .ok (.iload_n 2, 1) := by decide +kernel
theorem dX6_goesOver_11 : decode cX6_goesOver 11 = .ok (.invokevirtual 126, 3) := by decide +kernel
theorem dX6_goesOver_14 : decode cX6_goesOver 14 = .ok (.ifCond .eq 5, 3) := by decide +kernel
theorem dX6_goesOver_17 : decode cX6_goesOver 17 = .ok (.iconst 1, 1) := by decide +kernel
theorem dX6_goesOver_18 : decode cX6_goesOver 18 = .ok (.ireturn, 1) := by decide +kernel
theorem dX6_goesOver_19 : decode cX6_goesOver 19 = .ok (.iconst 0, 1) := by decide +kernel
theorem dX6_goesOver_20 : decode cX6_goesOver 20 = .ok (.istore_n 3, 1) := by decide +kernel
theorem dX6_goesOver_21 : decode cX6_goesOver 21 = .ok (.iload_n 3, 1) := by decide +kernel
theorem dX6_goesOver_22 : decode cX6_goesOver 22 = .ok (.aload_n 0, 1) := by decide +kernel
theorem dX6_goesOver_23 : decode cX6_goesOver 23 = .ok (.getfield 70, 3) := by decide +kernel
theorem dX6_goesOver_26 : decode cX6_goesOver 26 = .ok (.if_icmp .ge 92, 3) := by decide +kernel
theorem dX6_goesOver_29 : decode cX6_goesOver 29 = .ok (.aload_n 0, 1) := by decide +kernel
theorem dX6_goesOver_30 : decode cX6_goesOver 30 = .ok (.getfield 38, 3) := by decide +kernel
theorem dX6_goesOver_33 : decode cX6_goesOver 33 = .ok (.iload_n 3, 1) := by decide +kernel
theorem dX6_goesOver_34 : decode cX6_goesOver 34 = .ok (.iaload, 1) := by decide +kernel
theorem dX6_goesOver_35 : decode cX6_goesOver 35 = .ok (.aload_n 0, 1) := by decide +kernel
theorem dX6_goesOver_36 : decode cX6_goesOver 36 = .ok (.getfield 38, 3) := by decide +kernel
theorem dX6_goesOver_39 : decode cX6_goesOver 39 = .ok (.iload_n 1, 1) := by decide +kernel
theorem dX6_goesOver_40 : decode cX6_goesOver 40 = .ok (.iaload, 1) := by decide +kernel
theorem dX6_goesOver_41 : decode cX6_goesOver 41 = .ok (.if_icmp .ne 71, 3) := by decide +kernel
theorem dX6_goesOver_44 : decode cX6_goesOver 44 = .ok (.aload_n 0, 1) := by decide +kernel
theorem dX6_goesOver_45 : decode cX6_goesOver 45 = .ok (.aload_n 0, 1) := by decide +kernel
theorem dX6_goesOver_46 : decode cX6_goesOver 46 = .ok (.getfield 35, 3) := by decide +kernel
theorem dX6_goesOver_49 : decode cX6_goesOver 49 = .ok (.iload_n 3, 1) := by decide +kernel
theorem dX6_goesOver_50 : decode cX6_goesOver 50 = .ok (.iaload, 1) := by decide +kernel
theorem dX6_goesOver_51 : decode cX6_goesOver 51 = .ok (.aload_n 0, 1) := by decide +kernel
theorem dX6_goesOver_52 : decode cX6_goesOver 52 = .ok (.getfield 35, 3) := by decide +kernel
theorem dX6_goesOver_55 : decode cX6_goesOver 55 = .ok (.iload_n 2, 1) := by decide +kernel
theorem dX6_goesOver_56 : decode cX6_goesOver 56 = .ok (.iaload, 1) := by decide +kernel
theorem dX6_goesOver_57 : decode cX6_goesOver 57 = .ok (.invokevirtual 90, 3) := by decide +kernel
theorem dX6_goesOver_60 : decode cX6_goesOver 60 = .ok (.ifCond .eq 52, 3) := by decide +kernel
theorem dX6_goesOver_63 : decode cX6_goesOver 63 = .ok (.aload_n 0, 1) := by decide +kernel
theorem dX6_goesOver_64 : decode cX6_goesOver 64 = .ok (.aload_n 0, 1) := by decide +kernel
theorem dX6_goesOver_65 : decode cX6_goesOver 65 = .ok (.getfield 35, 3) := by decide +kernel
theorem dX6_goesOver_68 : decode cX6_goesOver 68 = .ok (.iload_n 1, 1) := by decide +kernel
theorem dX6_goesOver_69 : decode cX6_goesOver 69 = .ok (.iaload, 1) := by decide +kernel
theorem dX6_goesOver_70 : decode cX6_goesOver 70 = .ok (.aload_n 0, 1) := by decide +kernel
theorem dX6_goesOver_71 : decode cX6_goesOver 71 = .ok (.getfield 35, 3) := by decide +kernel
theorem dX6_goesOver_74 : decode cX6_goesOver 74 = .ok (.iload_n 3, 1) := by decide +kernel
theorem dX6_goesOver_75 : decode cX6_goesOver 75 = .ok (.iaload, 1) := by decide +kernel
theorem dX6_goesOver_76 : decode cX6_goesOver 76 = .ok (.invokevirtual 90, 3) := by decide +kernel
theorem dX6_goesOver_79 : decode cX6_goesOver 79 = .ok (.ifCond .eq 33, 3) := by decide +kernel
theorem dX6_goesOver_82 : decode cX6_goesOver 82 = .ok (.aload_n 0, 1) := by decide +kernel
theorem dX6_goesOver_83 : decode cX6_goesOver 83 = .ok (.getfield 50, 3) := by decide +kernel
theorem dX6_goesOver_86 : decode cX6_goesOver 86 = .ok (.bipush 60, 2) := by decide +kernel
theorem dX6_goesOver_88 : decode cX6_goesOver 88 = .ok (.iload_n 1, 1) := by decide +kernel
theorem dX6_goesOver_89 : decode cX6_goesOver 89 = .ok (.imul, 1) := by decide +kernel
theorem dX6_goesOver_90 : decode cX6_goesOver 90 = .ok (.iload_n 3, 1) := by decide +kernel
theorem dX6_goesOver_91 : decode cX6_goesOver 91 = .ok (.iadd, 1) := by decide +kernel
theorem dX6_goesOver_92 : decode cX6_goesOver 92 = .ok (.baload, 1) := by decide +kernel
theorem dX6_goesOver_93 : decode cX6_goesOver 93 = .ok (.ifCond .eq 19, 3) := by decide +kernel
theorem dX6_goesOver_96 : decode cX6_goesOver 96 = .ok (.aload_n 0, 1) := by decide +kernel
theorem dX6_goesOver_97 : decode cX6_goesOver 97 = .ok (.getfield 50, 3) := by decide +kernel
theorem dX6_goesOver_100 : decode cX6_goesOver 100 = .ok (.bipush 60, 2) := by decide +kernel
theorem dX6_goesOver_102 : decode cX6_goesOver 102 = .ok (.iload_n 3, 1) := by decide +kernel
theorem dX6_goesOver_103 : decode cX6_goesOver 103 = .ok (.imul, 1) := by decide +kernel
theorem dX6_goesOver_104 : decode cX6_goesOver 104 = .ok (.iload_n 2, 1) := by decide +kernel
theorem dX6_goesOver_105 : decode cX6_goesOver 105 = .ok (.iadd, 1) := by decide +kernel
theorem dX6_goesOver_106 : decode cX6_goesOver 106 = .ok (.baload, 1) := by decide +kernel
theorem dX6_goesOver_107 : decode cX6_goesOver 107 = .ok (.ifCond .eq 5, 3) := by decide +kernel
theorem dX6_goesOver_110 : decode cX6_goesOver 110 = .ok (.iconst 1, 1) := by decide +kernel
theorem dX6_goesOver_111 : decode cX6_goesOver 111 = .ok (.ireturn, 1) := by decide +kernel
theorem dX6_goesOver_112 : decode cX6_goesOver 112 = .ok (.iinc 3 1, 3) := by decide +kernel
theorem dX6_goesOver_115 : decode cX6_goesOver 115 = .ok (.goto (-94), 3) := by decide +kernel
theorem dX6_goesOver_118 : decode cX6_goesOver 118 = .ok (.iconst 0, 1) := by decide +kernel
theorem dX6_goesOver_119 : decode cX6_goesOver 119 = .ok (.ireturn, 1) := by decide +kernel
theorem dX6_isOver_0 : decode cX6_isOver 0 = .ok (.aload_n 0, 1) := by decide +kernel
theorem dX6_isOver_1 : decode cX6_isOver 1 = .ok (.getfield 50, 3) := by decide +kernel
theorem dX6_isOver_4 : decode cX6_isOver 4 = .ok (.bipush 60, 2) := by decide +kernel
theorem dX6_isOver_6 : decode cX6_isOver 6 = .ok (.iload_n 1, 1) := by decide +kernel
theorem dX6_isOver_7 : decode cX6_isOver 7 = .ok (.imul, 1) := by decide +kernel
theorem dX6_isOver_8 : decode cX6_isOver 8 = .ok (.iload_n 2, 1) := by decide +kernel
theorem dX6_isOver_9 : decode cX6_isOver 9 = .ok (.iadd, 1) := by decide +kernel
theorem dX6_isOver_10 : decode cX6_isOver 10 = .ok (.baload, 1) := by decide +kernel
theorem dX6_isOver_11 : decode cX6_isOver 11 = .ok (.ireturn, 1) := by decide +kernel
theorem dX6_hidesIt_0 : decode cX6_hidesIt 0 = .ok (.aload_n 0, 1) := by decide +kernel
theorem dX6_hidesIt_1 : decode cX6_hidesIt 1 = .ok (.getfield 38, 3) := by decide +kernel
theorem dX6_hidesIt_4 : decode cX6_hidesIt 4 = .ok (.iload_n 1, 1) := by decide +kernel
theorem dX6_hidesIt_5 : decode cX6_hidesIt 5 = .ok (.iaload, 1) := by decide +kernel
theorem dX6_hidesIt_6 : decode cX6_hidesIt 6 = .ok (.aload_n 0, 1) := by decide +kernel
theorem dX6_hidesIt_7 : decode cX6_hidesIt 7 = .ok (.getfield 38, 3) := by decide +kernel
theorem dX6_hidesIt_10 : decode cX6_hidesIt 10 = .ok (.iload_n 2, 1) := by decide +kernel
theorem dX6_hidesIt_11 : decode cX6_hidesIt 11 = .ok (.iaload, 1) := by decide +kernel
theorem dX6_hidesIt_12 : decode cX6_hidesIt 12 = .ok (.if_icmp .ne 67, 3) := by decide +kernel
theorem dX6_hidesIt_15 : decode cX6_hidesIt 15 = .ok (.aload_n 0, 1) := by decide +kernel
theorem dX6_hidesIt_16 : decode cX6_hidesIt 16 = .ok (.iload_n 1, 1) := by decide +kernel
theorem dX6_hidesIt_17 : decode cX6_hidesIt 17 = .ok (.invokevirtual 117, 3) := by decide +kernel
theorem dX6_hidesIt_20 : decode cX6_hidesIt 20 = .ok (.ifCond .eq 59, 3) := by decide +kernel
theorem dX6_hidesIt_23 : decode cX6_hidesIt 23 = .ok (.aload_n 0, 1) := by decide +kernel
theorem dX6_hidesIt_24 : decode cX6_hidesIt 24 = .ok (.iload_n 2, 1) := by decide +kernel
theorem dX6_hidesIt_25 : decode cX6_hidesIt 25 = .ok (.invokevirtual 117, 3) := by decide +kernel
theorem dX6_hidesIt_28 : decode cX6_hidesIt 28 = .ok (.ifCond .eq 51, 3) := by decide +kernel
theorem dX6_hidesIt_31 : decode cX6_hidesIt 31 = .ok (.aload_n 0, 1) := by decide +kernel
theorem dX6_hidesIt_32 : decode cX6_hidesIt 32 = .ok (.aload_n 0, 1) := by decide +kernel
theorem dX6_hidesIt_33 : decode cX6_hidesIt 33 = .ok (.getfield 35, 3) := by decide +kernel
theorem dX6_hidesIt_36 : decode cX6_hidesIt 36 = .ok (.iload_n 1, 1) := by decide +kernel
theorem dX6_hidesIt_37 : decode cX6_hidesIt 37 = .ok (.iaload, 1) := by decide +kernel
theorem dX6_hidesIt_38 : decode cX6_hidesIt 38 = .ok (.aload_n 0, 1) := by decide +kernel
theorem dX6_hidesIt_39 : decode cX6_hidesIt 39 = .ok (.getfield 35, 3) := by decide +kernel
theorem dX6_hidesIt_42 : decode cX6_hidesIt 42 = .ok (.iload_n 2, 1) := by decide +kernel
theorem dX6_hidesIt_43 : decode cX6_hidesIt 43 = .ok (.iaload, 1) := by decide +kernel
theorem dX6_hidesIt_44 : decode cX6_hidesIt 44 = .ok (.invokevirtual 90, 3) := by decide +kernel
theorem dX6_hidesIt_47 : decode cX6_hidesIt 47 = .ok (.ifCond .eq 32, 3) := by decide +kernel
theorem dX6_hidesIt_50 : decode cX6_hidesIt 50 = .ok (.aload_n 0, 1) := by decide +kernel
theorem dX6_hidesIt_51 : decode cX6_hidesIt 51 = .ok (.iload_n 2, 1) := by decide +kernel
theorem dX6_hidesIt_52 : decode cX6_hidesIt 52 = .ok (.invokevirtual 110, 3) := by decide +kernel
theorem dX6_hidesIt_55 : decode cX6_hidesIt 55 = .ok (.ifCond .ne 24, 3) := by decide +kernel
theorem dX6_hidesIt_58 : decode cX6_hidesIt 58 = .ok (.aload_n 0, 1) := by decide +kernel
theorem dX6_hidesIt_59 : decode cX6_hidesIt 59 = .ok (.iload_n 2, 1) := by decide +kernel
theorem dX6_hidesIt_60 : decode cX6_hidesIt 60 = .ok (.invokevirtual 120, 3) := by decide +kernel
theorem dX6_hidesIt_63 : decode cX6_hidesIt 63 = .ok (.ifCond .ne 16, 3) := by decide +kernel
theorem dX6_hidesIt_66 : decode cX6_hidesIt 66 = .ok (.aload_n 0, 1) := by decide +kernel
theorem dX6_hidesIt_67 : decode cX6_hidesIt 67 = .ok (.iload_n 1, 1) := by decide +kernel
theorem dX6_hidesIt_68 : decode cX6_hidesIt 68 = .ok (.iload_n 2, 1) := by decide +kernel
theorem dX6_hidesIt_69 : decode cX6_hidesIt 69 = .ok (.invokevirtual 126, 3) := by decide +kernel
theorem dX6_hidesIt_72 : decode cX6_hidesIt 72 = .ok (.ifCond .eq 7, 3) := by decide +kernel
theorem dX6_hidesIt_75 : decode cX6_hidesIt 75 = .ok (.iconst 1, 1) := by decide +kernel
theorem dX6_hidesIt_76 : decode cX6_hidesIt 76 = .ok (.goto 4, 3) := by decide +kernel
theorem dX6_hidesIt_79 : decode cX6_hidesIt 79 = .ok (.iconst 0, 1) := by decide +kernel
theorem dX6_hidesIt_80 : decode cX6_hidesIt 80 = .ok (.ireturn, 1) := by decide +kernel
theorem dX6_isMixed_0 : decode cX6_isMixed 0 = .ok (.aload_n 0, 1) := by decide +kernel
theorem dX6_isMixed_1 : decode cX6_isMixed 1 = .ok (.getfield 38, 3) := by decide +kernel
end
section
theorem dX6_isMixed_4 : decode cX6_isMixed 4 = .ok (.iload_n 1, 1) := by decide +kernel
theorem dX6_isMixed_5 : decode cX6_isMixed 5 = .ok (.iaload, 1) := by decide +kernel
theorem dX6_isMixed_6 : decode cX6_isMixed 6 = .ok (.aload_n 0, 1) := by decide +kernel
theorem dX6_isMixed_7 : decode cX6_isMixed 7 = .ok (.getfield 38, 3) := by decide +kernel
theorem dX6_isMixed_10 : decode cX6_isMixed 10 = .ok (.iload_n 2, 1) := by decide +kernel
theorem dX6_isMixed_11 : decode cX6_isMixed 11 = .ok (.iaload, 1) := by decide +kernel
theorem dX6_isMixed_12 : decode cX6_isMixed 12 = .ok (.if_icmp .ne 47, 3) := by decide +kernel
theorem dX6_isMixed_15 : decode cX6_isMixed 15 = .ok (.aload_n 0, 1) := by decide +kernel
theorem dX6_isMixed_16 : decode cX6_isMixed 16 = .ok (.iload_n 1, 1) := by decide +kernel
theorem dX6_isMixed_17 : decode cX6_isMixed 17 = .ok (.invokevirtual 117, 3) := by decide +kernel
theorem dX6_isMixed_20 : decode cX6_isMixed 20 = .ok (.aload_n 0, 1) := by decide +kernel
theorem dX6_isMixed_21 : decode cX6_isMixed 21 = .ok (.iload_n 2, 1) := by decide +kernel
theorem dX6_isMixed_22 : decode cX6_isMixed 22 = .ok (.invokevirtual 117, 3) := by decide +kernel
theorem dX6_isMixed_25 : decode cX6_isMixed 25 = .ok (.if_icmp .eq 34, 3) := by decide +kernel
theorem dX6_isMixed_28 : decode cX6_isMixed 28 = .ok (.aload_n 0, 1) := by decide +kernel
theorem dX6_isMixed_29 : decode cX6_isMixed 29 = .ok (.aload_n 0, 1) := by decide +kernel
theorem dX6_isMixed_30 : decode cX6_isMixed 30 = .ok (.getfield 35, 3) := by decide +kernel
theorem dX6_isMixed_33 : decode cX6_isMixed 33 = .ok (.iload_n 1, 1) := by decide +kernel
theorem dX6_isMixed_34 : decode cX6_isMixed 34 = .ok (.iaload, 1) := by decide +kernel
theorem dX6_isMixed_35 : decode cX6_isMixed 35 = .ok (.aload_n 0, 1) := by decide +kernel
theorem dX6_isMixed_36 : decode cX6_isMixed 36 = .ok (.getfield 35, 3) := by decide +kernel
theorem dX6_isMixed_39 : decode cX6_isMixed 39 = .ok (.iload_n 2, 1) := by decide +kernel
theorem dX6_isMixed_40 : decode cX6_isMixed 40 = .ok (.iaload, 1) := by decide +kernel
theorem dX6_isMixed_41 : decode cX6_isMixed 41 = .ok (.invokevirtual 90, 3) := by decide +kernel
theorem dX6_isMixed_44 : decode cX6_isMixed 44 = .ok (.ifCond .eq 15, 3) := by decide +kernel
theorem dX6_isMixed_47 : decode cX6_isMixed 47 = .ok (.aload_n 0, 1) := by decide +kernel
theorem dX6_isMixed_48 : decode cX6_isMixed 48 = .ok (.iload_n 2, 1) := by decide +kernel
theorem dX6_isMixed_49 : decode cX6_isMixed 49 = .ok (.invokevirtual 120, 3) := by decide +kernel
theorem dX6_isMixed_52 : decode cX6_isMixed 52 = .ok (.ifCond .ne 7, 3) := by decide +kernel
theorem dX6_isMixed_55 : decode cX6_isMixed 55 = .ok (.iconst 1, 1) := by decide +kernel
theorem dX6_isMixed_56 : decode cX6_isMixed 56 = .ok (.goto 4, 3) := by decide +kernel
theorem dX6_isMixed_59 : decode cX6_isMixed 59 = .ok (.iconst 0, 1) := by decide +kernel
theorem dX6_isMixed_60 : decode cX6_isMixed 60 = .ok (.istore_n 3, 1) := by decide +kernel
theorem dX6_isMixed_61 : decode cX6_isMixed 61 = .ok (.iload_n 3, 1) := by decide +kernel
theorem dX6_isMixed_62 : decode cX6_isMixed 62 = .ok (.ifCond .eq 35, 3) := by decide +kernel
theorem dX6_isMixed_65 : decode cX6_isMixed 65 = .ok (.aload_n 0, 1) := by decide +kernel
theorem dX6_isMixed_66 : decode cX6_isMixed 66 = .ok (.iload_n 2, 1) := by decide +kernel
theorem dX6_isMixed_67 : decode cX6_isMixed 67 = .ok (.invokevirtual 110, 3) := by decide +kernel
theorem dX6_isMixed_70 : decode cX6_isMixed 70 = .ok (.ifCond .eq 14, 3) := by decide +kernel
theorem dX6_isMixed_73 : decode cX6_isMixed 73 = .ok (.aload_n 0, 1) := by decide +kernel
theorem dX6_isMixed_74 : decode cX6_isMixed 74 = .ok (.iload_n 2, 1) := by decide +kernel
theorem dX6_isMixed_75 : decode cX6_isMixed 75 = .ok (.invokevirtual 117, 3) := by decide +kernel
theorem dX6_isMixed_78 : decode cX6_isMixed 78 = .ok (.ifCond .ne 19, 3) := by decide +kernel
theorem dX6_isMixed_81 : decode cX6_isMixed 81 = .ok (.goto 12, 3) := by decide +kernel
theorem dX6_isMixed_84 : decode cX6_isMixed 84 = .ok (.aload_n 0, 1) := by decide +kernel
theorem dX6_isMixed_85 : decode cX6_isMixed 85 = .ok (.iload_n 1, 1) := by decide +kernel
theorem dX6_isMixed_86 : decode cX6_isMixed 86 = .ok (.iload_n 2, 1) := by decide +kernel
theorem dX6_isMixed_87 : decode cX6_isMixed 87 = .ok (.invokevirtual 126, 3) := by decide +kernel
theorem dX6_isMixed_90 : decode cX6_isMixed 90 = .ok (.ifCond .eq 7, 3) := by decide +kernel
theorem dX6_isMixed_93 : decode cX6_isMixed 93 = .ok (.iconst 1, 1) := by decide +kernel
theorem dX6_isMixed_94 : decode cX6_isMixed 94 = .ok (.goto 4, 3) := by decide +kernel
theorem dX6_isMixed_97 : decode cX6_isMixed 97 = .ok (.iconst 0, 1) := by decide +kernel
theorem dX6_isMixed_98 : decode cX6_isMixed 98 = .ok (.ireturn, 1) := by decide +kernel
theorem dX6_overrides_0 : decode cX6_overrides 0 = .ok (.aload_n 0, 1) := by decide +kernel
theorem dX6_overrides_1 : decode cX6_overrides 1 = .ok (.iload_n 1, 1) := by decide +kernel
theorem dX6_overrides_2 : decode cX6_overrides 2 = .ok (.invokevirtual 97, 3) := by decide +kernel
theorem dX6_overrides_5 : decode cX6_overrides 5 = .ok (.ifCond .eq 11, 3) := by decide +kernel
theorem dX6_overrides_8 : decode cX6_overrides 8 = .ok (.aload_n 0, 1) := by decide +kernel
theorem dX6_overrides_9 : decode cX6_overrides 9 = .ok (.iload_n 2, 1) := by decide +kernel
theorem dX6_overrides_10 : decode cX6_overrides 10 = .ok (.invokevirtual 97, 3) := by decide +kernel
theorem dX6_overrides_13 : decode cX6_overrides 13 = .ok (.ifCond .ne 8, 3) := by decide +kernel
theorem dX6_overrides_16 : decode cX6_overrides 16 = .ok (.bipush (-2), 2) := by decide +kernel
theorem dX6_overrides_18 : decode cX6_overrides 18 = .ok (.goto 17, 3) := by decide +kernel
theorem dX6_overrides_21 : decode cX6_overrides 21 = .ok (.aload_n 0, 1) := by decide +kernel
theorem dX6_overrides_22 : decode cX6_overrides 22 = .ok (.iload_n 1, 1) := by decide +kernel
theorem dX6_overrides_23 : decode cX6_overrides 23 = .ok (.iload_n 2, 1) := by decide +kernel
theorem dX6_overrides_24 : decode cX6_overrides 24 = .ok (.invokevirtual 129, 3) := by decide +kernel
theorem dX6_overrides_27 : decode cX6_overrides 27 = .ok (.ifCond .eq 7, 3) := by decide +kernel
theorem dX6_overrides_30 : decode cX6_overrides 30 = .ok (.iconst 1, 1) := by decide +kernel
theorem dX6_overrides_31 : decode cX6_overrides 31 = .ok (.goto 4, 3) := by decide +kernel
theorem dX6_overrides_34 : decode cX6_overrides 34 = .ok (.iconst 0, 1) := by decide +kernel
theorem dX6_overrides_35 : decode cX6_overrides 35 = .ok (.ireturn, 1) := by decide +kernel
theorem dX6_hides_0 : decode cX6_hides 0 = .ok (.aload_n 0, 1) := by decide +kernel
theorem dX6_hides_1 : decode cX6_hides 1 = .ok (.iload_n 1, 1) := by decide +kernel
theorem dX6_hides_2 : decode cX6_hides 2 = .ok (.invokevirtual 97, 3) := by decide +kernel
theorem dX6_hides_5 : decode cX6_hides 5 = .ok (.ifCond .eq 11, 3) := by decide +kernel
theorem dX6_hides_8 : decode cX6_hides 8 = .ok (.aload_n 0, 1) := by decide +kernel
theorem dX6_hides_9 : decode cX6_hides 9 = .ok (.iload_n 2, 1) := by decide +kernel
theorem dX6_hides_10 : decode cX6_hides 10 = .ok (.invokevirtual 97, 3) := by decide +kernel
theorem dX6_hides_13 : decode cX6_hides 13 = .ok (.ifCond .ne 8, 3) := by decide +kernel
theorem dX6_hides_16 : decode cX6_hides 16 = .ok (.bipush (-2), 2) := by decide +kernel
theorem dX6_hides_18 : decode cX6_hides 18 = .ok (.goto 17, 3) := by decide +kernel
theorem dX6_hides_21 : decode cX6_hides 21 = .ok (.aload_n 0, 1) := by decide +kernel
theorem dX6_hides_22 : decode cX6_hides 22 = .ok (.iload_n 1, 1) := by decide +kernel
theorem dX6_hides_23 : decode cX6_hides 23 = .ok (.iload_n 2, 1) := by decide +kernel
theorem dX6_hides_24 : decode cX6_hides 24 = .ok (.invokevirtual 132, 3) := by decide +kernel
theorem dX6_hides_27 : decode cX6_hides 27 = .ok (.ifCond .eq 7, 3) := by decide +kernel
theorem dX6_hides_30 : decode cX6_hides 30 = .ok (.iconst 1, 1) := by decide +kernel
theorem dX6_hides_31 : decode cX6_hides 31 = .ok (.goto 4, 3) := by decide +kernel
theorem dX6_hides_34 : decode cX6_hides 34 = .ok (.iconst 0, 1) := by decide +kernel
theorem dX6_hides_35 : decode cX6_hides 35 = .ok (.ireturn, 1) := by decide +kernel
theorem dX6_isPlain_0 : decode cX6_isPlain 0 = .ok (.aload_n 0, 1) := by decide +kernel
theorem dX6_isPlain_1 : decode cX6_isPlain 1 = .ok (.iload_n 1, 1) := by decide +kernel
theorem dX6_isPlain_2 : decode cX6_isPlain 2 = .ok (.invokevirtual 117, 3) := by decide +kernel
theorem dX6_isPlain_5 : decode cX6_isPlain 5 = .ok (.ifCond .ne 15, 3) := by decide +kernel
theorem dX6_isPlain_8 : decode cX6_isPlain 8 = .ok (.aload_n 0, 1) := by decide +kernel
theorem dX6_isPlain_9 : decode cX6_isPlain 9 = .ok (.iload_n 1, 1) := by decide +kernel
theorem dX6_isPlain_10 : decode cX6_isPlain 10 = .ok (.invokevirtual 120, 3) := by decide +kernel
theorem dX6_isPlain_13 : decode cX6_isPlain 13 = .ok (.ifCond .ne 7, 3) := by decide +kernel
theorem dX6_isPlain_16 : decode cX6_isPlain 16 = .ok (.iconst 1, 1) := by decide +kernel
theorem dX6_isPlain_17 : decode cX6_isPlain 17 = .ok (.goto 4, 3) := by decide +kernel
theorem dX6_isPlain_20 : decode cX6_isPlain 20 = .ok (.iconst 0, 1) := by decide +kernel
theorem dX6_isPlain_21 : decode cX6_isPlain 21 = .ok (.ireturn, 1) := by decide +kernel
theorem dX6_isLast_0 : decode cX6_isLast 0 = .ok (.iconst 0, 1) := by decide +kernel
theorem dX6_isLast_1 : decode cX6_isLast 1 = .ok (.istore_n 3, 1) := by decide +kernel
theorem dX6_isLast_2 : decode cX6_isLast 2 = .ok (.iload_n 3, 1) := by decide +kernel
theorem dX6_isLast_3 : decode cX6_isLast 3 = .ok (.aload_n 0, 1) := by decide +kernel
theorem dX6_isLast_4 : decode cX6_isLast 4 = .ok (.getfield 70, 3) := by decide +kernel
theorem dX6_isLast_7 : decode cX6_isLast 7 = .ok (.if_icmp .ge 75, 3) := by decide +kernel
theorem dX6_isLast_10 : decode cX6_isLast 10 = .ok (.aload_n 0, 1) := by decide +kernel
theorem dX6_isLast_11 : decode cX6_isLast 11 = .ok (.getfield 38, 3) := by decide +kernel
theorem dX6_isLast_14 : decode cX6_isLast 14 = .ok (.iload_n 3, 1) := by decide +kernel
theorem dX6_isLast_15 : decode cX6_isLast 15 = .ok (.iaload, 1) := by decide +kernel
theorem dX6_isLast_16 : decode cX6_isLast 16 = .ok (.aload_n 0, 1) := by decide +kernel
theorem dX6_isLast_17 : decode cX6_isLast 17 = .ok (.getfield 38, 3) := by decide +kernel
theorem dX6_isLast_20 : decode cX6_isLast 20 = .ok (.iload_n 2, 1) := by decide +kernel
theorem dX6_isLast_21 : decode cX6_isLast 21 = .ok (.iaload, 1) := by decide +kernel
theorem dX6_isLast_22 : decode cX6_isLast 22 = .ok (.if_icmp .ne 54, 3) := by decide +kernel
theorem dX6_isLast_25 : decode cX6_isLast 25 = .ok (.aload_n 0, 1) := by decide +kernel
theorem dX6_isLast_26 : decode cX6_isLast 26 = .ok (.iload_n 3, 1) := by decide +kernel
theorem dX6_isLast_27 : decode cX6_isLast 27 = .ok (.invokevirtual 135, 3) := by decide +kernel
theorem dX6_isLast_30 : decode cX6_isLast 30 = .ok (.ifCond .eq 46, 3) := by decide +kernel
theorem dX6_isLast_33 : decode cX6_isLast 33 = .ok (.aload_n 0, 1) := by decide +kernel
theorem dX6_isLast_34 : decode cX6_isLast 34 = .ok (.iload_n 3, 1) := by decide +kernel
theorem dX6_isLast_35 : decode cX6_isLast 35 = .ok (.invokevirtual 110, 3) := by decide +kernel
theorem dX6_isLast_38 : decode cX6_isLast 38 = .ok (.ifCond .eq 38, 3) := by decide +kernel
theorem dX6_isLast_41 : decode cX6_isLast 41 = .ok (.aload_n 0, 1) := by decide +kernel
theorem dX6_isLast_42 : decode cX6_isLast 42 = .ok (.iload_n 1, 1) := by decide +kernel
theorem dX6_isLast_43 : decode cX6_isLast 43 = .ok (.aload_n 0, 1) := by decide +kernel
theorem dX6_isLast_44 : decode cX6_isLast 44 = .ok (.getfield 35, 3) := by decide +kernel
theorem dX6_isLast_47 : decode cX6_isLast 47 = .ok (.iload_n 3, 1) := by decide +kernel
theorem dX6_isLast_48 : decode cX6_isLast 48 = .ok (.iaload, 1) := by decide +kernel
theorem dX6_isLast_49 : decode cX6_isLast 49 = .ok (.invokevirtual 90, 3) := by decide +kernel
theorem dX6_isLast_52 : decode cX6_isLast 52 = .ok (.ifCond .eq 24, 3) := by decide +kernel
theorem dX6_isLast_55 : decode cX6_isLast 55 = .ok (.aload_n 0, 1) := by decide +kernel
theorem dX6_isLast_56 : decode cX6_isLast 56 = .ok (.aload_n 0, 1) := by decide +kernel
theorem dX6_isLast_57 : decode cX6_isLast 57 = .ok (.getfield 35, 3) := by decide +kernel
theorem dX6_isLast_60 : decode cX6_isLast 60 = .ok (.iload_n 3, 1) := by decide +kernel
theorem dX6_isLast_61 : decode cX6_isLast 61 = .ok (.iaload, 1) := by decide +kernel
theorem dX6_isLast_62 : decode cX6_isLast 62 = .ok (.aload_n 0, 1) := by decide +kernel
theorem dX6_isLast_63 : decode cX6_isLast 63 = .ok (.getfield 35, 3) := by decide +kernel
theorem dX6_isLast_66 : decode cX6_isLast 66 = .ok (.iload_n 2, 1) := by decide +kernel
theorem dX6_isLast_67 : decode cX6_isLast 67 = .ok (.iaload, 1) := by decide +kernel
theorem dX6_isLast_68 : decode cX6_isLast 68 = .ok (.invokevirtual 90, 3) := by decide +kernel
theorem dX6_isLast_71 : decode cX6_isLast 71 = .ok (.ifCond .eq 5, 3) := by decide +kernel
theorem dX6_isLast_74 : decode cX6_isLast 74 = .ok (.iconst 0, 1) := by decide +kernel
theorem dX6_isLast_75 : decode cX6_isLast 75 = .ok (.ireturn, 1) := by decide +kernel
theorem dX6_isLast_76 : decode cX6_isLast 76 = .ok (.iinc 3 1, 3) := by decide +kernel
theorem dX6_isLast_79 : decode cX6_isLast 79 = .ok (.goto (-77), 3) := by decide +kernel
theorem dX6_isLast_82 : decode cX6_isLast 82 = .ok (.iconst 1, 1) := by decide +kernel
theorem dX6_isLast_83 : decode cX6_isLast 83 = .ok (.ireturn, 1) := by decide +kernel
theorem dX6_choose_0 : decode cX6_choose 0 = .ok (.iload_n 1, 1) := by decide +kernel
theorem dX6_choose_1 : decode cX6_choose 1 = .ok (.istore_n 3, 1) := by decide +kernel
theorem dX6_choose_2 : decode cX6_choose 2 = .ok (.iload_n 3, 1) := by decide +kernel
theorem dX6_choose_3 : decode cX6_choose 3 = .ok (.iconst (-1), 1) := by decide +kernel
theorem dX6_choose_4 : decode cX6_choose 4 = .ok (.if_icmp .eq 94, 3) := by decide +kernel
theorem dX6_choose_7 : decode cX6_choose 7 = .ok (.iconst 0, 1) := by decide +kernel
theorem dX6_choose_8 : decode cX6_choose 8 = .ok (.istore 4, 2) := by decide +kernel
theorem dX6_choose_10 : decode cX6_choose 10 = .ok (.iload 4, 2) := by decide +kernel
theorem dX6_choose_12 : decode cX6_choose 12 = .ok (.aload_n 0, 1) := by decide +kernel
theorem dX6_choose_13 : decode cX6_choose 13 = .ok (.getfield 70, 3) := by decide +kernel
theorem dX6_choose_16 : decode cX6_choose 16 = .ok (.if_icmp .ge 72, 3) := by decide +kernel
theorem dX6_choose_19 : decode cX6_choose 19 = .ok (.aload_n 0, 1) := by decide +kernel
theorem dX6_choose_20 : decode cX6_choose 20 = .ok (.getfield 35, 3) := by decide +kernel
theorem dX6_choose_23 : decode cX6_choose 23 = .ok (.iload 4, 2) := by decide +kernel
theorem dX6_choose_25 : decode cX6_choose 25 = .ok (.iaload, 1) := by decide +kernel
theorem dX6_choose_26 : decode cX6_choose 26 = .ok (.iload_n 3, 1) := by decide +kernel
theorem dX6_choose_27 : decode cX6_choose 27 = .ok (.if_icmp .ne 55, 3) := by decide +kernel
theorem dX6_choose_30 : decode cX6_choose 30 = .ok (.aload_n 0, 1) := by decide +kernel
theorem dX6_choose_31 : decode cX6_choose 31 = .ok (.getfield 38, 3) := by decide +kernel
theorem dX6_choose_34 : decode cX6_choose 34 = .ok (.iload 4, 2) := by decide +kernel
theorem dX6_choose_36 : decode cX6_choose 36 = .ok (.iaload, 1) := by decide +kernel
theorem dX6_choose_37 : decode cX6_choose 37 = .ok (.aload_n 0, 1) := by decide +kernel
theorem dX6_choose_38 : decode cX6_choose 38 = .ok (.getfield 38, 3) := by decide +kernel
theorem dX6_choose_41 : decode cX6_choose 41 = .ok (.iload_n 2, 1) := by decide +kernel
theorem dX6_choose_42 : decode cX6_choose 42 = .ok (.iaload, 1) := by decide +kernel
theorem dX6_choose_43 : decode cX6_choose 43 = .ok (.if_icmp .ne 39, 3) := by decide +kernel
theorem dX6_choose_46 : decode cX6_choose 46 = .ok (.aload_n 0, 1) := by decide +kernel
theorem dX6_choose_47 : decode cX6_choose 47 = .ok (.iload 4, 2) := by decide +kernel
theorem dX6_choose_49 : decode cX6_choose 49 = .ok (.invokevirtual 135, 3) := by decide +kernel
theorem dX6_choose_52 : decode cX6_choose 52 = .ok (.ifCond .eq 30, 3) := by decide +kernel
theorem dX6_choose_55 : decode cX6_choose 55 = .ok (.iload 4, 2) := by decide +kernel
theorem dX6_choose_57 : decode cX6_choose 57 = .ok (.iload_n 2, 1) := by decide +kernel
theorem dX6_choose_58 : decode cX6_choose 58 = .ok (.if_icmp .eq 21, 3) := by decide +kernel
theorem dX6_choose_61 : decode cX6_choose 61 = .ok (.aload_n 0, 1) := by decide +kernel
theorem dX6_choose_62 : decode cX6_choose 62 = .ok (.iload 4, 2) := by decide +kernel
theorem dX6_choose_64 : decode cX6_choose 64 = .ok (.iload_n 2, 1) := by decide +kernel
theorem dX6_choose_65 : decode cX6_choose 65 = .ok (.invokevirtual 129, 3) := by decide +kernel
theorem dX6_choose_68 : decode cX6_choose 68 = .ok (.ifCond .ne 11, 3) := by decide +kernel
theorem dX6_choose_71 : decode cX6_choose 71 = .ok (.aload_n 0, 1) := by decide +kernel
theorem dX6_choose_72 : decode cX6_choose 72 = .ok (.iload_n 2, 1) := by decide +kernel
theorem dX6_choose_73 : decode cX6_choose 73 = .ok (.invokevirtual 110, 3) := by decide +kernel
theorem dX6_choose_76 : decode cX6_choose 76 = .ok (.ifCond .eq 6, 3) := by decide +kernel
theorem dX6_choose_79 : decode cX6_choose 79 = .ok (.iload 4, 2) := by decide +kernel
theorem dX6_choose_81 : decode cX6_choose 81 = .ok (.ireturn, 1) := by decide +kernel
theorem dX6_choose_82 : decode cX6_choose 82 = .ok (.iinc 4 1, 3) := by decide +kernel
theorem dX6_choose_85 : decode cX6_choose 85 = .ok (.goto (-75), 3) := by decide +kernel
theorem dX6_choose_88 : decode cX6_choose 88 = .ok (.aload_n 0, 1) := by decide +kernel
theorem dX6_choose_89 : decode cX6_choose 89 = .ok (.getfield 16, 3) := by decide +kernel
theorem dX6_choose_92 : decode cX6_choose 92 = .ok (.iload_n 3, 1) := by decide +kernel
theorem dX6_choose_93 : decode cX6_choose 93 = .ok (.iaload, 1) := by decide +kernel
theorem dX6_choose_94 : decode cX6_choose 94 = .ok (.istore_n 3, 1) := by decide +kernel
theorem dX6_choose_95 : decode cX6_choose 95 = .ok (.goto (-93), 3) := by decide +kernel
theorem dX6_choose_98 : decode cX6_choose 98 = .ok (.iconst 0, 1) := by decide +kernel
theorem dX6_choose_99 : decode cX6_choose 99 = .ok (.istore_n 3, 1) := by decide +kernel
theorem dX6_choose_100 : decode cX6_choose 100 = .ok (.iconst (-1), 1) := by decide +kernel
theorem dX6_choose_101 : decode cX6_choose 101 = .ok (.istore 4, 2) := by decide +kernel
theorem dX6_choose_103 : decode cX6_choose 103 = .ok (.iconst 0, 1) := by decide +kernel
theorem dX6_choose_104 : decode cX6_choose 104 = .ok (.istore 5, 2) := by decide +kernel
theorem dX6_choose_106 : decode cX6_choose 106 = .ok (.iconst 0, 1) := by decide +kernel
theorem dX6_choose_107 : decode cX6_choose 107 = .ok (.istore 6, 2) := by decide +kernel
theorem dX6_choose_109 : decode cX6_choose 109 = .ok (.iload 6, 2) := by decide +kernel
theorem dX6_choose_111 : decode cX6_choose 111 = .ok (.aload_n 0, 1) := by decide +kernel
theorem dX6_choose_112 : decode cX6_choose 112 = .ok (.getfield 70, 3) := by decide +kernel
theorem dX6_choose_115 : decode cX6_choose 115 = .ok (.if_icmp .ge 109, 3) := by decide +kernel
theorem dX6_choose_118 : decode cX6_choose 118 = .ok (.aload_n 0, 1) := by decide +kernel
theorem dX6_choose_119 : decode cX6_choose 119 = .ok (.getfield 38, 3) := by decide +kernel
theorem dX6_choose_122 : decode cX6_choose 122 = .ok (.iload 6, 2) := by decide +kernel
theorem dX6_choose_124 : decode cX6_choose 124 = .ok (.iaload, 1) := by decide +kernel
theorem dX6_choose_125 : decode cX6_choose 125 = .ok (.aload_n 0, 1) := by decide +kernel
theorem dX6_choose_126 : decode cX6_choose 126 = .ok (.getfield 38, 3) := by decide +kernel
theorem dX6_choose_129 : decode cX6_choose 129 = .ok (.iload_n 2, 1) := by decide +kernel
theorem dX6_choose_130 : decode cX6_choose 130 = .ok (.iaload, 1) := by decide +kernel
theorem dX6_choose_131 : decode cX6_choose 131 = .ok (.if_icmp .ne 87, 3) := by decide +kernel
theorem dX6_choose_134 : decode cX6_choose 134 = .ok (.aload_n 0, 1) := by decide +kernel
theorem dX6_choose_135 : decode cX6_choose 135 = .ok (.iload 6, 2) := by decide +kernel
theorem dX6_choose_137 : decode cX6_choose 137 = .ok (.invokevirtual 135, 3) := by decide +kernel
theorem dX6_choose_140 : decode cX6_choose 140 = .ok (.ifCond .eq 78, 3) := by decide +kernel
theorem dX6_choose_143 : decode cX6_choose 143 = .ok (.aload_n 0, 1) := by decide +kernel
theorem dX6_choose_144 : decode cX6_choose 144 = .ok (.iload 6, 2) := by decide +kernel
theorem dX6_choose_146 : decode cX6_choose 146 = .ok (.invokevirtual 110, 3) := by decide +kernel
theorem dX6_choose_149 : decode cX6_choose 149 = .ok (.ifCond .eq 69, 3) := by decide +kernel
theorem dX6_choose_152 : decode cX6_choose 152 = .ok (.aload_n 0, 1) := by decide +kernel
theorem dX6_choose_153 : decode cX6_choose 153 = .ok (.iload_n 1, 1) := by decide +kernel
theorem dX6_choose_154 : decode cX6_choose 154 = .ok (.aload_n 0, 1) := by decide +kernel
theorem dX6_choose_155 : decode cX6_choose 155 = .ok (.getfield 35, 3) := by decide +kernel
theorem dX6_choose_158 : decode cX6_choose 158 = .ok (.iload 6, 2) := by decide +kernel
theorem dX6_choose_160 : decode cX6_choose 160 = .ok (.iaload, 1) := by decide +kernel
theorem dX6_choose_161 : decode cX6_choose 161 = .ok (.invokevirtual 90, 3) := by decide +kernel
theorem dX6_choose_164 : decode cX6_choose 164 = .ok (.ifCond .eq 54, 3) := by decide +kernel
theorem dX6_choose_167 : decode cX6_choose 167 = .ok (.aload_n 0, 1) := by decide +kernel
theorem dX6_choose_168 : decode cX6_choose 168 = .ok (.iload_n 1, 1) := by decide +kernel
theorem dX6_choose_169 : decode cX6_choose 169 = .ok (.iload 6, 2) := by decide +kernel
theorem dX6_choose_171 : decode cX6_choose 171 = .ok (.invokevirtual 138, 3) := by decide +kernel
theorem dX6_choose_174 : decode cX6_choose 174 = .ok (.ifCond .eq 44, 3) := by decide +kernel
theorem dX6_choose_177 : decode cX6_choose 177 = .ok (.iinc 3 1, 3) := by decide +kernel
theorem dX6_choose_180 : decode cX6_choose 180 = .ok (.iload 4, 2) := by decide +kernel
theorem dX6_choose_182 : decode cX6_choose 182 = .ok (.iconst (-1), 1) := by decide +kernel
theorem dX6_choose_183 : decode cX6_choose 183 = .ok (.if_icmp .ne 8, 3) := by decide +kernel
theorem dX6_choose_186 : decode cX6_choose 186 = .ok (.iload 6, 2) := by decide +kernel
theorem dX6_choose_188 : decode cX6_choose 188 = .ok (.goto 5, 3) := by decide +kernel
theorem dX6_choose_191 : decode cX6_choose 191 = .ok (.iload 4, 2) := by decide +kernel
theorem dX6_choose_193 : decode cX6_choose 193 = .ok (.istore 4, 2) := by decide +kernel
theorem dX6_choose_195 : decode cX6_choose 195 = .ok (.iload 5, 2) := by decide +kernel
theorem dX6_choose_197 : decode cX6_choose 197 = .ok (.ifCond .ne 14, 3) := by decide +kernel
theorem dX6_choose_200 : decode cX6_choose 200 = .ok (.aload_n 0, 1) := by decide +kernel
theorem dX6_choose_201 : decode cX6_choose 201 = .ok (.iload 6, 2) := by decide +kernel
theorem dX6_choose_203 : decode cX6_choose 203 = .ok (.bipush 64, 2) := by decide +kernel
theorem dX6_choose_205 : decode cX6_choose 205 = .ok (.invokevirtual 100, 3) := by decide +kernel
theorem dX6_choose_208 : decode cX6_choose 208 = .ok (.ifCond .eq 7, 3) := by decide +kernel
theorem dX6_choose_211 : decode cX6_choose 211 = .ok (.iconst 1, 1) := by decide +kernel
theorem dX6_choose_212 : decode cX6_choose 212 = .ok (.goto 4, 3) := by decide +kernel
theorem dX6_choose_215 : decode cX6_choose 215 = .ok (.iconst 0, 1) := by decide +kernel
theorem dX6_choose_216 : decode cX6_choose 216 = .ok (.istore 5, 2) := by decide +kernel
theorem dX6_choose_218 : decode cX6_choose 218 = .ok (.iinc 6 1, 3) := by decide +kernel
theorem dX6_choose_221 : decode cX6_choose 221 = .ok (.goto (-112), 3) := by decide +kernel
theorem dX6_choose_224 : decode cX6_choose 224 = .ok (.iload_n 3, 1) := by decide +kernel
theorem dX6_choose_225 : decode cX6_choose 225 = .ok (.iconst 1, 1) := by decide +kernel
theorem dX6_choose_226 : decode cX6_choose 226 = .ok (.if_icmp .le 13, 3) := by decide +kernel
theorem dX6_choose_229 : decode cX6_choose 229 = .ok (.iload 5, 2) := by decide +kernel
theorem dX6_choose_231 : decode cX6_choose 231 = .ok (.ifCond .eq 8, 3) := by decide +kernel
theorem dX6_choose_234 : decode cX6_choose 234 = .ok (.bipush (-5), 2) := by decide +kernel
theorem dX6_choose_236 : decode cX6_choose 236 = .ok (.goto 5, 3) := by decide +kernel
theorem dX6_choose_239 : decode cX6_choose 239 = .ok (.iload 4, 2) := by decide +kernel
theorem dX6_choose_241 : decode cX6_choose 241 = .ok (.ireturn, 1) := by decide +kernel
theorem dX6_chosen_0 : decode cX6_chosen 0 = .ok (.aload_n 0, 1) := by decide +kernel
theorem dX6_chosen_1 : decode cX6_chosen 1 = .ok (.iload_n 1, 1) := by decide +kernel
theorem dX6_chosen_2 : decode cX6_chosen 2 = .ok (.invokevirtual 83, 3) := by decide +kernel
theorem dX6_chosen_5 : decode cX6_chosen 5 = .ok (.ifCond .eq 11, 3) := by decide +kernel
theorem dX6_chosen_8 : decode cX6_chosen 8 = .ok (.aload_n 0, 1) := by decide +kernel
theorem dX6_chosen_9 : decode cX6_chosen 9 = .ok (.iload_n 2, 1) := by decide +kernel
theorem dX6_chosen_10 : decode cX6_chosen 10 = .ok (.invokevirtual 97, 3) := by decide +kernel
theorem dX6_chosen_13 : decode cX6_chosen 13 = .ok (.ifCond .ne 6, 3) := by decide +kernel
theorem dX6_chosen_16 : decode cX6_chosen 16 = .ok (.bipush (-2), 2) := by decide +kernel
theorem dX6_chosen_18 : decode cX6_chosen 18 = .ok (.ireturn, 1) := by decide +kernel
theorem dX6_chosen_19 : decode cX6_chosen 19 = .ok (.aload_n 0, 1) := by decide +kernel
theorem dX6_chosen_20 : decode cX6_chosen 20 = .ok (.getfield 7, 3) := by decide +kernel
theorem dX6_chosen_23 : decode cX6_chosen 23 = .ok (.iload_n 1, 1) := by decide +kernel
theorem dX6_chosen_24 : decode cX6_chosen 24 = .ok (.iaload, 1) := by decide +kernel
theorem dX6_chosen_25 : decode cX6_chosen 25 = .ok (.iconst 2, 1) := by decide +kernel
theorem dX6_chosen_26 : decode cX6_chosen 26 = .ok (.if_icmp .eq 25, 3) := by decide +kernel
theorem dX6_chosen_29 : decode cX6_chosen 29 = .ok (.aload_n 0, 1) := by decide +kernel
theorem dX6_chosen_30 : decode cX6_chosen 30 = .ok (.iload_n 2, 1) := by decide +kernel
theorem dX6_chosen_31 : decode cX6_chosen 31 = .ok (.invokevirtual 135, 3) := by decide +kernel
theorem dX6_chosen_34 : decode cX6_chosen 34 = .ok (.ifCond .eq 17, 3) := by decide +kernel
theorem dX6_chosen_37 : decode cX6_chosen 37 = .ok (.aload_n 0, 1) := by decide +kernel
theorem dX6_chosen_38 : decode cX6_chosen 38 = .ok (.iload_n 1, 1) := by decide +kernel
theorem dX6_chosen_39 : decode cX6_chosen 39 = .ok (.aload_n 0, 1) := by decide +kernel
theorem dX6_chosen_40 : decode cX6_chosen 40 = .ok (.getfield 35, 3) := by decide +kernel
theorem dX6_chosen_43 : decode cX6_chosen 43 = .ok (.iload_n 2, 1) := by decide +kernel
theorem dX6_chosen_44 : decode cX6_chosen 44 = .ok (.iaload, 1) := by decide +kernel
theorem dX6_chosen_45 : decode cX6_chosen 45 = .ok (.invokevirtual 94, 3) := by decide +kernel
theorem dX6_chosen_48 : decode cX6_chosen 48 = .ok (.ifCond .ne 6, 3) := by decide +kernel
theorem dX6_chosen_51 : decode cX6_chosen 51 = .ok (.bipush (-3), 2) := by decide +kernel
theorem dX6_chosen_53 : decode cX6_chosen 53 = .ok (.ireturn, 1) := by decide +kernel
theorem dX6_chosen_54 : decode cX6_chosen 54 = .ok (.aload_n 0, 1) := by decide +kernel
theorem dX6_chosen_55 : decode cX6_chosen 55 = .ok (.iload_n 1, 1) := by decide +kernel
theorem dX6_chosen_56 : decode cX6_chosen 56 = .ok (.iload_n 2, 1) := by decide +kernel
theorem dX6_chosen_57 : decode cX6_chosen 57 = .ok (.invokevirtual 141, 3) := by decide +kernel
theorem dX6_chosen_60 : decode cX6_chosen 60 = .ok (.ireturn, 1) := by decide +kernel
theorem dX6_note_0 : decode cX6_note 0 = .ok (.aload_n 0, 1) := by decide +kernel
theorem dX6_note_1 : decode cX6_note 1 = .ok (.getfield 53, 3) := by decide +kernel
theorem dX6_note_4 : decode cX6_note 4 = .ok (.aload_n 0, 1) := by decide +kernel
theorem dX6_note_5 : decode cX6_note 5 = .ok (.getfield 144, 3) := by decide +kernel
theorem dX6_note_8 : decode cX6_note 8 = .ok (.iload_n 1, 1) := by decide +kernel
theorem dX6_note_9 : decode cX6_note 9 = .ok (.iastore, 1) := by decide +kernel
theorem dX6_note_10 : decode cX6_note 10 = .ok (.aload_n 0, 1) := by decide +kernel
theorem dX6_note_11 : decode cX6_note 11 = .ok (.getfield 56, 3) := by decide +kernel
theorem dX6_note_14 : decode cX6_note 14 = .ok (.aload_n 0, 1) := by decide +kernel
theorem dX6_note_15 : decode cX6_note 15 = .ok (.getfield 144, 3) := by decide +kernel
theorem dX6_note_18 : decode cX6_note 18 = .ok (.iload_n 2, 1) := by decide +kernel
theorem dX6_note_19 : decode cX6_note 19 = .ok (.iastore, 1) := by decide +kernel
theorem dX6_note_20 : decode cX6_note 20 = .ok (.aload_n 0, 1) := by decide +kernel
theorem dX6_note_21 : decode cX6_note 21 = .ok (.getfield 59, 3) := by decide +kernel
theorem dX6_note_24 : decode cX6_note 24 = .ok (.aload_n 0, 1) := by decide +kernel
theorem dX6_note_25 : decode cX6_note 25 = .ok (.getfield 144, 3) := by decide +kernel
theorem dX6_note_28 : decode cX6_note 28 = .ok (.iload_n 3, 1) := by decide +kernel
theorem dX6_note_29 : decode cX6_note 29 = .ok (.iastore, 1) := by decide +kernel
theorem dX6_note_30 : decode cX6_note 30 = .ok (.aload_n 0, 1) := by decide +kernel
theorem dX6_note_31 : decode cX6_note 31 = .ok (.dup, 1) := by decide +kernel
theorem dX6_note_32 : decode cX6_note 32 = .ok (.getfield 144, 3) := by decide +kernel
theorem dX6_note_35 : decode cX6_note 35 = .ok (.iconst 1, 1) := by decide +kernel
theorem dX6_note_36 : decode cX6_note 36 = .ok (.iadd, 1) := by decide +kernel
theorem dX6_note_37 : decode cX6_note 37 = .ok (.putfield 144, 3) := by decide +kernel
theorem dX6_note_40 : decode cX6_note 40 = .ok (.return_, 1) := by decide +kernel
theorem dX6_three_0 : decode cX6_three 0 = .ok (.aload_n 0, 1) := by decide +kernel
theorem dX6_three_1 : decode cX6_three 1 = .ok (.iload_n 1, 1) := by decide +kernel
theorem dX6_three_2 : decode cX6_three 2 = .ok (.invokevirtual 113, 3) := by decide +kernel
theorem dX6_three_5 : decode cX6_three 5 = .ok (.aload_n 0, 1) := by decide +kernel
theorem dX6_three_6 : decode cX6_three 6 = .ok (.iload_n 2, 1) := by decide +kernel
theorem dX6_three_7 : decode cX6_three 7 = .ok (.invokevirtual 113, 3) := by decide +kernel
theorem dX6_three_10 : decode cX6_three 10 = .ok (.if_icmp .ge 10, 3) := by decide +kernel
theorem dX6_three_13 : decode cX6_three 13 = .ok (.aload_n 0, 1) := by decide +kernel
theorem dX6_three_14 : decode cX6_three 14 = .ok (.iconst 3, 1) := by decide +kernel
theorem dX6_three_15 : decode cX6_three 15 = .ok (.iload_n 1, 1) := by decide +kernel
theorem dX6_three_16 : decode cX6_three 16 = .ok (.iload_n 2, 1) := by decide +kernel
theorem dX6_three_17 : decode cX6_three 17 = .ok (.invokevirtual 147, 3) := by decide +kernel
theorem dX6_three_20 : decode cX6_three 20 = .ok (.aload_n 0, 1) := by decide +kernel
theorem dX6_three_21 : decode cX6_three 21 = .ok (.aload_n 0, 1) := by decide +kernel
theorem dX6_three_22 : decode cX6_three 22 = .ok (.getfield 41, 3) := by decide +kernel
theorem dX6_three_25 : decode cX6_three 25 = .ok (.iload_n 1, 1) := by decide +kernel
theorem dX6_three_26 : decode cX6_three 26 = .ok (.iaload, 1) := by decide +kernel
theorem dX6_three_27 : decode cX6_three 27 = .ok (.aload_n 0, 1) := by decide +kernel
theorem dX6_three_28 : decode cX6_three 28 = .ok (.getfield 41, 3) := by decide +kernel
theorem dX6_three_31 : decode cX6_three 31 = .ok (.iload_n 2, 1) := by decide +kernel
theorem dX6_three_32 : decode cX6_three 32 = .ok (.iaload, 1) := by decide +kernel
theorem dX6_three_33 : decode cX6_three 33 = .ok (.invokevirtual 151, 3) := by decide +kernel
theorem dX6_three_36 : decode cX6_three 36 = .ok (.ifCond .ne 10, 3) := by decide +kernel
theorem dX6_three_39 : decode cX6_three 39 = .ok (.aload_n 0, 1) := by decide +kernel
theorem dX6_three_40 : decode cX6_three 40 = .ok (.iconst 4, 1) := by decide +kernel
theorem dX6_three_41 : decode cX6_three 41 = .ok (.iload_n 1, 1) := by decide +kernel
theorem dX6_three_42 : decode cX6_three 42 = .ok (.iload_n 2, 1) := by decide +kernel
theorem dX6_three_43 : decode cX6_three 43 = .ok (.invokevirtual 147, 3) := by decide +kernel
theorem dX6_three_46 : decode cX6_three 46 = .ok (.aload_n 0, 1) := by decide +kernel
theorem dX6_three_47 : decode cX6_three 47 = .ok (.iload_n 1, 1) := by decide +kernel
theorem dX6_three_48 : decode cX6_three 48 = .ok (.iload_n 2, 1) := by decide +kernel
theorem dX6_three_49 : decode cX6_three 49 = .ok (.invokevirtual 154, 3) := by decide +kernel
theorem dX6_three_52 : decode cX6_three 52 = .ok (.ifCond .eq 10, 3) := by decide +kernel
theorem dX6_three_55 : decode cX6_three 55 = .ok (.aload_n 0, 1) := by decide +kernel
theorem dX6_three_56 : decode cX6_three 56 = .ok (.iconst 5, 1) := by decide +kernel
theorem dX6_three_57 : decode cX6_three 57 = .ok (.iload_n 1, 1) := by decide +kernel
theorem dX6_three_58 : decode cX6_three 58 = .ok (.iload_n 2, 1) := by decide +kernel
theorem dX6_three_59 : decode cX6_three 59 = .ok (.invokevirtual 147, 3) := by decide +kernel
theorem dX6_three_62 : decode cX6_three 62 = .ok (.return_, 1) := by decide +kernel
theorem dX6_judge_0 : decode cX6_judge 0 = .ok (.aload_n 0, 1) := by decide +kernel
theorem dX6_judge_1 : decode cX6_judge 1 = .ok (.iconst 0, 1) := by decide +kernel
theorem dX6_judge_2 : decode cX6_judge 2 = .ok (.putfield 144, 3) := by decide +kernel
theorem dX6_judge_5 : decode cX6_judge 5 = .ok (.iconst 0, 1) := by decide +kernel
theorem dX6_judge_6 : decode cX6_judge 6 = .ok (.istore_n 2, 1) := by decide +kernel
theorem dX6_judge_7 : decode cX6_judge 7 = .ok (.iload_n 2, 1) := by decide +kernel
theorem dX6_judge_8 : decode cX6_judge 8 = .ok (.aload_n 0, 1) := by decide +kernel
theorem dX6_judge_9 : decode cX6_judge 9 = .ok (.getfield 70, 3) := by decide +kernel
theorem dX6_judge_12 : decode cX6_judge 12 = .ok (.if_icmp .ge 173, 3) := by decide +kernel
theorem dX6_judge_15 : decode cX6_judge 15 = .ok (.aload_n 0, 1) := by decide +kernel
theorem dX6_judge_16 : decode cX6_judge 16 = .ok (.getfield 35, 3) := by decide +kernel
theorem dX6_judge_19 : decode cX6_judge 19 = .ok (.iload_n 2, 1) := by decide +kernel
theorem dX6_judge_20 : decode cX6_judge 20 = .ok (.iaload, 1) := by decide +kernel
theorem dX6_judge_21 : decode cX6_judge 21 = .ok (.iload_n 1, 1) := by decide +kernel
theorem dX6_judge_22 : decode cX6_judge 22 = .ok (.if_icmp .ne 157, 3) := by decide +kernel
theorem dX6_judge_25 : decode cX6_judge 25 = .ok (.iconst 0, 1) := by decide +kernel
theorem dX6_judge_26 : decode cX6_judge 26 = .ok (.istore_n 3, 1) := by decide +kernel
theorem dX6_judge_27 : decode cX6_judge 27 = .ok (.iconst 0, 1) := by decide +kernel
theorem dX6_judge_28 : decode cX6_judge 28 = .ok (.istore 4, 2) := by decide +kernel
theorem dX6_judge_30 : decode cX6_judge 30 = .ok (.iload 4, 2) := by decide +kernel
theorem dX6_judge_32 : decode cX6_judge 32 = .ok (.aload_n 0, 1) := by decide +kernel
theorem dX6_judge_33 : decode cX6_judge 33 = .ok (.getfield 70, 3) := by decide +kernel
theorem dX6_judge_36 : decode cX6_judge 36 = .ok (.if_icmp .ge 93, 3) := by decide +kernel
theorem dX6_judge_39 : decode cX6_judge 39 = .ok (.aload_n 0, 1) := by decide +kernel
theorem dX6_judge_40 : decode cX6_judge 40 = .ok (.iload_n 2, 1) := by decide +kernel
theorem dX6_judge_41 : decode cX6_judge 41 = .ok (.iload 4, 2) := by decide +kernel
theorem dX6_judge_43 : decode cX6_judge 43 = .ok (.invokevirtual 157, 3) := by decide +kernel
theorem dX6_judge_46 : decode cX6_judge 46 = .ok (.ifCond .eq 11, 3) := by decide +kernel
theorem dX6_judge_49 : decode cX6_judge 49 = .ok (.aload_n 0, 1) := by decide +kernel
theorem dX6_judge_50 : decode cX6_judge 50 = .ok (.iconst 1, 1) := by decide +kernel
theorem dX6_judge_51 : decode cX6_judge 51 = .ok (.iload_n 2, 1) := by decide +kernel
theorem dX6_judge_52 : decode cX6_judge 52 = .ok (.iload 4, 2) := by decide +kernel
theorem dX6_judge_54 : decode cX6_judge 54 = .ok (.invokevirtual 147, 3) := by decide +kernel
theorem dX6_judge_57 : decode cX6_judge 57 = .ok (.iload_n 3, 1) := by decide +kernel
theorem dX6_judge_58 : decode cX6_judge 58 = .ok (.ifCond .ne 13, 3) := by decide +kernel
theorem dX6_judge_61 : decode cX6_judge 61 = .ok (.aload_n 0, 1) := by decide +kernel
theorem dX6_judge_62 : decode cX6_judge 62 = .ok (.iload_n 2, 1) := by decide +kernel
theorem dX6_judge_63 : decode cX6_judge 63 = .ok (.iload 4, 2) := by decide +kernel
theorem dX6_judge_65 : decode cX6_judge 65 = .ok (.invokevirtual 129, 3) := by decide +kernel
theorem dX6_judge_68 : decode cX6_judge 68 = .ok (.ifCond .eq 7, 3) := by decide +kernel
theorem dX6_judge_71 : decode cX6_judge 71 = .ok (.iconst 1, 1) := by decide +kernel
theorem dX6_judge_72 : decode cX6_judge 72 = .ok (.goto 4, 3) := by decide +kernel
theorem dX6_judge_75 : decode cX6_judge 75 = .ok (.iconst 0, 1) := by decide +kernel
theorem dX6_judge_76 : decode cX6_judge 76 = .ok (.istore_n 3, 1) := by decide +kernel
theorem dX6_judge_77 : decode cX6_judge 77 = .ok (.aload_n 0, 1) := by decide +kernel
theorem dX6_judge_78 : decode cX6_judge 78 = .ok (.iload_n 2, 1) := by decide +kernel
theorem dX6_judge_79 : decode cX6_judge 79 = .ok (.iload 4, 2) := by decide +kernel
theorem dX6_judge_81 : decode cX6_judge 81 = .ok (.invokevirtual 129, 3) := by decide +kernel
theorem dX6_judge_84 : decode cX6_judge 84 = .ok (.ifCond .ne 13, 3) := by decide +kernel
theorem dX6_judge_87 : decode cX6_judge 87 = .ok (.aload_n 0, 1) := by decide +kernel
theorem dX6_judge_88 : decode cX6_judge 88 = .ok (.iload_n 2, 1) := by decide +kernel
theorem dX6_judge_89 : decode cX6_judge 89 = .ok (.iload 4, 2) := by decide +kernel
theorem dX6_judge_91 : decode cX6_judge 91 = .ok (.invokevirtual 132, 3) := by decide +kernel
theorem dX6_judge_94 : decode cX6_judge 94 = .ok (.ifCond .eq 29, 3) := by decide +kernel
theorem dX6_judge_97 : decode cX6_judge 97 = .ok (.aload_n 0, 1) := by decide +kernel
theorem dX6_judge_98 : decode cX6_judge 98 = .ok (.iload 4, 2) := by decide +kernel
theorem dX6_judge_100 : decode cX6_judge 100 = .ok (.bipush 16, 2) := by decide +kernel
theorem dX6_judge_102 : decode cX6_judge 102 = .ok (.invokevirtual 100, 3) := by decide +kernel
theorem dX6_judge_105 : decode cX6_judge 105 = .ok (.ifCond .eq 11, 3) := by decide +kernel
theorem dX6_judge_108 : decode cX6_judge 108 = .ok (.aload_n 0, 1) := by decide +kernel
theorem dX6_judge_109 : decode cX6_judge 109 = .ok (.iconst 2, 1) := by decide +kernel
theorem dX6_judge_110 : decode cX6_judge 110 = .ok (.iload_n 2, 1) := by decide +kernel
theorem dX6_judge_111 : decode cX6_judge 111 = .ok (.iload 4, 2) := by decide +kernel
theorem dX6_judge_113 : decode cX6_judge 113 = .ok (.invokevirtual 147, 3) := by decide +kernel
theorem dX6_judge_116 : decode cX6_judge 116 = .ok (.aload_n 0, 1) := by decide +kernel
theorem dX6_judge_117 : decode cX6_judge 117 = .ok (.iload_n 2, 1) := by decide +kernel
theorem dX6_judge_118 : decode cX6_judge 118 = .ok (.iload 4, 2) := by decide +kernel
theorem dX6_judge_120 : decode cX6_judge 120 = .ok (.invokevirtual 160, 3) := by decide +kernel
theorem dX6_judge_123 : decode cX6_judge 123 = .ok (.iinc 4 1, 3) := by decide +kernel
theorem dX6_judge_126 : decode cX6_judge 126 = .ok (.goto (-96), 3) := by decide +kernel
theorem dX6_judge_129 : decode cX6_judge 129 = .ok (.aload_n 0, 1) := by decide +kernel
theorem dX6_judge_130 : decode cX6_judge 130 = .ok (.iload_n 2, 1) := by decide +kernel
theorem dX6_judge_131 : decode cX6_judge 131 = .ok (.sipush 128, 3) := by decide +kernel
theorem dX6_judge_134 : decode cX6_judge 134 = .ok (.invokevirtual 100, 3) := by decide +kernel
theorem dX6_judge_137 : decode cX6_judge 137 = .ok (.ifCond .eq 15, 3) := by decide +kernel
theorem dX6_judge_140 : decode cX6_judge 140 = .ok (.iload_n 3, 1) := by decide +kernel
theorem dX6_judge_141 : decode cX6_judge 141 = .ok (.ifCond .ne 11, 3) := by decide +kernel
theorem dX6_judge_144 : decode cX6_judge 144 = .ok (.aload_n 0, 1) := by decide +kernel
theorem dX6_judge_145 : decode cX6_judge 145 = .ok (.bipush 6, 2) := by decide +kernel
theorem dX6_judge_147 : decode cX6_judge 147 = .ok (.iload_n 2, 1) := by decide +kernel
theorem dX6_judge_148 : decode cX6_judge 148 = .ok (.iconst (-1), 1) := by decide +kernel
theorem dX6_judge_149 : decode cX6_judge 149 = .ok (.invokevirtual 147, 3) := by decide +kernel
theorem dX6_judge_152 : decode cX6_judge 152 = .ok (.aload_n 0, 1) := by decide +kernel
theorem dX6_judge_153 : decode cX6_judge 153 = .ok (.iload_n 2, 1) := by decide +kernel
theorem dX6_judge_154 : decode cX6_judge 154 = .ok (.bipush 32, 2) := by decide +kernel
theorem dX6_judge_156 : decode cX6_judge 156 = .ok (.invokevirtual 100, 3) := by decide +kernel
theorem dX6_judge_159 : decode cX6_judge 159 = .ok (.ifCond .eq 20, 3) := by decide +kernel
theorem dX6_judge_162 : decode cX6_judge 162 = .ok (.aload_n 0, 1) := by decide +kernel
theorem dX6_judge_163 : decode cX6_judge 163 = .ok (.getfield 7, 3) := by decide +kernel
theorem dX6_judge_166 : decode cX6_judge 166 = .ok (.iload_n 1, 1) := by decide +kernel
theorem dX6_judge_167 : decode cX6_judge 167 = .ok (.iaload, 1) := by decide +kernel
theorem dX6_judge_168 : decode cX6_judge 168 = .ok (.ifCond .ne 11, 3) := by decide +kernel
theorem dX6_judge_171 : decode cX6_judge 171 = .ok (.aload_n 0, 1) := by decide +kernel
theorem dX6_judge_172 : decode cX6_judge 172 = .ok (.bipush 7, 2) := by decide +kernel
theorem dX6_judge_174 : decode cX6_judge 174 = .ok (.iload_n 2, 1) := by decide +kernel
theorem dX6_judge_175 : decode cX6_judge 175 = .ok (.iconst (-1), 1) := by decide +kernel
theorem dX6_judge_176 : decode cX6_judge 176 = .ok (.invokevirtual 147, 3) := by decide +kernel
theorem dX6_judge_179 : decode cX6_judge 179 = .ok (.iinc 2 1, 3) := by decide +kernel
theorem dX6_judge_182 : decode cX6_judge 182 = .ok (.goto (-175), 3) := by decide +kernel
theorem dX6_judge_185 : decode cX6_judge 185 = .ok (.iconst 0, 1) := by decide +kernel
theorem dX6_judge_186 : decode cX6_judge 186 = .ok (.istore_n 2, 1) := by decide +kernel
theorem dX6_judge_187 : decode cX6_judge 187 = .ok (.iload_n 2, 1) := by decide +kernel
theorem dX6_judge_188 : decode cX6_judge 188 = .ok (.aload_n 0, 1) := by decide +kernel
theorem dX6_judge_189 : decode cX6_judge 189 = .ok (.getfield 70, 3) := by decide +kernel
theorem dX6_judge_192 : decode cX6_judge 192 = .ok (.if_icmp .ge 67, 3) := by decide +kernel
theorem dX6_judge_195 : decode cX6_judge 195 = .ok (.aload_n 0, 1) := by decide +kernel
theorem dX6_judge_196 : decode cX6_judge 196 = .ok (.getfield 7, 3) := by decide +kernel
theorem dX6_judge_199 : decode cX6_judge 199 = .ok (.iload_n 1, 1) := by decide +kernel
theorem dX6_judge_200 : decode cX6_judge 200 = .ok (.iaload, 1) := by decide +kernel
theorem dX6_judge_201 : decode cX6_judge 201 = .ok (.iconst 2, 1) := by decide +kernel
theorem dX6_judge_202 : decode cX6_judge 202 = .ok (.if_icmp .ge 57, 3) := by decide +kernel
theorem dX6_judge_205 : decode cX6_judge 205 = .ok (.aload_n 0, 1) := by decide +kernel
theorem dX6_judge_206 : decode cX6_judge 206 = .ok (.iload_n 2, 1) := by decide +kernel
theorem dX6_judge_207 : decode cX6_judge 207 = .ok (.invokevirtual 135, 3) := by decide +kernel
theorem dX6_judge_210 : decode cX6_judge 210 = .ok (.ifCond .eq 43, 3) := by decide +kernel
theorem dX6_judge_213 : decode cX6_judge 213 = .ok (.aload_n 0, 1) := by decide +kernel
theorem dX6_judge_214 : decode cX6_judge 214 = .ok (.iload_n 1, 1) := by decide +kernel
theorem dX6_judge_215 : decode cX6_judge 215 = .ok (.aload_n 0, 1) := by decide +kernel
theorem dX6_judge_216 : decode cX6_judge 216 = .ok (.getfield 35, 3) := by decide +kernel
theorem dX6_judge_219 : decode cX6_judge 219 = .ok (.iload_n 2, 1) := by decide +kernel
theorem dX6_judge_220 : decode cX6_judge 220 = .ok (.iaload, 1) := by decide +kernel
theorem dX6_judge_221 : decode cX6_judge 221 = .ok (.invokevirtual 90, 3) := by decide +kernel
theorem dX6_judge_224 : decode cX6_judge 224 = .ok (.ifCond .eq 29, 3) := by decide +kernel
theorem dX6_judge_227 : decode cX6_judge 227 = .ok (.aload_n 0, 1) := by decide +kernel
theorem dX6_judge_228 : decode cX6_judge 228 = .ok (.iload_n 2, 1) := by decide +kernel
theorem dX6_judge_229 : decode cX6_judge 229 = .ok (.bipush 32, 2) := by decide +kernel
theorem dX6_judge_231 : decode cX6_judge 231 = .ok (.invokevirtual 100, 3) := by decide +kernel
theorem dX6_judge_234 : decode cX6_judge 234 = .ok (.ifCond .ne 13, 3) := by decide +kernel
theorem dX6_judge_237 : decode cX6_judge 237 = .ok (.aload_n 0, 1) := by decide +kernel
theorem dX6_judge_238 : decode cX6_judge 238 = .ok (.iload_n 2, 1) := by decide +kernel
theorem dX6_judge_239 : decode cX6_judge 239 = .ok (.bipush 64, 2) := by decide +kernel
theorem dX6_judge_241 : decode cX6_judge 241 = .ok (.invokevirtual 100, 3) := by decide +kernel
theorem dX6_judge_244 : decode cX6_judge 244 = .ok (.ifCond .eq 9, 3) := by decide +kernel
theorem dX6_judge_247 : decode cX6_judge 247 = .ok (.aload_n 0, 1) := by decide +kernel
theorem dX6_judge_248 : decode cX6_judge 248 = .ok (.iload_n 1, 1) := by decide +kernel
theorem dX6_judge_249 : decode cX6_judge 249 = .ok (.iload_n 2, 1) := by decide +kernel
theorem dX6_judge_250 : decode cX6_judge 250 = .ok (.invokevirtual 163, 3) := by decide +kernel
theorem dX6_judge_253 : decode cX6_judge 253 = .ok (.iinc 2 1, 3) := by decide +kernel
theorem dX6_judge_256 : decode cX6_judge 256 = .ok (.goto (-69), 3) := by decide +kernel
theorem dX6_judge_259 : decode cX6_judge 259 = .ok (.return_, 1) := by decide +kernel
theorem dX6_inherited_0 : decode cX6_inherited 0 = .ok (.aload_n 0, 1) := by decide +kernel
theorem dX6_inherited_1 : decode cX6_inherited 1 = .ok (.iload_n 1, 1) := by decide +kernel
theorem dX6_inherited_2 : decode cX6_inherited 2 = .ok (.iload_n 2, 1) := by decide +kernel
theorem dX6_inherited_3 : decode cX6_inherited 3 = .ok (.invokevirtual 141, 3) := by decide +kernel
theorem dX6_inherited_6 : decode cX6_inherited 6 = .ok (.istore_n 3, 1) := by decide +kernel
theorem dX6_inherited_7 : decode cX6_inherited 7 = .ok (.iload_n 3, 1) := by decide +kernel
theorem dX6_inherited_8 : decode cX6_inherited 8 = .ok (.bipush (-5), 2) := by decide +kernel
theorem dX6_inherited_10 : decode cX6_inherited 10 = .ok (.if_icmp .ne 12, 3) := by decide +kernel
theorem dX6_inherited_13 : decode cX6_inherited 13 = .ok (.aload_n 0, 1) := by decide +kernel
theorem dX6_inherited_14 : decode cX6_inherited 14 = .ok (.bipush 8, 2) := by decide +kernel
theorem dX6_inherited_16 : decode cX6_inherited 16 = .ok (.iconst (-1), 1) := by decide +kernel
theorem dX6_inherited_17 : decode cX6_inherited 17 = .ok (.iload_n 2, 1) := by decide +kernel
theorem dX6_inherited_18 : decode cX6_inherited 18 = .ok (.invokevirtual 147, 3) := by decide +kernel
theorem dX6_inherited_21 : decode cX6_inherited 21 = .ok (.return_, 1) := by decide +kernel
theorem dX6_inherited_22 : decode cX6_inherited 22 = .ok (.aload_n 0, 1) := by decide +kernel
theorem dX6_inherited_23 : decode cX6_inherited 23 = .ok (.getfield 7, 3) := by decide +kernel
theorem dX6_inherited_26 : decode cX6_inherited 26 = .ok (.iload_n 1, 1) := by decide +kernel
theorem dX6_inherited_27 : decode cX6_inherited 27 = .ok (.iaload, 1) := by decide +kernel
theorem dX6_inherited_28 : decode cX6_inherited 28 = .ok (.ifCond .ne 31, 3) := by decide +kernel
theorem dX6_inherited_31 : decode cX6_inherited 31 = .ok (.aload_n 0, 1) := by decide +kernel
theorem dX6_inherited_32 : decode cX6_inherited 32 = .ok (.iload_n 3, 1) := by decide +kernel
theorem dX6_inherited_33 : decode cX6_inherited 33 = .ok (.bipush 32, 2) := by decide +kernel
theorem dX6_inherited_35 : decode cX6_inherited 35 = .ok (.invokevirtual 100, 3) := by decide +kernel
theorem dX6_inherited_38 : decode cX6_inherited 38 = .ok (.ifCond .eq 21, 3) := by decide +kernel
theorem dX6_inherited_41 : decode cX6_inherited 41 = .ok (.aload_n 0, 1) := by decide +kernel
theorem dX6_inherited_42 : decode cX6_inherited 42 = .ok (.getfield 35, 3) := by decide +kernel
theorem dX6_inherited_45 : decode cX6_inherited 45 = .ok (.iload_n 3, 1) := by decide +kernel
theorem dX6_inherited_46 : decode cX6_inherited 46 = .ok (.iaload, 1) := by decide +kernel
theorem dX6_inherited_47 : decode cX6_inherited 47 = .ok (.iload_n 1, 1) := by decide +kernel
theorem dX6_inherited_48 : decode cX6_inherited 48 = .ok (.if_icmp .eq 11, 3) := by decide +kernel
theorem dX6_inherited_51 : decode cX6_inherited 51 = .ok (.aload_n 0, 1) := by decide +kernel
theorem dX6_inherited_52 : decode cX6_inherited 52 = .ok (.bipush 9, 2) := by decide +kernel
theorem dX6_inherited_54 : decode cX6_inherited 54 = .ok (.iload_n 3, 1) := by decide +kernel
theorem dX6_inherited_55 : decode cX6_inherited 55 = .ok (.iload_n 2, 1) := by decide +kernel
theorem dX6_inherited_56 : decode cX6_inherited 56 = .ok (.invokevirtual 147, 3) := by decide +kernel
theorem dX6_inherited_59 : decode cX6_inherited 59 = .ok (.aload_n 0, 1) := by decide +kernel
theorem dX6_inherited_60 : decode cX6_inherited 60 = .ok (.iload_n 2, 1) := by decide +kernel
theorem dX6_inherited_61 : decode cX6_inherited 61 = .ok (.invokevirtual 110, 3) := by decide +kernel
theorem dX6_inherited_64 : decode cX6_inherited 64 = .ok (.ifCond .eq 50, 3) := by decide +kernel
theorem dX6_inherited_67 : decode cX6_inherited 67 = .ok (.aload_n 0, 1) := by decide +kernel
theorem dX6_inherited_68 : decode cX6_inherited 68 = .ok (.iload_n 3, 1) := by decide +kernel
theorem dX6_inherited_69 : decode cX6_inherited 69 = .ok (.invokevirtual 110, 3) := by decide +kernel
theorem dX6_inherited_72 : decode cX6_inherited 72 = .ok (.ifCond .ne 42, 3) := by decide +kernel
theorem dX6_inherited_75 : decode cX6_inherited 75 = .ok (.aload_n 0, 1) := by decide +kernel
theorem dX6_inherited_76 : decode cX6_inherited 76 = .ok (.iload_n 1, 1) := by decide +kernel
theorem dX6_inherited_77 : decode cX6_inherited 77 = .ok (.aload_n 0, 1) := by decide +kernel
theorem dX6_inherited_78 : decode cX6_inherited 78 = .ok (.getfield 35, 3) := by decide +kernel
theorem dX6_inherited_81 : decode cX6_inherited 81 = .ok (.iload_n 3, 1) := by decide +kernel
theorem dX6_inherited_82 : decode cX6_inherited 82 = .ok (.iaload, 1) := by decide +kernel
theorem dX6_inherited_83 : decode cX6_inherited 83 = .ok (.invokevirtual 90, 3) := by decide +kernel
theorem dX6_inherited_86 : decode cX6_inherited 86 = .ok (.ifCond .eq 28, 3) := by decide +kernel
theorem dX6_inherited_89 : decode cX6_inherited 89 = .ok (.aload_n 0, 1) := by decide +kernel
theorem dX6_inherited_90 : decode cX6_inherited 90 = .ok (.aload_n 0, 1) := by decide +kernel
theorem dX6_inherited_91 : decode cX6_inherited 91 = .ok (.getfield 35, 3) := by decide +kernel
theorem dX6_inherited_94 : decode cX6_inherited 94 = .ok (.iload_n 3, 1) := by decide +kernel
theorem dX6_inherited_95 : decode cX6_inherited 95 = .ok (.iaload, 1) := by decide +kernel
theorem dX6_inherited_96 : decode cX6_inherited 96 = .ok (.aload_n 0, 1) := by decide +kernel
theorem dX6_inherited_97 : decode cX6_inherited 97 = .ok (.getfield 35, 3) := by decide +kernel
theorem dX6_inherited_100 : decode cX6_inherited 100 = .ok (.iload_n 2, 1) := by decide +kernel
theorem dX6_inherited_101 : decode cX6_inherited 101 = .ok (.iaload, 1) := by decide +kernel
theorem dX6_inherited_102 : decode cX6_inherited 102 = .ok (.invokevirtual 90, 3) := by decide +kernel
theorem dX6_inherited_105 : decode cX6_inherited 105 = .ok (.ifCond .ne 9, 3) := by decide +kernel
theorem dX6_inherited_108 : decode cX6_inherited 108 = .ok (.aload_n 0, 1) := by decide +kernel
theorem dX6_inherited_109 : decode cX6_inherited 109 = .ok (.iload_n 3, 1) := by decide +kernel
theorem dX6_inherited_110 : decode cX6_inherited 110 = .ok (.iload_n 2, 1) := by decide +kernel
theorem dX6_inherited_111 : decode cX6_inherited 111 = .ok (.invokevirtual 160, 3) := by decide +kernel
theorem dX6_inherited_114 : decode cX6_inherited 114 = .ok (.return_, 1) := by decide +kernel
theorem dX6_check_0 : decode cX6_check 0 = .ok (.aload_n 0, 1) := by decide +kernel
theorem dX6_check_1 : decode cX6_check 1 = .ok (.iload_n 1, 1) := by decide +kernel
theorem dX6_check_2 : decode cX6_check 2 = .ok (.invokevirtual 83, 3) := by decide +kernel
theorem dX6_check_5 : decode cX6_check 5 = .ok (.ifCond .ne 6, 3) := by decide +kernel
theorem dX6_check_8 : decode cX6_check 8 = .ok (.bipush (-2), 2) := by decide +kernel
theorem dX6_check_10 : decode cX6_check 10 = .ok (.ireturn, 1) := by decide +kernel
theorem dX6_check_11 : decode cX6_check 11 = .ok (.aload_n 0, 1) := by decide +kernel
theorem dX6_check_12 : decode cX6_check 12 = .ok (.iload_n 1, 1) := by decide +kernel
theorem dX6_check_13 : decode cX6_check 13 = .ok (.invokevirtual 166, 3) := by decide +kernel
theorem dX6_check_16 : decode cX6_check 16 = .ok (.aload_n 0, 1) := by decide +kernel
theorem dX6_check_17 : decode cX6_check 17 = .ok (.getfield 144, 3) := by decide +kernel
theorem dX6_check_20 : decode cX6_check 20 = .ok (.ireturn, 1) := by decide +kernel
theorem dX6_fault_0 : decode cX6_fault 0 = .ok (.aload_n 0, 1) := by decide +kernel
theorem dX6_fault_1 : decode cX6_fault 1 = .ok (.iload_n 1, 1) := by decide +kernel
theorem dX6_fault_2 : decode cX6_fault 2 = .ok (.invokevirtual 83, 3) := by decide +kernel
theorem dX6_fault_5 : decode cX6_fault 5 = .ok (.ifCond .ne 6, 3) := by decide +kernel
theorem dX6_fault_8 : decode cX6_fault 8 = .ok (.bipush (-2), 2) := by decide +kernel
theorem dX6_fault_10 : decode cX6_fault 10 = .ok (.ireturn, 1) := by decide +kernel
theorem dX6_fault_11 : decode cX6_fault 11 = .ok (.iload_n 3, 1) := by decide +kernel
theorem dX6_fault_12 : decode cX6_fault 12 = .ok (.iconst 0, 1) := by decide +kernel
theorem dX6_fault_13 : decode cX6_fault 13 = .ok (.iconst 2, 1) := by decide +kernel
theorem dX6_fault_14 : decode cX6_fault 14 = .ok (.invokestatic 66, 3) := by decide +kernel
theorem dX6_fault_17 : decode cX6_fault 17 = .ok (.ifCond .ne 6, 3) := by decide +kernel
theorem dX6_fault_20 : decode cX6_fault 20 = .ok (.bipush (-3), 2) := by decide +kernel
theorem dX6_fault_22 : decode cX6_fault 22 = .ok (.ireturn, 1) := by decide +kernel
theorem dX6_fault_23 : decode cX6_fault 23 = .ok (.aload_n 0, 1) := by decide +kernel
theorem dX6_fault_24 : decode cX6_fault 24 = .ok (.iload_n 1, 1) := by decide +kernel
theorem dX6_fault_25 : decode cX6_fault 25 = .ok (.invokevirtual 166, 3) := by decide +kernel
theorem dX6_fault_28 : decode cX6_fault 28 = .ok (.iload_n 2, 1) := by decide +kernel
theorem dX6_fault_29 : decode cX6_fault 29 = .ok (.iconst 0, 1) := by decide +kernel
theorem dX6_fault_30 : decode cX6_fault 30 = .ok (.aload_n 0, 1) := by decide +kernel
theorem dX6_fault_31 : decode cX6_fault 31 = .ok (.getfield 144, 3) := by decide +kernel
theorem dX6_fault_34 : decode cX6_fault 34 = .ok (.iconst 1, 1) := by decide +kernel
theorem dX6_fault_35 : decode cX6_fault 35 = .ok (.isub, 1) := by decide +kernel
theorem dX6_fault_36 : decode cX6_fault 36 = .ok (.invokestatic 66, 3) := by decide +kernel
theorem dX6_fault_39 : decode cX6_fault 39 = .ok (.ifCond .ne 5, 3) := by decide +kernel
theorem dX6_fault_42 : decode cX6_fault 42 = .ok (.iconst (-1), 1) := by decide +kernel
theorem dX6_fault_43 : decode cX6_fault 43 = .ok (.ireturn, 1) := by decide +kernel
theorem dX6_fault_44 : decode cX6_fault 44 = .ok (.iload_n 3, 1) := by decide +kernel
theorem dX6_fault_45 : decode cX6_fault 45 = .ok (.ifCond .ne 12, 3) := by decide +kernel
theorem dX6_fault_48 : decode cX6_fault 48 = .ok (.aload_n 0, 1) := by decide +kernel
theorem dX6_fault_49 : decode cX6_fault 49 = .ok (.getfield 53, 3) := by decide +kernel
theorem dX6_fault_52 : decode cX6_fault 52 = .ok (.iload_n 2, 1) := by decide +kernel
theorem dX6_fault_53 : decode cX6_fault 53 = .ok (.iaload, 1) := by decide +kernel
theorem dX6_fault_54 : decode cX6_fault 54 = .ok (.goto 23, 3) := by decide +kernel
theorem dX6_fault_57 : decode cX6_fault 57 = .ok (.iload_n 3, 1) := by decide +kernel
theorem dX6_fault_58 : decode cX6_fault 58 = .ok (.iconst 1, 1) := by decide +kernel
theorem dX6_fault_59 : decode cX6_fault 59 = .ok (.if_icmp .ne 12, 3) := by decide +kernel
theorem dX6_fault_62 : decode cX6_fault 62 = .ok (.aload_n 0, 1) := by decide +kernel
theorem dX6_fault_63 : decode cX6_fault 63 = .ok (.getfield 56, 3) := by decide +kernel
theorem dX6_fault_66 : decode cX6_fault 66 = .ok (.iload_n 2, 1) := by decide +kernel
theorem dX6_fault_67 : decode cX6_fault 67 = .ok (.iaload, 1) := by decide +kernel
theorem dX6_fault_68 : decode cX6_fault 68 = .ok (.goto 9, 3) := by decide +kernel
theorem dX6_fault_71 : decode cX6_fault 71 = .ok (.aload_n 0, 1) := by decide +kernel
theorem dX6_fault_72 : decode cX6_fault 72 = .ok (.getfield 59, 3) := by decide +kernel
theorem dX6_fault_75 : decode cX6_fault 75 = .ok (.iload_n 2, 1) := by decide +kernel
theorem dX6_fault_76 : decode cX6_fault 76 = .ok (.iaload, 1) := by decide +kernel
theorem dX6_fault_77 : decode cX6_fault 77 = .ok (.ireturn, 1) := by decide +kernel
theorem dX6_bridges_0 : decode cX6_bridges 0 = .ok (.aload_n 0, 1) := by decide +kernel
theorem dX6_bridges_1 : decode cX6_bridges 1 = .ok (.iload_n 1, 1) := by decide +kernel
theorem dX6_bridges_2 : decode cX6_bridges 2 = .ok (.invokevirtual 83, 3) := by decide +kernel
theorem dX6_bridges_5 : decode cX6_bridges 5 = .ok (.ifCond .ne 6, 3) := by decide +kernel
theorem dX6_bridges_8 : decode cX6_bridges 8 = .ok (.bipush (-2), 2) := by decide +kernel
theorem dX6_bridges_10 : decode cX6_bridges 10 = .ok (.ireturn, 1) := by decide +kernel
theorem dX6_bridges_11 : decode cX6_bridges 11 = .ok (.iconst 0, 1) := by decide +kernel
theorem dX6_bridges_12 : decode cX6_bridges 12 = .ok (.istore_n 2, 1) := by decide +kernel
theorem dX6_bridges_13 : decode cX6_bridges 13 = .ok (.iconst 0, 1) := by decide +kernel
theorem dX6_bridges_14 : decode cX6_bridges 14 = .ok (.istore_n 3, 1) := by decide +kernel
theorem dX6_bridges_15 : decode cX6_bridges 15 = .ok (.iload_n 3, 1) := by decide +kernel
theorem dX6_bridges_16 : decode cX6_bridges 16 = .ok (.aload_n 0, 1) := by decide +kernel
theorem dX6_bridges_17 : decode cX6_bridges 17 = .ok (.getfield 70, 3) := by decide +kernel
theorem dX6_bridges_20 : decode cX6_bridges 20 = .ok (.if_icmp .ge 132, 3) := by decide +kernel
theorem dX6_bridges_23 : decode cX6_bridges 23 = .ok (.aload_n 0, 1) := by decide +kernel
theorem dX6_bridges_24 : decode cX6_bridges 24 = .ok (.getfield 35, 3) := by decide +kernel
theorem dX6_bridges_27 : decode cX6_bridges 27 = .ok (.iload_n 3, 1) := by decide +kernel
theorem dX6_bridges_28 : decode cX6_bridges 28 = .ok (.iaload, 1) := by decide +kernel
theorem dX6_bridges_29 : decode cX6_bridges 29 = .ok (.iload_n 1, 1) := by decide +kernel
theorem dX6_bridges_30 : decode cX6_bridges 30 = .ok (.if_icmp .ne 116, 3) := by decide +kernel
theorem dX6_bridges_33 : decode cX6_bridges 33 = .ok (.aload_n 0, 1) := by decide +kernel
theorem dX6_bridges_34 : decode cX6_bridges 34 = .ok (.iload_n 3, 1) := by decide +kernel
theorem dX6_bridges_35 : decode cX6_bridges 35 = .ok (.invokevirtual 117, 3) := by decide +kernel
theorem dX6_bridges_38 : decode cX6_bridges 38 = .ok (.ifCond .ne 108, 3) := by decide +kernel
theorem dX6_bridges_41 : decode cX6_bridges 41 = .ok (.aload_n 0, 1) := by decide +kernel
theorem dX6_bridges_42 : decode cX6_bridges 42 = .ok (.iload_n 3, 1) := by decide +kernel
theorem dX6_bridges_43 : decode cX6_bridges 43 = .ok (.bipush 32, 2) := by decide +kernel
theorem dX6_bridges_45 : decode cX6_bridges 45 = .ok (.invokevirtual 100, 3) := by decide +kernel
theorem dX6_bridges_48 : decode cX6_bridges 48 = .ok (.ifCond .ne 98, 3) := by decide +kernel
theorem dX6_bridges_51 : decode cX6_bridges 51 = .ok (.iconst 0, 1) := by decide +kernel
theorem dX6_bridges_52 : decode cX6_bridges 52 = .ok (.istore 4, 2) := by decide +kernel
theorem dX6_bridges_54 : decode cX6_bridges 54 = .ok (.iload 4, 2) := by decide +kernel
theorem dX6_bridges_56 : decode cX6_bridges 56 = .ok (.bipush 20, 2) := by decide +kernel
theorem dX6_bridges_58 : decode cX6_bridges 58 = .ok (.if_icmp .ge 88, 3) := by decide +kernel
theorem dX6_bridges_61 : decode cX6_bridges 61 = .ok (.iconst 0, 1) := by decide +kernel
theorem dX6_bridges_62 : decode cX6_bridges 62 = .ok (.istore 5, 2) := by decide +kernel
theorem dX6_bridges_64 : decode cX6_bridges 64 = .ok (.iconst 0, 1) := by decide +kernel
theorem dX6_bridges_65 : decode cX6_bridges 65 = .ok (.istore 6, 2) := by decide +kernel
theorem dX6_bridges_67 : decode cX6_bridges 67 = .ok (.iload 6, 2) := by decide +kernel
theorem dX6_bridges_69 : decode cX6_bridges 69 = .ok (.aload_n 0, 1) := by decide +kernel
theorem dX6_bridges_70 : decode cX6_bridges 70 = .ok (.getfield 70, 3) := by decide +kernel
theorem dX6_bridges_73 : decode cX6_bridges 73 = .ok (.if_icmp .ge 43, 3) := by decide +kernel
theorem dX6_bridges_76 : decode cX6_bridges 76 = .ok (.iload 5, 2) := by decide +kernel
theorem dX6_bridges_78 : decode cX6_bridges 78 = .ok (.ifCond .ne 25, 3) := by decide +kernel
theorem dX6_bridges_81 : decode cX6_bridges 81 = .ok (.aload_n 0, 1) := by decide +kernel
theorem dX6_bridges_82 : decode cX6_bridges 82 = .ok (.iload_n 3, 1) := by decide +kernel
theorem dX6_bridges_83 : decode cX6_bridges 83 = .ok (.iload 6, 2) := by decide +kernel
theorem dX6_bridges_85 : decode cX6_bridges 85 = .ok (.invokevirtual 129, 3) := by decide +kernel
theorem dX6_bridges_88 : decode cX6_bridges 88 = .ok (.ifCond .eq 19, 3) := by decide +kernel
theorem dX6_bridges_91 : decode cX6_bridges 91 = .ok (.aload_n 0, 1) := by decide +kernel
theorem dX6_bridges_92 : decode cX6_bridges 92 = .ok (.getfield 41, 3) := by decide +kernel
theorem dX6_bridges_95 : decode cX6_bridges 95 = .ok (.iload 6, 2) := by decide +kernel
theorem dX6_bridges_97 : decode cX6_bridges 97 = .ok (.iaload, 1) := by decide +kernel
theorem dX6_bridges_98 : decode cX6_bridges 98 = .ok (.iload 4, 2) := by decide +kernel
theorem dX6_bridges_100 : decode cX6_bridges 100 = .ok (.if_icmp .ne 7, 3) := by decide +kernel
theorem dX6_bridges_103 : decode cX6_bridges 103 = .ok (.iconst 1, 1) := by decide +kernel
theorem dX6_bridges_104 : decode cX6_bridges 104 = .ok (.goto 4, 3) := by decide +kernel
theorem dX6_bridges_107 : decode cX6_bridges 107 = .ok (.iconst 0, 1) := by decide +kernel
theorem dX6_bridges_108 : decode cX6_bridges 108 = .ok (.istore 5, 2) := by decide +kernel
theorem dX6_bridges_110 : decode cX6_bridges 110 = .ok (.iinc 6 1, 3) := by decide +kernel
theorem dX6_bridges_113 : decode cX6_bridges 113 = .ok (.goto (-46), 3) := by decide +kernel
theorem dX6_bridges_116 : decode cX6_bridges 116 = .ok (.iload_n 2, 1) := by decide +kernel
theorem dX6_bridges_117 : decode cX6_bridges 117 = .ok (.iload 5, 2) := by decide +kernel
theorem dX6_bridges_119 : decode cX6_bridges 119 = .ok (.ifCond .eq 18, 3) := by decide +kernel
theorem dX6_bridges_122 : decode cX6_bridges 122 = .ok (.iload 4, 2) := by decide +kernel
theorem dX6_bridges_124 : decode cX6_bridges 124 = .ok (.aload_n 0, 1) := by decide +kernel
theorem dX6_bridges_125 : decode cX6_bridges 125 = .ok (.getfield 41, 3) := by decide +kernel
theorem dX6_bridges_128 : decode cX6_bridges 128 = .ok (.iload_n 3, 1) := by decide +kernel
theorem dX6_bridges_129 : decode cX6_bridges 129 = .ok (.iaload, 1) := by decide +kernel
theorem dX6_bridges_130 : decode cX6_bridges 130 = .ok (.if_icmp .eq 7, 3) := by decide +kernel
theorem dX6_bridges_133 : decode cX6_bridges 133 = .ok (.iconst 1, 1) := by decide +kernel
theorem dX6_bridges_134 : decode cX6_bridges 134 = .ok (.goto 4, 3) := by decide +kernel
theorem dX6_bridges_137 : decode cX6_bridges 137 = .ok (.iconst 0, 1) := by decide +kernel
theorem dX6_bridges_138 : decode cX6_bridges 138 = .ok (.iadd, 1) := by decide +kernel
theorem dX6_bridges_139 : decode cX6_bridges 139 = .ok (.istore_n 2, 1) := by decide +kernel
theorem dX6_bridges_140 : decode cX6_bridges 140 = .ok (.iinc 4 1, 3) := by decide +kernel
theorem dX6_bridges_143 : decode cX6_bridges 143 = .ok (.goto (-89), 3) := by decide +kernel
theorem dX6_bridges_146 : decode cX6_bridges 146 = .ok (.iinc 3 1, 3) := by decide +kernel
theorem dX6_bridges_149 : decode cX6_bridges 149 = .ok (.goto (-134), 3) := by decide +kernel
theorem dX6_bridges_152 : decode cX6_bridges 152 = .ok (.iload_n 2, 1) := by decide +kernel
theorem dX6_bridges_153 : decode cX6_bridges 153 = .ok (.ireturn, 1) := by decide +kernel
theorem dX6_first_0 : decode cX6_first 0 = .ok (.aload_n 0, 1) := by decide +kernel
theorem dX6_first_1 : decode cX6_first 1 = .ok (.iload_n 1, 1) := by decide +kernel
theorem dX6_first_2 : decode cX6_first 2 = .ok (.invokevirtual 83, 3) := by decide +kernel
theorem dX6_first_5 : decode cX6_first 5 = .ok (.ifCond .ne 6, 3) := by decide +kernel
theorem dX6_first_8 : decode cX6_first 8 = .ok (.bipush (-2), 2) := by decide +kernel
theorem dX6_first_10 : decode cX6_first 10 = .ok (.ireturn, 1) := by decide +kernel
theorem dX6_first_11 : decode cX6_first 11 = .ok (.iconst (-1), 1) := by decide +kernel
theorem dX6_first_12 : decode cX6_first 12 = .ok (.istore_n 2, 1) := by decide +kernel
theorem dX6_first_13 : decode cX6_first 13 = .ok (.iconst (-1), 1) := by decide +kernel
theorem dX6_first_14 : decode cX6_first 14 = .ok (.istore_n 3, 1) := by decide +kernel
theorem dX6_first_15 : decode cX6_first 15 = .ok (.iconst 0, 1) := by decide +kernel
theorem dX6_first_16 : decode cX6_first 16 = .ok (.istore 4, 2) := by decide +kernel
theorem dX6_first_18 : decode cX6_first 18 = .ok (.iload 4, 2) := by decide +kernel
theorem dX6_first_20 : decode cX6_first 20 = .ok (.aload_n 0, 1) := by decide +kernel
theorem dX6_first_21 : decode cX6_first 21 = .ok (.getfield 70, 3) := by decide +kernel
theorem dX6_first_24 : decode cX6_first 24 = .ok (.if_icmp .ge 74, 3) := by decide +kernel
theorem dX6_first_27 : decode cX6_first 27 = .ok (.iconst 0, 1) := by decide +kernel
theorem dX6_first_28 : decode cX6_first 28 = .ok (.istore 5, 2) := by decide +kernel
theorem dX6_first_30 : decode cX6_first 30 = .ok (.iconst 0, 1) := by decide +kernel
theorem dX6_first_31 : decode cX6_first 31 = .ok (.istore 6, 2) := by decide +kernel
theorem dX6_first_33 : decode cX6_first 33 = .ok (.iload 6, 2) := by decide +kernel
theorem dX6_first_35 : decode cX6_first 35 = .ok (.aload_n 0, 1) := by decide +kernel
theorem dX6_first_36 : decode cX6_first 36 = .ok (.getfield 70, 3) := by decide +kernel
theorem dX6_first_39 : decode cX6_first 39 = .ok (.if_icmp .ge 30, 3) := by decide +kernel
theorem dX6_first_42 : decode cX6_first 42 = .ok (.iload 5, 2) := by decide +kernel
theorem dX6_first_44 : decode cX6_first 44 = .ok (.aload_n 0, 1) := by decide +kernel
theorem dX6_first_45 : decode cX6_first 45 = .ok (.iload 4, 2) := by decide +kernel
theorem dX6_first_47 : decode cX6_first 47 = .ok (.iload 6, 2) := by decide +kernel
theorem dX6_first_49 : decode cX6_first 49 = .ok (.invokevirtual 129, 3) := by decide +kernel
theorem dX6_first_52 : decode cX6_first 52 = .ok (.ifCond .eq 7, 3) := by decide +kernel
theorem dX6_first_55 : decode cX6_first 55 = .ok (.iconst 1, 1) := by decide +kernel
theorem dX6_first_56 : decode cX6_first 56 = .ok (.goto 4, 3) := by decide +kernel
theorem dX6_first_59 : decode cX6_first 59 = .ok (.iconst 0, 1) := by decide +kernel
theorem dX6_first_60 : decode cX6_first 60 = .ok (.iadd, 1) := by decide +kernel
theorem dX6_first_61 : decode cX6_first 61 = .ok (.istore 5, 2) := by decide +kernel
theorem dX6_first_63 : decode cX6_first 63 = .ok (.iinc 6 1, 3) := by decide +kernel
theorem dX6_first_66 : decode cX6_first 66 = .ok (.goto (-33), 3) := by decide +kernel
theorem dX6_first_69 : decode cX6_first 69 = .ok (.aload_n 0, 1) := by decide +kernel
theorem dX6_first_70 : decode cX6_first 70 = .ok (.getfield 35, 3) := by decide +kernel
theorem dX6_first_73 : decode cX6_first 73 = .ok (.iload 4, 2) := by decide +kernel
theorem dX6_first_75 : decode cX6_first 75 = .ok (.iaload, 1) := by decide +kernel
theorem dX6_first_76 : decode cX6_first 76 = .ok (.iload_n 1, 1) := by decide +kernel
theorem dX6_first_77 : decode cX6_first 77 = .ok (.if_icmp .ne 15, 3) := by decide +kernel
theorem dX6_first_80 : decode cX6_first 80 = .ok (.iload 5, 2) := by decide +kernel
theorem dX6_first_82 : decode cX6_first 82 = .ok (.iload_n 3, 1) := by decide +kernel
theorem dX6_first_83 : decode cX6_first 83 = .ok (.if_icmp .le 9, 3) := by decide +kernel
theorem dX6_first_86 : decode cX6_first 86 = .ok (.iload 4, 2) := by decide +kernel
theorem dX6_first_88 : decode cX6_first 88 = .ok (.istore_n 2, 1) := by decide +kernel
theorem dX6_first_89 : decode cX6_first 89 = .ok (.iload 5, 2) := by decide +kernel
theorem dX6_first_91 : decode cX6_first 91 = .ok (.istore_n 3, 1) := by decide +kernel
theorem dX6_first_92 : decode cX6_first 92 = .ok (.iinc 4 1, 3) := by decide +kernel
theorem dX6_first_95 : decode cX6_first 95 = .ok (.goto (-77), 3) := by decide +kernel
theorem dX6_first_98 : decode cX6_first 98 = .ok (.iload_n 2, 1) := by decide +kernel
theorem dX6_first_99 : decode cX6_first 99 = .ok (.ireturn, 1) := by decide +kernel
theorem dX6_told_0 : decode cX6_told 0 = .ok (.iload_n 1, 1) := by decide +kernel
theorem dX6_told_1 : decode cX6_told 1 = .ok (.iconst 3, 1) := by decide +kernel
theorem dX6_told_2 : decode cX6_told 2 = .ok (.if_icmp .ne 35, 3) := by decide +kernel
theorem dX6_told_5 : decode cX6_told 5 = .ok (.iconst 0, 1) := by decide +kernel
theorem dX6_told_6 : decode cX6_told 6 = .ok (.istore_n 2, 1) := by decide +kernel
theorem dX6_told_7 : decode cX6_told 7 = .ok (.iconst 0, 1) := by decide +kernel
theorem dX6_told_8 : decode cX6_told 8 = .ok (.istore_n 3, 1) := by decide +kernel
theorem dX6_told_9 : decode cX6_told 9 = .ok (.iload_n 3, 1) := by decide +kernel
theorem dX6_told_10 : decode cX6_told 10 = .ok (.aload_n 0, 1) := by decide +kernel
theorem dX6_told_11 : decode cX6_told 11 = .ok (.getfield 62, 3) := by decide +kernel
theorem dX6_told_14 : decode cX6_told 14 = .ok (.if_icmp .ge 21, 3) := by decide +kernel
theorem dX6_told_17 : decode cX6_told 17 = .ok (.aload_n 0, 1) := by decide +kernel
theorem dX6_told_18 : decode cX6_told 18 = .ok (.iload_n 3, 1) := by decide +kernel
theorem dX6_told_19 : decode cX6_told 19 = .ok (.invokevirtual 166, 3) := by decide +kernel
theorem dX6_told_22 : decode cX6_told 22 = .ok (.iload_n 2, 1) := by decide +kernel
theorem dX6_told_23 : decode cX6_told 23 = .ok (.aload_n 0, 1) := by decide +kernel
theorem dX6_told_24 : decode cX6_told 24 = .ok (.getfield 144, 3) := by decide +kernel
theorem dX6_told_27 : decode cX6_told 27 = .ok (.iadd, 1) := by decide +kernel
theorem dX6_told_28 : decode cX6_told 28 = .ok (.istore_n 2, 1) := by decide +kernel
theorem dX6_told_29 : decode cX6_told 29 = .ok (.iinc 3 1, 3) := by decide +kernel
theorem dX6_told_32 : decode cX6_told 32 = .ok (.goto (-23), 3) := by decide +kernel
theorem dX6_told_35 : decode cX6_told 35 = .ok (.iload_n 2, 1) := by decide +kernel
theorem dX6_told_36 : decode cX6_told 36 = .ok (.ireturn, 1) := by decide +kernel
theorem dX6_told_37 : decode cX6_told 37 = .ok (.iload_n 1, 1) := by decide +kernel
theorem dX6_told_38 : decode cX6_told 38 = .ok (.ifCond .ne 10, 3) := by decide +kernel
theorem dX6_told_41 : decode cX6_told 41 = .ok (.aload_n 0, 1) := by decide +kernel
end
section
theorem dX6_told_42 : decode cX6_told 42 = .ok (.getfield 62, 3) := by decide +kernel
theorem dX6_told_45 : decode cX6_told 45 = .ok (.goto 29, 3) := by decide +kernel
theorem dX6_told_48 : decode cX6_told 48 = .ok (.iload_n 1, 1) := by decide +kernel
theorem dX6_told_49 : decode cX6_told 49 = .ok (.iconst 1, 1) := by decide +kernel
theorem dX6_told_50 : decode cX6_told 50 = .ok (.if_icmp .ne 10, 3) := by decide +kernel
theorem dX6_told_53 : decode cX6_told 53 = .ok (.aload_n 0, 1) := by decide +kernel
theorem dX6_told_54 : decode cX6_told 54 = .ok (.getfield 73, 3) := by decide +kernel
theorem dX6_told_57 : decode cX6_told 57 = .ok (.goto 17, 3) := by decide +kernel
theorem dX6_told_60 : decode cX6_told 60 = .ok (.iload_n 1, 1) := by decide +kernel
theorem dX6_told_61 : decode cX6_told 61 = .ok (.iconst 2, 1) := by decide +kernel
theorem dX6_told_62 : decode cX6_told 62 = .ok (.if_icmp .ne 10, 3) := by decide +kernel
theorem dX6_told_65 : decode cX6_told 65 = .ok (.aload_n 0, 1) := by decide +kernel
theorem dX6_told_66 : decode cX6_told 66 = .ok (.getfield 70, 3) := by decide +kernel
theorem dX6_told_69 : decode cX6_told 69 = .ok (.goto 5, 3) := by decide +kernel
theorem dX6_told_72 : decode cX6_told 72 = .ok (.bipush (-3), 2) := by decide +kernel
theorem dX6_told_74 : decode cX6_told 74 = .ok (.ireturn, 1) := by decide +kernel
theorem dL_law_0 : decode cL_law 0 = .ok (.new 7, 3) := by decide +kernel
theorem dL_law_3 : decode cL_law 3 = .ok (.dup, 1) := by decide +kernel
theorem dL_law_4 : decode cL_law 4 = .ok (.invokespecial 9, 3) := by decide +kernel
theorem dL_law_7 : decode cL_law 7 = .ok (.astore_n 1, 1) := by decide +kernel
theorem dL_law_8 : decode cL_law 8 = .ok (.new 10, 3) := by decide +kernel
theorem dL_law_11 : decode cL_law 11 = .ok (.dup, 1) := by decide +kernel
theorem dL_law_12 : decode cL_law 12 = .ok (.invokespecial 12, 3) := by decide +kernel
theorem dL_law_15 : decode cL_law 15 = .ok (.astore_n 2, 1) := by decide +kernel
theorem dL_law_16 : decode cL_law 16 = .ok (.iconst 0, 1) := by decide +kernel
theorem dL_law_17 : decode cL_law 17 = .ok (.istore_n 3, 1) := by decide +kernel
theorem dL_law_18 : decode cL_law 18 = .ok (.iload_n 3, 1) := by decide +kernel
theorem dL_law_19 : decode cL_law 19 = .ok (.aload_n 0, 1) := by decide +kernel
theorem dL_law_20 : decode cL_law 20 = .ok (.arraylength, 1) := by decide +kernel
theorem dL_law_21 : decode cL_law 21 = .ok (.iconst 5, 1) := by decide +kernel
theorem dL_law_22 : decode cL_law 22 = .ok (.isub, 1) := by decide +kernel
theorem dL_law_23 : decode cL_law 23 = .ok (.if_icmp .gt 582, 3) := by decide +kernel
theorem dL_law_26 : decode cL_law 26 = .ok (.aload_n 0, 1) := by decide +kernel
theorem dL_law_27 : decode cL_law 27 = .ok (.iload_n 3, 1) := by decide +kernel
theorem dL_law_28 : decode cL_law 28 = .ok (.iaload, 1) := by decide +kernel
theorem dL_law_29 : decode cL_law 29 = .ok (.bipush 15, 2) := by decide +kernel
theorem dL_law_31 : decode cL_law 31 = .ok (.iand, 1) := by decide +kernel
theorem dL_law_32 : decode cL_law 32 = .ok (.tableswitch 567 0 14 #[76, 89, 132, 165, 214, 267, 300, 333, 366, 399, 432, 455, 498, 521, 544], 76) := by decide +kernel
theorem dL_law_108 : decode cL_law 108 = .ok (.aload_n 1, 1) := by decide +kernel
theorem dL_law_109 : decode cL_law 109 = .ok (.invokevirtual 13, 3) := by decide +kernel
theorem dL_law_112 : decode cL_law 112 = .ok (.aload_n 2, 1) := by decide +kernel
theorem dL_law_113 : decode cL_law 113 = .ok (.invokevirtual 17, 3) := by decide +kernel
theorem dL_law_116 : decode cL_law 116 = .ok (.if_icmp .eq 483, 3) := by decide +kernel
theorem dL_law_119 : decode cL_law 119 = .ok (.iconst 0, 1) := by decide +kernel
theorem dL_law_120 : decode cL_law 120 = .ok (.ireturn, 1) := by decide +kernel
theorem dL_law_121 : decode cL_law 121 = .ok (.aload_n 1, 1) := by decide +kernel
theorem dL_law_122 : decode cL_law 122 = .ok (.aload_n 0, 1) := by decide +kernel
theorem dL_law_123 : decode cL_law 123 = .ok (.iload_n 3, 1) := by decide +kernel
theorem dL_law_124 : decode cL_law 124 = .ok (.iconst 1, 1) := by decide +kernel
theorem dL_law_125 : decode cL_law 125 = .ok (.iadd, 1) := by decide +kernel
theorem dL_law_126 : decode cL_law 126 = .ok (.iaload, 1) := by decide +kernel
theorem dL_law_127 : decode cL_law 127 = .ok (.aload_n 0, 1) := by decide +kernel
theorem dL_law_128 : decode cL_law 128 = .ok (.iload_n 3, 1) := by decide +kernel
theorem dL_law_129 : decode cL_law 129 = .ok (.iconst 2, 1) := by decide +kernel
theorem dL_law_130 : decode cL_law 130 = .ok (.iadd, 1) := by decide +kernel
theorem dL_law_131 : decode cL_law 131 = .ok (.iaload, 1) := by decide +kernel
theorem dL_law_132 : decode cL_law 132 = .ok (.aload_n 0, 1) := by decide +kernel
theorem dL_law_133 : decode cL_law 133 = .ok (.iload_n 3, 1) := by decide +kernel
theorem dL_law_134 : decode cL_law 134 = .ok (.iconst 3, 1) := by decide +kernel
theorem dL_law_135 : decode cL_law 135 = .ok (.iadd, 1) := by decide +kernel
theorem dL_law_136 : decode cL_law 136 = .ok (.iaload, 1) := by decide +kernel
theorem dL_law_137 : decode cL_law 137 = .ok (.invokevirtual 18, 3) := by decide +kernel
theorem dL_law_140 : decode cL_law 140 = .ok (.aload_n 2, 1) := by decide +kernel
theorem dL_law_141 : decode cL_law 141 = .ok (.aload_n 0, 1) := by decide +kernel
theorem dL_law_142 : decode cL_law 142 = .ok (.iload_n 3, 1) := by decide +kernel
theorem dL_law_143 : decode cL_law 143 = .ok (.iconst 1, 1) := by decide +kernel
theorem dL_law_144 : decode cL_law 144 = .ok (.iadd, 1) := by decide +kernel
theorem dL_law_145 : decode cL_law 145 = .ok (.iaload, 1) := by decide +kernel
theorem dL_law_146 : decode cL_law 146 = .ok (.aload_n 0, 1) := by decide +kernel
theorem dL_law_147 : decode cL_law 147 = .ok (.iload_n 3, 1) := by decide +kernel
theorem dL_law_148 : decode cL_law 148 = .ok (.iconst 2, 1) := by decide +kernel
theorem dL_law_149 : decode cL_law 149 = .ok (.iadd, 1) := by decide +kernel
theorem dL_law_150 : decode cL_law 150 = .ok (.iaload, 1) := by decide +kernel
theorem dL_law_151 : decode cL_law 151 = .ok (.aload_n 0, 1) := by decide +kernel
theorem dL_law_152 : decode cL_law 152 = .ok (.iload_n 3, 1) := by decide +kernel
theorem dL_law_153 : decode cL_law 153 = .ok (.iconst 3, 1) := by decide +kernel
theorem dL_law_154 : decode cL_law 154 = .ok (.iadd, 1) := by decide +kernel
theorem dL_law_155 : decode cL_law 155 = .ok (.iaload, 1) := by decide +kernel
theorem dL_law_156 : decode cL_law 156 = .ok (.invokevirtual 22, 3) := by decide +kernel
theorem dL_law_159 : decode cL_law 159 = .ok (.if_icmp .eq 440, 3) := by decide +kernel
theorem dL_law_162 : decode cL_law 162 = .ok (.iconst 0, 1) := by decide +kernel
theorem dL_law_163 : decode cL_law 163 = .ok (.ireturn, 1) := by decide +kernel
theorem dL_law_164 : decode cL_law 164 = .ok (.aload_n 1, 1) := by decide +kernel
theorem dL_law_165 : decode cL_law 165 = .ok (.aload_n 0, 1) := by decide +kernel
theorem dL_law_166 : decode cL_law 166 = .ok (.iload_n 3, 1) := by decide +kernel
theorem dL_law_167 : decode cL_law 167 = .ok (.iconst 1, 1) := by decide +kernel
theorem dL_law_168 : decode cL_law 168 = .ok (.iadd, 1) := by decide +kernel
theorem dL_law_169 : decode cL_law 169 = .ok (.iaload, 1) := by decide +kernel
theorem dL_law_170 : decode cL_law 170 = .ok (.aload_n 0, 1) := by decide +kernel
theorem dL_law_171 : decode cL_law 171 = .ok (.iload_n 3, 1) := by decide +kernel
theorem dL_law_172 : decode cL_law 172 = .ok (.iconst 2, 1) := by decide +kernel
theorem dL_law_173 : decode cL_law 173 = .ok (.iadd, 1) := by decide +kernel
theorem dL_law_174 : decode cL_law 174 = .ok (.iaload, 1) := by decide +kernel
theorem dL_law_175 : decode cL_law 175 = .ok (.invokevirtual 23, 3) := by decide +kernel
theorem dL_law_178 : decode cL_law 178 = .ok (.aload_n 2, 1) := by decide +kernel
theorem dL_law_179 : decode cL_law 179 = .ok (.aload_n 0, 1) := by decide +kernel
theorem dL_law_180 : decode cL_law 180 = .ok (.iload_n 3, 1) := by decide +kernel
theorem dL_law_181 : decode cL_law 181 = .ok (.iconst 1, 1) := by decide +kernel
theorem dL_law_182 : decode cL_law 182 = .ok (.iadd, 1) := by decide +kernel
theorem dL_law_183 : decode cL_law 183 = .ok (.iaload, 1) := by decide +kernel
theorem dL_law_184 : decode cL_law 184 = .ok (.aload_n 0, 1) := by decide +kernel
theorem dL_law_185 : decode cL_law 185 = .ok (.iload_n 3, 1) := by decide +kernel
theorem dL_law_186 : decode cL_law 186 = .ok (.iconst 2, 1) := by decide +kernel
theorem dL_law_187 : decode cL_law 187 = .ok (.iadd, 1) := by decide +kernel
theorem dL_law_188 : decode cL_law 188 = .ok (.iaload, 1) := by decide +kernel
theorem dL_law_189 : decode cL_law 189 = .ok (.invokevirtual 27, 3) := by decide +kernel
theorem dL_law_192 : decode cL_law 192 = .ok (.if_icmp .eq 407, 3) := by decide +kernel
theorem dL_law_195 : decode cL_law 195 = .ok (.iconst 0, 1) := by decide +kernel
theorem dL_law_196 : decode cL_law 196 = .ok (.ireturn, 1) := by decide +kernel
theorem dL_law_197 : decode cL_law 197 = .ok (.aload_n 1, 1) := by decide +kernel
theorem dL_law_198 : decode cL_law 198 = .ok (.aload_n 0, 1) := by decide +kernel
theorem dL_law_199 : decode cL_law 199 = .ok (.iload_n 3, 1) := by decide +kernel
theorem dL_law_200 : decode cL_law 200 = .ok (.iconst 1, 1) := by decide +kernel
theorem dL_law_201 : decode cL_law 201 = .ok (.iadd, 1) := by decide +kernel
theorem dL_law_202 : decode cL_law 202 = .ok (.iaload, 1) := by decide +kernel
theorem dL_law_203 : decode cL_law 203 = .ok (.aload_n 0, 1) := by decide +kernel
theorem dL_law_204 : decode cL_law 204 = .ok (.iload_n 3, 1) := by decide +kernel
theorem dL_law_205 : decode cL_law 205 = .ok (.iconst 2, 1) := by decide +kernel
theorem dL_law_206 : decode cL_law 206 = .ok (.iadd, 1) := by decide +kernel
theorem dL_law_207 : decode cL_law 207 = .ok (.iaload, 1) := by decide +kernel
theorem dL_law_208 : decode cL_law 208 = .ok (.ifCond .eq 7, 3) := by decide +kernel
theorem dL_law_211 : decode cL_law 211 = .ok (.iconst 1, 1) := by decide +kernel
theorem dL_law_212 : decode cL_law 212 = .ok (.goto 4, 3) := by decide +kernel
theorem dL_law_215 : decode cL_law 215 = .ok (.iconst 0, 1) := by decide +kernel
theorem dL_law_216 : decode cL_law 216 = .ok (.invokevirtual 28, 3) := by decide +kernel
theorem dL_law_219 : decode cL_law 219 = .ok (.aload_n 2, 1) := by decide +kernel
theorem dL_law_220 : decode cL_law 220 = .ok (.aload_n 0, 1) := by decide +kernel
theorem dL_law_221 : decode cL_law 221 = .ok (.iload_n 3, 1) := by decide +kernel
theorem dL_law_222 : decode cL_law 222 = .ok (.iconst 1, 1) := by decide +kernel
theorem dL_law_223 : decode cL_law 223 = .ok (.iadd, 1) := by decide +kernel
theorem dL_law_224 : decode cL_law 224 = .ok (.iaload, 1) := by decide +kernel
theorem dL_law_225 : decode cL_law 225 = .ok (.aload_n 0, 1) := by decide +kernel
theorem dL_law_226 : decode cL_law 226 = .ok (.iload_n 3, 1) := by decide +kernel
theorem dL_law_227 : decode cL_law 227 = .ok (.iconst 2, 1) := by decide +kernel
theorem dL_law_228 : decode cL_law 228 = .ok (.iadd, 1) := by decide +kernel
theorem dL_law_229 : decode cL_law 229 = .ok (.iaload, 1) := by decide +kernel
theorem dL_law_230 : decode cL_law 230 = .ok (.ifCond .eq 7, 3) := by decide +kernel
theorem dL_law_233 : decode cL_law 233 = .ok (.iconst 1, 1) := by decide +kernel
theorem dL_law_234 : decode cL_law 234 = .ok (.goto 4, 3) := by decide +kernel
theorem dL_law_237 : decode cL_law 237 = .ok (.iconst 0, 1) := by decide +kernel
theorem dL_law_238 : decode cL_law 238 = .ok (.invokevirtual 32, 3) := by decide +kernel
theorem dL_law_241 : decode cL_law 241 = .ok (.if_icmp .eq 358, 3) := by decide +kernel
theorem dL_law_244 : decode cL_law 244 = .ok (.iconst 0, 1) := by decide +kernel
theorem dL_law_245 : decode cL_law 245 = .ok (.ireturn, 1) := by decide +kernel
theorem dL_law_246 : decode cL_law 246 = .ok (.aload_n 1, 1) := by decide +kernel
theorem dL_law_247 : decode cL_law 247 = .ok (.aload_n 0, 1) := by decide +kernel
theorem dL_law_248 : decode cL_law 248 = .ok (.iload_n 3, 1) := by decide +kernel
theorem dL_law_249 : decode cL_law 249 = .ok (.iconst 1, 1) := by decide +kernel
theorem dL_law_250 : decode cL_law 250 = .ok (.iadd, 1) := by decide +kernel
theorem dL_law_251 : decode cL_law 251 = .ok (.iaload, 1) := by decide +kernel
theorem dL_law_252 : decode cL_law 252 = .ok (.aload_n 0, 1) := by decide +kernel
theorem dL_law_253 : decode cL_law 253 = .ok (.iload_n 3, 1) := by decide +kernel
theorem dL_law_254 : decode cL_law 254 = .ok (.iconst 2, 1) := by decide +kernel
theorem dL_law_255 : decode cL_law 255 = .ok (.iadd, 1) := by decide +kernel
theorem dL_law_256 : decode cL_law 256 = .ok (.iaload, 1) := by decide +kernel
theorem dL_law_257 : decode cL_law 257 = .ok (.aload_n 0, 1) := by decide +kernel
theorem dL_law_258 : decode cL_law 258 = .ok (.iload_n 3, 1) := by decide +kernel
theorem dL_law_259 : decode cL_law 259 = .ok (.iconst 3, 1) := by decide +kernel
theorem dL_law_260 : decode cL_law 260 = .ok (.iadd, 1) := by decide +kernel
theorem dL_law_261 : decode cL_law 261 = .ok (.iaload, 1) := by decide +kernel
theorem dL_law_262 : decode cL_law 262 = .ok (.aload_n 0, 1) := by decide +kernel
theorem dL_law_263 : decode cL_law 263 = .ok (.iload_n 3, 1) := by decide +kernel
theorem dL_law_264 : decode cL_law 264 = .ok (.iconst 4, 1) := by decide +kernel
theorem dL_law_265 : decode cL_law 265 = .ok (.iadd, 1) := by decide +kernel
theorem dL_law_266 : decode cL_law 266 = .ok (.iaload, 1) := by decide +kernel
theorem dL_law_267 : decode cL_law 267 = .ok (.invokevirtual 33, 3) := by decide +kernel
theorem dL_law_270 : decode cL_law 270 = .ok (.aload_n 2, 1) := by decide +kernel
theorem dL_law_271 : decode cL_law 271 = .ok (.aload_n 0, 1) := by decide +kernel
theorem dL_law_272 : decode cL_law 272 = .ok (.iload_n 3, 1) := by decide +kernel
theorem dL_law_273 : decode cL_law 273 = .ok (.iconst 1, 1) := by decide +kernel
theorem dL_law_274 : decode cL_law 274 = .ok (.iadd, 1) := by decide +kernel
theorem dL_law_275 : decode cL_law 275 = .ok (.iaload, 1) := by decide +kernel
theorem dL_law_276 : decode cL_law 276 = .ok (.aload_n 0, 1) := by decide +kernel
theorem dL_law_277 : decode cL_law 277 = .ok (.iload_n 3, 1) := by decide +kernel
theorem dL_law_278 : decode cL_law 278 = .ok (.iconst 2, 1) := by decide +kernel
theorem dL_law_279 : decode cL_law 279 = .ok (.iadd, 1) := by decide +kernel
theorem dL_law_280 : decode cL_law 280 = .ok (.iaload, 1) := by decide +kernel
theorem dL_law_281 : decode cL_law 281 = .ok (.aload_n 0, 1) := by decide +kernel
theorem dL_law_282 : decode cL_law 282 = .ok (.iload_n 3, 1) := by decide +kernel
theorem dL_law_283 : decode cL_law 283 = .ok (.iconst 3, 1) := by decide +kernel
theorem dL_law_284 : decode cL_law 284 = .ok (.iadd, 1) := by decide +kernel
theorem dL_law_285 : decode cL_law 285 = .ok (.iaload, 1) := by decide +kernel
theorem dL_law_286 : decode cL_law 286 = .ok (.aload_n 0, 1) := by decide +kernel
theorem dL_law_287 : decode cL_law 287 = .ok (.iload_n 3, 1) := by decide +kernel
theorem dL_law_288 : decode cL_law 288 = .ok (.iconst 4, 1) := by decide +kernel
theorem dL_law_289 : decode cL_law 289 = .ok (.iadd, 1) := by decide +kernel
theorem dL_law_290 : decode cL_law 290 = .ok (.iaload, 1) := by decide +kernel
theorem dL_law_291 : decode cL_law 291 = .ok (.invokevirtual 37, 3) := by decide +kernel
theorem dL_law_294 : decode cL_law 294 = .ok (.if_icmp .eq 305, 3) := by decide +kernel
theorem dL_law_297 : decode cL_law 297 = .ok (.iconst 0, 1) := by decide +kernel
theorem dL_law_298 : decode cL_law 298 = .ok (.ireturn, 1) := by decide +kernel
theorem dL_law_299 : decode cL_law 299 = .ok (.aload_n 1, 1) := by decide +kernel
theorem dL_law_300 : decode cL_law 300 = .ok (.aload_n 0, 1) := by decide +kernel
theorem dL_law_301 : decode cL_law 301 = .ok (.iload_n 3, 1) := by decide +kernel
theorem dL_law_302 : decode cL_law 302 = .ok (.iconst 1, 1) := by decide +kernel
theorem dL_law_303 : decode cL_law 303 = .ok (.iadd, 1) := by decide +kernel
theorem dL_law_304 : decode cL_law 304 = .ok (.iaload, 1) := by decide +kernel
theorem dL_law_305 : decode cL_law 305 = .ok (.aload_n 0, 1) := by decide +kernel
theorem dL_law_306 : decode cL_law 306 = .ok (.iload_n 3, 1) := by decide +kernel
theorem dL_law_307 : decode cL_law 307 = .ok (.iconst 2, 1) := by decide +kernel
theorem dL_law_308 : decode cL_law 308 = .ok (.iadd, 1) := by decide +kernel
theorem dL_law_309 : decode cL_law 309 = .ok (.iaload, 1) := by decide +kernel
theorem dL_law_310 : decode cL_law 310 = .ok (.invokevirtual 38, 3) := by decide +kernel
theorem dL_law_313 : decode cL_law 313 = .ok (.aload_n 2, 1) := by decide +kernel
theorem dL_law_314 : decode cL_law 314 = .ok (.aload_n 0, 1) := by decide +kernel
theorem dL_law_315 : decode cL_law 315 = .ok (.iload_n 3, 1) := by decide +kernel
theorem dL_law_316 : decode cL_law 316 = .ok (.iconst 1, 1) := by decide +kernel
theorem dL_law_317 : decode cL_law 317 = .ok (.iadd, 1) := by decide +kernel
theorem dL_law_318 : decode cL_law 318 = .ok (.iaload, 1) := by decide +kernel
theorem dL_law_319 : decode cL_law 319 = .ok (.aload_n 0, 1) := by decide +kernel
theorem dL_law_320 : decode cL_law 320 = .ok (.iload_n 3, 1) := by decide +kernel
theorem dL_law_321 : decode cL_law 321 = .ok (.iconst 2, 1) := by decide +kernel
theorem dL_law_322 : decode cL_law 322 = .ok (.iadd, 1) := by decide +kernel
theorem dL_law_323 : decode cL_law 323 = .ok (.iaload, 1) := by decide +kernel
theorem dL_law_324 : decode cL_law 324 = .ok (.invokevirtual 41, 3) := by decide +kernel
theorem dL_law_327 : decode cL_law 327 = .ok (.if_icmp .eq 272, 3) := by decide +kernel
theorem dL_law_330 : decode cL_law 330 = .ok (.iconst 0, 1) := by decide +kernel
theorem dL_law_331 : decode cL_law 331 = .ok (.ireturn, 1) := by decide +kernel
theorem dL_law_332 : decode cL_law 332 = .ok (.aload_n 1, 1) := by decide +kernel
theorem dL_law_333 : decode cL_law 333 = .ok (.aload_n 0, 1) := by decide +kernel
theorem dL_law_334 : decode cL_law 334 = .ok (.iload_n 3, 1) := by decide +kernel
theorem dL_law_335 : decode cL_law 335 = .ok (.iconst 1, 1) := by decide +kernel
theorem dL_law_336 : decode cL_law 336 = .ok (.iadd, 1) := by decide +kernel
theorem dL_law_337 : decode cL_law 337 = .ok (.iaload, 1) := by decide +kernel
theorem dL_law_338 : decode cL_law 338 = .ok (.aload_n 0, 1) := by decide +kernel
theorem dL_law_339 : decode cL_law 339 = .ok (.iload_n 3, 1) := by decide +kernel
theorem dL_law_340 : decode cL_law 340 = .ok (.iconst 2, 1) := by decide +kernel
theorem dL_law_341 : decode cL_law 341 = .ok (.iadd, 1) := by decide +kernel
theorem dL_law_342 : decode cL_law 342 = .ok (.iaload, 1) := by decide +kernel
theorem dL_law_343 : decode cL_law 343 = .ok (.invokevirtual 42, 3) := by decide +kernel
theorem dL_law_346 : decode cL_law 346 = .ok (.aload_n 2, 1) := by decide +kernel
theorem dL_law_347 : decode cL_law 347 = .ok (.aload_n 0, 1) := by decide +kernel
theorem dL_law_348 : decode cL_law 348 = .ok (.iload_n 3, 1) := by decide +kernel
theorem dL_law_349 : decode cL_law 349 = .ok (.iconst 1, 1) := by decide +kernel
theorem dL_law_350 : decode cL_law 350 = .ok (.iadd, 1) := by decide +kernel
theorem dL_law_351 : decode cL_law 351 = .ok (.iaload, 1) := by decide +kernel
theorem dL_law_352 : decode cL_law 352 = .ok (.aload_n 0, 1) := by decide +kernel
theorem dL_law_353 : decode cL_law 353 = .ok (.iload_n 3, 1) := by decide +kernel
theorem dL_law_354 : decode cL_law 354 = .ok (.iconst 2, 1) := by decide +kernel
theorem dL_law_355 : decode cL_law 355 = .ok (.iadd, 1) := by decide +kernel
theorem dL_law_356 : decode cL_law 356 = .ok (.iaload, 1) := by decide +kernel
theorem dL_law_357 : decode cL_law 357 = .ok (.invokevirtual 45, 3) := by decide +kernel
theorem dL_law_360 : decode cL_law 360 = .ok (.if_icmp .eq 239, 3) := by decide +kernel
theorem dL_law_363 : decode cL_law 363 = .ok (.iconst 0, 1) := by decide +kernel
theorem dL_law_364 : decode cL_law 364 = .ok (.ireturn, 1) := by decide +kernel
theorem dL_law_365 : decode cL_law 365 = .ok (.aload_n 1, 1) := by decide +kernel
theorem dL_law_366 : decode cL_law 366 = .ok (.aload_n 0, 1) := by decide +kernel
theorem dL_law_367 : decode cL_law 367 = .ok (.iload_n 3, 1) := by decide +kernel
theorem dL_law_368 : decode cL_law 368 = .ok (.iconst 1, 1) := by decide +kernel
theorem dL_law_369 : decode cL_law 369 = .ok (.iadd, 1) := by decide +kernel
theorem dL_law_370 : decode cL_law 370 = .ok (.iaload, 1) := by decide +kernel
theorem dL_law_371 : decode cL_law 371 = .ok (.aload_n 0, 1) := by decide +kernel
theorem dL_law_372 : decode cL_law 372 = .ok (.iload_n 3, 1) := by decide +kernel
theorem dL_law_373 : decode cL_law 373 = .ok (.iconst 2, 1) := by decide +kernel
theorem dL_law_374 : decode cL_law 374 = .ok (.iadd, 1) := by decide +kernel
theorem dL_law_375 : decode cL_law 375 = .ok (.iaload, 1) := by decide +kernel
theorem dL_law_376 : decode cL_law 376 = .ok (.invokevirtual 46, 3) := by decide +kernel
theorem dL_law_379 : decode cL_law 379 = .ok (.aload_n 2, 1) := by decide +kernel
theorem dL_law_380 : decode cL_law 380 = .ok (.aload_n 0, 1) := by decide +kernel
theorem dL_law_381 : decode cL_law 381 = .ok (.iload_n 3, 1) := by decide +kernel
theorem dL_law_382 : decode cL_law 382 = .ok (.iconst 1, 1) := by decide +kernel
theorem dL_law_383 : decode cL_law 383 = .ok (.iadd, 1) := by decide +kernel
theorem dL_law_384 : decode cL_law 384 = .ok (.iaload, 1) := by decide +kernel
theorem dL_law_385 : decode cL_law 385 = .ok (.aload_n 0, 1) := by decide +kernel
theorem dL_law_386 : decode cL_law 386 = .ok (.iload_n 3, 1) := by decide +kernel
theorem dL_law_387 : decode cL_law 387 = .ok (.iconst 2, 1) := by decide +kernel
theorem dL_law_388 : decode cL_law 388 = .ok (.iadd, 1) := by decide +kernel
theorem dL_law_389 : decode cL_law 389 = .ok (.iaload, 1) := by decide +kernel
theorem dL_law_390 : decode cL_law 390 = .ok (.invokevirtual 49, 3) := by decide +kernel
theorem dL_law_393 : decode cL_law 393 = .ok (.if_icmp .eq 206, 3) := by decide +kernel
theorem dL_law_396 : decode cL_law 396 = .ok (.iconst 0, 1) := by decide +kernel
theorem dL_law_397 : decode cL_law 397 = .ok (.ireturn, 1) := by decide +kernel
theorem dL_law_398 : decode cL_law 398 = .ok (.aload_n 1, 1) := by decide +kernel
theorem dL_law_399 : decode cL_law 399 = .ok (.aload_n 0, 1) := by decide +kernel
theorem dL_law_400 : decode cL_law 400 = .ok (.iload_n 3, 1) := by decide +kernel
theorem dL_law_401 : decode cL_law 401 = .ok (.iconst 1, 1) := by decide +kernel
theorem dL_law_402 : decode cL_law 402 = .ok (.iadd, 1) := by decide +kernel
theorem dL_law_403 : decode cL_law 403 = .ok (.iaload, 1) := by decide +kernel
theorem dL_law_404 : decode cL_law 404 = .ok (.aload_n 0, 1) := by decide +kernel
theorem dL_law_405 : decode cL_law 405 = .ok (.iload_n 3, 1) := by decide +kernel
theorem dL_law_406 : decode cL_law 406 = .ok (.iconst 2, 1) := by decide +kernel
theorem dL_law_407 : decode cL_law 407 = .ok (.iadd, 1) := by decide +kernel
theorem dL_law_408 : decode cL_law 408 = .ok (.iaload, 1) := by decide +kernel
theorem dL_law_409 : decode cL_law 409 = .ok (.invokevirtual 50, 3) := by decide +kernel
theorem dL_law_412 : decode cL_law 412 = .ok (.aload_n 2, 1) := by decide +kernel
theorem dL_law_413 : decode cL_law 413 = .ok (.aload_n 0, 1) := by decide +kernel
theorem dL_law_414 : decode cL_law 414 = .ok (.iload_n 3, 1) := by decide +kernel
theorem dL_law_415 : decode cL_law 415 = .ok (.iconst 1, 1) := by decide +kernel
theorem dL_law_416 : decode cL_law 416 = .ok (.iadd, 1) := by decide +kernel
theorem dL_law_417 : decode cL_law 417 = .ok (.iaload, 1) := by decide +kernel
theorem dL_law_418 : decode cL_law 418 = .ok (.aload_n 0, 1) := by decide +kernel
theorem dL_law_419 : decode cL_law 419 = .ok (.iload_n 3, 1) := by decide +kernel
theorem dL_law_420 : decode cL_law 420 = .ok (.iconst 2, 1) := by decide +kernel
theorem dL_law_421 : decode cL_law 421 = .ok (.iadd, 1) := by decide +kernel
theorem dL_law_422 : decode cL_law 422 = .ok (.iaload, 1) := by decide +kernel
theorem dL_law_423 : decode cL_law 423 = .ok (.invokevirtual 53, 3) := by decide +kernel
theorem dL_law_426 : decode cL_law 426 = .ok (.if_icmp .eq 173, 3) := by decide +kernel
theorem dL_law_429 : decode cL_law 429 = .ok (.iconst 0, 1) := by decide +kernel
theorem dL_law_430 : decode cL_law 430 = .ok (.ireturn, 1) := by decide +kernel
theorem dL_law_431 : decode cL_law 431 = .ok (.aload_n 1, 1) := by decide +kernel
theorem dL_law_432 : decode cL_law 432 = .ok (.aload_n 0, 1) := by decide +kernel
theorem dL_law_433 : decode cL_law 433 = .ok (.iload_n 3, 1) := by decide +kernel
theorem dL_law_434 : decode cL_law 434 = .ok (.iconst 1, 1) := by decide +kernel
theorem dL_law_435 : decode cL_law 435 = .ok (.iadd, 1) := by decide +kernel
theorem dL_law_436 : decode cL_law 436 = .ok (.iaload, 1) := by decide +kernel
theorem dL_law_437 : decode cL_law 437 = .ok (.aload_n 0, 1) := by decide +kernel
theorem dL_law_438 : decode cL_law 438 = .ok (.iload_n 3, 1) := by decide +kernel
theorem dL_law_439 : decode cL_law 439 = .ok (.iconst 2, 1) := by decide +kernel
theorem dL_law_440 : decode cL_law 440 = .ok (.iadd, 1) := by decide +kernel
theorem dL_law_441 : decode cL_law 441 = .ok (.iaload, 1) := by decide +kernel
theorem dL_law_442 : decode cL_law 442 = .ok (.invokevirtual 54, 3) := by decide +kernel
theorem dL_law_445 : decode cL_law 445 = .ok (.aload_n 2, 1) := by decide +kernel
theorem dL_law_446 : decode cL_law 446 = .ok (.aload_n 0, 1) := by decide +kernel
theorem dL_law_447 : decode cL_law 447 = .ok (.iload_n 3, 1) := by decide +kernel
theorem dL_law_448 : decode cL_law 448 = .ok (.iconst 1, 1) := by decide +kernel
theorem dL_law_449 : decode cL_law 449 = .ok (.iadd, 1) := by decide +kernel
theorem dL_law_450 : decode cL_law 450 = .ok (.iaload, 1) := by decide +kernel
theorem dL_law_451 : decode cL_law 451 = .ok (.aload_n 0, 1) := by decide +kernel
theorem dL_law_452 : decode cL_law 452 = .ok (.iload_n 3, 1) := by decide +kernel
theorem dL_law_453 : decode cL_law 453 = .ok (.iconst 2, 1) := by decide +kernel
theorem dL_law_454 : decode cL_law 454 = .ok (.iadd, 1) := by decide +kernel
theorem dL_law_455 : decode cL_law 455 = .ok (.iaload, 1) := by decide +kernel
theorem dL_law_456 : decode cL_law 456 = .ok (.invokevirtual 57, 3) := by decide +kernel
theorem dL_law_459 : decode cL_law 459 = .ok (.if_icmp .eq 140, 3) := by decide +kernel
theorem dL_law_462 : decode cL_law 462 = .ok (.iconst 0, 1) := by decide +kernel
theorem dL_law_463 : decode cL_law 463 = .ok (.ireturn, 1) := by decide +kernel
theorem dL_law_464 : decode cL_law 464 = .ok (.aload_n 1, 1) := by decide +kernel
theorem dL_law_465 : decode cL_law 465 = .ok (.aload_n 0, 1) := by decide +kernel
theorem dL_law_466 : decode cL_law 466 = .ok (.iload_n 3, 1) := by decide +kernel
theorem dL_law_467 : decode cL_law 467 = .ok (.iconst 1, 1) := by decide +kernel
theorem dL_law_468 : decode cL_law 468 = .ok (.iadd, 1) := by decide +kernel
theorem dL_law_469 : decode cL_law 469 = .ok (.iaload, 1) := by decide +kernel
theorem dL_law_470 : decode cL_law 470 = .ok (.invokevirtual 58, 3) := by decide +kernel
theorem dL_law_473 : decode cL_law 473 = .ok (.aload_n 2, 1) := by decide +kernel
theorem dL_law_474 : decode cL_law 474 = .ok (.aload_n 0, 1) := by decide +kernel
theorem dL_law_475 : decode cL_law 475 = .ok (.iload_n 3, 1) := by decide +kernel
theorem dL_law_476 : decode cL_law 476 = .ok (.iconst 1, 1) := by decide +kernel
theorem dL_law_477 : decode cL_law 477 = .ok (.iadd, 1) := by decide +kernel
theorem dL_law_478 : decode cL_law 478 = .ok (.iaload, 1) := by decide +kernel
theorem dL_law_479 : decode cL_law 479 = .ok (.invokevirtual 62, 3) := by decide +kernel
theorem dL_law_482 : decode cL_law 482 = .ok (.if_icmp .eq 117, 3) := by decide +kernel
theorem dL_law_485 : decode cL_law 485 = .ok (.iconst 0, 1) := by decide +kernel
theorem dL_law_486 : decode cL_law 486 = .ok (.ireturn, 1) := by decide +kernel
theorem dL_law_487 : decode cL_law 487 = .ok (.aload_n 1, 1) := by decide +kernel
theorem dL_law_488 : decode cL_law 488 = .ok (.aload_n 0, 1) := by decide +kernel
theorem dL_law_489 : decode cL_law 489 = .ok (.iload_n 3, 1) := by decide +kernel
theorem dL_law_490 : decode cL_law 490 = .ok (.iconst 1, 1) := by decide +kernel
theorem dL_law_491 : decode cL_law 491 = .ok (.iadd, 1) := by decide +kernel
theorem dL_law_492 : decode cL_law 492 = .ok (.iaload, 1) := by decide +kernel
theorem dL_law_493 : decode cL_law 493 = .ok (.aload_n 0, 1) := by decide +kernel
theorem dL_law_494 : decode cL_law 494 = .ok (.iload_n 3, 1) := by decide +kernel
theorem dL_law_495 : decode cL_law 495 = .ok (.iconst 2, 1) := by decide +kernel
theorem dL_law_496 : decode cL_law 496 = .ok (.iadd, 1) := by decide +kernel
theorem dL_law_497 : decode cL_law 497 = .ok (.iaload, 1) := by decide +kernel
theorem dL_law_498 : decode cL_law 498 = .ok (.aload_n 0, 1) := by decide +kernel
theorem dL_law_499 : decode cL_law 499 = .ok (.iload_n 3, 1) := by decide +kernel
theorem dL_law_500 : decode cL_law 500 = .ok (.iconst 3, 1) := by decide +kernel
theorem dL_law_501 : decode cL_law 501 = .ok (.iadd, 1) := by decide +kernel
theorem dL_law_502 : decode cL_law 502 = .ok (.iaload, 1) := by decide +kernel
theorem dL_law_503 : decode cL_law 503 = .ok (.invokevirtual 63, 3) := by decide +kernel
theorem dL_law_506 : decode cL_law 506 = .ok (.aload_n 2, 1) := by decide +kernel
theorem dL_law_507 : decode cL_law 507 = .ok (.aload_n 0, 1) := by decide +kernel
theorem dL_law_508 : decode cL_law 508 = .ok (.iload_n 3, 1) := by decide +kernel
theorem dL_law_509 : decode cL_law 509 = .ok (.iconst 1, 1) := by decide +kernel
theorem dL_law_510 : decode cL_law 510 = .ok (.iadd, 1) := by decide +kernel
theorem dL_law_511 : decode cL_law 511 = .ok (.iaload, 1) := by decide +kernel
theorem dL_law_512 : decode cL_law 512 = .ok (.aload_n 0, 1) := by decide +kernel
theorem dL_law_513 : decode cL_law 513 = .ok (.iload_n 3, 1) := by decide +kernel
theorem dL_law_514 : decode cL_law 514 = .ok (.iconst 2, 1) := by decide +kernel
theorem dL_law_515 : decode cL_law 515 = .ok (.iadd, 1) := by decide +kernel
theorem dL_law_516 : decode cL_law 516 = .ok (.iaload, 1) := by decide +kernel
theorem dL_law_517 : decode cL_law 517 = .ok (.aload_n 0, 1) := by decide +kernel
theorem dL_law_518 : decode cL_law 518 = .ok (.iload_n 3, 1) := by decide +kernel
theorem dL_law_519 : decode cL_law 519 = .ok (.iconst 3, 1) := by decide +kernel
theorem dL_law_520 : decode cL_law 520 = .ok (.iadd, 1) := by decide +kernel
theorem dL_law_521 : decode cL_law 521 = .ok (.iaload, 1) := by decide +kernel
theorem dL_law_522 : decode cL_law 522 = .ok (.invokevirtual 66, 3) := by decide +kernel
theorem dL_law_525 : decode cL_law 525 = .ok (.if_icmp .eq 74, 3) := by decide +kernel
theorem dL_law_528 : decode cL_law 528 = .ok (.iconst 0, 1) := by decide +kernel
theorem dL_law_529 : decode cL_law 529 = .ok (.ireturn, 1) := by decide +kernel
theorem dL_law_530 : decode cL_law 530 = .ok (.aload_n 1, 1) := by decide +kernel
theorem dL_law_531 : decode cL_law 531 = .ok (.aload_n 0, 1) := by decide +kernel
theorem dL_law_532 : decode cL_law 532 = .ok (.iload_n 3, 1) := by decide +kernel
theorem dL_law_533 : decode cL_law 533 = .ok (.iconst 1, 1) := by decide +kernel
theorem dL_law_534 : decode cL_law 534 = .ok (.iadd, 1) := by decide +kernel
theorem dL_law_535 : decode cL_law 535 = .ok (.iaload, 1) := by decide +kernel
theorem dL_law_536 : decode cL_law 536 = .ok (.invokevirtual 67, 3) := by decide +kernel
theorem dL_law_539 : decode cL_law 539 = .ok (.aload_n 2, 1) := by decide +kernel
theorem dL_law_540 : decode cL_law 540 = .ok (.aload_n 0, 1) := by decide +kernel
theorem dL_law_541 : decode cL_law 541 = .ok (.iload_n 3, 1) := by decide +kernel
theorem dL_law_542 : decode cL_law 542 = .ok (.iconst 1, 1) := by decide +kernel
theorem dL_law_543 : decode cL_law 543 = .ok (.iadd, 1) := by decide +kernel
theorem dL_law_544 : decode cL_law 544 = .ok (.iaload, 1) := by decide +kernel
theorem dL_law_545 : decode cL_law 545 = .ok (.invokevirtual 70, 3) := by decide +kernel
theorem dL_law_548 : decode cL_law 548 = .ok (.if_icmp .eq 51, 3) := by decide +kernel
theorem dL_law_551 : decode cL_law 551 = .ok (.iconst 0, 1) := by decide +kernel
theorem dL_law_552 : decode cL_law 552 = .ok (.ireturn, 1) := by decide +kernel
theorem dL_law_553 : decode cL_law 553 = .ok (.aload_n 1, 1) := by decide +kernel
theorem dL_law_554 : decode cL_law 554 = .ok (.aload_n 0, 1) := by decide +kernel
theorem dL_law_555 : decode cL_law 555 = .ok (.iload_n 3, 1) := by decide +kernel
theorem dL_law_556 : decode cL_law 556 = .ok (.iconst 1, 1) := by decide +kernel
theorem dL_law_557 : decode cL_law 557 = .ok (.iadd, 1) := by decide +kernel
theorem dL_law_558 : decode cL_law 558 = .ok (.iaload, 1) := by decide +kernel
theorem dL_law_559 : decode cL_law 559 = .ok (.invokevirtual 71, 3) := by decide +kernel
theorem dL_law_562 : decode cL_law 562 = .ok (.aload_n 2, 1) := by decide +kernel
theorem dL_law_563 : decode cL_law 563 = .ok (.aload_n 0, 1) := by decide +kernel
theorem dL_law_564 : decode cL_law 564 = .ok (.iload_n 3, 1) := by decide +kernel
theorem dL_law_565 : decode cL_law 565 = .ok (.iconst 1, 1) := by decide +kernel
theorem dL_law_566 : decode cL_law 566 = .ok (.iadd, 1) := by decide +kernel
theorem dL_law_567 : decode cL_law 567 = .ok (.iaload, 1) := by decide +kernel
theorem dL_law_568 : decode cL_law 568 = .ok (.invokevirtual 74, 3) := by decide +kernel
theorem dL_law_571 : decode cL_law 571 = .ok (.if_icmp .eq 28, 3) := by decide +kernel
theorem dL_law_574 : decode cL_law 574 = .ok (.iconst 0, 1) := by decide +kernel
theorem dL_law_575 : decode cL_law 575 = .ok (.ireturn, 1) := by decide +kernel
theorem dL_law_576 : decode cL_law 576 = .ok (.aload_n 1, 1) := by decide +kernel
theorem dL_law_577 : decode cL_law 577 = .ok (.aload_n 0, 1) := by decide +kernel
theorem dL_law_578 : decode cL_law 578 = .ok (.iload_n 3, 1) := by decide +kernel
theorem dL_law_579 : decode cL_law 579 = .ok (.iconst 1, 1) := by decide +kernel
theorem dL_law_580 : decode cL_law 580 = .ok (.iadd, 1) := by decide +kernel
theorem dL_law_581 : decode cL_law 581 = .ok (.iaload, 1) := by decide +kernel
theorem dL_law_582 : decode cL_law 582 = .ok (.invokevirtual 75, 3) := by decide +kernel
theorem dL_law_585 : decode cL_law 585 = .ok (.aload_n 2, 1) := by decide +kernel
theorem dL_law_586 : decode cL_law 586 = .ok (.aload_n 0, 1) := by decide +kernel
theorem dL_law_587 : decode cL_law 587 = .ok (.iload_n 3, 1) := by decide +kernel
theorem dL_law_588 : decode cL_law 588 = .ok (.iconst 1, 1) := by decide +kernel
theorem dL_law_589 : decode cL_law 589 = .ok (.iadd, 1) := by decide +kernel
theorem dL_law_590 : decode cL_law 590 = .ok (.iaload, 1) := by decide +kernel
theorem dL_law_591 : decode cL_law 591 = .ok (.invokevirtual 78, 3) := by decide +kernel
theorem dL_law_594 : decode cL_law 594 = .ok (.if_icmp .eq 5, 3) := by decide +kernel
theorem dL_law_597 : decode cL_law 597 = .ok (.iconst 0, 1) := by decide +kernel
theorem dL_law_598 : decode cL_law 598 = .ok (.ireturn, 1) := by decide +kernel
theorem dL_law_599 : decode cL_law 599 = .ok (.iinc 3 5, 3) := by decide +kernel
theorem dL_law_602 : decode cL_law 602 = .ok (.goto (-584), 3) := by decide +kernel
theorem dL_law_605 : decode cL_law 605 = .ok (.iconst 1, 1) := by decide +kernel
theorem dL_law_606 : decode cL_law 606 = .ok (.ireturn, 1) := by decide +kernel
end
section
def lw_all : List Cond := lw_tbl.filter goodWord
theorem lw_all_tbl : ∀ w ∈ lw_all, w ∈ lw_tbl := fun _ h => (List.mem_filter.mp h).1
theorem lw_all_good : ∀ w ∈ lw_all, goodWord w = true := fun _ h => (List.mem_filter.mp h).2
theorem lw_t1 {i : Nat} {w : Cond} (h : tables_1_1[i]? = some w) (hg : goodWord w = true) : w ∈ lw_all := List.mem_filter.mpr ⟨List.mem_append_right _ (List.mem_append_left _ (List.mem_of_getElem? h)), hg⟩
theorem lw_t2 {i : Nat} {w : Cond} (h : tables_1_2[i]? = some w) (hg : goodWord w = true) : w ∈ lw_all := List.mem_filter.mpr ⟨List.mem_append_right _ (List.mem_append_right _ (List.mem_append_left _ (List.mem_of_getElem? h))), hg⟩
theorem lw_t3 {i : Nat} {w : Cond} (h : tables_1_3[i]? = some w) (hg : goodWord w = true) : w ∈ lw_all := List.mem_filter.mpr ⟨List.mem_append_right _ (List.mem_append_right _ (List.mem_append_right _ (List.mem_append_left _ (List.mem_of_getElem? h)))), hg⟩
theorem lw_t4 {i : Nat} {w : Cond} (h : tables_1_4[i]? = some w) (hg : goodWord w = true) : w ∈ lw_all := List.mem_filter.mpr ⟨List.mem_append_right _ (List.mem_append_right _ (List.mem_append_right _ (List.mem_append_right _ (List.mem_of_getElem? h)))), hg⟩
set_option maxRecDepth 20000 in
theorem in_L : Cond.initialized RL ∈ lw_all := lw_t1 (i := 0) rfl rfl
set_option maxRecDepth 20000 in
theorem in_X5 : Cond.initialized RX5 ∈ lw_all := lw_t1 (i := 1) rfl rfl
set_option maxRecDepth 20000 in
theorem in_X4 : Cond.initialized RX4 ∈ lw_all := lw_t1 (i := 2) rfl rfl
set_option maxRecDepth 20000 in
theorem in_X3 : Cond.initialized RX3 ∈ lw_all := lw_t1 (i := 3) rfl rfl
set_option maxRecDepth 20000 in
theorem in_X2 : Cond.initialized RX2 ∈ lw_all := lw_t1 (i := 4) rfl rfl
set_option maxRecDepth 20000 in
theorem in_X0 : Cond.initialized RX0 ∈ lw_all := lw_t1 (i := 5) rfl rfl
set_option maxRecDepth 20000 in
theorem in_X1 : Cond.initialized RX1 ∈ lw_all := lw_t1 (i := 6) rfl rfl
set_option maxRecDepth 20000 in
theorem in_X6 : Cond.initialized RX6 ∈ lw_all := lw_t1 (i := 7) rfl rfl
set_option maxRecDepth 20000 in
theorem in_J6 : Cond.initialized RJ6 ∈ lw_all := lw_t1 (i := 8) rfl rfl
set_option maxRecDepth 20000 in
theorem in_J9 : Cond.initialized RJ9 ∈ lw_all := lw_t1 (i := 9) rfl rfl
set_option maxRecDepth 20000 in
theorem cl_L_7 : Cond.classLink RL 7 RX5 ∈ lw_all := lw_t1 (i := 10) rfl rfl
set_option maxRecDepth 20000 in
theorem is_X5 : Cond.instantiable RX5 5 ∈ lw_all := lw_t1 (i := 11) rfl rfl
set_option maxRecDepth 20000 in
theorem ml_L_9 : Cond.methodLink RL 9 yX5_init ∈ lw_all := lw_t1 (i := 12) rfl rfl
set_option maxRecDepth 20000 in
theorem im_X5_init : Cond.instanceMethod yX5_init ∈ lw_all := lw_t1 (i := 13) rfl rfl
set_option maxRecDepth 20000 in
theorem co_X5_init : Cond.code yX5_init cX5_init 1 none ∈ lw_all := lw_t1 (i := 14) rfl rfl
set_option maxRecDepth 20000 in
theorem ml_X5_1 : Cond.methodLink RX5 1 objectInit ∈ lw_all := lw_t1 (i := 15) rfl rfl
set_option maxRecDepth 20000 in
theorem im_obj : Cond.instanceMethod objectInit ∈ lw_all := lw_t1 (i := 16) rfl rfl
set_option maxRecDepth 20000 in
theorem co_obj : Cond.code objectInit ⟨#[0xb1]⟩ 1 none ∈ lw_all := lw_t1 (i := 17) rfl rfl
set_option maxRecDepth 20000 in
theorem cl_X5_7 : Cond.classLink RX5 7 RX4 ∈ lw_all := lw_t1 (i := 18) rfl rfl
set_option maxRecDepth 20000 in
theorem is_X4 : Cond.instantiable RX4 6 ∈ lw_all := lw_t1 (i := 19) rfl rfl
set_option maxRecDepth 20000 in
theorem im_X4_init : Cond.instanceMethod yX4_init ∈ lw_all := lw_t1 (i := 21) rfl rfl
set_option maxRecDepth 20000 in
theorem co_X4_init : Cond.code yX4_init cX4_init 1 none ∈ lw_all := lw_t1 (i := 22) rfl rfl
set_option maxRecDepth 20000 in
theorem ml_X4_3 : Cond.methodLink RX4 3 objectInit ∈ lw_all := lw_t1 (i := 23) rfl rfl
set_option maxRecDepth 20000 in
theorem fl_X4_9 : Cond.fieldLink RX4 9 "OverrideRules$Types" "kinds" "[I" ∈ lw_all := lw_t1 (i := 24) rfl rfl
set_option maxRecDepth 20000 in
theorem fl_X4_15 : Cond.fieldLink RX4 15 "OverrideRules$Types" "packets" "[I" ∈ lw_all := lw_t1 (i := 25) rfl rfl
set_option maxRecDepth 20000 in
theorem fl_X4_18 : Cond.fieldLink RX4 18 "OverrideRules$Types" "parents" "[I" ∈ lw_all := lw_t1 (i := 26) rfl rfl
set_option maxRecDepth 20000 in
theorem fl_X4_21 : Cond.fieldLink RX4 21 "OverrideRules$Types" "faces" "[I" ∈ lw_all := lw_t1 (i := 27) rfl rfl
set_option maxRecDepth 20000 in
theorem fl_X4_24 : Cond.fieldLink RX4 24 "OverrideRules$Types" "above" "[I" ∈ lw_all := lw_t1 (i := 28) rfl rfl
set_option maxRecDepth 20000 in
theorem fl_X4_27 : Cond.fieldLink RX4 27 "OverrideRules$Types" "count" "I" ∈ lw_all := lw_t1 (i := 29) rfl rfl
set_option maxRecDepth 20000 in
theorem ac_int : Cond.arrayClass .int ∈ lw_all := lw_t1 (i := 43) rfl rfl
set_option maxRecDepth 20000 in
theorem cl_X5_16 : Cond.classLink RX5 16 RX3 ∈ lw_all := lw_t1 (i := 44) rfl rfl
set_option maxRecDepth 20000 in
theorem is_X3 : Cond.instantiable RX3 3 ∈ lw_all := lw_t1 (i := 45) rfl rfl
set_option maxRecDepth 20000 in
theorem im_X3_init : Cond.instanceMethod yX3_init ∈ lw_all := lw_t1 (i := 47) rfl rfl
set_option maxRecDepth 20000 in
theorem co_X3_init : Cond.code yX3_init cX3_init 1 none ∈ lw_all := lw_t1 (i := 48) rfl rfl
set_option maxRecDepth 20000 in
theorem ml_X3_3 : Cond.methodLink RX3 3 objectInit ∈ lw_all := lw_t1 (i := 49) rfl rfl
set_option maxRecDepth 20000 in
theorem fl_X3_9 : Cond.fieldLink RX3 9 "OverrideRules$Throws" "subTo" "[I" ∈ lw_all := lw_t1 (i := 50) rfl rfl
set_option maxRecDepth 20000 in
theorem fl_X3_15 : Cond.fieldLink RX3 15 "OverrideRules$Throws" "checkedOnes" "I" ∈ lw_all := lw_t1 (i := 51) rfl rfl
set_option maxRecDepth 20000 in
theorem fl_X3_19 : Cond.fieldLink RX3 19 "OverrideRules$Throws" "count" "I" ∈ lw_all := lw_t1 (i := 52) rfl rfl
set_option maxRecDepth 20000 in
theorem cl_X5_23 : Cond.classLink RX5 23 RX2 ∈ lw_all := lw_t1 (i := 60) rfl rfl
set_option maxRecDepth 20000 in
theorem is_X2 : Cond.instantiable RX2 8 ∈ lw_all := lw_t1 (i := 61) rfl rfl
set_option maxRecDepth 20000 in
theorem ml_X5_25 : Cond.methodLink RX5 25 yX2_init ∈ lw_all := lw_t1 (i := 62) rfl rfl
set_option maxRecDepth 20000 in
theorem im_X2_init : Cond.instanceMethod yX2_init ∈ lw_all := lw_t1 (i := 63) rfl rfl
set_option maxRecDepth 20000 in
theorem co_X2_init : Cond.code yX2_init cX2_init 2 none ∈ lw_all := lw_t1 (i := 64) rfl rfl
set_option maxRecDepth 20000 in
theorem ml_X2_3 : Cond.methodLink RX2 3 objectInit ∈ lw_all := lw_t1 (i := 65) rfl rfl
set_option maxRecDepth 20000 in
theorem fl_X2_34 : Cond.fieldLink RX2 34 "OverrideRules$Members" "types" "LOverrideRules$Types;" ∈ lw_all := lw_t1 (i := 66) rfl rfl
set_option maxRecDepth 20000 in
theorem fl_X2_9 : Cond.fieldLink RX2 9 "OverrideRules$Members" "owners" "[I" ∈ lw_all := lw_t1 (i := 67) rfl rfl
set_option maxRecDepth 20000 in
theorem fl_X2_15 : Cond.fieldLink RX2 15 "OverrideRules$Members" "names" "[I" ∈ lw_all := lw_t1 (i := 68) rfl rfl
set_option maxRecDepth 20000 in
theorem fl_X2_18 : Cond.fieldLink RX2 18 "OverrideRules$Members" "results" "[I" ∈ lw_all := lw_t1 (i := 69) rfl rfl
set_option maxRecDepth 20000 in
theorem fl_X2_21 : Cond.fieldLink RX2 21 "OverrideRules$Members" "marks" "[I" ∈ lw_all := lw_t1 (i := 70) rfl rfl
set_option maxRecDepth 20000 in
theorem fl_X2_24 : Cond.fieldLink RX2 24 "OverrideRules$Members" "throwSets" "[I" ∈ lw_all := lw_t1 (i := 71) rfl rfl
set_option maxRecDepth 20000 in
theorem fl_X2_27 : Cond.fieldLink RX2 27 "OverrideRules$Members" "slots" "[I" ∈ lw_all := lw_t1 (i := 72) rfl rfl
set_option maxRecDepth 20000 in
theorem fl_X2_30 : Cond.fieldLink RX2 30 "OverrideRules$Members" "count" "I" ∈ lw_all := lw_t1 (i := 73) rfl rfl
set_option maxRecDepth 20000 in
theorem cl_X5_32 : Cond.classLink RX5 32 RX0 ∈ lw_all := lw_t1 (i := 91) rfl rfl
set_option maxRecDepth 20000 in
theorem is_X0 : Cond.instantiable RX0 2 ∈ lw_all := lw_t1 (i := 92) rfl rfl
set_option maxRecDepth 20000 in
theorem ml_X5_34 : Cond.methodLink RX5 34 yX0_init ∈ lw_all := lw_t1 (i := 93) rfl rfl
set_option maxRecDepth 20000 in
theorem im_X0_init : Cond.instanceMethod yX0_init ∈ lw_all := lw_t1 (i := 94) rfl rfl
set_option maxRecDepth 20000 in
theorem co_X0_init : Cond.code yX0_init cX0_init 3 none ∈ lw_all := lw_t1 (i := 95) rfl rfl
set_option maxRecDepth 20000 in
theorem ml_X0_3 : Cond.methodLink RX0 3 objectInit ∈ lw_all := lw_t1 (i := 96) rfl rfl
set_option maxRecDepth 20000 in
theorem fl_X0_9 : Cond.fieldLink RX0 9 "OverrideRules$Choice" "types" "LOverrideRules$Types;" ∈ lw_all := lw_t1 (i := 97) rfl rfl
set_option maxRecDepth 20000 in
theorem fl_X0_15 : Cond.fieldLink RX0 15 "OverrideRules$Choice" "members" "LOverrideRules$Members;" ∈ lw_all := lw_t1 (i := 98) rfl rfl
set_option maxRecDepth 20000 in
theorem cl_X5_41 : Cond.classLink RX5 41 RX1 ∈ lw_all := lw_t1 (i := 104) rfl rfl
set_option maxRecDepth 20000 in
theorem is_X1 : Cond.instantiable RX1 9 ∈ lw_all := lw_t1 (i := 105) rfl rfl
set_option maxRecDepth 20000 in
theorem ml_X5_43 : Cond.methodLink RX5 43 yX1_init ∈ lw_all := lw_t1 (i := 106) rfl rfl
set_option maxRecDepth 20000 in
theorem im_X1_init : Cond.instanceMethod yX1_init ∈ lw_all := lw_t1 (i := 107) rfl rfl
set_option maxRecDepth 20000 in
theorem co_X1_init : Cond.code yX1_init cX1_init 5 none ∈ lw_all := lw_t1 (i := 108) rfl rfl
set_option maxRecDepth 20000 in
theorem ml_X1_3 : Cond.methodLink RX1 3 objectInit ∈ lw_all := lw_t1 (i := 109) rfl rfl
set_option maxRecDepth 20000 in
theorem fl_X1_27 : Cond.fieldLink RX1 27 "OverrideRules$Faults" "types" "LOverrideRules$Types;" ∈ lw_all := lw_t1 (i := 110) rfl rfl
set_option maxRecDepth 20000 in
theorem fl_X1_31 : Cond.fieldLink RX1 31 "OverrideRules$Faults" "thrown" "LOverrideRules$Throws;" ∈ lw_all := lw_t1 (i := 111) rfl rfl
set_option maxRecDepth 20000 in
theorem fl_X1_35 : Cond.fieldLink RX1 35 "OverrideRules$Faults" "members" "LOverrideRules$Members;" ∈ lw_all := lw_t1 (i := 112) rfl rfl
set_option maxRecDepth 20000 in
theorem fl_X1_39 : Cond.fieldLink RX1 39 "OverrideRules$Faults" "choice" "LOverrideRules$Choice;" ∈ lw_all := lw_t1 (i := 113) rfl rfl
set_option maxRecDepth 20000 in
theorem fl_X1_9 : Cond.fieldLink RX1 9 "OverrideRules$Faults" "wanted" "I" ∈ lw_all := lw_t1 (i := 114) rfl rfl
set_option maxRecDepth 20000 in
theorem fl_X1_15 : Cond.fieldLink RX1 15 "OverrideRules$Faults" "count" "I" ∈ lw_all := lw_t1 (i := 115) rfl rfl
set_option maxRecDepth 20000 in
theorem fl_X1_18 : Cond.fieldLink RX1 18 "OverrideRules$Faults" "pickedCode" "I" ∈ lw_all := lw_t1 (i := 116) rfl rfl
set_option maxRecDepth 20000 in
theorem fl_X1_21 : Cond.fieldLink RX1 21 "OverrideRules$Faults" "pickedM" "I" ∈ lw_all := lw_t1 (i := 117) rfl rfl
set_option maxRecDepth 20000 in
theorem fl_X1_24 : Cond.fieldLink RX1 24 "OverrideRules$Faults" "pickedO" "I" ∈ lw_all := lw_t1 (i := 118) rfl rfl
set_option maxRecDepth 20000 in
theorem fl_X5_10 : Cond.fieldLink RX5 10 "OverrideRules" "types" "LOverrideRules$Types;" ∈ lw_all := lw_t1 (i := 138) rfl rfl
set_option maxRecDepth 20000 in
theorem fl_X5_19 : Cond.fieldLink RX5 19 "OverrideRules" "thrown" "LOverrideRules$Throws;" ∈ lw_all := lw_t1 (i := 139) rfl rfl
set_option maxRecDepth 20000 in
theorem fl_X5_28 : Cond.fieldLink RX5 28 "OverrideRules" "members" "LOverrideRules$Members;" ∈ lw_all := lw_t1 (i := 140) rfl rfl
set_option maxRecDepth 20000 in
theorem fl_X5_37 : Cond.fieldLink RX5 37 "OverrideRules" "choice" "LOverrideRules$Choice;" ∈ lw_all := lw_t1 (i := 141) rfl rfl
set_option maxRecDepth 20000 in
theorem fl_X5_46 : Cond.fieldLink RX5 46 "OverrideRules" "faults" "LOverrideRules$Faults;" ∈ lw_all := lw_t1 (i := 142) rfl rfl
set_option maxRecDepth 20000 in
theorem ml_L_13 : Cond.methodLink RL 13 yX5_clear ∈ lw_all := lw_t1 (i := 154) rfl rfl
set_option maxRecDepth 20000 in
theorem im_X5_clear : Cond.instanceMethod yX5_clear ∈ lw_all := lw_t1 (i := 155) rfl rfl
set_option maxRecDepth 20000 in
theorem se_X5_clear : Cond.selects RX5 yX5_clear yX5_clear ∈ lw_all := lw_t1 (i := 156) rfl rfl
set_option maxRecDepth 20000 in
theorem co_X5_clear : Cond.code yX5_clear cX5_clear 2 (some .int) ∈ lw_all := lw_t1 (i := 157) rfl rfl
set_option maxRecDepth 20000 in
theorem ml_X5_50 : Cond.methodLink RX5 50 yX2_size ∈ lw_all := lw_t1 (i := 158) rfl rfl
set_option maxRecDepth 20000 in
theorem im_X2_size : Cond.instanceMethod yX2_size ∈ lw_all := lw_t1 (i := 159) rfl rfl
set_option maxRecDepth 20000 in
theorem se_X2_size : Cond.selects RX2 yX2_size yX2_size ∈ lw_all := lw_t1 (i := 160) rfl rfl
set_option maxRecDepth 20000 in
theorem co_X2_size : Cond.code yX2_size cX2_size 1 (some .int) ∈ lw_all := lw_t1 (i := 161) rfl rfl
set_option maxRecDepth 20000 in
theorem ml_X5_54 : Cond.methodLink RX5 54 yX4_forget ∈ lw_all := lw_t1 (i := 162) rfl rfl
set_option maxRecDepth 20000 in
theorem im_X4_forget : Cond.instanceMethod yX4_forget ∈ lw_all := lw_t1 (i := 163) rfl rfl
set_option maxRecDepth 20000 in
theorem se_X4_forget : Cond.selects RX4 yX4_forget yX4_forget ∈ lw_all := lw_t1 (i := 164) rfl rfl
set_option maxRecDepth 20000 in
theorem co_X4_forget : Cond.code yX4_forget cX4_forget 1 none ∈ lw_all := lw_t1 (i := 165) rfl rfl
set_option maxRecDepth 20000 in
theorem ml_X5_57 : Cond.methodLink RX5 57 yX3_forget ∈ lw_all := lw_t1 (i := 166) rfl rfl
set_option maxRecDepth 20000 in
theorem im_X3_forget : Cond.instanceMethod yX3_forget ∈ lw_all := lw_t1 (i := 167) rfl rfl
set_option maxRecDepth 20000 in
theorem se_X3_forget : Cond.selects RX3 yX3_forget yX3_forget ∈ lw_all := lw_t1 (i := 168) rfl rfl
set_option maxRecDepth 20000 in
theorem co_X3_forget : Cond.code yX3_forget cX3_forget 1 none ∈ lw_all := lw_t1 (i := 169) rfl rfl
set_option maxRecDepth 20000 in
theorem ml_X5_58 : Cond.methodLink RX5 58 yX2_forget ∈ lw_all := lw_t1 (i := 170) rfl rfl
set_option maxRecDepth 20000 in
theorem im_X2_forget : Cond.instanceMethod yX2_forget ∈ lw_all := lw_t1 (i := 171) rfl rfl
set_option maxRecDepth 20000 in
theorem se_X2_forget : Cond.selects RX2 yX2_forget yX2_forget ∈ lw_all := lw_t1 (i := 172) rfl rfl
set_option maxRecDepth 20000 in
theorem co_X2_forget : Cond.code yX2_forget cX2_forget 2 none ∈ lw_all := lw_t1 (i := 173) rfl rfl
set_option maxRecDepth 20000 in
theorem ml_L_18 : Cond.methodLink RL 18 yX5_type ∈ lw_all := lw_t1 (i := 174) rfl rfl
set_option maxRecDepth 20000 in
theorem im_X5_type : Cond.instanceMethod yX5_type ∈ lw_all := lw_t1 (i := 175) rfl rfl
set_option maxRecDepth 20000 in
theorem se_X5_type : Cond.selects RX5 yX5_type yX5_type ∈ lw_all := lw_t1 (i := 176) rfl rfl
set_option maxRecDepth 20000 in
theorem co_X5_type : Cond.code yX5_type cX5_type 4 (some .int) ∈ lw_all := lw_t1 (i := 177) rfl rfl
set_option maxRecDepth 20000 in
theorem ml_X5_59 : Cond.methodLink RX5 59 yX4_has ∈ lw_all := lw_t1 (i := 178) rfl rfl
set_option maxRecDepth 20000 in
theorem im_X4_has : Cond.instanceMethod yX4_has ∈ lw_all := lw_t1 (i := 179) rfl rfl
set_option maxRecDepth 20000 in
theorem se_X4_has : Cond.selects RX4 yX4_has yX4_has ∈ lw_all := lw_t1 (i := 180) rfl rfl
set_option maxRecDepth 20000 in
theorem co_X4_has : Cond.code yX4_has cX4_has 2 (some .boolean) ∈ lw_all := lw_t1 (i := 181) rfl rfl
set_option maxRecDepth 20000 in
theorem ml_X5_63 : Cond.methodLink RX5 63 yX4_isInterface ∈ lw_all := lw_t1 (i := 182) rfl rfl
set_option maxRecDepth 20000 in
theorem im_X4_isInterface : Cond.instanceMethod yX4_isInterface ∈ lw_all := lw_t1 (i := 183) rfl rfl
set_option maxRecDepth 20000 in
theorem se_X4_isInterface : Cond.selects RX4 yX4_isInterface yX4_isInterface ∈ lw_all := lw_t1 (i := 184) rfl rfl
set_option maxRecDepth 20000 in
theorem co_X4_isInterface : Cond.code yX4_isInterface cX4_isInterface 2 (some .boolean) ∈ lw_all := lw_t1 (i := 185) rfl rfl
set_option maxRecDepth 20000 in
theorem ml_X5_66 : Cond.methodLink RX5 66 yX4_isFull ∈ lw_all := lw_t1 (i := 186) rfl rfl
set_option maxRecDepth 20000 in
theorem im_X4_isFull : Cond.instanceMethod yX4_isFull ∈ lw_all := lw_t1 (i := 187) rfl rfl
set_option maxRecDepth 20000 in
theorem se_X4_isFull : Cond.selects RX4 yX4_isFull yX4_isFull ∈ lw_all := lw_t1 (i := 188) rfl rfl
set_option maxRecDepth 20000 in
theorem co_X4_isFull : Cond.code yX4_isFull cX4_isFull 1 (some .boolean) ∈ lw_all := lw_t1 (i := 189) rfl rfl
set_option maxRecDepth 20000 in
theorem ml_X5_70 : Cond.methodLink RX5 70 yX4_add ∈ lw_all := lw_t1 (i := 190) rfl rfl
set_option maxRecDepth 20000 in
theorem im_X4_add : Cond.instanceMethod yX4_add ∈ lw_all := lw_t1 (i := 191) rfl rfl
set_option maxRecDepth 20000 in
theorem se_X4_add : Cond.selects RX4 yX4_add yX4_add ∈ lw_all := lw_t1 (i := 192) rfl rfl
set_option maxRecDepth 20000 in
theorem co_X4_add : Cond.code yX4_add cX4_add 5 (some .int) ∈ lw_all := lw_t1 (i := 193) rfl rfl
set_option maxRecDepth 20000 in
theorem ml_X4_31 : Cond.methodLink RX4 31 yX4_findAbove ∈ lw_all := lw_t1 (i := 194) rfl rfl
set_option maxRecDepth 20000 in
theorem im_X4_findAbove : Cond.instanceMethod yX4_findAbove ∈ lw_all := lw_t1 (i := 196) rfl rfl
set_option maxRecDepth 20000 in
theorem co_X4_findAbove : Cond.code yX4_findAbove cX4_findAbove 5 none ∈ lw_all := lw_t1 (i := 197) rfl rfl
set_option maxRecDepth 20000 in
theorem sm_X5_hasBit : Cond.static yX5_hasBit ∈ lw_all := lw_t1 (i := 199) rfl rfl
set_option maxRecDepth 20000 in
theorem co_X5_hasBit : Cond.code yX5_hasBit cX5_hasBit 2 (some .boolean) ∈ lw_all := lw_t1 (i := 200) rfl rfl
set_option maxRecDepth 20000 in
theorem ml_L_23 : Cond.methodLink RL 23 yX5_face ∈ lw_all := lw_t1 (i := 201) rfl rfl
set_option maxRecDepth 20000 in
theorem im_X5_face : Cond.instanceMethod yX5_face ∈ lw_all := lw_t1 (i := 202) rfl rfl
set_option maxRecDepth 20000 in
theorem se_X5_face : Cond.selects RX5 yX5_face yX5_face ∈ lw_all := lw_t1 (i := 203) rfl rfl
set_option maxRecDepth 20000 in
theorem co_X5_face : Cond.code yX5_face cX5_face 3 (some .int) ∈ lw_all := lw_t1 (i := 204) rfl rfl
set_option maxRecDepth 20000 in
theorem ml_X5_74 : Cond.methodLink RX5 74 yX4_hasFace ∈ lw_all := lw_t1 (i := 205) rfl rfl
set_option maxRecDepth 20000 in
theorem im_X4_hasFace : Cond.instanceMethod yX4_hasFace ∈ lw_all := lw_t1 (i := 206) rfl rfl
set_option maxRecDepth 20000 in
theorem se_X4_hasFace : Cond.selects RX4 yX4_hasFace yX4_hasFace ∈ lw_all := lw_t1 (i := 207) rfl rfl
set_option maxRecDepth 20000 in
theorem co_X4_hasFace : Cond.code yX4_hasFace cX4_hasFace 3 (some .boolean) ∈ lw_all := lw_t1 (i := 208) rfl rfl
set_option maxRecDepth 20000 in
theorem ml_X5_78 : Cond.methodLink RX5 78 yX4_countFaces ∈ lw_all := lw_t1 (i := 209) rfl rfl
set_option maxRecDepth 20000 in
theorem im_X4_countFaces : Cond.instanceMethod yX4_countFaces ∈ lw_all := lw_t1 (i := 210) rfl rfl
set_option maxRecDepth 20000 in
theorem se_X4_countFaces : Cond.selects RX4 yX4_countFaces yX4_countFaces ∈ lw_all := lw_t1 (i := 211) rfl rfl
set_option maxRecDepth 20000 in
theorem co_X4_countFaces : Cond.code yX4_countFaces cX4_countFaces 2 (some .int) ∈ lw_all := lw_t1 (i := 212) rfl rfl
set_option maxRecDepth 20000 in
theorem ml_X4_43 : Cond.methodLink RX4 43 yJ6_bitCount_0f7a4 ∈ lw_all := lw_t1 (i := 213) rfl rfl
set_option maxRecDepth 20000 in
theorem sm_J6_bitCount_0f7a4 : Cond.static yJ6_bitCount_0f7a4 ∈ lw_all := lw_t1 (i := 214) rfl rfl
set_option maxRecDepth 20000 in
theorem co_J6_bitCount_0f7a4 : Cond.code yJ6_bitCount_0f7a4 cJ6_bitCount_0f7a4 1 (some .int) ∈ lw_all := lw_t1 (i := 215) rfl rfl
set_option maxRecDepth 20000 in
theorem ct_J6_265 : Cond.constant RJ6 265 1431655765 ∈ lw_all := lw_t1 (i := 216) rfl rfl
set_option maxRecDepth 20000 in
theorem ct_J6_266 : Cond.constant RJ6 266 858993459 ∈ lw_all := lw_t1 (i := 217) rfl rfl
set_option maxRecDepth 20000 in
theorem ct_J6_267 : Cond.constant RJ6 267 252645135 ∈ lw_all := lw_t1 (i := 218) rfl rfl
set_option maxRecDepth 20000 in
theorem ml_X5_82 : Cond.methodLink RX5 82 yX4_addFace ∈ lw_all := lw_t1 (i := 219) rfl rfl
set_option maxRecDepth 20000 in
theorem im_X4_addFace : Cond.instanceMethod yX4_addFace ∈ lw_all := lw_t1 (i := 220) rfl rfl
set_option maxRecDepth 20000 in
theorem se_X4_addFace : Cond.selects RX4 yX4_addFace yX4_addFace ∈ lw_all := lw_t1 (i := 221) rfl rfl
set_option maxRecDepth 20000 in
theorem co_X4_addFace : Cond.code yX4_addFace cX4_addFace 4 (some .int) ∈ lw_all := lw_t1 (i := 222) rfl rfl
set_option maxRecDepth 20000 in
theorem ml_X4_35 : Cond.methodLink RX4 35 yX4_countFaces ∈ lw_all := lw_t1 (i := 223) rfl rfl
set_option maxRecDepth 20000 in
theorem ml_L_28 : Cond.methodLink RL 28 yX5_thrown0 ∈ lw_all := lw_t1 (i := 224) rfl rfl
set_option maxRecDepth 20000 in
theorem im_X5_thrown0 : Cond.instanceMethod yX5_thrown0 ∈ lw_all := lw_t1 (i := 225) rfl rfl
set_option maxRecDepth 20000 in
theorem se_X5_thrown0 : Cond.selects RX5 yX5_thrown0 yX5_thrown0 ∈ lw_all := lw_t1 (i := 226) rfl rfl
set_option maxRecDepth 20000 in
theorem co_X5_thrown0 : Cond.code yX5_thrown0 cX5_thrown0 3 (some .int) ∈ lw_all := lw_t1 (i := 227) rfl rfl
set_option maxRecDepth 20000 in
theorem ml_X5_86 : Cond.methodLink RX5 86 yX3_has ∈ lw_all := lw_t1 (i := 228) rfl rfl
set_option maxRecDepth 20000 in
theorem im_X3_has : Cond.instanceMethod yX3_has ∈ lw_all := lw_t1 (i := 229) rfl rfl
set_option maxRecDepth 20000 in
theorem se_X3_has : Cond.selects RX3 yX3_has yX3_has ∈ lw_all := lw_t1 (i := 230) rfl rfl
set_option maxRecDepth 20000 in
theorem co_X3_has : Cond.code yX3_has cX3_has 2 (some .boolean) ∈ lw_all := lw_t1 (i := 231) rfl rfl
set_option maxRecDepth 20000 in
theorem ml_X5_87 : Cond.methodLink RX5 87 yX3_isFull ∈ lw_all := lw_t1 (i := 232) rfl rfl
set_option maxRecDepth 20000 in
theorem im_X3_isFull : Cond.instanceMethod yX3_isFull ∈ lw_all := lw_t1 (i := 233) rfl rfl
set_option maxRecDepth 20000 in
theorem se_X3_isFull : Cond.selects RX3 yX3_isFull yX3_isFull ∈ lw_all := lw_t1 (i := 234) rfl rfl
set_option maxRecDepth 20000 in
theorem co_X3_isFull : Cond.code yX3_isFull cX3_isFull 1 (some .boolean) ∈ lw_all := lw_t1 (i := 235) rfl rfl
set_option maxRecDepth 20000 in
theorem ml_X5_88 : Cond.methodLink RX5 88 yX3_add ∈ lw_all := lw_t1 (i := 236) rfl rfl
set_option maxRecDepth 20000 in
theorem im_X3_add : Cond.instanceMethod yX3_add ∈ lw_all := lw_t1 (i := 237) rfl rfl
set_option maxRecDepth 20000 in
theorem se_X3_add : Cond.selects RX3 yX3_add yX3_add ∈ lw_all := lw_t1 (i := 238) rfl rfl
set_option maxRecDepth 20000 in
theorem co_X3_add : Cond.code yX3_add cX3_add 4 (some .int) ∈ lw_all := lw_t1 (i := 239) rfl rfl
set_option maxRecDepth 20000 in
theorem ml_L_33 : Cond.methodLink RL 33 yX5_member ∈ lw_all := lw_t2 (i := 0) rfl rfl
set_option maxRecDepth 20000 in
theorem im_X5_member : Cond.instanceMethod yX5_member ∈ lw_all := lw_t2 (i := 1) rfl rfl
set_option maxRecDepth 20000 in
theorem se_X5_member : Cond.selects RX5 yX5_member yX5_member ∈ lw_all := lw_t2 (i := 2) rfl rfl
set_option maxRecDepth 20000 in
theorem co_X5_member : Cond.code yX5_member cX5_member 5 (some .int) ∈ lw_all := lw_t2 (i := 3) rfl rfl
set_option maxRecDepth 20000 in
theorem ml_X5_91 : Cond.methodLink RX5 91 yX5_isMissingType ∈ lw_all := lw_t2 (i := 4) rfl rfl
set_option maxRecDepth 20000 in
theorem im_X5_isMissingType : Cond.instanceMethod yX5_isMissingType ∈ lw_all := lw_t2 (i := 6) rfl rfl
set_option maxRecDepth 20000 in
theorem co_X5_isMissingType : Cond.code yX5_isMissingType cX5_isMissingType 2 (some .boolean) ∈ lw_all := lw_t2 (i := 7) rfl rfl
set_option maxRecDepth 20000 in
theorem ml_X5_94 : Cond.methodLink RX5 94 yX5_areMarks ∈ lw_all := lw_t2 (i := 8) rfl rfl
set_option maxRecDepth 20000 in
theorem sm_X5_areMarks : Cond.static yX5_areMarks ∈ lw_all := lw_t2 (i := 9) rfl rfl
set_option maxRecDepth 20000 in
theorem co_X5_areMarks : Cond.code yX5_areMarks cX5_areMarks 2 (some .boolean) ∈ lw_all := lw_t2 (i := 10) rfl rfl
set_option maxRecDepth 20000 in
theorem ml_X5_148 : Cond.methodLink RX5 148 yJ6_bitCount_0f7a4 ∈ lw_all := lw_t2 (i := 11) rfl rfl
set_option maxRecDepth 20000 in
theorem ml_X5_153 : Cond.methodLink RX5 153 yX5_areInterfaceMarks ∈ lw_all := lw_t2 (i := 12) rfl rfl
set_option maxRecDepth 20000 in
theorem sm_X5_areInterfaceMarks : Cond.static yX5_areInterfaceMarks ∈ lw_all := lw_t2 (i := 13) rfl rfl
set_option maxRecDepth 20000 in
theorem co_X5_areInterfaceMarks : Cond.code yX5_areInterfaceMarks cX5_areInterfaceMarks 2 (some .boolean) ∈ lw_all := lw_t2 (i := 14) rfl rfl
set_option maxRecDepth 20000 in
theorem ml_X5_156 : Cond.methodLink RX5 156 yX5_areClassMarks ∈ lw_all := lw_t2 (i := 15) rfl rfl
set_option maxRecDepth 20000 in
theorem sm_X5_areClassMarks : Cond.static yX5_areClassMarks ∈ lw_all := lw_t2 (i := 16) rfl rfl
set_option maxRecDepth 20000 in
theorem co_X5_areClassMarks : Cond.code yX5_areClassMarks cX5_areClassMarks 1 (some .boolean) ∈ lw_all := lw_t2 (i := 17) rfl rfl
set_option maxRecDepth 20000 in
theorem ml_X5_98 : Cond.methodLink RX5 98 yX2_at ∈ lw_all := lw_t2 (i := 18) rfl rfl
set_option maxRecDepth 20000 in
theorem im_X2_at : Cond.instanceMethod yX2_at ∈ lw_all := lw_t2 (i := 19) rfl rfl
set_option maxRecDepth 20000 in
theorem se_X2_at : Cond.selects RX2 yX2_at yX2_at ∈ lw_all := lw_t2 (i := 20) rfl rfl
set_option maxRecDepth 20000 in
theorem co_X2_at : Cond.code yX2_at cX2_at 4 (some .int) ∈ lw_all := lw_t2 (i := 21) rfl rfl
set_option maxRecDepth 20000 in
theorem ml_X5_101 : Cond.methodLink RX5 101 yX2_isFull ∈ lw_all := lw_t2 (i := 22) rfl rfl
set_option maxRecDepth 20000 in
theorem im_X2_isFull : Cond.instanceMethod yX2_isFull ∈ lw_all := lw_t2 (i := 23) rfl rfl
set_option maxRecDepth 20000 in
theorem se_X2_isFull : Cond.selects RX2 yX2_isFull yX2_isFull ∈ lw_all := lw_t2 (i := 24) rfl rfl
set_option maxRecDepth 20000 in
theorem co_X2_isFull : Cond.code yX2_isFull cX2_isFull 1 (some .boolean) ∈ lw_all := lw_t2 (i := 25) rfl rfl
set_option maxRecDepth 20000 in
theorem ml_X5_102 : Cond.methodLink RX5 102 yX2_add ∈ lw_all := lw_t2 (i := 26) rfl rfl
set_option maxRecDepth 20000 in
theorem im_X2_add : Cond.instanceMethod yX2_add ∈ lw_all := lw_t2 (i := 27) rfl rfl
set_option maxRecDepth 20000 in
theorem se_X2_add : Cond.selects RX2 yX2_add yX2_add ∈ lw_all := lw_t2 (i := 28) rfl rfl
set_option maxRecDepth 20000 in
theorem co_X2_add : Cond.code yX2_add cX2_add 7 (some .int) ∈ lw_all := lw_t2 (i := 29) rfl rfl
set_option maxRecDepth 20000 in
theorem ml_X2_38 : Cond.methodLink RX2 38 yX4_isInterface ∈ lw_all := lw_t2 (i := 30) rfl rfl
set_option maxRecDepth 20000 in
theorem ml_L_38 : Cond.methodLink RL 38 yX5_throws0 ∈ lw_all := lw_t2 (i := 31) rfl rfl
set_option maxRecDepth 20000 in
theorem im_X5_throws0 : Cond.instanceMethod yX5_throws0 ∈ lw_all := lw_t2 (i := 32) rfl rfl
set_option maxRecDepth 20000 in
theorem se_X5_throws0 : Cond.selects RX5 yX5_throws0 yX5_throws0 ∈ lw_all := lw_t2 (i := 33) rfl rfl
set_option maxRecDepth 20000 in
theorem co_X5_throws0 : Cond.code yX5_throws0 cX5_throws0 3 (some .int) ∈ lw_all := lw_t2 (i := 34) rfl rfl
set_option maxRecDepth 20000 in
theorem ml_X5_105 : Cond.methodLink RX5 105 yX2_has ∈ lw_all := lw_t2 (i := 35) rfl rfl
set_option maxRecDepth 20000 in
theorem im_X2_has : Cond.instanceMethod yX2_has ∈ lw_all := lw_t2 (i := 36) rfl rfl
set_option maxRecDepth 20000 in
theorem se_X2_has : Cond.selects RX2 yX2_has yX2_has ∈ lw_all := lw_t2 (i := 37) rfl rfl
set_option maxRecDepth 20000 in
theorem co_X2_has : Cond.code yX2_has cX2_has 2 (some .boolean) ∈ lw_all := lw_t2 (i := 38) rfl rfl
set_option maxRecDepth 20000 in
theorem ml_X5_106 : Cond.methodLink RX5 106 yX2_addThrow ∈ lw_all := lw_t2 (i := 39) rfl rfl
set_option maxRecDepth 20000 in
theorem im_X2_addThrow : Cond.instanceMethod yX2_addThrow ∈ lw_all := lw_t2 (i := 40) rfl rfl
set_option maxRecDepth 20000 in
theorem se_X2_addThrow : Cond.selects RX2 yX2_addThrow yX2_addThrow ∈ lw_all := lw_t2 (i := 41) rfl rfl
set_option maxRecDepth 20000 in
theorem co_X2_addThrow : Cond.code yX2_addThrow cX2_addThrow 4 (some .boolean) ∈ lw_all := lw_t2 (i := 42) rfl rfl
set_option maxRecDepth 20000 in
theorem ml_X5_109 : Cond.methodLink RX5 109 yX5_oneIf ∈ lw_all := lw_t2 (i := 44) rfl rfl
set_option maxRecDepth 20000 in
theorem sm_X5_oneIf : Cond.static yX5_oneIf ∈ lw_all := lw_t2 (i := 45) rfl rfl
set_option maxRecDepth 20000 in
theorem co_X5_oneIf : Cond.code yX5_oneIf cX5_oneIf 1 (some .int) ∈ lw_all := lw_t2 (i := 46) rfl rfl
set_option maxRecDepth 20000 in
theorem ml_L_42 : Cond.methodLink RL 42 yX5_overrides ∈ lw_all := lw_t2 (i := 47) rfl rfl
set_option maxRecDepth 20000 in
theorem im_X5_overrides : Cond.instanceMethod yX5_overrides ∈ lw_all := lw_t2 (i := 48) rfl rfl
set_option maxRecDepth 20000 in
theorem se_X5_overrides : Cond.selects RX5 yX5_overrides yX5_overrides ∈ lw_all := lw_t2 (i := 49) rfl rfl
set_option maxRecDepth 20000 in
theorem co_X5_overrides : Cond.code yX5_overrides cX5_overrides 3 (some .int) ∈ lw_all := lw_t2 (i := 50) rfl rfl
set_option maxRecDepth 20000 in
theorem ml_X5_113 : Cond.methodLink RX5 113 yX2_isOverriding ∈ lw_all := lw_t2 (i := 51) rfl rfl
set_option maxRecDepth 20000 in
theorem im_X2_isOverriding : Cond.instanceMethod yX2_isOverriding ∈ lw_all := lw_t2 (i := 52) rfl rfl
set_option maxRecDepth 20000 in
theorem se_X2_isOverriding : Cond.selects RX2 yX2_isOverriding yX2_isOverriding ∈ lw_all := lw_t2 (i := 53) rfl rfl
set_option maxRecDepth 20000 in
theorem co_X2_isOverriding : Cond.code yX2_isOverriding cX2_isOverriding 3 (some .boolean) ∈ lw_all := lw_t2 (i := 54) rfl rfl
set_option maxRecDepth 20000 in
theorem ml_X2_51 : Cond.methodLink RX2 51 yX2_isOfNameBelow ∈ lw_all := lw_t2 (i := 55) rfl rfl
set_option maxRecDepth 20000 in
theorem im_X2_isOfNameBelow : Cond.instanceMethod yX2_isOfNameBelow ∈ lw_all := lw_t2 (i := 57) rfl rfl
set_option maxRecDepth 20000 in
theorem co_X2_isOfNameBelow : Cond.code yX2_isOfNameBelow cX2_isOfNameBelow 3 (some .boolean) ∈ lw_all := lw_t2 (i := 58) rfl rfl
set_option maxRecDepth 20000 in
theorem ml_X2_63 : Cond.methodLink RX2 63 yX4_isBelow ∈ lw_all := lw_t2 (i := 59) rfl rfl
set_option maxRecDepth 20000 in
theorem im_X4_isBelow : Cond.instanceMethod yX4_isBelow ∈ lw_all := lw_t2 (i := 60) rfl rfl
set_option maxRecDepth 20000 in
theorem se_X4_isBelow : Cond.selects RX4 yX4_isBelow yX4_isBelow ∈ lw_all := lw_t2 (i := 61) rfl rfl
set_option maxRecDepth 20000 in
theorem co_X4_isBelow : Cond.code yX4_isBelow cX4_isBelow 3 (some .boolean) ∈ lw_all := lw_t2 (i := 62) rfl rfl
set_option maxRecDepth 20000 in
theorem ml_X2_48 : Cond.methodLink RX2 48 yX2_hasMark ∈ lw_all := lw_t2 (i := 63) rfl rfl
set_option maxRecDepth 20000 in
theorem im_X2_hasMark : Cond.instanceMethod yX2_hasMark ∈ lw_all := lw_t2 (i := 64) rfl rfl
set_option maxRecDepth 20000 in
theorem se_X2_hasMark : Cond.selects RX2 yX2_hasMark yX2_hasMark ∈ lw_all := lw_t2 (i := 65) rfl rfl
set_option maxRecDepth 20000 in
theorem co_X2_hasMark : Cond.code yX2_hasMark cX2_hasMark 3 (some .boolean) ∈ lw_all := lw_t2 (i := 66) rfl rfl
set_option maxRecDepth 20000 in
theorem ml_X2_54 : Cond.methodLink RX2 54 yX2_isInheritable ∈ lw_all := lw_t2 (i := 67) rfl rfl
set_option maxRecDepth 20000 in
theorem im_X2_isInheritable : Cond.instanceMethod yX2_isInheritable ∈ lw_all := lw_t2 (i := 68) rfl rfl
set_option maxRecDepth 20000 in
theorem se_X2_isInheritable : Cond.selects RX2 yX2_isInheritable yX2_isInheritable ∈ lw_all := lw_t2 (i := 69) rfl rfl
set_option maxRecDepth 20000 in
theorem co_X2_isInheritable : Cond.code yX2_isInheritable cX2_isInheritable 2 (some .boolean) ∈ lw_all := lw_t2 (i := 70) rfl rfl
set_option maxRecDepth 20000 in
theorem ml_X2_57 : Cond.methodLink RX2 57 yX2_isReached ∈ lw_all := lw_t2 (i := 71) rfl rfl
set_option maxRecDepth 20000 in
theorem im_X2_isReached : Cond.instanceMethod yX2_isReached ∈ lw_all := lw_t2 (i := 73) rfl rfl
set_option maxRecDepth 20000 in
theorem co_X2_isReached : Cond.code yX2_isReached cX2_isReached 9 (some .boolean) ∈ lw_all := lw_t2 (i := 74) rfl rfl
set_option maxRecDepth 20000 in
theorem ml_X2_66 : Cond.methodLink RX2 66 yX4_packetOf ∈ lw_all := lw_t2 (i := 75) rfl rfl
set_option maxRecDepth 20000 in
theorem im_X4_packetOf : Cond.instanceMethod yX4_packetOf ∈ lw_all := lw_t2 (i := 76) rfl rfl
set_option maxRecDepth 20000 in
theorem se_X4_packetOf : Cond.selects RX4 yX4_packetOf yX4_packetOf ∈ lw_all := lw_t2 (i := 77) rfl rfl
set_option maxRecDepth 20000 in
theorem co_X4_packetOf : Cond.code yX4_packetOf cX4_packetOf 2 (some .int) ∈ lw_all := lw_t2 (i := 78) rfl rfl
set_option maxRecDepth 20000 in
theorem ml_X2_70 : Cond.methodLink RX2 70 yX4_parentOf ∈ lw_all := lw_t2 (i := 79) rfl rfl
set_option maxRecDepth 20000 in
theorem im_X4_parentOf : Cond.instanceMethod yX4_parentOf ∈ lw_all := lw_t2 (i := 80) rfl rfl
set_option maxRecDepth 20000 in
theorem se_X4_parentOf : Cond.selects RX4 yX4_parentOf yX4_parentOf ∈ lw_all := lw_t2 (i := 81) rfl rfl
set_option maxRecDepth 20000 in
theorem co_X4_parentOf : Cond.code yX4_parentOf cX4_parentOf 2 (some .int) ∈ lw_all := lw_t2 (i := 82) rfl rfl
set_option maxRecDepth 20000 in
theorem ml_X2_73 : Cond.methodLink RX2 73 yX2_at ∈ lw_all := lw_t2 (i := 83) rfl rfl
set_option maxRecDepth 20000 in
theorem ml_L_46 : Cond.methodLink RL 46 yX5_hides ∈ lw_all := lw_t2 (i := 84) rfl rfl
set_option maxRecDepth 20000 in
theorem im_X5_hides : Cond.instanceMethod yX5_hides ∈ lw_all := lw_t2 (i := 85) rfl rfl
set_option maxRecDepth 20000 in
theorem se_X5_hides : Cond.selects RX5 yX5_hides yX5_hides ∈ lw_all := lw_t2 (i := 86) rfl rfl
set_option maxRecDepth 20000 in
theorem co_X5_hides : Cond.code yX5_hides cX5_hides 3 (some .int) ∈ lw_all := lw_t2 (i := 87) rfl rfl
set_option maxRecDepth 20000 in
theorem ml_X5_116 : Cond.methodLink RX5 116 yX2_isHiding ∈ lw_all := lw_t2 (i := 88) rfl rfl
set_option maxRecDepth 20000 in
theorem im_X2_isHiding : Cond.instanceMethod yX2_isHiding ∈ lw_all := lw_t2 (i := 89) rfl rfl
set_option maxRecDepth 20000 in
theorem se_X2_isHiding : Cond.selects RX2 yX2_isHiding yX2_isHiding ∈ lw_all := lw_t2 (i := 90) rfl rfl
set_option maxRecDepth 20000 in
theorem co_X2_isHiding : Cond.code yX2_isHiding cX2_isHiding 3 (some .boolean) ∈ lw_all := lw_t2 (i := 91) rfl rfl
set_option maxRecDepth 20000 in
theorem ml_X2_60 : Cond.methodLink RX2 60 yX2_isSeen ∈ lw_all := lw_t2 (i := 92) rfl rfl
set_option maxRecDepth 20000 in
theorem im_X2_isSeen : Cond.instanceMethod yX2_isSeen ∈ lw_all := lw_t2 (i := 94) rfl rfl
set_option maxRecDepth 20000 in
theorem co_X2_isSeen : Cond.code yX2_isSeen cX2_isSeen 3 (some .boolean) ∈ lw_all := lw_t2 (i := 95) rfl rfl
set_option maxRecDepth 20000 in
theorem ml_L_50 : Cond.methodLink RL 50 yX5_chosen ∈ lw_all := lw_t2 (i := 96) rfl rfl
set_option maxRecDepth 20000 in
theorem im_X5_chosen : Cond.instanceMethod yX5_chosen ∈ lw_all := lw_t2 (i := 97) rfl rfl
set_option maxRecDepth 20000 in
theorem se_X5_chosen : Cond.selects RX5 yX5_chosen yX5_chosen ∈ lw_all := lw_t2 (i := 98) rfl rfl
set_option maxRecDepth 20000 in
theorem co_X5_chosen : Cond.code yX5_chosen cX5_chosen 3 (some .int) ∈ lw_all := lw_t2 (i := 99) rfl rfl
set_option maxRecDepth 20000 in
theorem ml_X5_119 : Cond.methodLink RX5 119 yX2_isInheritable ∈ lw_all := lw_t2 (i := 100) rfl rfl
set_option maxRecDepth 20000 in
theorem ml_X5_122 : Cond.methodLink RX5 122 yX2_typeOf ∈ lw_all := lw_t2 (i := 101) rfl rfl
set_option maxRecDepth 20000 in
theorem im_X2_typeOf : Cond.instanceMethod yX2_typeOf ∈ lw_all := lw_t2 (i := 102) rfl rfl
set_option maxRecDepth 20000 in
theorem se_X2_typeOf : Cond.selects RX2 yX2_typeOf yX2_typeOf ∈ lw_all := lw_t2 (i := 103) rfl rfl
set_option maxRecDepth 20000 in
theorem co_X2_typeOf : Cond.code yX2_typeOf cX2_typeOf 2 (some .int) ∈ lw_all := lw_t2 (i := 104) rfl rfl
set_option maxRecDepth 20000 in
theorem ml_X5_125 : Cond.methodLink RX5 125 yX4_isSub ∈ lw_all := lw_t2 (i := 105) rfl rfl
set_option maxRecDepth 20000 in
theorem im_X4_isSub : Cond.instanceMethod yX4_isSub ∈ lw_all := lw_t2 (i := 106) rfl rfl
set_option maxRecDepth 20000 in
theorem se_X4_isSub : Cond.selects RX4 yX4_isSub yX4_isSub ∈ lw_all := lw_t2 (i := 107) rfl rfl
set_option maxRecDepth 20000 in
theorem co_X4_isSub : Cond.code yX4_isSub cX4_isSub 3 (some .boolean) ∈ lw_all := lw_t2 (i := 108) rfl rfl
set_option maxRecDepth 20000 in
theorem ml_X5_128 : Cond.methodLink RX5 128 yX0_choose ∈ lw_all := lw_t2 (i := 109) rfl rfl
set_option maxRecDepth 20000 in
theorem im_X0_choose : Cond.instanceMethod yX0_choose ∈ lw_all := lw_t2 (i := 110) rfl rfl
set_option maxRecDepth 20000 in
theorem se_X0_choose : Cond.selects RX0 yX0_choose yX0_choose ∈ lw_all := lw_t2 (i := 111) rfl rfl
set_option maxRecDepth 20000 in
theorem co_X0_choose : Cond.code yX0_choose cX0_choose 8 (some .int) ∈ lw_all := lw_t2 (i := 112) rfl rfl
set_option maxRecDepth 20000 in
theorem ml_X0_19 : Cond.methodLink RX0 19 yX2_nameOf ∈ lw_all := lw_t2 (i := 113) rfl rfl
set_option maxRecDepth 20000 in
theorem im_X2_nameOf : Cond.instanceMethod yX2_nameOf ∈ lw_all := lw_t2 (i := 114) rfl rfl
set_option maxRecDepth 20000 in
theorem se_X2_nameOf : Cond.selects RX2 yX2_nameOf yX2_nameOf ∈ lw_all := lw_t2 (i := 115) rfl rfl
set_option maxRecDepth 20000 in
theorem co_X2_nameOf : Cond.code yX2_nameOf cX2_nameOf 2 (some .int) ∈ lw_all := lw_t2 (i := 116) rfl rfl
set_option maxRecDepth 20000 in
theorem ml_X0_25 : Cond.methodLink RX0 25 yX2_typeOf ∈ lw_all := lw_t2 (i := 117) rfl rfl
set_option maxRecDepth 20000 in
theorem ml_X0_28 : Cond.methodLink RX0 28 yX4_isInterface ∈ lw_all := lw_t2 (i := 118) rfl rfl
set_option maxRecDepth 20000 in
theorem ml_X0_34 : Cond.methodLink RX0 34 yX2_at ∈ lw_all := lw_t2 (i := 119) rfl rfl
set_option maxRecDepth 20000 in
theorem ml_X0_38 : Cond.methodLink RX0 38 yX2_isInheritable ∈ lw_all := lw_t2 (i := 120) rfl rfl
set_option maxRecDepth 20000 in
theorem ml_X0_41 : Cond.methodLink RX0 41 yX2_isOverriding ∈ lw_all := lw_t2 (i := 121) rfl rfl
set_option maxRecDepth 20000 in
theorem ml_X0_45 : Cond.methodLink RX0 45 yX4_parentOf ∈ lw_all := lw_t2 (i := 122) rfl rfl
set_option maxRecDepth 20000 in
theorem ml_X0_48 : Cond.methodLink RX0 48 yX0_chooseOfInterfaces ∈ lw_all := lw_t2 (i := 123) rfl rfl
set_option maxRecDepth 20000 in
theorem im_X0_chooseOfInterfaces : Cond.instanceMethod yX0_chooseOfInterfaces ∈ lw_all := lw_t2 (i := 125) rfl rfl
set_option maxRecDepth 20000 in
theorem co_X0_chooseOfInterfaces : Cond.code yX0_chooseOfInterfaces cX0_chooseOfInterfaces 6 (some .int) ∈ lw_all := lw_t2 (i := 126) rfl rfl
set_option maxRecDepth 20000 in
theorem ml_X0_51 : Cond.methodLink RX0 51 yX4_isBelow ∈ lw_all := lw_t2 (i := 127) rfl rfl
set_option maxRecDepth 20000 in
theorem ml_X0_54 : Cond.methodLink RX0 54 yX4_allAbove ∈ lw_all := lw_t2 (i := 128) rfl rfl
set_option maxRecDepth 20000 in
theorem im_X4_allAbove : Cond.instanceMethod yX4_allAbove ∈ lw_all := lw_t2 (i := 129) rfl rfl
set_option maxRecDepth 20000 in
theorem se_X4_allAbove : Cond.selects RX4 yX4_allAbove yX4_allAbove ∈ lw_all := lw_t2 (i := 130) rfl rfl
set_option maxRecDepth 20000 in
theorem co_X4_allAbove : Cond.code yX4_allAbove cX4_allAbove 2 (some .int) ∈ lw_all := lw_t2 (i := 131) rfl rfl
set_option maxRecDepth 20000 in
theorem ml_X0_57 : Cond.methodLink RX0 57 yX0_leastOrFight ∈ lw_all := lw_t2 (i := 132) rfl rfl
set_option maxRecDepth 20000 in
theorem im_X0_leastOrFight : Cond.instanceMethod yX0_leastOrFight ∈ lw_all := lw_t2 (i := 134) rfl rfl
set_option maxRecDepth 20000 in
theorem co_X0_leastOrFight : Cond.code yX0_leastOrFight cX0_leastOrFight 7 (some .int) ∈ lw_all := lw_t2 (i := 135) rfl rfl
set_option maxRecDepth 20000 in
theorem ml_X0_60 : Cond.methodLink RX0 60 yX4_size ∈ lw_all := lw_t2 (i := 136) rfl rfl
set_option maxRecDepth 20000 in
theorem im_X4_size : Cond.instanceMethod yX4_size ∈ lw_all := lw_t2 (i := 137) rfl rfl
set_option maxRecDepth 20000 in
theorem se_X4_size : Cond.selects RX4 yX4_size yX4_size ∈ lw_all := lw_t2 (i := 138) rfl rfl
set_option maxRecDepth 20000 in
theorem co_X4_size : Cond.code yX4_size cX4_size 1 (some .int) ∈ lw_all := lw_t2 (i := 139) rfl rfl
set_option maxRecDepth 20000 in
theorem ml_X0_67 : Cond.methodLink RX0 67 yJ9_min_7cf53 ∈ lw_all := lw_t2 (i := 141) rfl rfl
set_option maxRecDepth 20000 in
theorem sm_J9_min_7cf53 : Cond.static yJ9_min_7cf53 ∈ lw_all := lw_t2 (i := 142) rfl rfl
set_option maxRecDepth 20000 in
theorem co_J9_min_7cf53 : Cond.code yJ9_min_7cf53 cJ9_min_7cf53 2 (some .int) ∈ lw_all := lw_t2 (i := 143) rfl rfl
set_option maxRecDepth 20000 in
theorem ml_X0_72 : Cond.methodLink RX0 72 yX2_hasMark ∈ lw_all := lw_t2 (i := 144) rfl rfl
set_option maxRecDepth 20000 in
theorem ml_X0_75 : Cond.methodLink RX0 75 yJ6_bitCount_0f7a4 ∈ lw_all := lw_t2 (i := 145) rfl rfl
set_option maxRecDepth 20000 in
theorem ml_L_54 : Cond.methodLink RL 54 yX5_sub ∈ lw_all := lw_t2 (i := 146) rfl rfl
set_option maxRecDepth 20000 in
theorem im_X5_sub : Cond.instanceMethod yX5_sub ∈ lw_all := lw_t2 (i := 147) rfl rfl
set_option maxRecDepth 20000 in
theorem se_X5_sub : Cond.selects RX5 yX5_sub yX5_sub ∈ lw_all := lw_t2 (i := 148) rfl rfl
set_option maxRecDepth 20000 in
theorem co_X5_sub : Cond.code yX5_sub cX5_sub 3 (some .int) ∈ lw_all := lw_t2 (i := 149) rfl rfl
set_option maxRecDepth 20000 in
theorem ml_L_58 : Cond.methodLink RL 58 yX5_check ∈ lw_all := lw_t2 (i := 150) rfl rfl
set_option maxRecDepth 20000 in
theorem im_X5_check : Cond.instanceMethod yX5_check ∈ lw_all := lw_t2 (i := 151) rfl rfl
set_option maxRecDepth 20000 in
theorem se_X5_check : Cond.selects RX5 yX5_check yX5_check ∈ lw_all := lw_t2 (i := 152) rfl rfl
set_option maxRecDepth 20000 in
theorem co_X5_check : Cond.code yX5_check cX5_check 2 (some .int) ∈ lw_all := lw_t2 (i := 153) rfl rfl
set_option maxRecDepth 20000 in
theorem ml_X5_131 : Cond.methodLink RX5 131 yX1_walk ∈ lw_all := lw_t2 (i := 154) rfl rfl
set_option maxRecDepth 20000 in
theorem im_X1_walk : Cond.instanceMethod yX1_walk ∈ lw_all := lw_t2 (i := 155) rfl rfl
set_option maxRecDepth 20000 in
theorem se_X1_walk : Cond.selects RX1 yX1_walk yX1_walk ∈ lw_all := lw_t2 (i := 156) rfl rfl
set_option maxRecDepth 20000 in
theorem co_X1_walk : Cond.code yX1_walk cX1_walk 4 (some .int) ∈ lw_all := lw_t2 (i := 157) rfl rfl
set_option maxRecDepth 20000 in
theorem ml_X1_43 : Cond.methodLink RX1 43 yX2_size ∈ lw_all := lw_t2 (i := 158) rfl rfl
set_option maxRecDepth 20000 in
theorem ml_X1_49 : Cond.methodLink RX1 49 yX2_typeOf ∈ lw_all := lw_t2 (i := 159) rfl rfl
set_option maxRecDepth 20000 in
theorem ml_X1_53 : Cond.methodLink RX1 53 yX1_walkOwn ∈ lw_all := lw_t2 (i := 160) rfl rfl
set_option maxRecDepth 20000 in
theorem im_X1_walkOwn : Cond.instanceMethod yX1_walkOwn ∈ lw_all := lw_t2 (i := 162) rfl rfl
set_option maxRecDepth 20000 in
theorem co_X1_walkOwn : Cond.code yX1_walkOwn cX1_walkOwn 5 none ∈ lw_all := lw_t2 (i := 163) rfl rfl
set_option maxRecDepth 20000 in
theorem ml_X1_70 : Cond.methodLink RX1 70 yX2_isOverriding ∈ lw_all := lw_t2 (i := 164) rfl rfl
set_option maxRecDepth 20000 in
theorem ml_X1_74 : Cond.methodLink RX1 74 yX2_isMixed ∈ lw_all := lw_t2 (i := 165) rfl rfl
set_option maxRecDepth 20000 in
theorem im_X2_isMixed : Cond.instanceMethod yX2_isMixed ∈ lw_all := lw_t2 (i := 166) rfl rfl
set_option maxRecDepth 20000 in
theorem se_X2_isMixed : Cond.selects RX2 yX2_isMixed yX2_isMixed ∈ lw_all := lw_t2 (i := 167) rfl rfl
set_option maxRecDepth 20000 in
theorem co_X2_isMixed : Cond.code yX2_isMixed cX2_isMixed 3 (some .boolean) ∈ lw_all := lw_t2 (i := 168) rfl rfl
set_option maxRecDepth 20000 in
theorem ml_X1_77 : Cond.methodLink RX1 77 yX1_noteIf ∈ lw_all := lw_t2 (i := 169) rfl rfl
set_option maxRecDepth 20000 in
theorem im_X1_noteIf : Cond.instanceMethod yX1_noteIf ∈ lw_all := lw_t2 (i := 171) rfl rfl
set_option maxRecDepth 20000 in
theorem co_X1_noteIf : Cond.code yX1_noteIf cX1_noteIf 5 none ∈ lw_all := lw_t2 (i := 172) rfl rfl
set_option maxRecDepth 20000 in
theorem ml_X1_66 : Cond.methodLink RX1 66 yX1_note ∈ lw_all := lw_t2 (i := 173) rfl rfl
set_option maxRecDepth 20000 in
theorem im_X1_note : Cond.instanceMethod yX1_note ∈ lw_all := lw_t2 (i := 175) rfl rfl
set_option maxRecDepth 20000 in
theorem co_X1_note : Cond.code yX1_note cX1_note 4 none ∈ lw_all := lw_t2 (i := 176) rfl rfl
set_option maxRecDepth 20000 in
theorem ml_X1_81 : Cond.methodLink RX1 81 yX2_isHiding ∈ lw_all := lw_t2 (i := 177) rfl rfl
set_option maxRecDepth 20000 in
theorem ml_X1_84 : Cond.methodLink RX1 84 yX2_hasMark ∈ lw_all := lw_t2 (i := 178) rfl rfl
set_option maxRecDepth 20000 in
theorem ml_X1_87 : Cond.methodLink RX1 87 yX1_compare ∈ lw_all := lw_t2 (i := 179) rfl rfl
set_option maxRecDepth 20000 in
theorem im_X1_compare : Cond.instanceMethod yX1_compare ∈ lw_all := lw_t2 (i := 181) rfl rfl
set_option maxRecDepth 20000 in
theorem co_X1_compare : Cond.code yX1_compare cX1_compare 3 none ∈ lw_all := lw_t2 (i := 182) rfl rfl
set_option maxRecDepth 20000 in
theorem ml_X1_94 : Cond.methodLink RX1 94 yX2_accessOf ∈ lw_all := lw_t2 (i := 183) rfl rfl
set_option maxRecDepth 20000 in
theorem im_X2_accessOf : Cond.instanceMethod yX2_accessOf ∈ lw_all := lw_t2 (i := 184) rfl rfl
set_option maxRecDepth 20000 in
theorem se_X2_accessOf : Cond.selects RX2 yX2_accessOf yX2_accessOf ∈ lw_all := lw_t2 (i := 185) rfl rfl
set_option maxRecDepth 20000 in
theorem co_X2_accessOf : Cond.code yX2_accessOf cX2_accessOf 2 (some .int) ∈ lw_all := lw_t2 (i := 186) rfl rfl
set_option maxRecDepth 20000 in
theorem ml_X1_97 : Cond.methodLink RX1 97 yX2_resultOf ∈ lw_all := lw_t2 (i := 187) rfl rfl
set_option maxRecDepth 20000 in
theorem im_X2_resultOf : Cond.instanceMethod yX2_resultOf ∈ lw_all := lw_t2 (i := 188) rfl rfl
set_option maxRecDepth 20000 in
theorem se_X2_resultOf : Cond.selects RX2 yX2_resultOf yX2_resultOf ∈ lw_all := lw_t2 (i := 189) rfl rfl
set_option maxRecDepth 20000 in
theorem co_X2_resultOf : Cond.code yX2_resultOf cX2_resultOf 2 (some .int) ∈ lw_all := lw_t2 (i := 190) rfl rfl
set_option maxRecDepth 20000 in
theorem ml_X1_100 : Cond.methodLink RX1 100 yX1_suits ∈ lw_all := lw_t2 (i := 191) rfl rfl
set_option maxRecDepth 20000 in
theorem im_X1_suits : Cond.instanceMethod yX1_suits ∈ lw_all := lw_t2 (i := 193) rfl rfl
set_option maxRecDepth 20000 in
theorem co_X1_suits : Cond.code yX1_suits cX1_suits 3 (some .boolean) ∈ lw_all := lw_t2 (i := 194) rfl rfl
set_option maxRecDepth 20000 in
theorem ml_X1_111 : Cond.methodLink RX1 111 yX4_has ∈ lw_all := lw_t2 (i := 195) rfl rfl
set_option maxRecDepth 20000 in
theorem ml_X1_114 : Cond.methodLink RX1 114 yX4_isSub ∈ lw_all := lw_t2 (i := 196) rfl rfl
set_option maxRecDepth 20000 in
theorem ml_X1_103 : Cond.methodLink RX1 103 yX2_thrownBy ∈ lw_all := lw_t2 (i := 197) rfl rfl
set_option maxRecDepth 20000 in
theorem im_X2_thrownBy : Cond.instanceMethod yX2_thrownBy ∈ lw_all := lw_t2 (i := 198) rfl rfl
set_option maxRecDepth 20000 in
theorem se_X2_thrownBy : Cond.selects RX2 yX2_thrownBy yX2_thrownBy ∈ lw_all := lw_t2 (i := 199) rfl rfl
set_option maxRecDepth 20000 in
theorem co_X2_thrownBy : Cond.code yX2_thrownBy cX2_thrownBy 2 (some .int) ∈ lw_all := lw_t2 (i := 200) rfl rfl
set_option maxRecDepth 20000 in
theorem ml_X1_106 : Cond.methodLink RX1 106 yX3_areAllowed ∈ lw_all := lw_t2 (i := 201) rfl rfl
set_option maxRecDepth 20000 in
theorem im_X3_areAllowed : Cond.instanceMethod yX3_areAllowed ∈ lw_all := lw_t2 (i := 202) rfl rfl
set_option maxRecDepth 20000 in
theorem se_X3_areAllowed : Cond.selects RX3 yX3_areAllowed yX3_areAllowed ∈ lw_all := lw_t2 (i := 203) rfl rfl
set_option maxRecDepth 20000 in
theorem co_X3_areAllowed : Cond.code yX3_areAllowed cX3_areAllowed 4 (some .boolean) ∈ lw_all := lw_t2 (i := 204) rfl rfl
set_option maxRecDepth 20000 in
theorem ml_X1_91 : Cond.methodLink RX1 91 yX4_isPlainClass ∈ lw_all := lw_t2 (i := 206) rfl rfl
set_option maxRecDepth 20000 in
theorem im_X4_isPlainClass : Cond.instanceMethod yX4_isPlainClass ∈ lw_all := lw_t2 (i := 207) rfl rfl
set_option maxRecDepth 20000 in
theorem se_X4_isPlainClass : Cond.selects RX4 yX4_isPlainClass yX4_isPlainClass ∈ lw_all := lw_t2 (i := 208) rfl rfl
set_option maxRecDepth 20000 in
theorem co_X4_isPlainClass : Cond.code yX4_isPlainClass cX4_isPlainClass 2 (some .boolean) ∈ lw_all := lw_t2 (i := 209) rfl rfl
set_option maxRecDepth 20000 in
theorem ml_X1_57 : Cond.methodLink RX1 57 yX4_isInterface ∈ lw_all := lw_t2 (i := 210) rfl rfl
set_option maxRecDepth 20000 in
theorem ml_X1_63 : Cond.methodLink RX1 63 yX1_walkInherited ∈ lw_all := lw_t2 (i := 211) rfl rfl
set_option maxRecDepth 20000 in
theorem im_X1_walkInherited : Cond.instanceMethod yX1_walkInherited ∈ lw_all := lw_t2 (i := 213) rfl rfl
set_option maxRecDepth 20000 in
theorem co_X1_walkInherited : Cond.code yX1_walkInherited cX1_walkInherited 3 none ∈ lw_all := lw_t2 (i := 214) rfl rfl
set_option maxRecDepth 20000 in
theorem ml_X1_117 : Cond.methodLink RX1 117 yX2_isInheritable ∈ lw_all := lw_t2 (i := 215) rfl rfl
set_option maxRecDepth 20000 in
theorem ml_X1_120 : Cond.methodLink RX1 120 yX4_isBelow ∈ lw_all := lw_t2 (i := 216) rfl rfl
set_option maxRecDepth 20000 in
theorem ml_X1_123 : Cond.methodLink RX1 123 yX0_choose ∈ lw_all := lw_t2 (i := 217) rfl rfl
set_option maxRecDepth 20000 in
theorem ml_X1_129 : Cond.methodLink RX1 129 yX1_noteChosen ∈ lw_all := lw_t2 (i := 218) rfl rfl
set_option maxRecDepth 20000 in
theorem im_X1_noteChosen : Cond.instanceMethod yX1_noteChosen ∈ lw_all := lw_t2 (i := 220) rfl rfl
set_option maxRecDepth 20000 in
theorem co_X1_noteChosen : Cond.code yX1_noteChosen cX1_noteChosen 4 none ∈ lw_all := lw_t2 (i := 221) rfl rfl
set_option maxRecDepth 20000 in
theorem ml_X1_132 : Cond.methodLink RX1 132 yX1_isMetByChance ∈ lw_all := lw_t2 (i := 222) rfl rfl
set_option maxRecDepth 20000 in
theorem im_X1_isMetByChance : Cond.instanceMethod yX1_isMetByChance ∈ lw_all := lw_t2 (i := 224) rfl rfl
set_option maxRecDepth 20000 in
theorem co_X1_isMetByChance : Cond.code yX1_isMetByChance cX1_isMetByChance 5 (some .boolean) ∈ lw_all := lw_t2 (i := 225) rfl rfl
set_option maxRecDepth 20000 in
theorem ml_L_63 : Cond.methodLink RL 63 yX5_fault ∈ lw_all := lw_t2 (i := 226) rfl rfl
set_option maxRecDepth 20000 in
theorem im_X5_fault : Cond.instanceMethod yX5_fault ∈ lw_all := lw_t2 (i := 227) rfl rfl
set_option maxRecDepth 20000 in
theorem se_X5_fault : Cond.selects RX5 yX5_fault yX5_fault ∈ lw_all := lw_t2 (i := 228) rfl rfl
set_option maxRecDepth 20000 in
theorem co_X5_fault : Cond.code yX5_fault cX5_fault 4 (some .int) ∈ lw_all := lw_t2 (i := 229) rfl rfl
set_option maxRecDepth 20000 in
theorem ml_X5_134 : Cond.methodLink RX5 134 yX1_pickedPart ∈ lw_all := lw_t2 (i := 230) rfl rfl
set_option maxRecDepth 20000 in
theorem im_X1_pickedPart : Cond.instanceMethod yX1_pickedPart ∈ lw_all := lw_t2 (i := 231) rfl rfl
set_option maxRecDepth 20000 in
theorem se_X1_pickedPart : Cond.selects RX1 yX1_pickedPart yX1_pickedPart ∈ lw_all := lw_t2 (i := 232) rfl rfl
set_option maxRecDepth 20000 in
theorem co_X1_pickedPart : Cond.code yX1_pickedPart cX1_pickedPart 2 (some .int) ∈ lw_all := lw_t2 (i := 233) rfl rfl
set_option maxRecDepth 20000 in
theorem ml_L_67 : Cond.methodLink RL 67 yX5_bridges ∈ lw_all := lw_t2 (i := 234) rfl rfl
set_option maxRecDepth 20000 in
theorem im_X5_bridges : Cond.instanceMethod yX5_bridges ∈ lw_all := lw_t2 (i := 235) rfl rfl
set_option maxRecDepth 20000 in
theorem se_X5_bridges : Cond.selects RX5 yX5_bridges yX5_bridges ∈ lw_all := lw_t2 (i := 236) rfl rfl
set_option maxRecDepth 20000 in
theorem co_X5_bridges : Cond.code yX5_bridges cX5_bridges 4 (some .int) ∈ lw_all := lw_t2 (i := 237) rfl rfl
set_option maxRecDepth 20000 in
theorem ml_X5_137 : Cond.methodLink RX5 137 yX2_hasMark ∈ lw_all := lw_t2 (i := 238) rfl rfl
set_option maxRecDepth 20000 in
theorem ml_X5_140 : Cond.methodLink RX5 140 yX2_countBridges ∈ lw_all := lw_t2 (i := 239) rfl rfl
set_option maxRecDepth 20000 in
theorem im_X2_countBridges : Cond.instanceMethod yX2_countBridges ∈ lw_all := lw_t3 (i := 0) rfl rfl
set_option maxRecDepth 20000 in
theorem se_X2_countBridges : Cond.selects RX2 yX2_countBridges yX2_countBridges ∈ lw_all := lw_t3 (i := 1) rfl rfl
set_option maxRecDepth 20000 in
theorem co_X2_countBridges : Cond.code yX2_countBridges cX2_countBridges 4 (some .int) ∈ lw_all := lw_t3 (i := 2) rfl rfl
set_option maxRecDepth 20000 in
theorem ml_X2_77 : Cond.methodLink RX2 77 yX2_isOverriding ∈ lw_all := lw_t3 (i := 3) rfl rfl
set_option maxRecDepth 20000 in
theorem ml_X2_84 : Cond.methodLink RX2 84 yJ6_bitCount_0f7a4 ∈ lw_all := lw_t3 (i := 4) rfl rfl
set_option maxRecDepth 20000 in
theorem ml_L_71 : Cond.methodLink RL 71 yX5_first ∈ lw_all := lw_t3 (i := 5) rfl rfl
set_option maxRecDepth 20000 in
theorem im_X5_first : Cond.instanceMethod yX5_first ∈ lw_all := lw_t3 (i := 6) rfl rfl
set_option maxRecDepth 20000 in
theorem se_X5_first : Cond.selects RX5 yX5_first yX5_first ∈ lw_all := lw_t3 (i := 7) rfl rfl
set_option maxRecDepth 20000 in
theorem co_X5_first : Cond.code yX5_first cX5_first 6 (some .int) ∈ lw_all := lw_t3 (i := 8) rfl rfl
set_option maxRecDepth 20000 in
theorem ml_X5_143 : Cond.methodLink RX5 143 yX2_countOverridden ∈ lw_all := lw_t3 (i := 9) rfl rfl
set_option maxRecDepth 20000 in
theorem im_X2_countOverridden : Cond.instanceMethod yX2_countOverridden ∈ lw_all := lw_t3 (i := 10) rfl rfl
set_option maxRecDepth 20000 in
theorem se_X2_countOverridden : Cond.selects RX2 yX2_countOverridden yX2_countOverridden ∈ lw_all := lw_t3 (i := 11) rfl rfl
set_option maxRecDepth 20000 in
theorem co_X2_countOverridden : Cond.code yX2_countOverridden cX2_countOverridden 4 (some .int) ∈ lw_all := lw_t3 (i := 12) rfl rfl
set_option maxRecDepth 20000 in
theorem ml_L_75 : Cond.methodLink RL 75 yX5_told ∈ lw_all := lw_t3 (i := 14) rfl rfl
set_option maxRecDepth 20000 in
theorem im_X5_told : Cond.instanceMethod yX5_told ∈ lw_all := lw_t3 (i := 15) rfl rfl
set_option maxRecDepth 20000 in
theorem se_X5_told : Cond.selects RX5 yX5_told yX5_told ∈ lw_all := lw_t3 (i := 16) rfl rfl
set_option maxRecDepth 20000 in
theorem co_X5_told : Cond.code yX5_told cX5_told 4 (some .int) ∈ lw_all := lw_t3 (i := 17) rfl rfl
set_option maxRecDepth 20000 in
theorem ml_X5_146 : Cond.methodLink RX5 146 yX4_size ∈ lw_all := lw_t3 (i := 18) rfl rfl
set_option maxRecDepth 20000 in
theorem ml_X5_147 : Cond.methodLink RX5 147 yX3_size ∈ lw_all := lw_t3 (i := 19) rfl rfl
set_option maxRecDepth 20000 in
theorem im_X3_size : Cond.instanceMethod yX3_size ∈ lw_all := lw_t3 (i := 20) rfl rfl
set_option maxRecDepth 20000 in
theorem se_X3_size : Cond.selects RX3 yX3_size yX3_size ∈ lw_all := lw_t3 (i := 21) rfl rfl
set_option maxRecDepth 20000 in
theorem co_X3_size : Cond.code yX3_size cX3_size 1 (some .int) ∈ lw_all := lw_t3 (i := 22) rfl rfl
set_option maxRecDepth 20000 in
theorem cl_L_10 : Cond.classLink RL 10 RX6 ∈ lw_all := lw_t3 (i := 23) rfl rfl
set_option maxRecDepth 20000 in
theorem is_X6 : Cond.instantiable RX6 21 ∈ lw_all := lw_t3 (i := 24) rfl rfl
set_option maxRecDepth 20000 in
theorem ml_L_12 : Cond.methodLink RL 12 yX6_init ∈ lw_all := lw_t3 (i := 25) rfl rfl
set_option maxRecDepth 20000 in
theorem im_X6_init : Cond.instanceMethod yX6_init ∈ lw_all := lw_t3 (i := 26) rfl rfl
set_option maxRecDepth 20000 in
theorem co_X6_init : Cond.code yX6_init cX6_init 1 none ∈ lw_all := lw_t3 (i := 27) rfl rfl
set_option maxRecDepth 20000 in
theorem ml_X6_1 : Cond.methodLink RX6 1 objectInit ∈ lw_all := lw_t3 (i := 28) rfl rfl
set_option maxRecDepth 20000 in
theorem fl_X6_62 : Cond.fieldLink RX6 62 "OverrideRulesModel" "types" "I" ∈ lw_all := lw_t3 (i := 29) rfl rfl
set_option maxRecDepth 20000 in
theorem fl_X6_7 : Cond.fieldLink RX6 7 "OverrideRulesModel" "kind" "[I" ∈ lw_all := lw_t3 (i := 30) rfl rfl
set_option maxRecDepth 20000 in
theorem fl_X6_13 : Cond.fieldLink RX6 13 "OverrideRulesModel" "packet" "[I" ∈ lw_all := lw_t3 (i := 31) rfl rfl
set_option maxRecDepth 20000 in
theorem fl_X6_16 : Cond.fieldLink RX6 16 "OverrideRulesModel" "parent" "[I" ∈ lw_all := lw_t3 (i := 32) rfl rfl
set_option maxRecDepth 20000 in
theorem fl_X6_19 : Cond.fieldLink RX6 19 "OverrideRulesModel" "faces" "[I" ∈ lw_all := lw_t3 (i := 33) rfl rfl
set_option maxRecDepth 20000 in
theorem fl_X6_22 : Cond.fieldLink RX6 22 "OverrideRulesModel" "face" "[I" ∈ lw_all := lw_t3 (i := 34) rfl rfl
set_option maxRecDepth 20000 in
theorem fl_X6_25 : Cond.fieldLink RX6 25 "OverrideRulesModel" "above" "[Z" ∈ lw_all := lw_t3 (i := 35) rfl rfl
set_option maxRecDepth 20000 in
theorem fl_X6_73 : Cond.fieldLink RX6 73 "OverrideRulesModel" "throwsMany" "I" ∈ lw_all := lw_t3 (i := 36) rfl rfl
set_option maxRecDepth 20000 in
theorem fl_X6_29 : Cond.fieldLink RX6 29 "OverrideRulesModel" "throwParent" "[I" ∈ lw_all := lw_t3 (i := 37) rfl rfl
set_option maxRecDepth 20000 in
theorem fl_X6_32 : Cond.fieldLink RX6 32 "OverrideRulesModel" "checked" "[Z" ∈ lw_all := lw_t3 (i := 38) rfl rfl
set_option maxRecDepth 20000 in
theorem fl_X6_70 : Cond.fieldLink RX6 70 "OverrideRulesModel" "members" "I" ∈ lw_all := lw_t3 (i := 39) rfl rfl
set_option maxRecDepth 20000 in
theorem fl_X6_35 : Cond.fieldLink RX6 35 "OverrideRulesModel" "of" "[I" ∈ lw_all := lw_t3 (i := 40) rfl rfl
set_option maxRecDepth 20000 in
theorem fl_X6_38 : Cond.fieldLink RX6 38 "OverrideRulesModel" "name" "[I" ∈ lw_all := lw_t3 (i := 41) rfl rfl
set_option maxRecDepth 20000 in
theorem fl_X6_41 : Cond.fieldLink RX6 41 "OverrideRulesModel" "result" "[I" ∈ lw_all := lw_t3 (i := 42) rfl rfl
set_option maxRecDepth 20000 in
theorem fl_X6_44 : Cond.fieldLink RX6 44 "OverrideRulesModel" "marks" "[I" ∈ lw_all := lw_t3 (i := 43) rfl rfl
set_option maxRecDepth 20000 in
theorem fl_X6_47 : Cond.fieldLink RX6 47 "OverrideRulesModel" "thrownBy" "[I" ∈ lw_all := lw_t3 (i := 44) rfl rfl
set_option maxRecDepth 20000 in
theorem fl_X6_50 : Cond.fieldLink RX6 50 "OverrideRulesModel" "over" "[Z" ∈ lw_all := lw_t3 (i := 45) rfl rfl
set_option maxRecDepth 20000 in
theorem fl_X6_144 : Cond.fieldLink RX6 144 "OverrideRulesModel" "faults" "I" ∈ lw_all := lw_t3 (i := 46) rfl rfl
set_option maxRecDepth 20000 in
theorem fl_X6_53 : Cond.fieldLink RX6 53 "OverrideRulesModel" "faultCode" "[I" ∈ lw_all := lw_t3 (i := 47) rfl rfl
set_option maxRecDepth 20000 in
theorem fl_X6_56 : Cond.fieldLink RX6 56 "OverrideRulesModel" "faultOne" "[I" ∈ lw_all := lw_t3 (i := 48) rfl rfl
set_option maxRecDepth 20000 in
theorem fl_X6_59 : Cond.fieldLink RX6 59 "OverrideRulesModel" "faultOther" "[I" ∈ lw_all := lw_t3 (i := 49) rfl rfl
set_option maxRecDepth 20000 in
theorem ac_boolean : Cond.arrayClass .boolean ∈ lw_all := lw_t3 (i := 93) rfl rfl
set_option maxRecDepth 20000 in
theorem ml_L_17 : Cond.methodLink RL 17 yX6_clear ∈ lw_all := lw_t3 (i := 94) rfl rfl
set_option maxRecDepth 20000 in
theorem im_X6_clear : Cond.instanceMethod yX6_clear ∈ lw_all := lw_t3 (i := 95) rfl rfl
set_option maxRecDepth 20000 in
theorem se_X6_clear : Cond.selects RX6 yX6_clear yX6_clear ∈ lw_all := lw_t3 (i := 96) rfl rfl
set_option maxRecDepth 20000 in
theorem co_X6_clear : Cond.code yX6_clear cX6_clear 2 (some .int) ∈ lw_all := lw_t3 (i := 97) rfl rfl
set_option maxRecDepth 20000 in
theorem ml_L_22 : Cond.methodLink RL 22 yX6_type ∈ lw_all := lw_t3 (i := 98) rfl rfl
set_option maxRecDepth 20000 in
theorem im_X6_type : Cond.instanceMethod yX6_type ∈ lw_all := lw_t3 (i := 99) rfl rfl
set_option maxRecDepth 20000 in
theorem se_X6_type : Cond.selects RX6 yX6_type yX6_type ∈ lw_all := lw_t3 (i := 100) rfl rfl
set_option maxRecDepth 20000 in
theorem co_X6_type : Cond.code yX6_type cX6_type 4 (some .int) ∈ lw_all := lw_t3 (i := 101) rfl rfl
set_option maxRecDepth 20000 in
theorem ml_X6_83 : Cond.methodLink RX6 83 yX6_isType ∈ lw_all := lw_t3 (i := 102) rfl rfl
set_option maxRecDepth 20000 in
theorem im_X6_isType : Cond.instanceMethod yX6_isType ∈ lw_all := lw_t3 (i := 104) rfl rfl
set_option maxRecDepth 20000 in
theorem co_X6_isType : Cond.code yX6_isType cX6_isType 2 (some .boolean) ∈ lw_all := lw_t3 (i := 105) rfl rfl
set_option maxRecDepth 20000 in
theorem ml_X6_66 : Cond.methodLink RX6 66 yX6_in ∈ lw_all := lw_t3 (i := 106) rfl rfl
set_option maxRecDepth 20000 in
theorem sm_X6_in : Cond.static yX6_in ∈ lw_all := lw_t3 (i := 107) rfl rfl
set_option maxRecDepth 20000 in
theorem co_X6_in : Cond.code yX6_in cX6_in 3 (some .boolean) ∈ lw_all := lw_t3 (i := 108) rfl rfl
set_option maxRecDepth 20000 in
theorem ml_X6_87 : Cond.methodLink RX6 87 yX6_rise ∈ lw_all := lw_t3 (i := 109) rfl rfl
set_option maxRecDepth 20000 in
theorem im_X6_rise : Cond.instanceMethod yX6_rise ∈ lw_all := lw_t3 (i := 111) rfl rfl
set_option maxRecDepth 20000 in
theorem co_X6_rise : Cond.code yX6_rise cX6_rise 3 none ∈ lw_all := lw_t3 (i := 112) rfl rfl
set_option maxRecDepth 20000 in
theorem ml_X6_76 : Cond.methodLink RX6 76 yX6_lift ∈ lw_all := lw_t3 (i := 113) rfl rfl
set_option maxRecDepth 20000 in
theorem im_X6_lift : Cond.instanceMethod yX6_lift ∈ lw_all := lw_t3 (i := 115) rfl rfl
set_option maxRecDepth 20000 in
theorem co_X6_lift : Cond.code yX6_lift cX6_lift 4 none ∈ lw_all := lw_t3 (i := 116) rfl rfl
set_option maxRecDepth 20000 in
theorem ml_X6_80 : Cond.methodLink RX6 80 yX6_work ∈ lw_all := lw_t3 (i := 117) rfl rfl
set_option maxRecDepth 20000 in
theorem im_X6_work : Cond.instanceMethod yX6_work ∈ lw_all := lw_t3 (i := 119) rfl rfl
set_option maxRecDepth 20000 in
theorem co_X6_work : Cond.code yX6_work cX6_work 5 none ∈ lw_all := lw_t3 (i := 120) rfl rfl
set_option maxRecDepth 20000 in
theorem ml_X6_90 : Cond.methodLink RX6 90 yX6_isBelow ∈ lw_all := lw_t3 (i := 121) rfl rfl
set_option maxRecDepth 20000 in
theorem im_X6_isBelow : Cond.instanceMethod yX6_isBelow ∈ lw_all := lw_t3 (i := 123) rfl rfl
set_option maxRecDepth 20000 in
theorem co_X6_isBelow : Cond.code yX6_isBelow cX6_isBelow 3 (some .boolean) ∈ lw_all := lw_t3 (i := 124) rfl rfl
set_option maxRecDepth 20000 in
theorem ml_X6_117 : Cond.methodLink RX6 117 yX6_isStatic ∈ lw_all := lw_t3 (i := 125) rfl rfl
set_option maxRecDepth 20000 in
theorem im_X6_isStatic : Cond.instanceMethod yX6_isStatic ∈ lw_all := lw_t3 (i := 127) rfl rfl
set_option maxRecDepth 20000 in
theorem co_X6_isStatic : Cond.code yX6_isStatic cX6_isStatic 2 (some .boolean) ∈ lw_all := lw_t3 (i := 128) rfl rfl
set_option maxRecDepth 20000 in
theorem ml_X6_100 : Cond.methodLink RX6 100 yX6_has ∈ lw_all := lw_t3 (i := 129) rfl rfl
set_option maxRecDepth 20000 in
theorem im_X6_has : Cond.instanceMethod yX6_has ∈ lw_all := lw_t3 (i := 131) rfl rfl
set_option maxRecDepth 20000 in
theorem co_X6_has : Cond.code yX6_has cX6_has 3 (some .boolean) ∈ lw_all := lw_t3 (i := 132) rfl rfl
set_option maxRecDepth 20000 in
theorem ml_X6_120 : Cond.methodLink RX6 120 yX6_isPrivate ∈ lw_all := lw_t3 (i := 133) rfl rfl
set_option maxRecDepth 20000 in
theorem im_X6_isPrivate : Cond.instanceMethod yX6_isPrivate ∈ lw_all := lw_t3 (i := 135) rfl rfl
set_option maxRecDepth 20000 in
theorem co_X6_isPrivate : Cond.code yX6_isPrivate cX6_isPrivate 2 (some .boolean) ∈ lw_all := lw_t3 (i := 136) rfl rfl
set_option maxRecDepth 20000 in
theorem ml_X6_123 : Cond.methodLink RX6 123 yX6_goesOver ∈ lw_all := lw_t3 (i := 137) rfl rfl
set_option maxRecDepth 20000 in
theorem im_X6_goesOver : Cond.instanceMethod yX6_goesOver ∈ lw_all := lw_t3 (i := 139) rfl rfl
set_option maxRecDepth 20000 in
theorem co_X6_goesOver : Cond.code yX6_goesOver cX6_goesOver 4 (some .boolean) ∈ lw_all := lw_t3 (i := 140) rfl rfl
set_option maxRecDepth 20000 in
theorem ml_X6_110 : Cond.methodLink RX6 110 yX6_isInterface ∈ lw_all := lw_t3 (i := 141) rfl rfl
set_option maxRecDepth 20000 in
theorem im_X6_isInterface : Cond.instanceMethod yX6_isInterface ∈ lw_all := lw_t3 (i := 143) rfl rfl
set_option maxRecDepth 20000 in
theorem co_X6_isInterface : Cond.code yX6_isInterface cX6_isInterface 2 (some .boolean) ∈ lw_all := lw_t3 (i := 144) rfl rfl
set_option maxRecDepth 20000 in
theorem ml_X6_126 : Cond.methodLink RX6 126 yX6_isSeen ∈ lw_all := lw_t3 (i := 145) rfl rfl
set_option maxRecDepth 20000 in
theorem im_X6_isSeen : Cond.instanceMethod yX6_isSeen ∈ lw_all := lw_t3 (i := 147) rfl rfl
set_option maxRecDepth 20000 in
theorem co_X6_isSeen : Cond.code yX6_isSeen cX6_isSeen 3 (some .boolean) ∈ lw_all := lw_t3 (i := 148) rfl rfl
set_option maxRecDepth 20000 in
theorem ml_X6_113 : Cond.methodLink RX6 113 yX6_access ∈ lw_all := lw_t3 (i := 149) rfl rfl
set_option maxRecDepth 20000 in
theorem im_X6_access : Cond.instanceMethod yX6_access ∈ lw_all := lw_t3 (i := 151) rfl rfl
set_option maxRecDepth 20000 in
theorem co_X6_access : Cond.code yX6_access cX6_access 2 (some .int) ∈ lw_all := lw_t3 (i := 152) rfl rfl
set_option maxRecDepth 20000 in
theorem ml_L_27 : Cond.methodLink RL 27 yX6_face ∈ lw_all := lw_t3 (i := 153) rfl rfl
set_option maxRecDepth 20000 in
theorem im_X6_face : Cond.instanceMethod yX6_face ∈ lw_all := lw_t3 (i := 154) rfl rfl
set_option maxRecDepth 20000 in
theorem se_X6_face : Cond.selects RX6 yX6_face yX6_face ∈ lw_all := lw_t3 (i := 155) rfl rfl
set_option maxRecDepth 20000 in
theorem co_X6_face : Cond.code yX6_face cX6_face 5 (some .int) ∈ lw_all := lw_t3 (i := 156) rfl rfl
set_option maxRecDepth 20000 in
theorem ml_L_57 : Cond.methodLink RL 57 yX6_sub ∈ lw_all := lw_t3 (i := 157) rfl rfl
set_option maxRecDepth 20000 in
theorem im_X6_sub : Cond.instanceMethod yX6_sub ∈ lw_all := lw_t3 (i := 158) rfl rfl
set_option maxRecDepth 20000 in
theorem se_X6_sub : Cond.selects RX6 yX6_sub yX6_sub ∈ lw_all := lw_t3 (i := 159) rfl rfl
set_option maxRecDepth 20000 in
theorem co_X6_sub : Cond.code yX6_sub cX6_sub 3 (some .int) ∈ lw_all := lw_t3 (i := 160) rfl rfl
set_option maxRecDepth 20000 in
theorem ml_X6_94 : Cond.methodLink RX6 94 yX6_isSub ∈ lw_all := lw_t3 (i := 161) rfl rfl
set_option maxRecDepth 20000 in
theorem im_X6_isSub : Cond.instanceMethod yX6_isSub ∈ lw_all := lw_t3 (i := 163) rfl rfl
set_option maxRecDepth 20000 in
theorem co_X6_isSub : Cond.code yX6_isSub cX6_isSub 3 (some .boolean) ∈ lw_all := lw_t3 (i := 164) rfl rfl
set_option maxRecDepth 20000 in
theorem ml_L_32 : Cond.methodLink RL 32 yX6_thrown0 ∈ lw_all := lw_t3 (i := 165) rfl rfl
set_option maxRecDepth 20000 in
theorem im_X6_thrown0 : Cond.instanceMethod yX6_thrown0 ∈ lw_all := lw_t3 (i := 166) rfl rfl
set_option maxRecDepth 20000 in
theorem se_X6_thrown0 : Cond.selects RX6 yX6_thrown0 yX6_thrown0 ∈ lw_all := lw_t3 (i := 167) rfl rfl
set_option maxRecDepth 20000 in
theorem co_X6_thrown0 : Cond.code yX6_thrown0 cX6_thrown0 3 (some .int) ∈ lw_all := lw_t3 (i := 168) rfl rfl
set_option maxRecDepth 20000 in
theorem ml_L_41 : Cond.methodLink RL 41 yX6_throws0 ∈ lw_all := lw_t3 (i := 169) rfl rfl
set_option maxRecDepth 20000 in
theorem im_X6_throws0 : Cond.instanceMethod yX6_throws0 ∈ lw_all := lw_t3 (i := 170) rfl rfl
set_option maxRecDepth 20000 in
theorem se_X6_throws0 : Cond.selects RX6 yX6_throws0 yX6_throws0 ∈ lw_all := lw_t3 (i := 171) rfl rfl
set_option maxRecDepth 20000 in
theorem co_X6_throws0 : Cond.code yX6_throws0 cX6_throws0 5 (some .int) ∈ lw_all := lw_t3 (i := 172) rfl rfl
set_option maxRecDepth 20000 in
theorem ml_X6_97 : Cond.methodLink RX6 97 yX6_isMember ∈ lw_all := lw_t3 (i := 173) rfl rfl
set_option maxRecDepth 20000 in
theorem im_X6_isMember : Cond.instanceMethod yX6_isMember ∈ lw_all := lw_t3 (i := 175) rfl rfl
set_option maxRecDepth 20000 in
theorem co_X6_isMember : Cond.code yX6_isMember cX6_isMember 2 (some .boolean) ∈ lw_all := lw_t3 (i := 176) rfl rfl
set_option maxRecDepth 20000 in
theorem ml_L_37 : Cond.methodLink RL 37 yX6_member ∈ lw_all := lw_t3 (i := 177) rfl rfl
set_option maxRecDepth 20000 in
theorem im_X6_member : Cond.instanceMethod yX6_member ∈ lw_all := lw_t3 (i := 178) rfl rfl
set_option maxRecDepth 20000 in
theorem se_X6_member : Cond.selects RX6 yX6_member yX6_member ∈ lw_all := lw_t3 (i := 179) rfl rfl
set_option maxRecDepth 20000 in
theorem co_X6_member : Cond.code yX6_member cX6_member 7 (some .int) ∈ lw_all := lw_t3 (i := 180) rfl rfl
set_option maxRecDepth 20000 in
theorem ml_X6_107 : Cond.methodLink RX6 107 yX6_mayBe ∈ lw_all := lw_t3 (i := 181) rfl rfl
set_option maxRecDepth 20000 in
theorem sm_X6_mayBe : Cond.static yX6_mayBe ∈ lw_all := lw_t3 (i := 182) rfl rfl
set_option maxRecDepth 20000 in
theorem co_X6_mayBe : Cond.code yX6_mayBe cX6_mayBe 3 (some .boolean) ∈ lw_all := lw_t3 (i := 183) rfl rfl
set_option maxRecDepth 20000 in
theorem ml_X6_103 : Cond.methodLink RX6 103 yX6_one ∈ lw_all := lw_t3 (i := 184) rfl rfl
set_option maxRecDepth 20000 in
theorem sm_X6_one : Cond.static yX6_one ∈ lw_all := lw_t3 (i := 185) rfl rfl
set_option maxRecDepth 20000 in
theorem co_X6_one : Cond.code yX6_one cX6_one 2 (some .int) ∈ lw_all := lw_t3 (i := 186) rfl rfl
set_option maxRecDepth 20000 in
theorem ml_L_45 : Cond.methodLink RL 45 yX6_overrides ∈ lw_all := lw_t3 (i := 187) rfl rfl
set_option maxRecDepth 20000 in
theorem im_X6_overrides : Cond.instanceMethod yX6_overrides ∈ lw_all := lw_t3 (i := 188) rfl rfl
set_option maxRecDepth 20000 in
theorem se_X6_overrides : Cond.selects RX6 yX6_overrides yX6_overrides ∈ lw_all := lw_t3 (i := 189) rfl rfl
set_option maxRecDepth 20000 in
theorem co_X6_overrides : Cond.code yX6_overrides cX6_overrides 3 (some .int) ∈ lw_all := lw_t3 (i := 190) rfl rfl
set_option maxRecDepth 20000 in
theorem ml_X6_129 : Cond.methodLink RX6 129 yX6_isOver ∈ lw_all := lw_t3 (i := 191) rfl rfl
set_option maxRecDepth 20000 in
theorem im_X6_isOver : Cond.instanceMethod yX6_isOver ∈ lw_all := lw_t3 (i := 193) rfl rfl
set_option maxRecDepth 20000 in
theorem co_X6_isOver : Cond.code yX6_isOver cX6_isOver 3 (some .boolean) ∈ lw_all := lw_t3 (i := 194) rfl rfl
set_option maxRecDepth 20000 in
theorem ml_L_49 : Cond.methodLink RL 49 yX6_hides ∈ lw_all := lw_t3 (i := 195) rfl rfl
set_option maxRecDepth 20000 in
theorem im_X6_hides : Cond.instanceMethod yX6_hides ∈ lw_all := lw_t3 (i := 196) rfl rfl
set_option maxRecDepth 20000 in
theorem se_X6_hides : Cond.selects RX6 yX6_hides yX6_hides ∈ lw_all := lw_t3 (i := 197) rfl rfl
set_option maxRecDepth 20000 in
theorem co_X6_hides : Cond.code yX6_hides cX6_hides 3 (some .int) ∈ lw_all := lw_t3 (i := 198) rfl rfl
set_option maxRecDepth 20000 in
theorem ml_X6_132 : Cond.methodLink RX6 132 yX6_hidesIt ∈ lw_all := lw_t3 (i := 199) rfl rfl
set_option maxRecDepth 20000 in
theorem im_X6_hidesIt : Cond.instanceMethod yX6_hidesIt ∈ lw_all := lw_t3 (i := 201) rfl rfl
set_option maxRecDepth 20000 in
theorem co_X6_hidesIt : Cond.code yX6_hidesIt cX6_hidesIt 3 (some .boolean) ∈ lw_all := lw_t3 (i := 202) rfl rfl
set_option maxRecDepth 20000 in
theorem ml_L_53 : Cond.methodLink RL 53 yX6_chosen ∈ lw_all := lw_t3 (i := 203) rfl rfl
set_option maxRecDepth 20000 in
theorem im_X6_chosen : Cond.instanceMethod yX6_chosen ∈ lw_all := lw_t3 (i := 204) rfl rfl
set_option maxRecDepth 20000 in
theorem se_X6_chosen : Cond.selects RX6 yX6_chosen yX6_chosen ∈ lw_all := lw_t3 (i := 205) rfl rfl
set_option maxRecDepth 20000 in
theorem co_X6_chosen : Cond.code yX6_chosen cX6_chosen 3 (some .int) ∈ lw_all := lw_t3 (i := 206) rfl rfl
set_option maxRecDepth 20000 in
theorem ml_X6_135 : Cond.methodLink RX6 135 yX6_isPlain ∈ lw_all := lw_t3 (i := 207) rfl rfl
set_option maxRecDepth 20000 in
theorem im_X6_isPlain : Cond.instanceMethod yX6_isPlain ∈ lw_all := lw_t3 (i := 209) rfl rfl
set_option maxRecDepth 20000 in
theorem co_X6_isPlain : Cond.code yX6_isPlain cX6_isPlain 2 (some .boolean) ∈ lw_all := lw_t3 (i := 210) rfl rfl
set_option maxRecDepth 20000 in
theorem ml_X6_141 : Cond.methodLink RX6 141 yX6_choose ∈ lw_all := lw_t3 (i := 211) rfl rfl
set_option maxRecDepth 20000 in
theorem im_X6_choose : Cond.instanceMethod yX6_choose ∈ lw_all := lw_t3 (i := 213) rfl rfl
set_option maxRecDepth 20000 in
theorem co_X6_choose : Cond.code yX6_choose cX6_choose 7 (some .int) ∈ lw_all := lw_t3 (i := 214) rfl rfl
set_option maxRecDepth 20000 in
theorem ml_X6_138 : Cond.methodLink RX6 138 yX6_isLast ∈ lw_all := lw_t3 (i := 215) rfl rfl
set_option maxRecDepth 20000 in
theorem im_X6_isLast : Cond.instanceMethod yX6_isLast ∈ lw_all := lw_t3 (i := 217) rfl rfl
set_option maxRecDepth 20000 in
theorem co_X6_isLast : Cond.code yX6_isLast cX6_isLast 4 (some .boolean) ∈ lw_all := lw_t3 (i := 218) rfl rfl
set_option maxRecDepth 20000 in
theorem ml_L_62 : Cond.methodLink RL 62 yX6_check ∈ lw_all := lw_t3 (i := 219) rfl rfl
set_option maxRecDepth 20000 in
theorem im_X6_check : Cond.instanceMethod yX6_check ∈ lw_all := lw_t3 (i := 220) rfl rfl
set_option maxRecDepth 20000 in
theorem se_X6_check : Cond.selects RX6 yX6_check yX6_check ∈ lw_all := lw_t3 (i := 221) rfl rfl
set_option maxRecDepth 20000 in
theorem co_X6_check : Cond.code yX6_check cX6_check 2 (some .int) ∈ lw_all := lw_t3 (i := 222) rfl rfl
set_option maxRecDepth 20000 in
theorem ml_X6_166 : Cond.methodLink RX6 166 yX6_judge ∈ lw_all := lw_t3 (i := 223) rfl rfl
set_option maxRecDepth 20000 in
theorem im_X6_judge : Cond.instanceMethod yX6_judge ∈ lw_all := lw_t3 (i := 225) rfl rfl
set_option maxRecDepth 20000 in
theorem co_X6_judge : Cond.code yX6_judge cX6_judge 5 none ∈ lw_all := lw_t3 (i := 226) rfl rfl
set_option maxRecDepth 20000 in
theorem ml_X6_157 : Cond.methodLink RX6 157 yX6_isMixed ∈ lw_all := lw_t3 (i := 227) rfl rfl
set_option maxRecDepth 20000 in
theorem im_X6_isMixed : Cond.instanceMethod yX6_isMixed ∈ lw_all := lw_t3 (i := 229) rfl rfl
set_option maxRecDepth 20000 in
theorem co_X6_isMixed : Cond.code yX6_isMixed cX6_isMixed 4 (some .boolean) ∈ lw_all := lw_t3 (i := 230) rfl rfl
set_option maxRecDepth 20000 in
theorem ml_X6_147 : Cond.methodLink RX6 147 yX6_note ∈ lw_all := lw_t3 (i := 231) rfl rfl
set_option maxRecDepth 20000 in
theorem im_X6_note : Cond.instanceMethod yX6_note ∈ lw_all := lw_t3 (i := 233) rfl rfl
set_option maxRecDepth 20000 in
theorem co_X6_note : Cond.code yX6_note cX6_note 4 none ∈ lw_all := lw_t3 (i := 234) rfl rfl
set_option maxRecDepth 20000 in
theorem ml_X6_160 : Cond.methodLink RX6 160 yX6_three ∈ lw_all := lw_t3 (i := 235) rfl rfl
set_option maxRecDepth 20000 in
theorem im_X6_three : Cond.instanceMethod yX6_three ∈ lw_all := lw_t3 (i := 237) rfl rfl
set_option maxRecDepth 20000 in
theorem co_X6_three : Cond.code yX6_three cX6_three 3 none ∈ lw_all := lw_t3 (i := 238) rfl rfl
set_option maxRecDepth 20000 in
theorem ml_X6_151 : Cond.methodLink RX6 151 yX6_suits ∈ lw_all := lw_t3 (i := 239) rfl rfl
set_option maxRecDepth 20000 in
theorem im_X6_suits : Cond.instanceMethod yX6_suits ∈ lw_all := lw_t4 (i := 1) rfl rfl
set_option maxRecDepth 20000 in
theorem co_X6_suits : Cond.code yX6_suits cX6_suits 3 (some .boolean) ∈ lw_all := lw_t4 (i := 2) rfl rfl
set_option maxRecDepth 20000 in
theorem ml_X6_154 : Cond.methodLink RX6 154 yX6_throwsMore ∈ lw_all := lw_t4 (i := 3) rfl rfl
set_option maxRecDepth 20000 in
theorem im_X6_throwsMore : Cond.instanceMethod yX6_throwsMore ∈ lw_all := lw_t4 (i := 5) rfl rfl
set_option maxRecDepth 20000 in
theorem co_X6_throwsMore : Cond.code yX6_throwsMore cX6_throwsMore 6 (some .boolean) ∈ lw_all := lw_t4 (i := 6) rfl rfl
set_option maxRecDepth 20000 in
theorem ml_X6_163 : Cond.methodLink RX6 163 yX6_inherited ∈ lw_all := lw_t4 (i := 7) rfl rfl
set_option maxRecDepth 20000 in
theorem im_X6_inherited : Cond.instanceMethod yX6_inherited ∈ lw_all := lw_t4 (i := 9) rfl rfl
set_option maxRecDepth 20000 in
theorem co_X6_inherited : Cond.code yX6_inherited cX6_inherited 4 none ∈ lw_all := lw_t4 (i := 10) rfl rfl
set_option maxRecDepth 20000 in
theorem ml_L_66 : Cond.methodLink RL 66 yX6_fault ∈ lw_all := lw_t4 (i := 11) rfl rfl
set_option maxRecDepth 20000 in
theorem im_X6_fault : Cond.instanceMethod yX6_fault ∈ lw_all := lw_t4 (i := 12) rfl rfl
set_option maxRecDepth 20000 in
theorem se_X6_fault : Cond.selects RX6 yX6_fault yX6_fault ∈ lw_all := lw_t4 (i := 13) rfl rfl
set_option maxRecDepth 20000 in
theorem co_X6_fault : Cond.code yX6_fault cX6_fault 4 (some .int) ∈ lw_all := lw_t4 (i := 14) rfl rfl
set_option maxRecDepth 20000 in
theorem ml_L_70 : Cond.methodLink RL 70 yX6_bridges ∈ lw_all := lw_t4 (i := 15) rfl rfl
set_option maxRecDepth 20000 in
theorem im_X6_bridges : Cond.instanceMethod yX6_bridges ∈ lw_all := lw_t4 (i := 16) rfl rfl
set_option maxRecDepth 20000 in
theorem se_X6_bridges : Cond.selects RX6 yX6_bridges yX6_bridges ∈ lw_all := lw_t4 (i := 17) rfl rfl
set_option maxRecDepth 20000 in
theorem co_X6_bridges : Cond.code yX6_bridges cX6_bridges 7 (some .int) ∈ lw_all := lw_t4 (i := 18) rfl rfl
set_option maxRecDepth 20000 in
theorem ml_L_74 : Cond.methodLink RL 74 yX6_first ∈ lw_all := lw_t4 (i := 19) rfl rfl
set_option maxRecDepth 20000 in
theorem im_X6_first : Cond.instanceMethod yX6_first ∈ lw_all := lw_t4 (i := 20) rfl rfl
set_option maxRecDepth 20000 in
theorem se_X6_first : Cond.selects RX6 yX6_first yX6_first ∈ lw_all := lw_t4 (i := 21) rfl rfl
set_option maxRecDepth 20000 in
theorem co_X6_first : Cond.code yX6_first cX6_first 7 (some .int) ∈ lw_all := lw_t4 (i := 22) rfl rfl
set_option maxRecDepth 20000 in
theorem ml_L_78 : Cond.methodLink RL 78 yX6_told ∈ lw_all := lw_t4 (i := 23) rfl rfl
set_option maxRecDepth 20000 in
theorem im_X6_told : Cond.instanceMethod yX6_told ∈ lw_all := lw_t4 (i := 24) rfl rfl
set_option maxRecDepth 20000 in
theorem se_X6_told : Cond.selects RX6 yX6_told yX6_told ∈ lw_all := lw_t4 (i := 25) rfl rfl
set_option maxRecDepth 20000 in
theorem co_X6_told : Cond.code yX6_told cX6_told 4 (some .int) ∈ lw_all := lw_t4 (i := 26) rfl rfl
set_option maxRecDepth 20000 in
theorem se_X4_findAbove : Cond.selects RX4 yX4_findAbove yX4_findAbove ∈ lw_all := List.mem_filter.mpr ⟨List.mem_append_left _ (List.mem_map.mpr ⟨(yX4_findAbove, 6), List.mem_of_getElem? (i := 0) rfl, rfl⟩), rfl⟩
set_option maxRecDepth 20000 in
theorem se_X5_isMissingType : Cond.selects RX5 yX5_isMissingType yX5_isMissingType ∈ lw_all := List.mem_filter.mpr ⟨List.mem_append_left _ (List.mem_map.mpr ⟨(yX5_isMissingType, 5), List.mem_of_getElem? (i := 1) rfl, rfl⟩), rfl⟩
set_option maxRecDepth 20000 in
theorem se_X2_isOfNameBelow : Cond.selects RX2 yX2_isOfNameBelow yX2_isOfNameBelow ∈ lw_all := List.mem_filter.mpr ⟨List.mem_append_left _ (List.mem_map.mpr ⟨(yX2_isOfNameBelow, 8), List.mem_of_getElem? (i := 2) rfl, rfl⟩), rfl⟩
set_option maxRecDepth 20000 in
theorem se_X2_isReached : Cond.selects RX2 yX2_isReached yX2_isReached ∈ lw_all := List.mem_filter.mpr ⟨List.mem_append_left _ (List.mem_map.mpr ⟨(yX2_isReached, 8), List.mem_of_getElem? (i := 3) rfl, rfl⟩), rfl⟩
set_option maxRecDepth 20000 in
theorem se_X2_isSeen : Cond.selects RX2 yX2_isSeen yX2_isSeen ∈ lw_all := List.mem_filter.mpr ⟨List.mem_append_left _ (List.mem_map.mpr ⟨(yX2_isSeen, 8), List.mem_of_getElem? (i := 4) rfl, rfl⟩), rfl⟩
set_option maxRecDepth 20000 in
theorem se_X0_chooseOfInterfaces : Cond.selects RX0 yX0_chooseOfInterfaces yX0_chooseOfInterfaces ∈ lw_all := List.mem_filter.mpr ⟨List.mem_append_left _ (List.mem_map.mpr ⟨(yX0_chooseOfInterfaces, 2), List.mem_of_getElem? (i := 5) rfl, rfl⟩), rfl⟩
set_option maxRecDepth 20000 in
theorem se_X0_leastOrFight : Cond.selects RX0 yX0_leastOrFight yX0_leastOrFight ∈ lw_all := List.mem_filter.mpr ⟨List.mem_append_left _ (List.mem_map.mpr ⟨(yX0_leastOrFight, 2), List.mem_of_getElem? (i := 6) rfl, rfl⟩), rfl⟩
set_option maxRecDepth 20000 in
theorem se_X1_walkOwn : Cond.selects RX1 yX1_walkOwn yX1_walkOwn ∈ lw_all := List.mem_filter.mpr ⟨List.mem_append_left _ (List.mem_map.mpr ⟨(yX1_walkOwn, 9), List.mem_of_getElem? (i := 7) rfl, rfl⟩), rfl⟩
set_option maxRecDepth 20000 in
theorem se_X1_noteIf : Cond.selects RX1 yX1_noteIf yX1_noteIf ∈ lw_all := List.mem_filter.mpr ⟨List.mem_append_left _ (List.mem_map.mpr ⟨(yX1_noteIf, 9), List.mem_of_getElem? (i := 8) rfl, rfl⟩), rfl⟩
set_option maxRecDepth 20000 in
theorem se_X1_note : Cond.selects RX1 yX1_note yX1_note ∈ lw_all := List.mem_filter.mpr ⟨List.mem_append_left _ (List.mem_map.mpr ⟨(yX1_note, 9), List.mem_of_getElem? (i := 9) rfl, rfl⟩), rfl⟩
set_option maxRecDepth 20000 in
theorem se_X1_compare : Cond.selects RX1 yX1_compare yX1_compare ∈ lw_all := List.mem_filter.mpr ⟨List.mem_append_left _ (List.mem_map.mpr ⟨(yX1_compare, 9), List.mem_of_getElem? (i := 10) rfl, rfl⟩), rfl⟩
set_option maxRecDepth 20000 in
theorem se_X1_suits : Cond.selects RX1 yX1_suits yX1_suits ∈ lw_all := List.mem_filter.mpr ⟨List.mem_append_left _ (List.mem_map.mpr ⟨(yX1_suits, 9), List.mem_of_getElem? (i := 11) rfl, rfl⟩), rfl⟩
set_option maxRecDepth 20000 in
theorem se_X1_walkInherited : Cond.selects RX1 yX1_walkInherited yX1_walkInherited ∈ lw_all := List.mem_filter.mpr ⟨List.mem_append_left _ (List.mem_map.mpr ⟨(yX1_walkInherited, 9), List.mem_of_getElem? (i := 12) rfl, rfl⟩), rfl⟩
set_option maxRecDepth 20000 in
theorem se_X1_noteChosen : Cond.selects RX1 yX1_noteChosen yX1_noteChosen ∈ lw_all := List.mem_filter.mpr ⟨List.mem_append_left _ (List.mem_map.mpr ⟨(yX1_noteChosen, 9), List.mem_of_getElem? (i := 13) rfl, rfl⟩), rfl⟩
set_option maxRecDepth 20000 in
theorem se_X1_isMetByChance : Cond.selects RX1 yX1_isMetByChance yX1_isMetByChance ∈ lw_all := List.mem_filter.mpr ⟨List.mem_append_left _ (List.mem_map.mpr ⟨(yX1_isMetByChance, 9), List.mem_of_getElem? (i := 14) rfl, rfl⟩), rfl⟩
set_option maxRecDepth 20000 in
theorem se_X6_isType : Cond.selects RX6 yX6_isType yX6_isType ∈ lw_all := List.mem_filter.mpr ⟨List.mem_append_left _ (List.mem_map.mpr ⟨(yX6_isType, 21), List.mem_of_getElem? (i := 15) rfl, rfl⟩), rfl⟩
set_option maxRecDepth 20000 in
theorem se_X6_rise : Cond.selects RX6 yX6_rise yX6_rise ∈ lw_all := List.mem_filter.mpr ⟨List.mem_append_left _ (List.mem_map.mpr ⟨(yX6_rise, 21), List.mem_of_getElem? (i := 16) rfl, rfl⟩), rfl⟩
set_option maxRecDepth 20000 in
theorem se_X6_lift : Cond.selects RX6 yX6_lift yX6_lift ∈ lw_all := List.mem_filter.mpr ⟨List.mem_append_left _ (List.mem_map.mpr ⟨(yX6_lift, 21), List.mem_of_getElem? (i := 17) rfl, rfl⟩), rfl⟩
set_option maxRecDepth 20000 in
theorem se_X6_work : Cond.selects RX6 yX6_work yX6_work ∈ lw_all := List.mem_filter.mpr ⟨List.mem_append_left _ (List.mem_map.mpr ⟨(yX6_work, 21), List.mem_of_getElem? (i := 18) rfl, rfl⟩), rfl⟩
set_option maxRecDepth 20000 in
theorem se_X6_isBelow : Cond.selects RX6 yX6_isBelow yX6_isBelow ∈ lw_all := List.mem_filter.mpr ⟨List.mem_append_left _ (List.mem_map.mpr ⟨(yX6_isBelow, 21), List.mem_of_getElem? (i := 19) rfl, rfl⟩), rfl⟩
set_option maxRecDepth 20000 in
theorem se_X6_isStatic : Cond.selects RX6 yX6_isStatic yX6_isStatic ∈ lw_all := List.mem_filter.mpr ⟨List.mem_append_left _ (List.mem_map.mpr ⟨(yX6_isStatic, 21), List.mem_of_getElem? (i := 20) rfl, rfl⟩), rfl⟩
set_option maxRecDepth 20000 in
theorem se_X6_has : Cond.selects RX6 yX6_has yX6_has ∈ lw_all := List.mem_filter.mpr ⟨List.mem_append_left _ (List.mem_map.mpr ⟨(yX6_has, 21), List.mem_of_getElem? (i := 21) rfl, rfl⟩), rfl⟩
set_option maxRecDepth 20000 in
theorem se_X6_isPrivate : Cond.selects RX6 yX6_isPrivate yX6_isPrivate ∈ lw_all := List.mem_filter.mpr ⟨List.mem_append_left _ (List.mem_map.mpr ⟨(yX6_isPrivate, 21), List.mem_of_getElem? (i := 22) rfl, rfl⟩), rfl⟩
set_option maxRecDepth 20000 in
theorem se_X6_goesOver : Cond.selects RX6 yX6_goesOver yX6_goesOver ∈ lw_all := List.mem_filter.mpr ⟨List.mem_append_left _ (List.mem_map.mpr ⟨(yX6_goesOver, 21), List.mem_of_getElem? (i := 23) rfl, rfl⟩), rfl⟩
set_option maxRecDepth 20000 in
theorem se_X6_isInterface : Cond.selects RX6 yX6_isInterface yX6_isInterface ∈ lw_all := List.mem_filter.mpr ⟨List.mem_append_left _ (List.mem_map.mpr ⟨(yX6_isInterface, 21), List.mem_of_getElem? (i := 24) rfl, rfl⟩), rfl⟩
set_option maxRecDepth 20000 in
theorem se_X6_isSeen : Cond.selects RX6 yX6_isSeen yX6_isSeen ∈ lw_all := List.mem_filter.mpr ⟨List.mem_append_left _ (List.mem_map.mpr ⟨(yX6_isSeen, 21), List.mem_of_getElem? (i := 25) rfl, rfl⟩), rfl⟩
set_option maxRecDepth 20000 in
theorem se_X6_access : Cond.selects RX6 yX6_access yX6_access ∈ lw_all := List.mem_filter.mpr ⟨List.mem_append_left _ (List.mem_map.mpr ⟨(yX6_access, 21), List.mem_of_getElem? (i := 26) rfl, rfl⟩), rfl⟩
set_option maxRecDepth 20000 in
theorem se_X6_isSub : Cond.selects RX6 yX6_isSub yX6_isSub ∈ lw_all := List.mem_filter.mpr ⟨List.mem_append_left _ (List.mem_map.mpr ⟨(yX6_isSub, 21), List.mem_of_getElem? (i := 27) rfl, rfl⟩), rfl⟩
set_option maxRecDepth 20000 in
theorem se_X6_isMember : Cond.selects RX6 yX6_isMember yX6_isMember ∈ lw_all := List.mem_filter.mpr ⟨List.mem_append_left _ (List.mem_map.mpr ⟨(yX6_isMember, 21), List.mem_of_getElem? (i := 28) rfl, rfl⟩), rfl⟩
set_option maxRecDepth 20000 in
theorem se_X6_isOver : Cond.selects RX6 yX6_isOver yX6_isOver ∈ lw_all := List.mem_filter.mpr ⟨List.mem_append_left _ (List.mem_map.mpr ⟨(yX6_isOver, 21), List.mem_of_getElem? (i := 29) rfl, rfl⟩), rfl⟩
set_option maxRecDepth 20000 in
theorem se_X6_hidesIt : Cond.selects RX6 yX6_hidesIt yX6_hidesIt ∈ lw_all := List.mem_filter.mpr ⟨List.mem_append_left _ (List.mem_map.mpr ⟨(yX6_hidesIt, 21), List.mem_of_getElem? (i := 30) rfl, rfl⟩), rfl⟩
set_option maxRecDepth 20000 in
theorem se_X6_isPlain : Cond.selects RX6 yX6_isPlain yX6_isPlain ∈ lw_all := List.mem_filter.mpr ⟨List.mem_append_left _ (List.mem_map.mpr ⟨(yX6_isPlain, 21), List.mem_of_getElem? (i := 31) rfl, rfl⟩), rfl⟩
set_option maxRecDepth 20000 in
theorem se_X6_choose : Cond.selects RX6 yX6_choose yX6_choose ∈ lw_all := List.mem_filter.mpr ⟨List.mem_append_left _ (List.mem_map.mpr ⟨(yX6_choose, 21), List.mem_of_getElem? (i := 32) rfl, rfl⟩), rfl⟩
set_option maxRecDepth 20000 in
theorem se_X6_isLast : Cond.selects RX6 yX6_isLast yX6_isLast ∈ lw_all := List.mem_filter.mpr ⟨List.mem_append_left _ (List.mem_map.mpr ⟨(yX6_isLast, 21), List.mem_of_getElem? (i := 33) rfl, rfl⟩), rfl⟩
set_option maxRecDepth 20000 in
theorem se_X6_judge : Cond.selects RX6 yX6_judge yX6_judge ∈ lw_all := List.mem_filter.mpr ⟨List.mem_append_left _ (List.mem_map.mpr ⟨(yX6_judge, 21), List.mem_of_getElem? (i := 34) rfl, rfl⟩), rfl⟩
set_option maxRecDepth 20000 in
theorem se_X6_isMixed : Cond.selects RX6 yX6_isMixed yX6_isMixed ∈ lw_all := List.mem_filter.mpr ⟨List.mem_append_left _ (List.mem_map.mpr ⟨(yX6_isMixed, 21), List.mem_of_getElem? (i := 35) rfl, rfl⟩), rfl⟩
set_option maxRecDepth 20000 in
theorem se_X6_note : Cond.selects RX6 yX6_note yX6_note ∈ lw_all := List.mem_filter.mpr ⟨List.mem_append_left _ (List.mem_map.mpr ⟨(yX6_note, 21), List.mem_of_getElem? (i := 36) rfl, rfl⟩), rfl⟩
set_option maxRecDepth 20000 in
theorem se_X6_three : Cond.selects RX6 yX6_three yX6_three ∈ lw_all := List.mem_filter.mpr ⟨List.mem_append_left _ (List.mem_map.mpr ⟨(yX6_three, 21), List.mem_of_getElem? (i := 37) rfl, rfl⟩), rfl⟩
set_option maxRecDepth 20000 in
theorem se_X6_suits : Cond.selects RX6 yX6_suits yX6_suits ∈ lw_all := List.mem_filter.mpr ⟨List.mem_append_left _ (List.mem_map.mpr ⟨(yX6_suits, 21), List.mem_of_getElem? (i := 38) rfl, rfl⟩), rfl⟩
set_option maxRecDepth 20000 in
theorem se_X6_throwsMore : Cond.selects RX6 yX6_throwsMore yX6_throwsMore ∈ lw_all := List.mem_filter.mpr ⟨List.mem_append_left _ (List.mem_map.mpr ⟨(yX6_throwsMore, 21), List.mem_of_getElem? (i := 39) rfl, rfl⟩), rfl⟩
set_option maxRecDepth 20000 in
theorem se_X6_inherited : Cond.selects RX6 yX6_inherited yX6_inherited ∈ lw_all := List.mem_filter.mpr ⟨List.mem_append_left _ (List.mem_map.mpr ⟨(yX6_inherited, 21), List.mem_of_getElem? (i := 40) rfl, rfl⟩), rfl⟩
set_option maxRecDepth 20000 in
theorem ly_X4_kinds : Cond.laysFinal RX4 "OverrideRules$Types" "kinds" "[I" ∈ lw_all := lw_t1 (i := 30) rfl rfl
set_option maxRecDepth 20000 in
theorem ly_X4_packets : Cond.laysFinal RX4 "OverrideRules$Types" "packets" "[I" ∈ lw_all := lw_t1 (i := 32) rfl rfl
set_option maxRecDepth 20000 in
theorem ly_X4_parents : Cond.laysFinal RX4 "OverrideRules$Types" "parents" "[I" ∈ lw_all := lw_t1 (i := 34) rfl rfl
set_option maxRecDepth 20000 in
theorem ly_X4_faces : Cond.laysFinal RX4 "OverrideRules$Types" "faces" "[I" ∈ lw_all := lw_t1 (i := 36) rfl rfl
set_option maxRecDepth 20000 in
theorem ly_X4_above : Cond.laysFinal RX4 "OverrideRules$Types" "above" "[I" ∈ lw_all := lw_t1 (i := 38) rfl rfl
set_option maxRecDepth 20000 in
theorem ly_X4_count : Cond.lays RX4 "OverrideRules$Types" "count" "I" ∈ lw_all := lw_t1 (i := 40) rfl rfl
set_option maxRecDepth 20000 in
theorem lays_X4 : ∀ w ∈ u_ws RX4 TX4 6, w ∈ lw_all := by
  show ∀ w ∈ [Cond.laysFinal RX4 "OverrideRules$Types" "kinds" "[I", Cond.laysFinal RX4 "OverrideRules$Types" "packets" "[I", Cond.laysFinal RX4 "OverrideRules$Types" "parents" "[I", Cond.laysFinal RX4 "OverrideRules$Types" "faces" "[I", Cond.laysFinal RX4 "OverrideRules$Types" "above" "[I", Cond.lays RX4 "OverrideRules$Types" "count" "I"], w ∈ lw_all
  exact List.forall_mem_cons.mpr ⟨ly_X4_kinds, List.forall_mem_cons.mpr ⟨ly_X4_packets, List.forall_mem_cons.mpr ⟨ly_X4_parents, List.forall_mem_cons.mpr ⟨ly_X4_faces, List.forall_mem_cons.mpr ⟨ly_X4_above, List.forall_mem_cons.mpr ⟨ly_X4_count, fun _ h => absurd h List.not_mem_nil⟩⟩⟩⟩⟩⟩
set_option maxRecDepth 20000 in
theorem ly_X3_subTo : Cond.laysFinal RX3 "OverrideRules$Throws" "subTo" "[I" ∈ lw_all := lw_t1 (i := 53) rfl rfl
set_option maxRecDepth 20000 in
theorem ly_X3_checkedOnes : Cond.lays RX3 "OverrideRules$Throws" "checkedOnes" "I" ∈ lw_all := lw_t1 (i := 55) rfl rfl
set_option maxRecDepth 20000 in
theorem ly_X3_count : Cond.lays RX3 "OverrideRules$Throws" "count" "I" ∈ lw_all := lw_t1 (i := 57) rfl rfl
set_option maxRecDepth 20000 in
theorem lays_X3 : ∀ w ∈ u_ws RX3 TX3 3, w ∈ lw_all := by
  show ∀ w ∈ [Cond.laysFinal RX3 "OverrideRules$Throws" "subTo" "[I", Cond.lays RX3 "OverrideRules$Throws" "checkedOnes" "I", Cond.lays RX3 "OverrideRules$Throws" "count" "I"], w ∈ lw_all
  exact List.forall_mem_cons.mpr ⟨ly_X3_subTo, List.forall_mem_cons.mpr ⟨ly_X3_checkedOnes, List.forall_mem_cons.mpr ⟨ly_X3_count, fun _ h => absurd h List.not_mem_nil⟩⟩⟩
set_option maxRecDepth 20000 in
theorem ly_X2_types : Cond.laysFinal RX2 "OverrideRules$Members" "types" "LOverrideRules$Types;" ∈ lw_all := lw_t1 (i := 74) rfl rfl
set_option maxRecDepth 20000 in
theorem ly_X2_owners : Cond.laysFinal RX2 "OverrideRules$Members" "owners" "[I" ∈ lw_all := lw_t1 (i := 76) rfl rfl
set_option maxRecDepth 20000 in
theorem ly_X2_names : Cond.laysFinal RX2 "OverrideRules$Members" "names" "[I" ∈ lw_all := lw_t1 (i := 78) rfl rfl
set_option maxRecDepth 20000 in
theorem ly_X2_results : Cond.laysFinal RX2 "OverrideRules$Members" "results" "[I" ∈ lw_all := lw_t1 (i := 80) rfl rfl
set_option maxRecDepth 20000 in
theorem ly_X2_marks : Cond.laysFinal RX2 "OverrideRules$Members" "marks" "[I" ∈ lw_all := lw_t1 (i := 82) rfl rfl
set_option maxRecDepth 20000 in
theorem ly_X2_throwSets : Cond.laysFinal RX2 "OverrideRules$Members" "throwSets" "[I" ∈ lw_all := lw_t1 (i := 84) rfl rfl
set_option maxRecDepth 20000 in
theorem ly_X2_slots : Cond.laysFinal RX2 "OverrideRules$Members" "slots" "[I" ∈ lw_all := lw_t1 (i := 86) rfl rfl
set_option maxRecDepth 20000 in
theorem ly_X2_count : Cond.lays RX2 "OverrideRules$Members" "count" "I" ∈ lw_all := lw_t1 (i := 88) rfl rfl
set_option maxRecDepth 20000 in
theorem lays_X2 : ∀ w ∈ u_ws RX2 TX2 8, w ∈ lw_all := by
  show ∀ w ∈ [Cond.laysFinal RX2 "OverrideRules$Members" "types" "LOverrideRules$Types;", Cond.laysFinal RX2 "OverrideRules$Members" "owners" "[I", Cond.laysFinal RX2 "OverrideRules$Members" "names" "[I", Cond.laysFinal RX2 "OverrideRules$Members" "results" "[I", Cond.laysFinal RX2 "OverrideRules$Members" "marks" "[I", Cond.laysFinal RX2 "OverrideRules$Members" "throwSets" "[I", Cond.laysFinal RX2 "OverrideRules$Members" "slots" "[I", Cond.lays RX2 "OverrideRules$Members" "count" "I"], w ∈ lw_all
  exact List.forall_mem_cons.mpr ⟨ly_X2_types, List.forall_mem_cons.mpr ⟨ly_X2_owners, List.forall_mem_cons.mpr ⟨ly_X2_names, List.forall_mem_cons.mpr ⟨ly_X2_results, List.forall_mem_cons.mpr ⟨ly_X2_marks, List.forall_mem_cons.mpr ⟨ly_X2_throwSets, List.forall_mem_cons.mpr ⟨ly_X2_slots, List.forall_mem_cons.mpr ⟨ly_X2_count, fun _ h => absurd h List.not_mem_nil⟩⟩⟩⟩⟩⟩⟩⟩
set_option maxRecDepth 20000 in
theorem ly_X0_types : Cond.laysFinal RX0 "OverrideRules$Choice" "types" "LOverrideRules$Types;" ∈ lw_all := lw_t1 (i := 99) rfl rfl
set_option maxRecDepth 20000 in
theorem ly_X0_members : Cond.laysFinal RX0 "OverrideRules$Choice" "members" "LOverrideRules$Members;" ∈ lw_all := lw_t1 (i := 101) rfl rfl
set_option maxRecDepth 20000 in
theorem lays_X0 : ∀ w ∈ u_ws RX0 TX0 2, w ∈ lw_all := by
  show ∀ w ∈ [Cond.laysFinal RX0 "OverrideRules$Choice" "types" "LOverrideRules$Types;", Cond.laysFinal RX0 "OverrideRules$Choice" "members" "LOverrideRules$Members;"], w ∈ lw_all
  exact List.forall_mem_cons.mpr ⟨ly_X0_types, List.forall_mem_cons.mpr ⟨ly_X0_members, fun _ h => absurd h List.not_mem_nil⟩⟩
set_option maxRecDepth 20000 in
theorem ly_X1_types : Cond.laysFinal RX1 "OverrideRules$Faults" "types" "LOverrideRules$Types;" ∈ lw_all := lw_t1 (i := 119) rfl rfl
set_option maxRecDepth 20000 in
theorem ly_X1_thrown : Cond.laysFinal RX1 "OverrideRules$Faults" "thrown" "LOverrideRules$Throws;" ∈ lw_all := lw_t1 (i := 121) rfl rfl
set_option maxRecDepth 20000 in
theorem ly_X1_members : Cond.laysFinal RX1 "OverrideRules$Faults" "members" "LOverrideRules$Members;" ∈ lw_all := lw_t1 (i := 123) rfl rfl
set_option maxRecDepth 20000 in
theorem ly_X1_choice : Cond.laysFinal RX1 "OverrideRules$Faults" "choice" "LOverrideRules$Choice;" ∈ lw_all := lw_t1 (i := 125) rfl rfl
set_option maxRecDepth 20000 in
theorem ly_X1_wanted : Cond.lays RX1 "OverrideRules$Faults" "wanted" "I" ∈ lw_all := lw_t1 (i := 127) rfl rfl
set_option maxRecDepth 20000 in
theorem ly_X1_count : Cond.lays RX1 "OverrideRules$Faults" "count" "I" ∈ lw_all := lw_t1 (i := 129) rfl rfl
set_option maxRecDepth 20000 in
theorem ly_X1_pickedCode : Cond.lays RX1 "OverrideRules$Faults" "pickedCode" "I" ∈ lw_all := lw_t1 (i := 131) rfl rfl
set_option maxRecDepth 20000 in
theorem ly_X1_pickedM : Cond.lays RX1 "OverrideRules$Faults" "pickedM" "I" ∈ lw_all := lw_t1 (i := 133) rfl rfl
set_option maxRecDepth 20000 in
theorem ly_X1_pickedO : Cond.lays RX1 "OverrideRules$Faults" "pickedO" "I" ∈ lw_all := lw_t1 (i := 135) rfl rfl
set_option maxRecDepth 20000 in
theorem lays_X1 : ∀ w ∈ u_ws RX1 TX1 9, w ∈ lw_all := by
  show ∀ w ∈ [Cond.laysFinal RX1 "OverrideRules$Faults" "types" "LOverrideRules$Types;", Cond.laysFinal RX1 "OverrideRules$Faults" "thrown" "LOverrideRules$Throws;", Cond.laysFinal RX1 "OverrideRules$Faults" "members" "LOverrideRules$Members;", Cond.laysFinal RX1 "OverrideRules$Faults" "choice" "LOverrideRules$Choice;", Cond.lays RX1 "OverrideRules$Faults" "wanted" "I", Cond.lays RX1 "OverrideRules$Faults" "count" "I", Cond.lays RX1 "OverrideRules$Faults" "pickedCode" "I", Cond.lays RX1 "OverrideRules$Faults" "pickedM" "I", Cond.lays RX1 "OverrideRules$Faults" "pickedO" "I"], w ∈ lw_all
  exact List.forall_mem_cons.mpr ⟨ly_X1_types, List.forall_mem_cons.mpr ⟨ly_X1_thrown, List.forall_mem_cons.mpr ⟨ly_X1_members, List.forall_mem_cons.mpr ⟨ly_X1_choice, List.forall_mem_cons.mpr ⟨ly_X1_wanted, List.forall_mem_cons.mpr ⟨ly_X1_count, List.forall_mem_cons.mpr ⟨ly_X1_pickedCode, List.forall_mem_cons.mpr ⟨ly_X1_pickedM, List.forall_mem_cons.mpr ⟨ly_X1_pickedO, fun _ h => absurd h List.not_mem_nil⟩⟩⟩⟩⟩⟩⟩⟩⟩
set_option maxRecDepth 20000 in
theorem ly_X5_types : Cond.laysFinal RX5 "OverrideRules" "types" "LOverrideRules$Types;" ∈ lw_all := lw_t1 (i := 143) rfl rfl
set_option maxRecDepth 20000 in
theorem ly_X5_thrown : Cond.laysFinal RX5 "OverrideRules" "thrown" "LOverrideRules$Throws;" ∈ lw_all := lw_t1 (i := 145) rfl rfl
set_option maxRecDepth 20000 in
theorem ly_X5_members : Cond.laysFinal RX5 "OverrideRules" "members" "LOverrideRules$Members;" ∈ lw_all := lw_t1 (i := 147) rfl rfl
set_option maxRecDepth 20000 in
theorem ly_X5_choice : Cond.laysFinal RX5 "OverrideRules" "choice" "LOverrideRules$Choice;" ∈ lw_all := lw_t1 (i := 149) rfl rfl
set_option maxRecDepth 20000 in
theorem ly_X5_faults : Cond.laysFinal RX5 "OverrideRules" "faults" "LOverrideRules$Faults;" ∈ lw_all := lw_t1 (i := 151) rfl rfl
set_option maxRecDepth 20000 in
theorem lays_X5 : ∀ w ∈ u_ws RX5 TX5 5, w ∈ lw_all := by
  show ∀ w ∈ [Cond.laysFinal RX5 "OverrideRules" "types" "LOverrideRules$Types;", Cond.laysFinal RX5 "OverrideRules" "thrown" "LOverrideRules$Throws;", Cond.laysFinal RX5 "OverrideRules" "members" "LOverrideRules$Members;", Cond.laysFinal RX5 "OverrideRules" "choice" "LOverrideRules$Choice;", Cond.laysFinal RX5 "OverrideRules" "faults" "LOverrideRules$Faults;"], w ∈ lw_all
  exact List.forall_mem_cons.mpr ⟨ly_X5_types, List.forall_mem_cons.mpr ⟨ly_X5_thrown, List.forall_mem_cons.mpr ⟨ly_X5_members, List.forall_mem_cons.mpr ⟨ly_X5_choice, List.forall_mem_cons.mpr ⟨ly_X5_faults, fun _ h => absurd h List.not_mem_nil⟩⟩⟩⟩⟩
set_option maxRecDepth 20000 in
theorem ly_X6_types : Cond.lays RX6 "OverrideRulesModel" "types" "I" ∈ lw_all := lw_t3 (i := 50) rfl rfl
set_option maxRecDepth 20000 in
theorem ly_X6_kind : Cond.laysFinal RX6 "OverrideRulesModel" "kind" "[I" ∈ lw_all := lw_t3 (i := 52) rfl rfl
set_option maxRecDepth 20000 in
theorem ly_X6_packet : Cond.laysFinal RX6 "OverrideRulesModel" "packet" "[I" ∈ lw_all := lw_t3 (i := 54) rfl rfl
set_option maxRecDepth 20000 in
theorem ly_X6_parent : Cond.laysFinal RX6 "OverrideRulesModel" "parent" "[I" ∈ lw_all := lw_t3 (i := 56) rfl rfl
set_option maxRecDepth 20000 in
theorem ly_X6_faces : Cond.laysFinal RX6 "OverrideRulesModel" "faces" "[I" ∈ lw_all := lw_t3 (i := 58) rfl rfl
set_option maxRecDepth 20000 in
theorem ly_X6_face : Cond.laysFinal RX6 "OverrideRulesModel" "face" "[I" ∈ lw_all := lw_t3 (i := 60) rfl rfl
set_option maxRecDepth 20000 in
theorem ly_X6_above : Cond.laysFinal RX6 "OverrideRulesModel" "above" "[Z" ∈ lw_all := lw_t3 (i := 62) rfl rfl
set_option maxRecDepth 20000 in
theorem ly_X6_throwsMany : Cond.lays RX6 "OverrideRulesModel" "throwsMany" "I" ∈ lw_all := lw_t3 (i := 64) rfl rfl
set_option maxRecDepth 20000 in
theorem ly_X6_throwParent : Cond.laysFinal RX6 "OverrideRulesModel" "throwParent" "[I" ∈ lw_all := lw_t3 (i := 66) rfl rfl
set_option maxRecDepth 20000 in
theorem ly_X6_checked : Cond.laysFinal RX6 "OverrideRulesModel" "checked" "[Z" ∈ lw_all := lw_t3 (i := 68) rfl rfl
set_option maxRecDepth 20000 in
theorem ly_X6_members : Cond.lays RX6 "OverrideRulesModel" "members" "I" ∈ lw_all := lw_t3 (i := 70) rfl rfl
set_option maxRecDepth 20000 in
theorem ly_X6_of : Cond.laysFinal RX6 "OverrideRulesModel" "of" "[I" ∈ lw_all := lw_t3 (i := 72) rfl rfl
set_option maxRecDepth 20000 in
theorem ly_X6_name : Cond.laysFinal RX6 "OverrideRulesModel" "name" "[I" ∈ lw_all := lw_t3 (i := 74) rfl rfl
set_option maxRecDepth 20000 in
theorem ly_X6_result : Cond.laysFinal RX6 "OverrideRulesModel" "result" "[I" ∈ lw_all := lw_t3 (i := 76) rfl rfl
set_option maxRecDepth 20000 in
theorem ly_X6_marks : Cond.laysFinal RX6 "OverrideRulesModel" "marks" "[I" ∈ lw_all := lw_t3 (i := 78) rfl rfl
set_option maxRecDepth 20000 in
theorem ly_X6_thrownBy : Cond.laysFinal RX6 "OverrideRulesModel" "thrownBy" "[I" ∈ lw_all := lw_t3 (i := 80) rfl rfl
set_option maxRecDepth 20000 in
theorem ly_X6_over : Cond.laysFinal RX6 "OverrideRulesModel" "over" "[Z" ∈ lw_all := lw_t3 (i := 82) rfl rfl
set_option maxRecDepth 20000 in
theorem ly_X6_faults : Cond.lays RX6 "OverrideRulesModel" "faults" "I" ∈ lw_all := lw_t3 (i := 84) rfl rfl
set_option maxRecDepth 20000 in
theorem ly_X6_faultCode : Cond.laysFinal RX6 "OverrideRulesModel" "faultCode" "[I" ∈ lw_all := lw_t3 (i := 86) rfl rfl
set_option maxRecDepth 20000 in
theorem ly_X6_faultOne : Cond.laysFinal RX6 "OverrideRulesModel" "faultOne" "[I" ∈ lw_all := lw_t3 (i := 88) rfl rfl
set_option maxRecDepth 20000 in
theorem ly_X6_faultOther : Cond.laysFinal RX6 "OverrideRulesModel" "faultOther" "[I" ∈ lw_all := lw_t3 (i := 90) rfl rfl
set_option maxRecDepth 20000 in
theorem lays_X6 : ∀ w ∈ u_ws RX6 TX6 21, w ∈ lw_all := by
  show ∀ w ∈ [Cond.lays RX6 "OverrideRulesModel" "types" "I", Cond.laysFinal RX6 "OverrideRulesModel" "kind" "[I", Cond.laysFinal RX6 "OverrideRulesModel" "packet" "[I", Cond.laysFinal RX6 "OverrideRulesModel" "parent" "[I", Cond.laysFinal RX6 "OverrideRulesModel" "faces" "[I", Cond.laysFinal RX6 "OverrideRulesModel" "face" "[I", Cond.laysFinal RX6 "OverrideRulesModel" "above" "[Z", Cond.lays RX6 "OverrideRulesModel" "throwsMany" "I", Cond.laysFinal RX6 "OverrideRulesModel" "throwParent" "[I", Cond.laysFinal RX6 "OverrideRulesModel" "checked" "[Z", Cond.lays RX6 "OverrideRulesModel" "members" "I", Cond.laysFinal RX6 "OverrideRulesModel" "of" "[I", Cond.laysFinal RX6 "OverrideRulesModel" "name" "[I", Cond.laysFinal RX6 "OverrideRulesModel" "result" "[I", Cond.laysFinal RX6 "OverrideRulesModel" "marks" "[I", Cond.laysFinal RX6 "OverrideRulesModel" "thrownBy" "[I", Cond.laysFinal RX6 "OverrideRulesModel" "over" "[Z", Cond.lays RX6 "OverrideRulesModel" "faults" "I", Cond.laysFinal RX6 "OverrideRulesModel" "faultCode" "[I", Cond.laysFinal RX6 "OverrideRulesModel" "faultOne" "[I", Cond.laysFinal RX6 "OverrideRulesModel" "faultOther" "[I"], w ∈ lw_all
  exact List.forall_mem_cons.mpr ⟨ly_X6_types, List.forall_mem_cons.mpr ⟨ly_X6_kind, List.forall_mem_cons.mpr ⟨ly_X6_packet, List.forall_mem_cons.mpr ⟨ly_X6_parent, List.forall_mem_cons.mpr ⟨ly_X6_faces, List.forall_mem_cons.mpr ⟨ly_X6_face, List.forall_mem_cons.mpr ⟨ly_X6_above, List.forall_mem_cons.mpr ⟨ly_X6_throwsMany, List.forall_mem_cons.mpr ⟨ly_X6_throwParent, List.forall_mem_cons.mpr ⟨ly_X6_checked, List.forall_mem_cons.mpr ⟨ly_X6_members, List.forall_mem_cons.mpr ⟨ly_X6_of, List.forall_mem_cons.mpr ⟨ly_X6_name, List.forall_mem_cons.mpr ⟨ly_X6_result, List.forall_mem_cons.mpr ⟨ly_X6_marks, List.forall_mem_cons.mpr ⟨ly_X6_thrownBy, List.forall_mem_cons.mpr ⟨ly_X6_over, List.forall_mem_cons.mpr ⟨ly_X6_faults, List.forall_mem_cons.mpr ⟨ly_X6_faultCode, List.forall_mem_cons.mpr ⟨ly_X6_faultOne, List.forall_mem_cons.mpr ⟨ly_X6_faultOther, fun _ h => absurd h List.not_mem_nil⟩⟩⟩⟩⟩⟩⟩⟩⟩⟩⟩⟩⟩⟩⟩⟩⟩⟩⟩⟩⟩
def lw_nest : List Cond := [Cond.methodLinkNest RX5 9 yX4_init RX5, Cond.methodLinkNest RX5 18 yX3_init RX5, Cond.methodLinkNest RX4 39 yX5_hasBit RX5, Cond.methodLinkNest RX2 44 yX5_hasBit RX5, Cond.methodLinkNest RX0 64 yX5_hasBit RX5, Cond.methodLinkNest RX3 22 yX5_hasBit RX5, Cond.methodLinkNest RX2 80 yX5_oneIf RX5]
theorem mn_X5_9 : Cond.methodLinkNest RX5 9 yX4_init RX5 ∈ lw_nest := List.mem_of_getElem? (i := 0) rfl
theorem mn_X5_18 : Cond.methodLinkNest RX5 18 yX3_init RX5 ∈ lw_nest := List.mem_of_getElem? (i := 1) rfl
theorem mn_X4_39 : Cond.methodLinkNest RX4 39 yX5_hasBit RX5 ∈ lw_nest := List.mem_of_getElem? (i := 2) rfl
theorem mn_X2_44 : Cond.methodLinkNest RX2 44 yX5_hasBit RX5 ∈ lw_nest := List.mem_of_getElem? (i := 3) rfl
theorem mn_X0_64 : Cond.methodLinkNest RX0 64 yX5_hasBit RX5 ∈ lw_nest := List.mem_of_getElem? (i := 4) rfl
theorem mn_X3_22 : Cond.methodLinkNest RX3 22 yX5_hasBit RX5 ∈ lw_nest := List.mem_of_getElem? (i := 5) rfl
theorem mn_X2_80 : Cond.methodLinkNest RX2 80 yX5_oneIf RX5 ∈ lw_nest := List.mem_of_getElem? (i := 6) rfl
set_option maxRecDepth 20000 in
theorem lw_nest_tbl : ∀ w ∈ lw_nest, w ∈ lw_tbl := List.forall_mem_cons.mpr ⟨List.mem_append_right _ (List.mem_append_left _ (List.mem_of_getElem? (i := 20) rfl)), List.forall_mem_cons.mpr ⟨List.mem_append_right _ (List.mem_append_left _ (List.mem_of_getElem? (i := 46) rfl)), List.forall_mem_cons.mpr ⟨List.mem_append_right _ (List.mem_append_left _ (List.mem_of_getElem? (i := 198) rfl)), List.forall_mem_cons.mpr ⟨List.mem_append_right _ (List.mem_append_right _ (List.mem_append_left _ (List.mem_of_getElem? (i := 43) rfl))), List.forall_mem_cons.mpr ⟨List.mem_append_right _ (List.mem_append_right _ (List.mem_append_left _ (List.mem_of_getElem? (i := 140) rfl))), List.forall_mem_cons.mpr ⟨List.mem_append_right _ (List.mem_append_right _ (List.mem_append_left _ (List.mem_of_getElem? (i := 205) rfl))), List.forall_mem_cons.mpr ⟨List.mem_append_right _ (List.mem_append_right _ (List.mem_append_right _ (List.mem_append_left _ (List.mem_of_getElem? (i := 13) rfl)))), fun _ h => absurd h List.not_mem_nil⟩⟩⟩⟩⟩⟩⟩
end
section
/-! ===== the words of states, locals and walks ===== -/
abbrev St : Type := Nat → Nat → Int32
/-- one place of a state gets another number -/
def up2 (σ : St) (k j : Nat) (v : Int32) : St := fun i => bif Nat.beq i k then upd (σ i) j v else σ i
def b2i (b : Bool) : Int32 := bif b then 1 else 0
theorem b2i_nar (b : Bool) : narrow .boolean (.int (b2i b)) = .int (b2i b) := by cases b <;> decide +kernel
theorem b2i_inj {a b : Bool} : b2i a = b2i b ↔ a = b := by cases a <;> cases b <;> decide
theorem b2i_0 {b : Bool} : b2i b = 0 ↔ b = false := by cases b <;> decide
theorem b2i_t : b2i true = 1 := rfl
theorem b2i_f : b2i false = 0 := rfl
def lgt : List (Option Value) → Nat → Option Value
  | [], _ => none
  | a :: _, 0 => a
  | _ :: l, n + 1 => lgt l n
def lst : List (Option Value) → Nat → Value → List (Option Value)
  | [], _, _ => []
  | _ :: l, 0, v => some v :: l
  | a :: l, n + 1, v => a :: lst l n v
theorem lgt_lst (lv : List (Option Value)) (i j : Nat) (v w : Value) (h : lgt (lst lv i v) j = some w) : (j = i ∧ w = v) ∨ (j ≠ i ∧ lgt lv j = some w) := by
  induction lv generalizing i j with
  | nil => simp [lst, lgt] at h
  | cons a l ih =>
    cases i with
    | zero =>
      cases j with
      | zero => simp [lst, lgt] at h; exact Or.inl ⟨rfl, h.symm⟩
      | succ j => simp [lst, lgt] at h; exact Or.inr ⟨by omega, by simpa [lgt] using h⟩
    | succ i =>
      cases j with
      | zero => simp [lst, lgt] at h; exact Or.inr ⟨by omega, by simpa [lgt] using h⟩
      | succ j =>
        simp [lst, lgt] at h
        rcases ih i j h with ⟨e1, e2⟩ | ⟨e1, e2⟩
        · exact Or.inl ⟨by omega, e2⟩
        · exact Or.inr ⟨by omega, by simpa [lgt] using e2⟩
def prs (lv : List (Option Value)) : List (Nat × Value) := (List.range lv.length).filterMap (fun i => (lgt lv i).map (fun v => (i, v)))
theorem lgt_lt {lv : List (Option Value)} {i : Nat} {v : Value} (h : lgt lv i = some v) : i < lv.length := by
  induction lv generalizing i with
  | nil => simp [lgt] at h
  | cons a l ih =>
    cases i with
    | zero => simp
    | succ i => simp [lgt] at h; have := ih h; simp; omega
theorem prs_mem {lv : List (Option Value)} {q : Nat × Value} : q ∈ prs lv ↔ lgt lv q.1 = some q.2 := by
  constructor
  · intro h
    obtain ⟨i, -, h2⟩ := List.mem_filterMap.mp h
    cases hg : lgt lv i with
    | none => rw [hg] at h2; simp at h2
    | some v => rw [hg] at h2; simp at h2; subst h2; exact hg
  · intro h
    refine List.mem_filterMap.mpr ⟨q.1, List.mem_range.mpr (lgt_lt h), ?_⟩
    rw [h]; rfl
/-- the locals: what is known of each, all of one word -/
def lh (ls : Array Slot) (nL : Nat) (lv : List (Option Value)) : Prop := lv_has ls nL (prs lv) ∧ ∀ i v, lgt lv i = some v → v.category = 1
theorem lh.at {ls : Array Slot} {nL : Nat} {lv : List (Option Value)} (h : lh ls nL lv) {i : Nat} {v : Value} (hv : lgt lv i = some v) : ls[i]? = some (.val v) := h.1.2.2 (i, v) (prs_mem.mpr hv)
theorem lh.put {ls ls' : Array Slot} {nL i : Nat} {lv : List (Option Value)} {v : Value} (h : lh ls nL lv) (hc : v.category = 1) (h' : lv_has ls' nL ((i, v) :: (prs lv).filter (fun q => !(q.1 == i) && !(q.1 + 1 == i && q.2.category == 2)))) : lh ls' nL (lst lv i v) := by
  refine ⟨⟨h'.1, h'.2.1, fun q hq => ?_⟩, fun j w hw => ?_⟩
  · rcases lgt_lst lv i q.1 v q.2 (prs_mem.mp hq) with ⟨e1, e2⟩ | ⟨e1, e2⟩
    · have := h'.2.2 (i, v) List.mem_cons_self
      rw [e1, e2]; exact this
    · refine h'.2.2 q (List.mem_cons_of_mem _ (List.mem_filter.mpr ⟨prs_mem.mpr e2, ?_⟩))
      simp [e1, h.2 _ _ e2]
  · rcases lgt_lst lv i j v w hw with ⟨e1, e2⟩ | ⟨e1, e2⟩
    · rw [e2]; exact hc
    · exact h.2 _ _ e2
theorem lh_args (vs : List Value) (k : Nat) : ∀ (i : Nat) (v : Value), lgt (vs.map some ++ List.replicate k none) i = some v → (∀ w ∈ vs, w.category = 1) → ∀ n, (n + i, v) ∈ lv_args n vs ∧ v.category = 1 := by
  induction vs with
  | nil =>
    intro i v h
    exfalso
    have hn : ∀ (k i : Nat), lgt (List.replicate k none) i = none := by
      intro k
      induction k with
      | zero => intro i; rfl
      | succ k ih => intro i; cases i with
        | zero => rfl
        | succ i => exact ih i
    rw [List.map_nil, List.nil_append, hn] at h
    cases h
  | cons a l ih =>
    intro i v h hc n
    cases i with
    | zero =>
      simp [lgt] at h
      subst h
      exact ⟨by simp [lv_args], hc _ List.mem_cons_self⟩
    | succ i =>
      have h2 : lgt (l.map some ++ List.replicate k none) i = some v := h
      have ha : a.category = 1 := hc a List.mem_cons_self
      obtain ⟨h3, h4⟩ := ih i v h2 (fun w hw => hc w (List.mem_cons_of_mem _ hw)) (n + 1)
      refine ⟨?_, h4⟩
      simp only [lv_args, ha]
      refine List.mem_cons_of_mem _ ?_
      have e : n + 1 + i = n + (i + 1) := by omega
      rw [e] at h3
      simpa using h3
theorem lh_entry (vs : List Value) (k n : Nat) (h : (lg_sl vs).length ≤ n) (hc : ∀ w ∈ vs, w.category = 1) : lh ((lg_sl vs ++ List.replicate (n - (lg_sl vs).length) Slot.unset).toArray) n (vs.map some ++ List.replicate k none) := by
  have h1 := lv_entry vs h
  refine ⟨⟨h1.1, h1.2.1, fun q hq => ?_⟩, fun i v hv => (lh_args vs k i v hv hc 0).2⟩
  have := (lh_args vs k q.1 q.2 (prs_mem.mp hq) hc 0).1
  rw [Nat.zero_add] at this
  exact h1.2.2 _ this
/-- what the tables say, with the links of nest mates -/
def KK (D : va_G) (cI cZ : ClassId) (U : State) : Prop := va_K D vwCl [(cI, .int), (cZ, .boolean)] U ∧ ∀ w ∈ lw_nest, va_Nw w U
theorem lw_nest_form : ∀ w ∈ lw_nest, ∃ a i x h, w = Cond.methodLinkNest a i x h := by
  intro w hw
  simp only [lw_nest, List.mem_cons, List.not_mem_nil, or_false] at hw
  rcases hw with rfl | rfl | rfl | rfl | rfl | rfl | rfl <;> exact ⟨_, _, _, _, rfl⟩
theorem KK.warm {D : va_G} {cI cZ : ClassId} {s U : State} (hW : s.WarmedH U.vm) (h : KK D cI cZ s) : KK D cI cZ U := by
  refine ⟨va_K.moved hW.alike h.1, fun w hw => ?_⟩
  obtain ⟨a, i, x, hh, rfl⟩ := lw_nest_form w hw
  exact va_Nw.warmM hW (h.2 _ hw)
theorem KK.calling {D : va_G} {cI cZ : ClassId} {U : State} {g : JFrame} {mk : MethodId} {a : Array Value} (h : KK D cI cZ U) : KK D cI cZ (U.calling g mk a) := by
  refine ⟨va_K.moved (u := U) (U := U.calling g mk a) (Vm.Alike.refl U.vm) h.1, fun w hw => ?_⟩
  obtain ⟨a, i, x, hh, rfl⟩ := lw_nest_form w hw
  exact va_Nw.same rfl (rfl : U.vm = (U.calling g mk _).vm) (h.2 _ hw)
/-- what stands through a walk -/
def Cx (p : Program) (s : State) (m : MethodId) (args : Array Value) (meth : Method) (c : Code) (cc : ByteArray) (nL : Nat) (own : String) (ret : Option FieldType) (D : va_G) (cI cZ : ClassId) (A : Nat → Prop) : Prop :=
  p.tables.exec = Jvm.exec ∧ c.code = cc ∧ c.maxLocals = nL ∧ s.vm.findClass own = some m.cls ∧ (∀ w ∈ lw_all, w.before args s = true) ∧ KK D cI cZ s ∧ (∀ q, s.heap.size ≤ q → A q) ∧ meth.locks = false ∧ meth.sig.returnType = ret
/-- from here, with any heap that holds the world ws, the machine comes to Q -/
def G (p : Program) (l : Launch) (e : Env) (R : Room) (s : State) (m : MethodId) (args : Array Value) (below : List Frame) (meth : Method) (c : Code) (D : va_G) (A : Nat → Prop) (kc ks : Nat) (Q : State → Prop) (nL : Nat) (ws : va_W) (pc : Nat) (lv : List (Option Value)) (st : List Value) : Prop :=
  ∀ (H : Heap) (locs : List Loc) (ls : Array Slot), va_P D vwCl ws H → va_D A ws → va_S A s.heap H locs → lh ls nL lv → W p l e R s m args below meth c H locs kc ks Q (F0 m pc ls st)
section GR
variable {p : Program} {l : Launch} {e : Env} {R : Room} {s : State} {m : MethodId} {args : Array Value} {below : List Frame} {meth : Method} {c : Code} {D : va_G} {A : Nat → Prop} {kc ks : Nat} {Q : State → Prop} {nL : Nat} {ws : va_W} {pc : Nat} {lv : List (Option Value)} {st : List Value} {cc : ByteArray} {own : String} {ret : Option FieldType} {cI cZ : ClassId}
theorem G.eq {st2 : List Value} {lv2 : List (Option Value)} (h : G p l e R s m args below meth c D A kc ks Q nL ws pc lv2 st2) (h1 : st = st2) (h2 : lv = lv2) : G p l e R s m args below meth c D A kc ks Q nL ws pc lv st := by
  rw [h1, h2]; exact h
theorem g_iconst {n : Int} {v : Int32} (C : Cx p s m args meth c cc nL own ret D cI cZ A) (hd : decode cc pc = .ok (.iconst n, 1)) (hv : Int32.ofInt n = v) (kk : G p l e R s m args below meth c D A kc ks Q nL ws (pc + 1) lv (.int v :: st)) : G p l e R s m args below meth c D A kc ks Q nL ws pc lv st :=
  fun H locs ls hP hD hS hl => lv_iconst C.1 C.2.1 hd hv (kk H locs ls hP hD hS hl)
theorem g_bipush {n : Int} {v : Int32} (C : Cx p s m args meth c cc nL own ret D cI cZ A) (hd : decode cc pc = .ok (.bipush n, 2)) (hv : (Int8.ofInt n).toInt32 = v) (kk : G p l e R s m args below meth c D A kc ks Q nL ws (pc + 2) lv (.int v :: st)) : G p l e R s m args below meth c D A kc ks Q nL ws pc lv st :=
  fun H locs ls hP hD hS hl => lv_bipush C.1 C.2.1 hd hv (kk H locs ls hP hD hS hl)
theorem g_sipush {n : Int} {v : Int32} (C : Cx p s m args meth c cc nL own ret D cI cZ A) (hd : decode cc pc = .ok (.sipush n, 3)) (hv : (Int16.ofInt n).toInt32 = v) (kk : G p l e R s m args below meth c D A kc ks Q nL ws (pc + 3) lv (.int v :: st)) : G p l e R s m args below meth c D A kc ks Q nL ws pc lv st :=
  fun H locs ls hP hD hS hl => lv_sipush C.1 C.2.1 hd hv (kk H locs ls hP hD hS hl)
theorem g_ldcw {index : Nat} {v : Int32} (C : Cx p s m args meth c cc nL own ret D cI cZ A) (hw : Cond.constant own index v ∈ lw_all) (hd : decode cc pc = .ok (.ldc_w index, 3)) (kk : G p l e R s m args below meth c D A kc ks Q nL ws (pc + 3) lv (.int v :: st)) : G p l e R s m args below meth c D A kc ks Q nL ws pc lv st :=
  fun H locs ls hP hD hS hl => lv_ldcw C.1 C.2.1 C.2.2.2.1 (C.2.2.2.2.1 _ hw) hd (kk H locs ls hP hD hS hl)
theorem g_iload_n {k : Fin 4} {x : Int32} (C : Cx p s m args meth c cc nL own ret D cI cZ A) (hd : decode cc pc = .ok (.iload_n k, 1)) (hv : lgt lv (k : Nat) = some (.int x)) (kk : G p l e R s m args below meth c D A kc ks Q nL ws (pc + 1) lv (.int x :: st)) : G p l e R s m args below meth c D A kc ks Q nL ws pc lv st :=
  fun H locs ls hP hD hS hl => lv_iload_n C.1 C.2.1 hd rfl (hl.at hv) (kk H locs ls hP hD hS hl)
theorem g_iload {k : Nat} {x : Int32} (C : Cx p s m args meth c cc nL own ret D cI cZ A) (hd : decode cc pc = .ok (.iload k, 2)) (hv : lgt lv k = some (.int x)) (kk : G p l e R s m args below meth c D A kc ks Q nL ws (pc + 2) lv (.int x :: st)) : G p l e R s m args below meth c D A kc ks Q nL ws pc lv st :=
  fun H locs ls hP hD hS hl => lv_iload C.1 C.2.1 hd (hl.at hv) (kk H locs ls hP hD hS hl)
theorem g_aload_n {k : Fin 4} {x : Nat} (C : Cx p s m args meth c cc nL own ret D cI cZ A) (hd : decode cc pc = .ok (.aload_n k, 1)) (hv : lgt lv (k : Nat) = some (.ref x)) (kk : G p l e R s m args below meth c D A kc ks Q nL ws (pc + 1) lv (.ref x :: st)) : G p l e R s m args below meth c D A kc ks Q nL ws pc lv st :=
  fun H locs ls hP hD hS hl => lv_aload_n C.1 C.2.1 hd rfl (hl.at hv) (kk H locs ls hP hD hS hl)
theorem g_aload {k : Nat} {x : Nat} (C : Cx p s m args meth c cc nL own ret D cI cZ A) (hd : decode cc pc = .ok (.aload k, 2)) (hv : lgt lv k = some (.ref x)) (kk : G p l e R s m args below meth c D A kc ks Q nL ws (pc + 2) lv (.ref x :: st)) : G p l e R s m args below meth c D A kc ks Q nL ws pc lv st :=
  fun H locs ls hP hD hS hl => lv_aload C.1 C.2.1 hd (hl.at hv) (kk H locs ls hP hD hS hl)
theorem g_istore_n {k : Fin 4} {x : Int32} (C : Cx p s m args meth c cc nL own ret D cI cZ A) (hd : decode cc pc = .ok (.istore_n k, 1)) (hn : (k : Nat) < nL) (kk : G p l e R s m args below meth c D A kc ks Q nL ws (pc + 1) (lst lv (k : Nat) (.int x)) st) : G p l e R s m args below meth c D A kc ks Q nL ws pc lv (.int x :: st) :=
  fun H locs ls hP hD hS hl => lv_istore_n C.1 C.2.1 hd rfl hl.1 hn rfl (fun ls' hl' => kk H locs ls' hP hD hS (hl.put rfl hl'))
theorem g_istore {k : Nat} {x : Int32} (C : Cx p s m args meth c cc nL own ret D cI cZ A) (hd : decode cc pc = .ok (.istore k, 2)) (hn : k < nL) (kk : G p l e R s m args below meth c D A kc ks Q nL ws (pc + 2) (lst lv k (.int x)) st) : G p l e R s m args below meth c D A kc ks Q nL ws pc lv (.int x :: st) :=
  fun H locs ls hP hD hS hl => lv_istore C.1 C.2.1 hd hl.1 hn rfl (fun ls' hl' => kk H locs ls' hP hD hS (hl.put rfl hl'))
theorem g_astore_n {k : Fin 4} {x : Nat} (C : Cx p s m args meth c cc nL own ret D cI cZ A) (hd : decode cc pc = .ok (.astore_n k, 1)) (hn : (k : Nat) < nL) (kk : G p l e R s m args below meth c D A kc ks Q nL ws (pc + 1) (lst lv (k : Nat) (.ref x)) st) : G p l e R s m args below meth c D A kc ks Q nL ws pc lv (.ref x :: st) :=
  fun H locs ls hP hD hS hl => lv_astore_n C.1 C.2.1 hd rfl hl.1 hn rfl (fun ls' hl' => kk H locs ls' hP hD hS (hl.put rfl hl'))
theorem g_iinc {k : Nat} {n : Int} {x v : Int32} (C : Cx p s m args meth c cc nL own ret D cI cZ A) (hd : decode cc pc = .ok (.iinc k n, 3)) (hg : lgt lv k = some (.int x)) (hv : Int32.ofInt n = v) (hn : k < nL) (kk : G p l e R s m args below meth c D A kc ks Q nL ws (pc + 3) (lst lv k (.int (x + v))) st) : G p l e R s m args below meth c D A kc ks Q nL ws pc lv st :=
  fun H locs ls hP hD hS hl => by
    obtain ⟨j, hj⟩ := List.getElem?_of_mem (prs_mem (q := (k, .int x)).mpr hg)
    exact lv_iinc C.1 C.2.1 hd hl.1 hj (by rw [hv]) hn rfl (fun ls' hl' => kk H locs ls' hP hD hS (hl.put rfl hl'))
theorem g_iadd {x y : Int32} (C : Cx p s m args meth c cc nL own ret D cI cZ A) (hd : decode cc pc = .ok (.iadd, 1)) (kk : G p l e R s m args below meth c D A kc ks Q nL ws (pc + 1) lv (.int (x + y) :: st)) : G p l e R s m args below meth c D A kc ks Q nL ws pc lv (.int y :: .int x :: st) :=
  fun H locs ls hP hD hS hl => lv_iadd C.1 C.2.1 hd (kk H locs ls hP hD hS hl)
theorem g_isub {x y : Int32} (C : Cx p s m args meth c cc nL own ret D cI cZ A) (hd : decode cc pc = .ok (.isub, 1)) (kk : G p l e R s m args below meth c D A kc ks Q nL ws (pc + 1) lv (.int (x - y) :: st)) : G p l e R s m args below meth c D A kc ks Q nL ws pc lv (.int y :: .int x :: st) :=
  fun H locs ls hP hD hS hl => lv_isub C.1 C.2.1 hd (kk H locs ls hP hD hS hl)
theorem g_imul {x y : Int32} (C : Cx p s m args meth c cc nL own ret D cI cZ A) (hd : decode cc pc = .ok (.imul, 1)) (kk : G p l e R s m args below meth c D A kc ks Q nL ws (pc + 1) lv (.int (x * y) :: st)) : G p l e R s m args below meth c D A kc ks Q nL ws pc lv (.int y :: .int x :: st) :=
  fun H locs ls hP hD hS hl => lv_imul C.1 C.2.1 hd (kk H locs ls hP hD hS hl)
theorem g_iand {x y : Int32} (C : Cx p s m args meth c cc nL own ret D cI cZ A) (hd : decode cc pc = .ok (.iand, 1)) (kk : G p l e R s m args below meth c D A kc ks Q nL ws (pc + 1) lv (.int (x &&& y) :: st)) : G p l e R s m args below meth c D A kc ks Q nL ws pc lv (.int y :: .int x :: st) :=
  fun H locs ls hP hD hS hl => lv_iand C.1 C.2.1 hd (kk H locs ls hP hD hS hl)
theorem g_ior {x y : Int32} (C : Cx p s m args meth c cc nL own ret D cI cZ A) (hd : decode cc pc = .ok (.ior, 1)) (kk : G p l e R s m args below meth c D A kc ks Q nL ws (pc + 1) lv (.int (x ||| y) :: st)) : G p l e R s m args below meth c D A kc ks Q nL ws pc lv (.int y :: .int x :: st) :=
  fun H locs ls hP hD hS hl => lv_ior C.1 C.2.1 hd (kk H locs ls hP hD hS hl)
theorem g_ixor {x y : Int32} (C : Cx p s m args meth c cc nL own ret D cI cZ A) (hd : decode cc pc = .ok (.ixor, 1)) (kk : G p l e R s m args below meth c D A kc ks Q nL ws (pc + 1) lv (.int (x ^^^ y) :: st)) : G p l e R s m args below meth c D A kc ks Q nL ws pc lv (.int y :: .int x :: st) :=
  fun H locs ls hP hD hS hl => lv_ixor C.1 C.2.1 hd (kk H locs ls hP hD hS hl)
theorem g_ishl {x y : Int32} (C : Cx p s m args meth c cc nL own ret D cI cZ A) (hd : decode cc pc = .ok (.ishl, 1)) (kk : G p l e R s m args below meth c D A kc ks Q nL ws (pc + 1) lv (.int (x <<< (y &&& 31)) :: st)) : G p l e R s m args below meth c D A kc ks Q nL ws pc lv (.int y :: .int x :: st) :=
  fun H locs ls hP hD hS hl => lv_ishl C.1 C.2.1 hd (kk H locs ls hP hD hS hl)
theorem g_ishr {x y : Int32} (C : Cx p s m args meth c cc nL own ret D cI cZ A) (hd : decode cc pc = .ok (.ishr, 1)) (kk : G p l e R s m args below meth c D A kc ks Q nL ws (pc + 1) lv (.int (x >>> (y &&& 31)) :: st)) : G p l e R s m args below meth c D A kc ks Q nL ws pc lv (.int y :: .int x :: st) :=
  fun H locs ls hP hD hS hl => lv_ishr C.1 C.2.1 hd (kk H locs ls hP hD hS hl)
theorem g_iushr {x y : Int32} (C : Cx p s m args meth c cc nL own ret D cI cZ A) (hd : decode cc pc = .ok (.iushr, 1)) (kk : G p l e R s m args below meth c D A kc ks Q nL ws (pc + 1) lv (.int ((x.toUInt32 >>> (y.toUInt32 &&& Int32.toUInt32 31)).toInt32) :: st)) : G p l e R s m args below meth c D A kc ks Q nL ws pc lv (.int y :: .int x :: st) :=
  fun H locs ls hP hD hS hl => lv_iushr C.1 C.2.1 hd rfl (kk H locs ls hP hD hS hl)
theorem g_dup {v : Value} (C : Cx p s m args meth c cc nL own ret D cI cZ A) (hd : decode cc pc = .ok (.dup, 1)) (hc : v.category = 1) (kk : G p l e R s m args below meth c D A kc ks Q nL ws (pc + 1) lv (v :: v :: st)) : G p l e R s m args below meth c D A kc ks Q nL ws pc lv (v :: st) :=
  fun H locs ls hP hD hS hl => lv_dup C.1 C.2.1 hd hc (kk H locs ls hP hD hS hl)
theorem g_dup2 {v w : Value} (C : Cx p s m args meth c cc nL own ret D cI cZ A) (hd : decode cc pc = .ok (.dup2, 1)) (hc : v.category = 1) (hc2 : w.category = 1) (kk : G p l e R s m args below meth c D A kc ks Q nL ws (pc + 1) lv (v :: w :: v :: w :: st)) : G p l e R s m args below meth c D A kc ks Q nL ws pc lv (v :: w :: st) :=
  fun H locs ls hP hD hS hl => lv_dup2_11 C.1 C.2.1 hd hc hc2 (kk H locs ls hP hD hS hl)
theorem g_pop {v : Value} (C : Cx p s m args meth c cc nL own ret D cI cZ A) (hd : decode cc pc = .ok (.pop, 1)) (hc : v.category = 1) (kk : G p l e R s m args below meth c D A kc ks Q nL ws (pc + 1) lv st) : G p l e R s m args below meth c D A kc ks Q nL ws pc lv (v :: st) :=
  fun H locs ls hP hD hS hl => lv_pop C.1 C.2.1 hd hc (kk H locs ls hP hD hS hl)
theorem g_goto {off : Int} {tgt : Nat} (C : Cx p s m args meth c cc nL own ret D cI cZ A) (hd : decode cc pc = .ok (.goto off, 3)) (ht : (pc : Int) + off = (tgt : Int)) (kk : G p l e R s m args below meth c D A kc ks Q nL ws tgt lv st) : G p l e R s m args below meth c D A kc ks Q nL ws pc lv st :=
  fun H locs ls hP hD hS hl => lv_goto C.1 C.2.1 hd ht (kk H locs ls hP hD hS hl)
theorem g_if_eq {x : Int32} {off : Int} {tgt : Nat} (C : Cx p s m args meth c cc nL own ret D cI cZ A) (hd : decode cc pc = .ok (.ifCond .eq off, 3)) (ht : (pc : Int) + off = (tgt : Int)) (kt : x = 0 → G p l e R s m args below meth c D A kc ks Q nL ws tgt lv st) (kf : ¬ x = 0 → G p l e R s m args below meth c D A kc ks Q nL ws (pc + 3) lv st) : G p l e R s m args below meth c D A kc ks Q nL ws pc lv (.int x :: st) :=
  fun H locs ls hP hD hS hl => lv_if_eq C.1 C.2.1 hd ht (fun h => kt h H locs ls hP hD hS hl) (fun h => kf h H locs ls hP hD hS hl)
theorem g_icmp_eq {x y : Int32} {off : Int} {tgt : Nat} (C : Cx p s m args meth c cc nL own ret D cI cZ A) (hd : decode cc pc = .ok (.if_icmp .eq off, 3)) (ht : (pc : Int) + off = (tgt : Int)) (kt : x = y → G p l e R s m args below meth c D A kc ks Q nL ws tgt lv st) (kf : ¬ x = y → G p l e R s m args below meth c D A kc ks Q nL ws (pc + 3) lv st) : G p l e R s m args below meth c D A kc ks Q nL ws pc lv (.int y :: .int x :: st) :=
  fun H locs ls hP hD hS hl => lv_icmp_eq C.1 C.2.1 hd ht (fun h => kt h H locs ls hP hD hS hl) (fun h => kf h H locs ls hP hD hS hl)
theorem g_if_ne {x : Int32} {off : Int} {tgt : Nat} (C : Cx p s m args meth c cc nL own ret D cI cZ A) (hd : decode cc pc = .ok (.ifCond .ne off, 3)) (ht : (pc : Int) + off = (tgt : Int)) (kt : ¬ x = 0 → G p l e R s m args below meth c D A kc ks Q nL ws tgt lv st) (kf : x = 0 → G p l e R s m args below meth c D A kc ks Q nL ws (pc + 3) lv st) : G p l e R s m args below meth c D A kc ks Q nL ws pc lv (.int x :: st) :=
  fun H locs ls hP hD hS hl => lv_if_ne C.1 C.2.1 hd ht (fun h => kt h H locs ls hP hD hS hl) (fun h => kf h H locs ls hP hD hS hl)
theorem g_icmp_ne {x y : Int32} {off : Int} {tgt : Nat} (C : Cx p s m args meth c cc nL own ret D cI cZ A) (hd : decode cc pc = .ok (.if_icmp .ne off, 3)) (ht : (pc : Int) + off = (tgt : Int)) (kt : ¬ x = y → G p l e R s m args below meth c D A kc ks Q nL ws tgt lv st) (kf : x = y → G p l e R s m args below meth c D A kc ks Q nL ws (pc + 3) lv st) : G p l e R s m args below meth c D A kc ks Q nL ws pc lv (.int y :: .int x :: st) :=
  fun H locs ls hP hD hS hl => lv_icmp_ne C.1 C.2.1 hd ht (fun h => kt h H locs ls hP hD hS hl) (fun h => kf h H locs ls hP hD hS hl)
theorem g_if_lt {x : Int32} {off : Int} {tgt : Nat} (C : Cx p s m args meth c cc nL own ret D cI cZ A) (hd : decode cc pc = .ok (.ifCond .lt off, 3)) (ht : (pc : Int) + off = (tgt : Int)) (kt : x < 0 → G p l e R s m args below meth c D A kc ks Q nL ws tgt lv st) (kf : ¬ x < 0 → G p l e R s m args below meth c D A kc ks Q nL ws (pc + 3) lv st) : G p l e R s m args below meth c D A kc ks Q nL ws pc lv (.int x :: st) :=
  fun H locs ls hP hD hS hl => lv_if_lt C.1 C.2.1 hd ht (fun h => kt h H locs ls hP hD hS hl) (fun h => kf h H locs ls hP hD hS hl)
theorem g_icmp_lt {x y : Int32} {off : Int} {tgt : Nat} (C : Cx p s m args meth c cc nL own ret D cI cZ A) (hd : decode cc pc = .ok (.if_icmp .lt off, 3)) (ht : (pc : Int) + off = (tgt : Int)) (kt : x < y → G p l e R s m args below meth c D A kc ks Q nL ws tgt lv st) (kf : ¬ x < y → G p l e R s m args below meth c D A kc ks Q nL ws (pc + 3) lv st) : G p l e R s m args below meth c D A kc ks Q nL ws pc lv (.int y :: .int x :: st) :=
  fun H locs ls hP hD hS hl => lv_icmp_lt C.1 C.2.1 hd ht (fun h => kt h H locs ls hP hD hS hl) (fun h => kf h H locs ls hP hD hS hl)
theorem g_if_ge {x : Int32} {off : Int} {tgt : Nat} (C : Cx p s m args meth c cc nL own ret D cI cZ A) (hd : decode cc pc = .ok (.ifCond .ge off, 3)) (ht : (pc : Int) + off = (tgt : Int)) (kt : 0 ≤ x → G p l e R s m args below meth c D A kc ks Q nL ws tgt lv st) (kf : ¬ 0 ≤ x → G p l e R s m args below meth c D A kc ks Q nL ws (pc + 3) lv st) : G p l e R s m args below meth c D A kc ks Q nL ws pc lv (.int x :: st) :=
  fun H locs ls hP hD hS hl => lv_if_ge C.1 C.2.1 hd ht (fun h => kt h H locs ls hP hD hS hl) (fun h => kf h H locs ls hP hD hS hl)
theorem g_icmp_ge {x y : Int32} {off : Int} {tgt : Nat} (C : Cx p s m args meth c cc nL own ret D cI cZ A) (hd : decode cc pc = .ok (.if_icmp .ge off, 3)) (ht : (pc : Int) + off = (tgt : Int)) (kt : y ≤ x → G p l e R s m args below meth c D A kc ks Q nL ws tgt lv st) (kf : ¬ y ≤ x → G p l e R s m args below meth c D A kc ks Q nL ws (pc + 3) lv st) : G p l e R s m args below meth c D A kc ks Q nL ws pc lv (.int y :: .int x :: st) :=
  fun H locs ls hP hD hS hl => lv_icmp_ge C.1 C.2.1 hd ht (fun h => kt h H locs ls hP hD hS hl) (fun h => kf h H locs ls hP hD hS hl)
theorem g_if_gt {x : Int32} {off : Int} {tgt : Nat} (C : Cx p s m args meth c cc nL own ret D cI cZ A) (hd : decode cc pc = .ok (.ifCond .gt off, 3)) (ht : (pc : Int) + off = (tgt : Int)) (kt : 0 < x → G p l e R s m args below meth c D A kc ks Q nL ws tgt lv st) (kf : ¬ 0 < x → G p l e R s m args below meth c D A kc ks Q nL ws (pc + 3) lv st) : G p l e R s m args below meth c D A kc ks Q nL ws pc lv (.int x :: st) :=
  fun H locs ls hP hD hS hl => lv_if_gt C.1 C.2.1 hd ht (fun h => kt h H locs ls hP hD hS hl) (fun h => kf h H locs ls hP hD hS hl)
theorem g_icmp_gt {x y : Int32} {off : Int} {tgt : Nat} (C : Cx p s m args meth c cc nL own ret D cI cZ A) (hd : decode cc pc = .ok (.if_icmp .gt off, 3)) (ht : (pc : Int) + off = (tgt : Int)) (kt : y < x → G p l e R s m args below meth c D A kc ks Q nL ws tgt lv st) (kf : ¬ y < x → G p l e R s m args below meth c D A kc ks Q nL ws (pc + 3) lv st) : G p l e R s m args below meth c D A kc ks Q nL ws pc lv (.int y :: .int x :: st) :=
  fun H locs ls hP hD hS hl => lv_icmp_gt C.1 C.2.1 hd ht (fun h => kt h H locs ls hP hD hS hl) (fun h => kf h H locs ls hP hD hS hl)
theorem g_if_le {x : Int32} {off : Int} {tgt : Nat} (C : Cx p s m args meth c cc nL own ret D cI cZ A) (hd : decode cc pc = .ok (.ifCond .le off, 3)) (ht : (pc : Int) + off = (tgt : Int)) (kt : x ≤ 0 → G p l e R s m args below meth c D A kc ks Q nL ws tgt lv st) (kf : ¬ x ≤ 0 → G p l e R s m args below meth c D A kc ks Q nL ws (pc + 3) lv st) : G p l e R s m args below meth c D A kc ks Q nL ws pc lv (.int x :: st) :=
  fun H locs ls hP hD hS hl => lv_if_le C.1 C.2.1 hd ht (fun h => kt h H locs ls hP hD hS hl) (fun h => kf h H locs ls hP hD hS hl)
theorem g_icmp_le {x y : Int32} {off : Int} {tgt : Nat} (C : Cx p s m args meth c cc nL own ret D cI cZ A) (hd : decode cc pc = .ok (.if_icmp .le off, 3)) (ht : (pc : Int) + off = (tgt : Int)) (kt : x ≤ y → G p l e R s m args below meth c D A kc ks Q nL ws tgt lv st) (kf : ¬ x ≤ y → G p l e R s m args below meth c D A kc ks Q nL ws (pc + 3) lv st) : G p l e R s m args below meth c D A kc ks Q nL ws pc lv (.int y :: .int x :: st) :=
  fun H locs ls hP hD hS hl => lv_icmp_le C.1 C.2.1 hd ht (fun h => kt h H locs ls hP hD hS hl) (fun h => kf h H locs ls hP hD hS hl)
theorem g_ifb_eq {x : Bool} {off : Int} {tgt : Nat} (C : Cx p s m args meth c cc nL own ret D cI cZ A) (hd : decode cc pc = .ok (.ifCond .eq off, 3)) (ht : (pc : Int) + off = (tgt : Int)) (kt : x = false → G p l e R s m args below meth c D A kc ks Q nL ws tgt lv st) (kf : x = true → G p l e R s m args below meth c D A kc ks Q nL ws (pc + 3) lv st) : G p l e R s m args below meth c D A kc ks Q nL ws pc lv (.int (b2i x) :: st) :=
  g_if_eq C hd ht (fun h => kt (b2i_0.mp h)) (fun h => kf (by cases x <;> simp_all [b2i]))
theorem g_ifb_ne {x : Bool} {off : Int} {tgt : Nat} (C : Cx p s m args meth c cc nL own ret D cI cZ A) (hd : decode cc pc = .ok (.ifCond .ne off, 3)) (ht : (pc : Int) + off = (tgt : Int)) (kt : x = true → G p l e R s m args below meth c D A kc ks Q nL ws tgt lv st) (kf : x = false → G p l e R s m args below meth c D A kc ks Q nL ws (pc + 3) lv st) : G p l e R s m args below meth c D A kc ks Q nL ws pc lv (.int (b2i x) :: st) :=
  g_if_ne C hd ht (fun h => kt (by cases x <;> simp_all [b2i])) (fun h => kf (by cases x <;> simp_all [b2i]))
end GR
end
section
/-! ===== fields, arrays, calls, returns ===== -/
section GF
variable {p : Program} {l : Launch} {e : Env} {R : Room} {s : State} {m : MethodId} {args : Array Value} {below : List Frame} {meth : Method} {c : Code} {D : va_G} {A : Nat → Prop} {kc ks : Nat} {Q : State → Prop} {nL : Nat} {ws : va_W} {pc : Nat} {lv : List (Option Value)} {st : List Value} {cc : ByteArray} {own : String} {ret : Option FieldType} {cI cZ : ClassId}
theorem g_getf {a0 ci N index : Nat} {fs : List Value} {Cn ref : String} {T : u_T} {v : Value} (q0 k : Nat) (hin : ∀ w ∈ u_ws Cn T N, w ∈ lw_all) (hlink : Cond.fieldLink own index ref (T k).2.1 (T k).2.2.1 ∈ lw_all) (hc : vwCl[ci]? = some (Cn, T, N)) (hk : k < N) (href : ref = (T k).1) (C : Cx p s m args meth c cc nL own ret D cI cZ A) (he : ws[q0]? = some (a0, .inr (ci, fs))) (hv : fs[k]? = some v) (hd : decode cc pc = .ok (.getfield index, 3)) (kk : G p l e R s m args below meth c D A kc ks Q nL ws (pc + 3) lv (v :: st)) : G p l e R s m args below meth c D A kc ks Q nL ws pc lv (.ref a0 :: st) :=
  fun H locs ls hP hD hS hl => va_get C.1 C.2.1 (Ts := lw_all) C.2.2.2.2.1 hin C.2.2.2.1 C.2.2.2.2.2.1.1 hP q0 he hc k hk (C.2.2.2.2.1 _ hlink) (by subst href; exact fun _ h => h) hv hd (kk H locs ls hP hD hS hl)
theorem g_putf {a0 ci N index : Nat} {fs : List Value} {Cn ref : String} {T : u_T} {v : Value} {ws' : va_W} {ty0 : Nat → FieldType} {ty : FieldType} (q0 k : Nat) (hin : ∀ w ∈ u_ws Cn T N, w ∈ lw_all) (hty : ∀ k, k < N → parseFieldDescriptor (T k).2.2.1 = some (ty0 k)) (hnm : ∀ a, a < N → ∀ b, b < N → a ≠ b → (T a).2.1 ≠ (T b).2.1) (hlink : Cond.fieldLink own index ref (T k).2.1 (T k).2.2.1 ∈ lw_all) (hc : vwCl[ci]? = some (Cn, T, N)) (hk : k < N) (href : ref = (T k).1) (hfin : (T k).2.2.2 = false) (hpd : parseFieldDescriptor (T k).2.2.1 = some ty) (hn : narrow ty v = v) (hfit : fits ty v = true) (C : Cx p s m args meth c cc nL own ret D cI cZ A) (he : ws[q0]? = some (a0, .inr (ci, fs))) (hlen : k < fs.length) (hw : ws.set q0 (a0, .inr (ci, fs.set k v)) = ws') (hd : decode cc pc = .ok (.putfield index, 3)) (kk : G p l e R s m args below meth c D A kc ks Q nL ws' (pc + 3) lv st) : G p l e R s m args below meth c D A kc ks Q nL ws pc lv (v :: .ref a0 :: st) := by
  subst hw
  exact fun H locs ls hP hD hS hl => va_put C.1 C.2.1 (Ts := lw_all) C.2.2.2.2.1 hin ty0 hty hnm C.2.2.2.1 C.2.2.2.2.2.1.1 hP hD hS q0 he hc k hk (C.2.2.2.2.1 _ hlink) (by subst href; exact fun _ h => h) hfin hpd hn hfit hlen hd (fun H1 locs1 hP1 hD1 hS1 => kk H1 locs1 ls hP1 hD1 hS1 hl)
theorem g_iald {a0 n : Nat} {f : Nat → Int32} {i : Int32} (q0 : Nat) (C : Cx p s m args meth c cc nL own ret D cI cZ A) (he : ws[q0]? = some (a0, .inl (cI, n, .inl f))) (hi : vp_in i n) (hd : decode cc pc = .ok (.iaload, 1)) (kk : G p l e R s m args below meth c D A kc ks Q nL ws (pc + 1) lv (.int (f i.toNatClampNeg) :: st)) : G p l e R s m args below meth c D A kc ks Q nL ws pc lv (.int i :: .ref a0 :: st) :=
  fun H locs ls hP hD hS hl => va_iald C.1 C.2.1 C.2.2.2.2.2.1.1 hP q0 0 he rfl hi hd (kk H locs ls hP hD hS hl)
theorem g_zald {a0 n : Nat} {f : Nat → Int32} {i : Int32} (q0 : Nat) (C : Cx p s m args meth c cc nL own ret D cI cZ A) (he : ws[q0]? = some (a0, .inl (cZ, n, .inl f))) (hi : vp_in i n) (hd : decode cc pc = .ok (.baload, 1)) (kk : G p l e R s m args below meth c D A kc ks Q nL ws (pc + 1) lv (.int (f i.toNatClampNeg) :: st)) : G p l e R s m args below meth c D A kc ks Q nL ws pc lv (.int i :: .ref a0 :: st) :=
  fun H locs ls hP hD hS hl => va_zald C.1 C.2.1 C.2.2.2.2.2.1.1 hP q0 1 he rfl hi hd (kk H locs ls hP hD hS hl)
theorem g_iast {a0 n : Nat} {f : Nat → Int32} {i x : Int32} {ws' : va_W} (q0 : Nat) (C : Cx p s m args meth c cc nL own ret D cI cZ A) (he : ws[q0]? = some (a0, .inl (cI, n, .inl f))) (hi : vp_in i n) (hw : ws.set q0 (a0, .inl (cI, n, .inl (upd f i.toNatClampNeg x))) = ws') (hd : decode cc pc = .ok (.iastore, 1)) (kk : G p l e R s m args below meth c D A kc ks Q nL ws' (pc + 1) lv st) : G p l e R s m args below meth c D A kc ks Q nL ws pc lv (.int x :: .int i :: .ref a0 :: st) := by
  subst hw
  exact fun H locs ls hP hD hS hl => va_iast C.1 C.2.1 C.2.2.2.2.2.1.1 hP hD hS q0 0 he rfl hi hd (fun H1 locs1 hP1 hD1 hS1 => kk H1 locs1 ls hP1 hD1 hS1 hl)
theorem g_zast {a0 n : Nat} {f : Nat → Int32} {i x : Int32} {ws' : va_W} (q0 : Nat) (C : Cx p s m args meth c cc nL own ret D cI cZ A) (he : ws[q0]? = some (a0, .inl (cZ, n, .inl f))) (hi : vp_in i n) (hx : vp_nar .boolean x = x) (hw : ws.set q0 (a0, .inl (cZ, n, .inl (upd f i.toNatClampNeg x))) = ws') (hd : decode cc pc = .ok (.bastore, 1)) (kk : G p l e R s m args below meth c D A kc ks Q nL ws' (pc + 1) lv st) : G p l e R s m args below meth c D A kc ks Q nL ws pc lv (.int x :: .int i :: .ref a0 :: st) := by
  subst hw
  exact fun H locs ls hP hD hS hl => va_zast C.1 C.2.1 C.2.2.2.2.2.1.1 hP hD hS q0 1 he rfl hi hd (fun H1 locs1 hP1 hD1 hS1 => kk H1 locs1 ls (by rw [hx] at hP1; exact hP1) (by rw [hx] at hD1; exact hD1) hS1 hl)
theorem g_alen {a0 n : Nat} {f : Nat → Int32} {v : Int32} (q0 : Nat) (C : Cx p s m args meth c cc nL own ret D cI cZ A) (he : ws[q0]? = some (a0, .inl (cI, n, .inl f))) (hv : Int32.ofNat n = v) (hd : decode cc pc = .ok (.arraylength, 1)) (kk : G p l e R s m args below meth c D A kc ks Q nL ws (pc + 1) lv (.int v :: st)) : G p l e R s m args below meth c D A kc ks Q nL ws pc lv (.ref a0 :: st) :=
  fun H locs ls hP hD hS hl => va_alen C.1 C.2.1 C.2.2.2.2.2.1.1 hP q0 0 he rfl hv hd (kk H locs ls hP hD hS hl)
end GF
theorem b2i_vp (b : Bool) : vp_nar .boolean (b2i b) = b2i b := by cases b <;> decide +kernel
/-- the end of a contract: the answer, the new state, its world -/
def Qt (D : va_G) (pic : St → va_W) (σ : St) (sz : Nat) (post : Option Value → St → Prop) : Array Value → State → Outcome → State → Prop := fun _ st oc t =>
  (∃ (r : Option Value) (u : St), oc = .returned r ∧ post r u ∧ va_P D vwCl (pic u) t.heap ∧ va_D (va_A (pic σ) sz) (pic u)) ∧ va_F (va_A (pic σ) sz) st t
def rmo (f k : Nat) : Room := { frames := f, cells := 0, slots := 0, locals := k }
/-- THE CONTRACT of a method that makes nothing: from the world of σ it returns, with 'post answer new-state' -/
def Ct (l : Launch) (y : MethodName) (yc : ByteArray) (n : Nat) (ret : Option FieldType) (f k : Nat) (D : va_G) (cI cZ : ClassId) (pic : St → va_W) (av : List Value) (σ : St) (post : Option Value → St → Prop) : Prop :=
  ∀ sz : Nat, Met l y (Cond.code y yc n ret :: lw_all) (rmo f k) (va_Pc av (fun U => U.heap.size = sz ∧ va_P D vwCl (pic σ) U.heap ∧ KK D cI cZ U ∧ va_D (fun _ => True) (pic σ))) (Qt D pic σ sz post) 0 0 (va_A (pic σ) sz)
/-- where a walk under a contract ends -/
def Qe (below : List Frame) (args : Array Value) (s : State) (D : va_G) (pic : St → va_W) (σ : St) (post : Option Value → St → Prop) : State → Prop := MQ below (Qt D pic σ s.heap.size post) args s 0 0 (va_A (pic σ) s.heap.size)
theorem Ct.of {l : Launch} {y : MethodName} {yc : ByteArray} {n : Nat} {ret : Option FieldType} {f k : Nat} {D : va_G} {cI cZ : ClassId} {pic : St → va_W} {av : List Value} {σ : St} {post : Option Value → St → Prop} (j : Nat) (hy : plainName y.cls = true) (hc : ∀ w ∈ av, w.category = 1) (hlen : (lg_sl av).length ≤ n)
    (body : ∀ (p : Program) (e : Env) (s : State) (m : MethodId) (below : List Frame) (meth : Method) (c : Code), Cx p s m av.toArray meth c yc n y.cls ret D cI cZ (va_A (pic σ) s.heap.size) → G p l e (rmo f k) s m av.toArray below meth c D (va_A (pic σ) s.heap.size) 0 0 (Qe below av.toArray s D pic σ post) n (pic σ) 0 (av.map some ++ List.replicate j none) []) : Ct l y yc n ret f k D cI cZ pic av σ post := by
  intro sz
  refine Met.ofW (cc := yc) (maxL := n) (ret := ret) hy rfl ?_
  intro p e s m args below meth c s₁ B hml hv
  obtain ⟨rfl, hsz, hP, hK, hD0⟩ := hv
  subst hsz
  have hts := atoms_spec (ws := Cond.code y yc n ret :: lw_all) B.pre
  have hown : s.vm.findClass y.cls = some m.cls := findClass_of_methodNamed B.named
  have C : Cx p s m av.toArray meth c yc n y.cls ret D cI cZ (va_A (pic σ) s.heap.size) := ⟨B.exec, B.bytes, hml, hown, fun w hw => hts w (List.mem_cons_of_mem _ hw), hK, fun q h => Or.inr h, B.notSynchronized, B.returns⟩
  rw [lg_entry_eq]
  exact body p e s m below meth c C s.heap [] _ hP (hD0.self (sz := s.heap.size)) va_S.rf (lh_entry av j n hlen hc)
section GC
variable {p : Program} {l : Launch} {e : Env} {R : Room} {s : State} {m : MethodId} {args : Array Value} {below : List Frame} {meth : Method} {c : Code} {D : va_G} {A : Nat → Prop} {kc ks : Nat} {Q : State → Prop} {nL : Nat} {ws : va_W} {pc : Nat} {lv : List (Option Value)} {st : List Value} {cc : ByteArray} {own : String} {ret : Option FieldType} {cI cZ : ClassId}
variable {pic : St → va_W} {σ σ' : St} {post : Option Value → St → Prop}
theorem g_iret {v : Int32} (C : Cx p s m args meth c cc nL own (some .int) D cI cZ (va_A (pic σ) s.heap.size)) (hd : decode cc pc = .ok (.ireturn, 1)) (hp : post (some (.int v)) σ') : G p l e R s m args below meth c D (va_A (pic σ) s.heap.size) 0 0 (Qe below args s D pic σ post) nL (pic σ') pc lv [.int v] :=
  fun H locs ls hP hD hS hl => W.iret (v := v) C.1 C.2.1 C.2.2.2.2.2.2.2.2 (fun t ht hW => ⟨⟨some (.int v), σ', rfl, hp, by rw [ht]; exact hP, hD⟩, hS.F ht⟩) hS.2.2 hd C.2.2.2.2.2.2.2.1
theorem g_zret {v : Int32} (C : Cx p s m args meth c cc nL own (some .boolean) D cI cZ (va_A (pic σ) s.heap.size)) (hd : decode cc pc = .ok (.ireturn, 1)) (hn : narrow .boolean (.int v) = .int v) (hp : post (some (.int v)) σ') : G p l e R s m args below meth c D (va_A (pic σ) s.heap.size) 0 0 (Qe below args s D pic σ post) nL (pic σ') pc lv [.int v] :=
  fun H locs ls hP hD hS hl => W.zret (v := v) C.1 C.2.1 C.2.2.2.2.2.2.2.2 hn (fun t ht hW => ⟨⟨some (.int v), σ', rfl, hp, by rw [ht]; exact hP, hD⟩, hS.F ht⟩) hS.2.2 hd C.2.2.2.2.2.2.2.1
theorem g_vret (C : Cx p s m args meth c cc nL own none D cI cZ (va_A (pic σ) s.heap.size)) (hd : decode cc pc = .ok (.return_, 1)) (hp : post none σ') : G p l e R s m args below meth c D (va_A (pic σ) s.heap.size) 0 0 (Qe below args s D pic σ post) nL (pic σ') pc lv [] :=
  fun H locs ls hP hD hS hl => W.vret C.1 C.2.1 C.2.2.2.2.2.2.2.2 (fun t ht hW => ⟨⟨none, σ', rfl, hp, by rw [ht]; exact hP, hD⟩, hS.F ht⟩) hS.2.2 hd C.2.2.2.2.2.2.2.1
/-- behind a call that keeps to a contract -/
theorem g_behind {pic : St → va_W} {σ : St} {post : Option Value → St → Prop} {mc ms : Nat} {rest st0 : List Value} {a : Array Value} {ls : Array Slot} {H : Heap} {locs : List Loc} {cells slots : Nat} (hr : va_Run p l e R s m args below meth c H locs cells slots mc ms (F0 m pc ls st0) rest (Qt D pic σ H.size post a) (va_A (pic σ) H.size)) (hS : va_S A s.heap H locs) (hA : ∀ q, va_A (pic σ) H.size q → A q)
    (kk : ∀ (r : Option Value) (u : St) (H1 : Heap) (locs1 : List Loc), post r u → va_P D vwCl (pic u) H1 → va_D (va_A (pic σ) H.size) (pic u) → H.size ≤ H1.size → (∀ q : Nat, q < H.size → ¬ va_A (pic σ) H.size q → H1[q]? = H[q]?) → va_S A s.heap H1 locs1 → W p l e R s m args below meth c H1 locs1 (cells + mc) (slots + ms) Q (F0 m (pc + 3) ls (r.toList ++ rest))) : W p l e R s m args below meth c H locs cells slots Q (F0 m pc ls st0) := by
  intro T hT X
  obtain ⟨v, st₀, t, T', L, h0, X', hL, e1, e2, ⟨⟨r, u, hv, hp, hb, hd⟩, hz, hk⟩, stp⟩ := hr T hT X
  cases hv
  rw [h0] at hz hk
  obtain ⟨t2, a1, b1⟩ := kk v u T'.heap (locs ++ L) hp (by rw [e1]; exact hb) hd (by rw [e1]; exact hz) (fun q h1 h2 => by rw [e1]; exact hk q h1 h2)
    ⟨Nat.le_trans hS.1 (by rw [e1]; exact hz), fun q h1 h2 => by rw [e1, hk q (Nat.lt_of_lt_of_le h1 hS.1) (fun z => h2 (hA q z))]; exact hS.2.1 q h1 h2, fun q hq => by
      rcases List.mem_append.mp hq with h | h
      · exact hS.2.2 q h
      · exact hA _ (hL q h)⟩ T' rfl X'
  exact ⟨t2, stp t2 a1, b1⟩
end GC
/-- what the tables say of an instance method -/
def Mw (y : MethodName) (yc : ByteArray) (n : Nat) (ret : Option FieldType) (na : Nat) : Prop :=
  Cond.instanceMethod y ∈ lw_all ∧ Cond.selects y.cls y y ∈ lw_all ∧ Cond.initialized y.cls ∈ lw_all ∧ Cond.code y yc n ret ∈ lw_all ∧ (y.cls ≠ "java/lang/invoke/MethodHandle" ∧ y.cls ≠ "java/lang/invoke/VarHandle" ∧ (parseMethodDescriptor y.desc).map (fun d => d.parameters.length) = some na)
def Ms (y : MethodName) (yc : ByteArray) (n : Nat) (ret : Option FieldType) (na : Nat) : Prop :=
  Cond.static y ∈ lw_all ∧ Cond.initialized y.cls ∈ lw_all ∧ Cond.code y yc n ret ∈ lw_all ∧ (y.cls ≠ "java/lang/invoke/MethodHandle" ∧ y.cls ≠ "java/lang/invoke/VarHandle" ∧ (parseMethodDescriptor y.desc).map (fun d => d.parameters.length) = some na)
theorem good_all {y : MethodName} {yc : ByteArray} {n : Nat} {ret : Option FieldType} (h : Cond.code y yc n ret ∈ lw_all) : GoodIn lw_all (Cond.code y yc n ret :: lw_all) := by
  intro w hw
  rcases List.mem_cons.mp hw with rfl | hw
  · exact ⟨h, good_of_word (lw_all_good _ h)⟩
  · exact ⟨hw, good_of_word (lw_all_good _ hw)⟩
theorem va_D.true {A : Nat → Prop} {ws : va_W} (h : va_D A ws) : va_D (fun _ => True) ws := h.weaken (fun _ _ _ _ => trivial)
theorem va_A_free {A : Nat → Prop} {ws : va_W} {H0 H : Heap} {locs : List Loc} (hD : va_D A ws) (hS : va_S A H0 H locs) (hA : ∀ q, H0.size ≤ q → A q) : ∀ q, va_A ws H.size q → A q := by
  intro q h
  rcases h with ⟨k, e, h⟩ | h
  · exact hD.2 k (q, e) h
  · exact hA q (Nat.le_trans hS.1 h)
theorem pc_blind {av : List Value} {D : va_G} {cI cZ : ClassId} {ws : va_W} {sz : Nat} : FrameBlind (va_Pc av (fun U => U.heap.size = sz ∧ va_P D vwCl ws U.heap ∧ KK D cI cZ U ∧ va_D (fun _ => True) ws)) := by
  intro a U g mk q
  obtain ⟨q0, q1, qP, qK, qD⟩ := q
  exact ⟨q0, q1, qP, qK.calling, qD⟩
section GV
variable {p : Program} {l : Launch} {e : Env} {R : Room} {s : State} {m : MethodId} {args : Array Value} {below : List Frame} {meth : Method} {c : Code} {D : va_G} {A : Nat → Prop} {kc ks : Nat} {Q : State → Prop} {nL : Nat} {pc : Nat} {lv : List (Option Value)} {cc : ByteArray} {own : String} {ret ret0 : Option FieldType} {cI cZ : ClassId}
variable {pic : St → va_W} {σ : St} {post : Option Value → St → Prop} {y : MethodName} {yc : ByteArray} {n f k na index a0 ci N : Nat} {T : u_T} {fs As rest st : List Value}
/-- a call of an instance method, whose world is the caller's -/
theorem g_callV (q0 : Nat) (C : Cx p s m args meth c cc nL own ret0 D cI cZ A) (hM : Ct l y yc n ret f k D cI cZ pic (.ref a0 :: As) σ post) (hw : Mw y yc n ret na) (hl : Cond.methodLink own index y ∈ lw_all) (he : (pic σ)[q0]? = some (a0, .inr (ci, fs))) (hc : vwCl[ci]? = some (y.cls, T, N)) (hst : st = As.reverse ++ .ref a0 :: rest) (hn : As.length = na) (hcat : (rest.map fun v => v.category).sum ≤ 8) (hd : decode cc pc = .ok (.invokevirtual index, 3)) (hR : f + 1 ≤ R.frames ∧ 8 + (n + 11) + k ≤ R.locals) (hR2 : kc ≤ R.cells ∧ ks ≤ R.slots)
    (kk : ∀ (r : Option Value) (u : St), post r u → G p l e R s m args below meth c D A kc ks Q nL (pic u) (pc + 3) lv (r.toList ++ rest)) : G p l e R s m args below meth c D A kc ks Q nL (pic σ) pc lv st := by
  intro H locs ls hP hD hS hl2
  subst hst
  have hts := C.2.2.2.2.1
  have hA := va_A_free hD hS C.2.2.2.2.2.2.1
  have cw : CallW R s args own y.cls index y yc n ret (Cond.code y yc n ret :: lw_all) (rmo f k) 0 0 na := ⟨callB_of na hts (good_all hw.2.2.2.1) rfl rfl rfl (hts _ hw.2.2.1) (hts _ hl) hw.2.2.2.2 hR, hts _ hw.1, hts _ hw.2.1⟩
  refine g_behind (va_runV (As := As) (rest := rest) (C := y.cls) ⟨C.1, C.2.1, C.2.2.1, C.2.2.2.1, hts⟩ (hM H.size) cw ⟨pc_blind, va_recv C.2.2.2.2.2.1.1 hP (q := (y.cls, T, N)) hc he, fun U hU hW => ⟨rfl, by rw [hU], by rw [hU]; exact hP, C.2.2.2.2.2.1.warm hW, hD.true⟩⟩ rfl hn hl2.1.1 rfl (lv_room hcat) hd ⟨hR2.1, hR2.2⟩) hS hA (fun r u H1 locs1 hp hP1 hD1 hz hk1 hS1 => ?_)
  exact kk r u hp H1 locs1 ls hP1 (hD1.weaken (fun _ q _ h => hA q.1 h)) hS1 hl2
/-- a call of a static method of the same class -/
theorem g_callS (C : Cx p s m args meth c cc nL own ret0 D cI cZ A) (hM : Ct l y yc n ret f k D cI cZ pic As σ post) (hw : Ms y yc n ret na) (hl : Cond.methodLink own index y ∈ lw_all) (hst : st = As.reverse ++ rest) (hn : As.length = na) (hcat : (rest.map fun v => v.category).sum ≤ 8) (hd : decode cc pc = .ok (.invokestatic index, 3)) (hR : f + 1 ≤ R.frames ∧ 8 + (n + 11) + k ≤ R.locals) (hR2 : kc ≤ R.cells ∧ ks ≤ R.slots)
    (kk : ∀ (r : Option Value) (u : St), post r u → G p l e R s m args below meth c D A kc ks Q nL (pic u) (pc + 3) lv (r.toList ++ rest)) : G p l e R s m args below meth c D A kc ks Q nL (pic σ) pc lv st := by
  intro H locs ls hP hD hS hl2
  subst hst
  have hts := C.2.2.2.2.1
  have hA := va_A_free hD hS C.2.2.2.2.2.2.1
  have cw : CallB R s args own index y yc n ret (Cond.code y yc n ret :: lw_all) (rmo f k) 0 0 na ∧ (Cond.static y).before args s = true := ⟨callB_of na hts (good_all hw.2.2.1) rfl rfl rfl (hts _ hw.2.1) (hts _ hl) hw.2.2.2 hR, hts _ hw.1⟩
  refine g_behind (va_runS (As := As) (rest := rest) ⟨C.1, C.2.1, C.2.2.1, C.2.2.2.1, hts⟩ (hM H.size) cw ⟨pc_blind, fun U hU hW => ⟨rfl, by rw [hU], by rw [hU]; exact hP, C.2.2.2.2.2.1.warm hW, hD.true⟩⟩ rfl hn hl2.1.1 rfl (lv_room hcat) hd ⟨hR2.1, hR2.2⟩) hS hA (fun r u H1 locs1 hp hP1 hD1 hz hk1 hS1 => ?_)
  exact kk r u hp H1 locs1 ls hP1 (hD1.weaken (fun _ q _ h => hA q.1 h)) hS1 hl2
/-- a call of a private static method of a nest mate -/
theorem g_callSN {host : String} (C : Cx p s m args meth c cc nL own ret0 D cI cZ A) (hM : Ct l y yc n ret f k D cI cZ pic As σ post) (hw : Ms y yc n ret na) (hl : Cond.methodLinkNest own index y host ∈ lw_nest) (hst : st = As.reverse ++ rest) (hn : As.length = na) (hcat : (rest.map fun v => v.category).sum ≤ 8) (hd : decode cc pc = .ok (.invokestatic index, 3)) (hR : f + 1 ≤ R.frames ∧ 8 + (n + 11) + k ≤ R.locals) (hR2 : kc ≤ R.cells ∧ ks ≤ R.slots)
    (kk : ∀ (r : Option Value) (u : St), post r u → G p l e R s m args below meth c D A kc ks Q nL (pic u) (pc + 3) lv (r.toList ++ rest)) : G p l e R s m args below meth c D A kc ks Q nL (pic σ) pc lv st := by
  intro H locs ls hP hD hS hl2
  subst hst
  have hts := C.2.2.2.2.1
  have hA := va_A_free hD hS C.2.2.2.2.2.2.1
  have cw := va_cnB (R := R) (own := own) (host := host) (index := index) (maxL := n) (mc := 0) (ms := 0) (y := y) (bytes := yc) (ret := ret) (rm := rmo f k) na hts (good_all hw.2.2.1) rfl rfl rfl (C.2.2.2.2.2.1.2 _ hl) (hts _ hw.2.1) hw.2.2.2 hR
  refine g_behind (va_runSN (As := As) (rest := rest) (host := host) ⟨C.1, C.2.1, C.2.2.1, C.2.2.2.1, hts⟩ (hM H.size) ⟨cw, hts _ hw.1, trivial⟩ ⟨pc_blind, fun U hU hW => ⟨rfl, by rw [hU], by rw [hU]; exact hP, C.2.2.2.2.2.1.warm hW, hD.true⟩⟩ rfl hn hl2.1.1 rfl (lv_room hcat) hd ⟨hR2.1, hR2.2⟩) hS hA (fun r u H1 locs1 hp hP1 hD1 hz hk1 hS1 => ?_)
  exact kk r u hp H1 locs1 ls hP1 (hD1.weaken (fun _ q _ h => hA q.1 h)) hS1 hl2
end GV
end
section
/-! ===== the two systems as lists of cells; rows for their fields and arrays ===== -/
/-- the reference: its object is cell 0, its arrays cells 1 to 17; τ 0 holds its numbers: types, throwsMany, members, faults; τ k the array of cell k -/
def pM (b : Nat → Nat) (cI cZ : ClassId) (τ : St) : va_W := [(b 0, .inr (6, [.int (τ 0 0), .ref (b 1), .ref (b 2), .ref (b 3), .ref (b 4), .ref (b 5), .ref (b 6), .int (τ 0 1), .ref (b 7), .ref (b 8), .int (τ 0 2), .ref (b 9), .ref (b 10), .ref (b 11), .ref (b 12), .ref (b 13), .ref (b 14), .int (τ 0 3), .ref (b 15), .ref (b 16), .ref (b 17)])), (b 1, .inl (cI, 16, .inl (τ 1))), (b 2, .inl (cI, 16, .inl (τ 2))), (b 3, .inl (cI, 16, .inl (τ 3))), (b 4, .inl (cI, 16, .inl (τ 4))), (b 5, .inl (cI, 48, .inl (τ 5))), (b 6, .inl (cZ, 256, .inl (τ 6))), (b 7, .inl (cI, 8, .inl (τ 7))), (b 8, .inl (cZ, 8, .inl (τ 8))), (b 9, .inl (cI, 60, .inl (τ 9))), (b 10, .inl (cI, 60, .inl (τ 10))), (b 11, .inl (cI, 60, .inl (τ 11))), (b 12, .inl (cI, 60, .inl (τ 12))), (b 13, .inl (cI, 60, .inl (τ 13))), (b 14, .inl (cZ, 3600, .inl (τ 14))), (b 15, .inl (cI, 2400, .inl (τ 15))), (b 16, .inl (cI, 2400, .inl (τ 16))), (b 17, .inl (cI, 2400, .inl (τ 17)))]
/-- the class: cells 0 OverrideRules, 1 Types (arrays 2 kinds, 3 packets, 4 parents, 5 faces, 6 above), 7 Throws (8 subTo), 9 Members (10 owners, 11 names, 12 results, 13 marks, 14 throwSets, 15 slots), 16 Choice, 17 Faults; τ 0 holds the numbers: types.count, checkedOnes, thrown.count, members.count, wanted, count, pickedCode, pickedM, pickedO -/
def pX (b : Nat → Nat) (cI cZ : ClassId) (τ : St) : va_W := [(b 0, .inr (5, [.ref (b 1), .ref (b 7), .ref (b 9), .ref (b 16), .ref (b 17)])), (b 1, .inr (4, [.ref (b 2), .ref (b 3), .ref (b 4), .ref (b 5), .ref (b 6), .int (τ 0 0)])), (b 2, .inl (cI, 16, .inl (τ 2))), (b 3, .inl (cI, 16, .inl (τ 3))), (b 4, .inl (cI, 16, .inl (τ 4))), (b 5, .inl (cI, 16, .inl (τ 5))), (b 6, .inl (cI, 16, .inl (τ 6))), (b 7, .inr (3, [.ref (b 8), .int (τ 0 1), .int (τ 0 2)])), (b 8, .inl (cI, 8, .inl (τ 8))), (b 9, .inr (2, [.ref (b 1), .ref (b 10), .ref (b 11), .ref (b 12), .ref (b 13), .ref (b 14), .ref (b 15), .int (τ 0 3)])), (b 10, .inl (cI, 60, .inl (τ 10))), (b 11, .inl (cI, 60, .inl (τ 11))), (b 12, .inl (cI, 60, .inl (τ 12))), (b 13, .inl (cI, 60, .inl (τ 13))), (b 14, .inl (cI, 60, .inl (τ 14))), (b 15, .inl (cI, 128, .inl (τ 15))), (b 16, .inr (0, [.ref (b 1), .ref (b 9)])), (b 17, .inr (1, [.ref (b 1), .ref (b 7), .ref (b 9), .ref (b 16), .int (τ 0 4), .int (τ 0 5), .int (τ 0 6), .int (τ 0 7), .int (τ 0 8)]))]
section PIC
variable {p : Program} {l : Launch} {e : Env} {R : Room} {s : State} {m : MethodId} {args : Array Value} {below : List Frame} {meth : Method} {c : Code} {D : va_G} {A : Nat → Prop} {kc ks : Nat} {Q : State → Prop} {nL : Nat} {pc : Nat} {lv : List (Option Value)} {st : List Value} {cc : ByteArray} {ret : Option FieldType} {cI cZ : ClassId} {b : Nat → Nat} {τ : St}
theorem gf_X6_62 (C : Cx p s m args meth c cc nL RX6 ret D cI cZ A) (hd : decode cc pc = .ok (.getfield 62, 3)) (kk : G p l e R s m args below meth c D A kc ks Q nL (pM b cI cZ τ) (pc + 3) lv (.int (τ 0 0) :: st)) : G p l e R s m args below meth c D A kc ks Q nL (pM b cI cZ τ) pc lv (.ref (b 0) :: st) := g_getf 0 0 lays_X6 fl_X6_62 rfl (by decide) rfl C rfl rfl hd kk
theorem gp_X6_62 {x : Int32} (C : Cx p s m args meth c cc nL RX6 ret D cI cZ A) (hd : decode cc pc = .ok (.putfield 62, 3)) (kk : G p l e R s m args below meth c D A kc ks Q nL (pM b cI cZ (up2 τ 0 0 x)) (pc + 3) lv st) : G p l e R s m args below meth c D A kc ks Q nL (pM b cI cZ τ) pc lv (.int x :: .ref (b 0) :: st) := g_putf 0 0 lays_X6 tyX6_ok nmX6 fl_X6_62 rfl (by decide) rfl (by decide +kernel) (ty := .int) (by decide +kernel) rfl rfl C rfl (by show 0 < 21; decide) rfl hd kk
theorem gf_X6_7 (C : Cx p s m args meth c cc nL RX6 ret D cI cZ A) (hd : decode cc pc = .ok (.getfield 7, 3)) (kk : G p l e R s m args below meth c D A kc ks Q nL (pM b cI cZ τ) (pc + 3) lv (.ref (b 1) :: st)) : G p l e R s m args below meth c D A kc ks Q nL (pM b cI cZ τ) pc lv (.ref (b 0) :: st) := g_getf 0 1 lays_X6 fl_X6_7 rfl (by decide) rfl C rfl rfl hd kk
theorem gf_X6_13 (C : Cx p s m args meth c cc nL RX6 ret D cI cZ A) (hd : decode cc pc = .ok (.getfield 13, 3)) (kk : G p l e R s m args below meth c D A kc ks Q nL (pM b cI cZ τ) (pc + 3) lv (.ref (b 2) :: st)) : G p l e R s m args below meth c D A kc ks Q nL (pM b cI cZ τ) pc lv (.ref (b 0) :: st) := g_getf 0 2 lays_X6 fl_X6_13 rfl (by decide) rfl C rfl rfl hd kk
theorem gf_X6_16 (C : Cx p s m args meth c cc nL RX6 ret D cI cZ A) (hd : decode cc pc = .ok (.getfield 16, 3)) (kk : G p l e R s m args below meth c D A kc ks Q nL (pM b cI cZ τ) (pc + 3) lv (.ref (b 3) :: st)) : G p l e R s m args below meth c D A kc ks Q nL (pM b cI cZ τ) pc lv (.ref (b 0) :: st) := g_getf 0 3 lays_X6 fl_X6_16 rfl (by decide) rfl C rfl rfl hd kk
theorem gf_X6_19 (C : Cx p s m args meth c cc nL RX6 ret D cI cZ A) (hd : decode cc pc = .ok (.getfield 19, 3)) (kk : G p l e R s m args below meth c D A kc ks Q nL (pM b cI cZ τ) (pc + 3) lv (.ref (b 4) :: st)) : G p l e R s m args below meth c D A kc ks Q nL (pM b cI cZ τ) pc lv (.ref (b 0) :: st) := g_getf 0 4 lays_X6 fl_X6_19 rfl (by decide) rfl C rfl rfl hd kk
theorem gf_X6_22 (C : Cx p s m args meth c cc nL RX6 ret D cI cZ A) (hd : decode cc pc = .ok (.getfield 22, 3)) (kk : G p l e R s m args below meth c D A kc ks Q nL (pM b cI cZ τ) (pc + 3) lv (.ref (b 5) :: st)) : G p l e R s m args below meth c D A kc ks Q nL (pM b cI cZ τ) pc lv (.ref (b 0) :: st) := g_getf 0 5 lays_X6 fl_X6_22 rfl (by decide) rfl C rfl rfl hd kk
theorem gf_X6_25 (C : Cx p s m args meth c cc nL RX6 ret D cI cZ A) (hd : decode cc pc = .ok (.getfield 25, 3)) (kk : G p l e R s m args below meth c D A kc ks Q nL (pM b cI cZ τ) (pc + 3) lv (.ref (b 6) :: st)) : G p l e R s m args below meth c D A kc ks Q nL (pM b cI cZ τ) pc lv (.ref (b 0) :: st) := g_getf 0 6 lays_X6 fl_X6_25 rfl (by decide) rfl C rfl rfl hd kk
theorem gf_X6_73 (C : Cx p s m args meth c cc nL RX6 ret D cI cZ A) (hd : decode cc pc = .ok (.getfield 73, 3)) (kk : G p l e R s m args below meth c D A kc ks Q nL (pM b cI cZ τ) (pc + 3) lv (.int (τ 0 1) :: st)) : G p l e R s m args below meth c D A kc ks Q nL (pM b cI cZ τ) pc lv (.ref (b 0) :: st) := g_getf 0 7 lays_X6 fl_X6_73 rfl (by decide) rfl C rfl rfl hd kk
theorem gp_X6_73 {x : Int32} (C : Cx p s m args meth c cc nL RX6 ret D cI cZ A) (hd : decode cc pc = .ok (.putfield 73, 3)) (kk : G p l e R s m args below meth c D A kc ks Q nL (pM b cI cZ (up2 τ 0 1 x)) (pc + 3) lv st) : G p l e R s m args below meth c D A kc ks Q nL (pM b cI cZ τ) pc lv (.int x :: .ref (b 0) :: st) := g_putf 0 7 lays_X6 tyX6_ok nmX6 fl_X6_73 rfl (by decide) rfl (by decide +kernel) (ty := .int) (by decide +kernel) rfl rfl C rfl (by show 7 < 21; decide) rfl hd kk
theorem gf_X6_29 (C : Cx p s m args meth c cc nL RX6 ret D cI cZ A) (hd : decode cc pc = .ok (.getfield 29, 3)) (kk : G p l e R s m args below meth c D A kc ks Q nL (pM b cI cZ τ) (pc + 3) lv (.ref (b 7) :: st)) : G p l e R s m args below meth c D A kc ks Q nL (pM b cI cZ τ) pc lv (.ref (b 0) :: st) := g_getf 0 8 lays_X6 fl_X6_29 rfl (by decide) rfl C rfl rfl hd kk
theorem gf_X6_32 (C : Cx p s m args meth c cc nL RX6 ret D cI cZ A) (hd : decode cc pc = .ok (.getfield 32, 3)) (kk : G p l e R s m args below meth c D A kc ks Q nL (pM b cI cZ τ) (pc + 3) lv (.ref (b 8) :: st)) : G p l e R s m args below meth c D A kc ks Q nL (pM b cI cZ τ) pc lv (.ref (b 0) :: st) := g_getf 0 9 lays_X6 fl_X6_32 rfl (by decide) rfl C rfl rfl hd kk
theorem gf_X6_70 (C : Cx p s m args meth c cc nL RX6 ret D cI cZ A) (hd : decode cc pc = .ok (.getfield 70, 3)) (kk : G p l e R s m args below meth c D A kc ks Q nL (pM b cI cZ τ) (pc + 3) lv (.int (τ 0 2) :: st)) : G p l e R s m args below meth c D A kc ks Q nL (pM b cI cZ τ) pc lv (.ref (b 0) :: st) := g_getf 0 10 lays_X6 fl_X6_70 rfl (by decide) rfl C rfl rfl hd kk
theorem gp_X6_70 {x : Int32} (C : Cx p s m args meth c cc nL RX6 ret D cI cZ A) (hd : decode cc pc = .ok (.putfield 70, 3)) (kk : G p l e R s m args below meth c D A kc ks Q nL (pM b cI cZ (up2 τ 0 2 x)) (pc + 3) lv st) : G p l e R s m args below meth c D A kc ks Q nL (pM b cI cZ τ) pc lv (.int x :: .ref (b 0) :: st) := g_putf 0 10 lays_X6 tyX6_ok nmX6 fl_X6_70 rfl (by decide) rfl (by decide +kernel) (ty := .int) (by decide +kernel) rfl rfl C rfl (by show 10 < 21; decide) rfl hd kk
theorem gf_X6_35 (C : Cx p s m args meth c cc nL RX6 ret D cI cZ A) (hd : decode cc pc = .ok (.getfield 35, 3)) (kk : G p l e R s m args below meth c D A kc ks Q nL (pM b cI cZ τ) (pc + 3) lv (.ref (b 9) :: st)) : G p l e R s m args below meth c D A kc ks Q nL (pM b cI cZ τ) pc lv (.ref (b 0) :: st) := g_getf 0 11 lays_X6 fl_X6_35 rfl (by decide) rfl C rfl rfl hd kk
theorem gf_X6_38 (C : Cx p s m args meth c cc nL RX6 ret D cI cZ A) (hd : decode cc pc = .ok (.getfield 38, 3)) (kk : G p l e R s m args below meth c D A kc ks Q nL (pM b cI cZ τ) (pc + 3) lv (.ref (b 10) :: st)) : G p l e R s m args below meth c D A kc ks Q nL (pM b cI cZ τ) pc lv (.ref (b 0) :: st) := g_getf 0 12 lays_X6 fl_X6_38 rfl (by decide) rfl C rfl rfl hd kk
theorem gf_X6_41 (C : Cx p s m args meth c cc nL RX6 ret D cI cZ A) (hd : decode cc pc = .ok (.getfield 41, 3)) (kk : G p l e R s m args below meth c D A kc ks Q nL (pM b cI cZ τ) (pc + 3) lv (.ref (b 11) :: st)) : G p l e R s m args below meth c D A kc ks Q nL (pM b cI cZ τ) pc lv (.ref (b 0) :: st) := g_getf 0 13 lays_X6 fl_X6_41 rfl (by decide) rfl C rfl rfl hd kk
theorem gf_X6_44 (C : Cx p s m args meth c cc nL RX6 ret D cI cZ A) (hd : decode cc pc = .ok (.getfield 44, 3)) (kk : G p l e R s m args below meth c D A kc ks Q nL (pM b cI cZ τ) (pc + 3) lv (.ref (b 12) :: st)) : G p l e R s m args below meth c D A kc ks Q nL (pM b cI cZ τ) pc lv (.ref (b 0) :: st) := g_getf 0 14 lays_X6 fl_X6_44 rfl (by decide) rfl C rfl rfl hd kk
theorem gf_X6_47 (C : Cx p s m args meth c cc nL RX6 ret D cI cZ A) (hd : decode cc pc = .ok (.getfield 47, 3)) (kk : G p l e R s m args below meth c D A kc ks Q nL (pM b cI cZ τ) (pc + 3) lv (.ref (b 13) :: st)) : G p l e R s m args below meth c D A kc ks Q nL (pM b cI cZ τ) pc lv (.ref (b 0) :: st) := g_getf 0 15 lays_X6 fl_X6_47 rfl (by decide) rfl C rfl rfl hd kk
theorem gf_X6_50 (C : Cx p s m args meth c cc nL RX6 ret D cI cZ A) (hd : decode cc pc = .ok (.getfield 50, 3)) (kk : G p l e R s m args below meth c D A kc ks Q nL (pM b cI cZ τ) (pc + 3) lv (.ref (b 14) :: st)) : G p l e R s m args below meth c D A kc ks Q nL (pM b cI cZ τ) pc lv (.ref (b 0) :: st) := g_getf 0 16 lays_X6 fl_X6_50 rfl (by decide) rfl C rfl rfl hd kk
theorem gf_X6_144 (C : Cx p s m args meth c cc nL RX6 ret D cI cZ A) (hd : decode cc pc = .ok (.getfield 144, 3)) (kk : G p l e R s m args below meth c D A kc ks Q nL (pM b cI cZ τ) (pc + 3) lv (.int (τ 0 3) :: st)) : G p l e R s m args below meth c D A kc ks Q nL (pM b cI cZ τ) pc lv (.ref (b 0) :: st) := g_getf 0 17 lays_X6 fl_X6_144 rfl (by decide) rfl C rfl rfl hd kk
theorem gp_X6_144 {x : Int32} (C : Cx p s m args meth c cc nL RX6 ret D cI cZ A) (hd : decode cc pc = .ok (.putfield 144, 3)) (kk : G p l e R s m args below meth c D A kc ks Q nL (pM b cI cZ (up2 τ 0 3 x)) (pc + 3) lv st) : G p l e R s m args below meth c D A kc ks Q nL (pM b cI cZ τ) pc lv (.int x :: .ref (b 0) :: st) := g_putf 0 17 lays_X6 tyX6_ok nmX6 fl_X6_144 rfl (by decide) rfl (by decide +kernel) (ty := .int) (by decide +kernel) rfl rfl C rfl (by show 17 < 21; decide) rfl hd kk
theorem gf_X6_53 (C : Cx p s m args meth c cc nL RX6 ret D cI cZ A) (hd : decode cc pc = .ok (.getfield 53, 3)) (kk : G p l e R s m args below meth c D A kc ks Q nL (pM b cI cZ τ) (pc + 3) lv (.ref (b 15) :: st)) : G p l e R s m args below meth c D A kc ks Q nL (pM b cI cZ τ) pc lv (.ref (b 0) :: st) := g_getf 0 18 lays_X6 fl_X6_53 rfl (by decide) rfl C rfl rfl hd kk
theorem gf_X6_56 (C : Cx p s m args meth c cc nL RX6 ret D cI cZ A) (hd : decode cc pc = .ok (.getfield 56, 3)) (kk : G p l e R s m args below meth c D A kc ks Q nL (pM b cI cZ τ) (pc + 3) lv (.ref (b 16) :: st)) : G p l e R s m args below meth c D A kc ks Q nL (pM b cI cZ τ) pc lv (.ref (b 0) :: st) := g_getf 0 19 lays_X6 fl_X6_56 rfl (by decide) rfl C rfl rfl hd kk
theorem gf_X6_59 (C : Cx p s m args meth c cc nL RX6 ret D cI cZ A) (hd : decode cc pc = .ok (.getfield 59, 3)) (kk : G p l e R s m args below meth c D A kc ks Q nL (pM b cI cZ τ) (pc + 3) lv (.ref (b 17) :: st)) : G p l e R s m args below meth c D A kc ks Q nL (pM b cI cZ τ) pc lv (.ref (b 0) :: st) := g_getf 0 20 lays_X6 fl_X6_59 rfl (by decide) rfl C rfl rfl hd kk
theorem gf_X5_10 (C : Cx p s m args meth c cc nL RX5 ret D cI cZ A) (hd : decode cc pc = .ok (.getfield 10, 3)) (kk : G p l e R s m args below meth c D A kc ks Q nL (pX b cI cZ τ) (pc + 3) lv (.ref (b 1) :: st)) : G p l e R s m args below meth c D A kc ks Q nL (pX b cI cZ τ) pc lv (.ref (b 0) :: st) := g_getf 0 0 lays_X5 fl_X5_10 rfl (by decide) rfl C rfl rfl hd kk
theorem gf_X5_19 (C : Cx p s m args meth c cc nL RX5 ret D cI cZ A) (hd : decode cc pc = .ok (.getfield 19, 3)) (kk : G p l e R s m args below meth c D A kc ks Q nL (pX b cI cZ τ) (pc + 3) lv (.ref (b 7) :: st)) : G p l e R s m args below meth c D A kc ks Q nL (pX b cI cZ τ) pc lv (.ref (b 0) :: st) := g_getf 0 1 lays_X5 fl_X5_19 rfl (by decide) rfl C rfl rfl hd kk
theorem gf_X5_28 (C : Cx p s m args meth c cc nL RX5 ret D cI cZ A) (hd : decode cc pc = .ok (.getfield 28, 3)) (kk : G p l e R s m args below meth c D A kc ks Q nL (pX b cI cZ τ) (pc + 3) lv (.ref (b 9) :: st)) : G p l e R s m args below meth c D A kc ks Q nL (pX b cI cZ τ) pc lv (.ref (b 0) :: st) := g_getf 0 2 lays_X5 fl_X5_28 rfl (by decide) rfl C rfl rfl hd kk
theorem gf_X5_37 (C : Cx p s m args meth c cc nL RX5 ret D cI cZ A) (hd : decode cc pc = .ok (.getfield 37, 3)) (kk : G p l e R s m args below meth c D A kc ks Q nL (pX b cI cZ τ) (pc + 3) lv (.ref (b 16) :: st)) : G p l e R s m args below meth c D A kc ks Q nL (pX b cI cZ τ) pc lv (.ref (b 0) :: st) := g_getf 0 3 lays_X5 fl_X5_37 rfl (by decide) rfl C rfl rfl hd kk
theorem gf_X5_46 (C : Cx p s m args meth c cc nL RX5 ret D cI cZ A) (hd : decode cc pc = .ok (.getfield 46, 3)) (kk : G p l e R s m args below meth c D A kc ks Q nL (pX b cI cZ τ) (pc + 3) lv (.ref (b 17) :: st)) : G p l e R s m args below meth c D A kc ks Q nL (pX b cI cZ τ) pc lv (.ref (b 0) :: st) := g_getf 0 4 lays_X5 fl_X5_46 rfl (by decide) rfl C rfl rfl hd kk
theorem gf_X4_9 (C : Cx p s m args meth c cc nL RX4 ret D cI cZ A) (hd : decode cc pc = .ok (.getfield 9, 3)) (kk : G p l e R s m args below meth c D A kc ks Q nL (pX b cI cZ τ) (pc + 3) lv (.ref (b 2) :: st)) : G p l e R s m args below meth c D A kc ks Q nL (pX b cI cZ τ) pc lv (.ref (b 1) :: st) := g_getf 1 0 lays_X4 fl_X4_9 rfl (by decide) rfl C rfl rfl hd kk
theorem gf_X4_15 (C : Cx p s m args meth c cc nL RX4 ret D cI cZ A) (hd : decode cc pc = .ok (.getfield 15, 3)) (kk : G p l e R s m args below meth c D A kc ks Q nL (pX b cI cZ τ) (pc + 3) lv (.ref (b 3) :: st)) : G p l e R s m args below meth c D A kc ks Q nL (pX b cI cZ τ) pc lv (.ref (b 1) :: st) := g_getf 1 1 lays_X4 fl_X4_15 rfl (by decide) rfl C rfl rfl hd kk
theorem gf_X4_18 (C : Cx p s m args meth c cc nL RX4 ret D cI cZ A) (hd : decode cc pc = .ok (.getfield 18, 3)) (kk : G p l e R s m args below meth c D A kc ks Q nL (pX b cI cZ τ) (pc + 3) lv (.ref (b 4) :: st)) : G p l e R s m args below meth c D A kc ks Q nL (pX b cI cZ τ) pc lv (.ref (b 1) :: st) := g_getf 1 2 lays_X4 fl_X4_18 rfl (by decide) rfl C rfl rfl hd kk
theorem gf_X4_21 (C : Cx p s m args meth c cc nL RX4 ret D cI cZ A) (hd : decode cc pc = .ok (.getfield 21, 3)) (kk : G p l e R s m args below meth c D A kc ks Q nL (pX b cI cZ τ) (pc + 3) lv (.ref (b 5) :: st)) : G p l e R s m args below meth c D A kc ks Q nL (pX b cI cZ τ) pc lv (.ref (b 1) :: st) := g_getf 1 3 lays_X4 fl_X4_21 rfl (by decide) rfl C rfl rfl hd kk
theorem gf_X4_24 (C : Cx p s m args meth c cc nL RX4 ret D cI cZ A) (hd : decode cc pc = .ok (.getfield 24, 3)) (kk : G p l e R s m args below meth c D A kc ks Q nL (pX b cI cZ τ) (pc + 3) lv (.ref (b 6) :: st)) : G p l e R s m args below meth c D A kc ks Q nL (pX b cI cZ τ) pc lv (.ref (b 1) :: st) := g_getf 1 4 lays_X4 fl_X4_24 rfl (by decide) rfl C rfl rfl hd kk
theorem gf_X4_27 (C : Cx p s m args meth c cc nL RX4 ret D cI cZ A) (hd : decode cc pc = .ok (.getfield 27, 3)) (kk : G p l e R s m args below meth c D A kc ks Q nL (pX b cI cZ τ) (pc + 3) lv (.int (τ 0 0) :: st)) : G p l e R s m args below meth c D A kc ks Q nL (pX b cI cZ τ) pc lv (.ref (b 1) :: st) := g_getf 1 5 lays_X4 fl_X4_27 rfl (by decide) rfl C rfl rfl hd kk
theorem gp_X4_27 {x : Int32} (C : Cx p s m args meth c cc nL RX4 ret D cI cZ A) (hd : decode cc pc = .ok (.putfield 27, 3)) (kk : G p l e R s m args below meth c D A kc ks Q nL (pX b cI cZ (up2 τ 0 0 x)) (pc + 3) lv st) : G p l e R s m args below meth c D A kc ks Q nL (pX b cI cZ τ) pc lv (.int x :: .ref (b 1) :: st) := g_putf 1 5 lays_X4 tyX4_ok nmX4 fl_X4_27 rfl (by decide) rfl (by decide +kernel) (ty := .int) (by decide +kernel) rfl rfl C rfl (by show 5 < 6; decide) rfl hd kk
theorem gf_X3_9 (C : Cx p s m args meth c cc nL RX3 ret D cI cZ A) (hd : decode cc pc = .ok (.getfield 9, 3)) (kk : G p l e R s m args below meth c D A kc ks Q nL (pX b cI cZ τ) (pc + 3) lv (.ref (b 8) :: st)) : G p l e R s m args below meth c D A kc ks Q nL (pX b cI cZ τ) pc lv (.ref (b 7) :: st) := g_getf 7 0 lays_X3 fl_X3_9 rfl (by decide) rfl C rfl rfl hd kk
theorem gf_X3_15 (C : Cx p s m args meth c cc nL RX3 ret D cI cZ A) (hd : decode cc pc = .ok (.getfield 15, 3)) (kk : G p l e R s m args below meth c D A kc ks Q nL (pX b cI cZ τ) (pc + 3) lv (.int (τ 0 1) :: st)) : G p l e R s m args below meth c D A kc ks Q nL (pX b cI cZ τ) pc lv (.ref (b 7) :: st) := g_getf 7 1 lays_X3 fl_X3_15 rfl (by decide) rfl C rfl rfl hd kk
theorem gp_X3_15 {x : Int32} (C : Cx p s m args meth c cc nL RX3 ret D cI cZ A) (hd : decode cc pc = .ok (.putfield 15, 3)) (kk : G p l e R s m args below meth c D A kc ks Q nL (pX b cI cZ (up2 τ 0 1 x)) (pc + 3) lv st) : G p l e R s m args below meth c D A kc ks Q nL (pX b cI cZ τ) pc lv (.int x :: .ref (b 7) :: st) := g_putf 7 1 lays_X3 tyX3_ok nmX3 fl_X3_15 rfl (by decide) rfl (by decide +kernel) (ty := .int) (by decide +kernel) rfl rfl C rfl (by show 1 < 3; decide) rfl hd kk
theorem gf_X3_19 (C : Cx p s m args meth c cc nL RX3 ret D cI cZ A) (hd : decode cc pc = .ok (.getfield 19, 3)) (kk : G p l e R s m args below meth c D A kc ks Q nL (pX b cI cZ τ) (pc + 3) lv (.int (τ 0 2) :: st)) : G p l e R s m args below meth c D A kc ks Q nL (pX b cI cZ τ) pc lv (.ref (b 7) :: st) := g_getf 7 2 lays_X3 fl_X3_19 rfl (by decide) rfl C rfl rfl hd kk
theorem gp_X3_19 {x : Int32} (C : Cx p s m args meth c cc nL RX3 ret D cI cZ A) (hd : decode cc pc = .ok (.putfield 19, 3)) (kk : G p l e R s m args below meth c D A kc ks Q nL (pX b cI cZ (up2 τ 0 2 x)) (pc + 3) lv st) : G p l e R s m args below meth c D A kc ks Q nL (pX b cI cZ τ) pc lv (.int x :: .ref (b 7) :: st) := g_putf 7 2 lays_X3 tyX3_ok nmX3 fl_X3_19 rfl (by decide) rfl (by decide +kernel) (ty := .int) (by decide +kernel) rfl rfl C rfl (by show 2 < 3; decide) rfl hd kk
theorem gf_X2_34 (C : Cx p s m args meth c cc nL RX2 ret D cI cZ A) (hd : decode cc pc = .ok (.getfield 34, 3)) (kk : G p l e R s m args below meth c D A kc ks Q nL (pX b cI cZ τ) (pc + 3) lv (.ref (b 1) :: st)) : G p l e R s m args below meth c D A kc ks Q nL (pX b cI cZ τ) pc lv (.ref (b 9) :: st) := g_getf 9 0 lays_X2 fl_X2_34 rfl (by decide) rfl C rfl rfl hd kk
theorem gf_X2_9 (C : Cx p s m args meth c cc nL RX2 ret D cI cZ A) (hd : decode cc pc = .ok (.getfield 9, 3)) (kk : G p l e R s m args below meth c D A kc ks Q nL (pX b cI cZ τ) (pc + 3) lv (.ref (b 10) :: st)) : G p l e R s m args below meth c D A kc ks Q nL (pX b cI cZ τ) pc lv (.ref (b 9) :: st) := g_getf 9 1 lays_X2 fl_X2_9 rfl (by decide) rfl C rfl rfl hd kk
theorem gf_X2_15 (C : Cx p s m args meth c cc nL RX2 ret D cI cZ A) (hd : decode cc pc = .ok (.getfield 15, 3)) (kk : G p l e R s m args below meth c D A kc ks Q nL (pX b cI cZ τ) (pc + 3) lv (.ref (b 11) :: st)) : G p l e R s m args below meth c D A kc ks Q nL (pX b cI cZ τ) pc lv (.ref (b 9) :: st) := g_getf 9 2 lays_X2 fl_X2_15 rfl (by decide) rfl C rfl rfl hd kk
theorem gf_X2_18 (C : Cx p s m args meth c cc nL RX2 ret D cI cZ A) (hd : decode cc pc = .ok (.getfield 18, 3)) (kk : G p l e R s m args below meth c D A kc ks Q nL (pX b cI cZ τ) (pc + 3) lv (.ref (b 12) :: st)) : G p l e R s m args below meth c D A kc ks Q nL (pX b cI cZ τ) pc lv (.ref (b 9) :: st) := g_getf 9 3 lays_X2 fl_X2_18 rfl (by decide) rfl C rfl rfl hd kk
theorem gf_X2_21 (C : Cx p s m args meth c cc nL RX2 ret D cI cZ A) (hd : decode cc pc = .ok (.getfield 21, 3)) (kk : G p l e R s m args below meth c D A kc ks Q nL (pX b cI cZ τ) (pc + 3) lv (.ref (b 13) :: st)) : G p l e R s m args below meth c D A kc ks Q nL (pX b cI cZ τ) pc lv (.ref (b 9) :: st) := g_getf 9 4 lays_X2 fl_X2_21 rfl (by decide) rfl C rfl rfl hd kk
theorem gf_X2_24 (C : Cx p s m args meth c cc nL RX2 ret D cI cZ A) (hd : decode cc pc = .ok (.getfield 24, 3)) (kk : G p l e R s m args below meth c D A kc ks Q nL (pX b cI cZ τ) (pc + 3) lv (.ref (b 14) :: st)) : G p l e R s m args below meth c D A kc ks Q nL (pX b cI cZ τ) pc lv (.ref (b 9) :: st) := g_getf 9 5 lays_X2 fl_X2_24 rfl (by decide) rfl C rfl rfl hd kk
theorem gf_X2_27 (C : Cx p s m args meth c cc nL RX2 ret D cI cZ A) (hd : decode cc pc = .ok (.getfield 27, 3)) (kk : G p l e R s m args below meth c D A kc ks Q nL (pX b cI cZ τ) (pc + 3) lv (.ref (b 15) :: st)) : G p l e R s m args below meth c D A kc ks Q nL (pX b cI cZ τ) pc lv (.ref (b 9) :: st) := g_getf 9 6 lays_X2 fl_X2_27 rfl (by decide) rfl C rfl rfl hd kk
theorem gf_X2_30 (C : Cx p s m args meth c cc nL RX2 ret D cI cZ A) (hd : decode cc pc = .ok (.getfield 30, 3)) (kk : G p l e R s m args below meth c D A kc ks Q nL (pX b cI cZ τ) (pc + 3) lv (.int (τ 0 3) :: st)) : G p l e R s m args below meth c D A kc ks Q nL (pX b cI cZ τ) pc lv (.ref (b 9) :: st) := g_getf 9 7 lays_X2 fl_X2_30 rfl (by decide) rfl C rfl rfl hd kk
theorem gp_X2_30 {x : Int32} (C : Cx p s m args meth c cc nL RX2 ret D cI cZ A) (hd : decode cc pc = .ok (.putfield 30, 3)) (kk : G p l e R s m args below meth c D A kc ks Q nL (pX b cI cZ (up2 τ 0 3 x)) (pc + 3) lv st) : G p l e R s m args below meth c D A kc ks Q nL (pX b cI cZ τ) pc lv (.int x :: .ref (b 9) :: st) := g_putf 9 7 lays_X2 tyX2_ok nmX2 fl_X2_30 rfl (by decide) rfl (by decide +kernel) (ty := .int) (by decide +kernel) rfl rfl C rfl (by show 7 < 8; decide) rfl hd kk
theorem gf_X0_9 (C : Cx p s m args meth c cc nL RX0 ret D cI cZ A) (hd : decode cc pc = .ok (.getfield 9, 3)) (kk : G p l e R s m args below meth c D A kc ks Q nL (pX b cI cZ τ) (pc + 3) lv (.ref (b 1) :: st)) : G p l e R s m args below meth c D A kc ks Q nL (pX b cI cZ τ) pc lv (.ref (b 16) :: st) := g_getf 16 0 lays_X0 fl_X0_9 rfl (by decide) rfl C rfl rfl hd kk
theorem gf_X0_15 (C : Cx p s m args meth c cc nL RX0 ret D cI cZ A) (hd : decode cc pc = .ok (.getfield 15, 3)) (kk : G p l e R s m args below meth c D A kc ks Q nL (pX b cI cZ τ) (pc + 3) lv (.ref (b 9) :: st)) : G p l e R s m args below meth c D A kc ks Q nL (pX b cI cZ τ) pc lv (.ref (b 16) :: st) := g_getf 16 1 lays_X0 fl_X0_15 rfl (by decide) rfl C rfl rfl hd kk
theorem gf_X1_27 (C : Cx p s m args meth c cc nL RX1 ret D cI cZ A) (hd : decode cc pc = .ok (.getfield 27, 3)) (kk : G p l e R s m args below meth c D A kc ks Q nL (pX b cI cZ τ) (pc + 3) lv (.ref (b 1) :: st)) : G p l e R s m args below meth c D A kc ks Q nL (pX b cI cZ τ) pc lv (.ref (b 17) :: st) := g_getf 17 0 lays_X1 fl_X1_27 rfl (by decide) rfl C rfl rfl hd kk
theorem gf_X1_31 (C : Cx p s m args meth c cc nL RX1 ret D cI cZ A) (hd : decode cc pc = .ok (.getfield 31, 3)) (kk : G p l e R s m args below meth c D A kc ks Q nL (pX b cI cZ τ) (pc + 3) lv (.ref (b 7) :: st)) : G p l e R s m args below meth c D A kc ks Q nL (pX b cI cZ τ) pc lv (.ref (b 17) :: st) := g_getf 17 1 lays_X1 fl_X1_31 rfl (by decide) rfl C rfl rfl hd kk
theorem gf_X1_35 (C : Cx p s m args meth c cc nL RX1 ret D cI cZ A) (hd : decode cc pc = .ok (.getfield 35, 3)) (kk : G p l e R s m args below meth c D A kc ks Q nL (pX b cI cZ τ) (pc + 3) lv (.ref (b 9) :: st)) : G p l e R s m args below meth c D A kc ks Q nL (pX b cI cZ τ) pc lv (.ref (b 17) :: st) := g_getf 17 2 lays_X1 fl_X1_35 rfl (by decide) rfl C rfl rfl hd kk
theorem gf_X1_39 (C : Cx p s m args meth c cc nL RX1 ret D cI cZ A) (hd : decode cc pc = .ok (.getfield 39, 3)) (kk : G p l e R s m args below meth c D A kc ks Q nL (pX b cI cZ τ) (pc + 3) lv (.ref (b 16) :: st)) : G p l e R s m args below meth c D A kc ks Q nL (pX b cI cZ τ) pc lv (.ref (b 17) :: st) := g_getf 17 3 lays_X1 fl_X1_39 rfl (by decide) rfl C rfl rfl hd kk
theorem gf_X1_9 (C : Cx p s m args meth c cc nL RX1 ret D cI cZ A) (hd : decode cc pc = .ok (.getfield 9, 3)) (kk : G p l e R s m args below meth c D A kc ks Q nL (pX b cI cZ τ) (pc + 3) lv (.int (τ 0 4) :: st)) : G p l e R s m args below meth c D A kc ks Q nL (pX b cI cZ τ) pc lv (.ref (b 17) :: st) := g_getf 17 4 lays_X1 fl_X1_9 rfl (by decide) rfl C rfl rfl hd kk
theorem gp_X1_9 {x : Int32} (C : Cx p s m args meth c cc nL RX1 ret D cI cZ A) (hd : decode cc pc = .ok (.putfield 9, 3)) (kk : G p l e R s m args below meth c D A kc ks Q nL (pX b cI cZ (up2 τ 0 4 x)) (pc + 3) lv st) : G p l e R s m args below meth c D A kc ks Q nL (pX b cI cZ τ) pc lv (.int x :: .ref (b 17) :: st) := g_putf 17 4 lays_X1 tyX1_ok nmX1 fl_X1_9 rfl (by decide) rfl (by decide +kernel) (ty := .int) (by decide +kernel) rfl rfl C rfl (by show 4 < 9; decide) rfl hd kk
theorem gf_X1_15 (C : Cx p s m args meth c cc nL RX1 ret D cI cZ A) (hd : decode cc pc = .ok (.getfield 15, 3)) (kk : G p l e R s m args below meth c D A kc ks Q nL (pX b cI cZ τ) (pc + 3) lv (.int (τ 0 5) :: st)) : G p l e R s m args below meth c D A kc ks Q nL (pX b cI cZ τ) pc lv (.ref (b 17) :: st) := g_getf 17 5 lays_X1 fl_X1_15 rfl (by decide) rfl C rfl rfl hd kk
theorem gp_X1_15 {x : Int32} (C : Cx p s m args meth c cc nL RX1 ret D cI cZ A) (hd : decode cc pc = .ok (.putfield 15, 3)) (kk : G p l e R s m args below meth c D A kc ks Q nL (pX b cI cZ (up2 τ 0 5 x)) (pc + 3) lv st) : G p l e R s m args below meth c D A kc ks Q nL (pX b cI cZ τ) pc lv (.int x :: .ref (b 17) :: st) := g_putf 17 5 lays_X1 tyX1_ok nmX1 fl_X1_15 rfl (by decide) rfl (by decide +kernel) (ty := .int) (by decide +kernel) rfl rfl C rfl (by show 5 < 9; decide) rfl hd kk
theorem gf_X1_18 (C : Cx p s m args meth c cc nL RX1 ret D cI cZ A) (hd : decode cc pc = .ok (.getfield 18, 3)) (kk : G p l e R s m args below meth c D A kc ks Q nL (pX b cI cZ τ) (pc + 3) lv (.int (τ 0 6) :: st)) : G p l e R s m args below meth c D A kc ks Q nL (pX b cI cZ τ) pc lv (.ref (b 17) :: st) := g_getf 17 6 lays_X1 fl_X1_18 rfl (by decide) rfl C rfl rfl hd kk
theorem gp_X1_18 {x : Int32} (C : Cx p s m args meth c cc nL RX1 ret D cI cZ A) (hd : decode cc pc = .ok (.putfield 18, 3)) (kk : G p l e R s m args below meth c D A kc ks Q nL (pX b cI cZ (up2 τ 0 6 x)) (pc + 3) lv st) : G p l e R s m args below meth c D A kc ks Q nL (pX b cI cZ τ) pc lv (.int x :: .ref (b 17) :: st) := g_putf 17 6 lays_X1 tyX1_ok nmX1 fl_X1_18 rfl (by decide) rfl (by decide +kernel) (ty := .int) (by decide +kernel) rfl rfl C rfl (by show 6 < 9; decide) rfl hd kk
theorem gf_X1_21 (C : Cx p s m args meth c cc nL RX1 ret D cI cZ A) (hd : decode cc pc = .ok (.getfield 21, 3)) (kk : G p l e R s m args below meth c D A kc ks Q nL (pX b cI cZ τ) (pc + 3) lv (.int (τ 0 7) :: st)) : G p l e R s m args below meth c D A kc ks Q nL (pX b cI cZ τ) pc lv (.ref (b 17) :: st) := g_getf 17 7 lays_X1 fl_X1_21 rfl (by decide) rfl C rfl rfl hd kk
theorem gp_X1_21 {x : Int32} (C : Cx p s m args meth c cc nL RX1 ret D cI cZ A) (hd : decode cc pc = .ok (.putfield 21, 3)) (kk : G p l e R s m args below meth c D A kc ks Q nL (pX b cI cZ (up2 τ 0 7 x)) (pc + 3) lv st) : G p l e R s m args below meth c D A kc ks Q nL (pX b cI cZ τ) pc lv (.int x :: .ref (b 17) :: st) := g_putf 17 7 lays_X1 tyX1_ok nmX1 fl_X1_21 rfl (by decide) rfl (by decide +kernel) (ty := .int) (by decide +kernel) rfl rfl C rfl (by show 7 < 9; decide) rfl hd kk
theorem gf_X1_24 (C : Cx p s m args meth c cc nL RX1 ret D cI cZ A) (hd : decode cc pc = .ok (.getfield 24, 3)) (kk : G p l e R s m args below meth c D A kc ks Q nL (pX b cI cZ τ) (pc + 3) lv (.int (τ 0 8) :: st)) : G p l e R s m args below meth c D A kc ks Q nL (pX b cI cZ τ) pc lv (.ref (b 17) :: st) := g_getf 17 8 lays_X1 fl_X1_24 rfl (by decide) rfl C rfl rfl hd kk
theorem gp_X1_24 {x : Int32} (C : Cx p s m args meth c cc nL RX1 ret D cI cZ A) (hd : decode cc pc = .ok (.putfield 24, 3)) (kk : G p l e R s m args below meth c D A kc ks Q nL (pX b cI cZ (up2 τ 0 8 x)) (pc + 3) lv st) : G p l e R s m args below meth c D A kc ks Q nL (pX b cI cZ τ) pc lv (.int x :: .ref (b 17) :: st) := g_putf 17 8 lays_X1 tyX1_ok nmX1 fl_X1_24 rfl (by decide) rfl (by decide +kernel) (ty := .int) (by decide +kernel) rfl rfl C rfl (by show 8 < 9; decide) rfl hd kk
theorem gM_ld1 {own : String} {i : Int32} (C : Cx p s m args meth c cc nL own ret D cI cZ A) (hi : vp_in i 16) (hd : decode cc pc = .ok (.iaload, 1)) (kk : G p l e R s m args below meth c D A kc ks Q nL (pM b cI cZ τ) (pc + 1) lv (.int (τ 1 i.toNatClampNeg) :: st)) : G p l e R s m args below meth c D A kc ks Q nL (pM b cI cZ τ) pc lv (.int i :: .ref (b 1) :: st) := g_iald 1 C rfl hi hd kk
theorem gM_st1 {own : String} {i x : Int32} (C : Cx p s m args meth c cc nL own ret D cI cZ A) (hi : vp_in i 16) (hd : decode cc pc = .ok (.iastore, 1)) (kk : G p l e R s m args below meth c D A kc ks Q nL (pM b cI cZ (up2 τ 1 i.toNatClampNeg x)) (pc + 1) lv st) : G p l e R s m args below meth c D A kc ks Q nL (pM b cI cZ τ) pc lv (.int x :: .int i :: .ref (b 1) :: st) := g_iast 1 C rfl hi rfl hd kk
theorem gM_ld2 {own : String} {i : Int32} (C : Cx p s m args meth c cc nL own ret D cI cZ A) (hi : vp_in i 16) (hd : decode cc pc = .ok (.iaload, 1)) (kk : G p l e R s m args below meth c D A kc ks Q nL (pM b cI cZ τ) (pc + 1) lv (.int (τ 2 i.toNatClampNeg) :: st)) : G p l e R s m args below meth c D A kc ks Q nL (pM b cI cZ τ) pc lv (.int i :: .ref (b 2) :: st) := g_iald 2 C rfl hi hd kk
theorem gM_st2 {own : String} {i x : Int32} (C : Cx p s m args meth c cc nL own ret D cI cZ A) (hi : vp_in i 16) (hd : decode cc pc = .ok (.iastore, 1)) (kk : G p l e R s m args below meth c D A kc ks Q nL (pM b cI cZ (up2 τ 2 i.toNatClampNeg x)) (pc + 1) lv st) : G p l e R s m args below meth c D A kc ks Q nL (pM b cI cZ τ) pc lv (.int x :: .int i :: .ref (b 2) :: st) := g_iast 2 C rfl hi rfl hd kk
theorem gM_ld3 {own : String} {i : Int32} (C : Cx p s m args meth c cc nL own ret D cI cZ A) (hi : vp_in i 16) (hd : decode cc pc = .ok (.iaload, 1)) (kk : G p l e R s m args below meth c D A kc ks Q nL (pM b cI cZ τ) (pc + 1) lv (.int (τ 3 i.toNatClampNeg) :: st)) : G p l e R s m args below meth c D A kc ks Q nL (pM b cI cZ τ) pc lv (.int i :: .ref (b 3) :: st) := g_iald 3 C rfl hi hd kk
theorem gM_st3 {own : String} {i x : Int32} (C : Cx p s m args meth c cc nL own ret D cI cZ A) (hi : vp_in i 16) (hd : decode cc pc = .ok (.iastore, 1)) (kk : G p l e R s m args below meth c D A kc ks Q nL (pM b cI cZ (up2 τ 3 i.toNatClampNeg x)) (pc + 1) lv st) : G p l e R s m args below meth c D A kc ks Q nL (pM b cI cZ τ) pc lv (.int x :: .int i :: .ref (b 3) :: st) := g_iast 3 C rfl hi rfl hd kk
theorem gM_ld4 {own : String} {i : Int32} (C : Cx p s m args meth c cc nL own ret D cI cZ A) (hi : vp_in i 16) (hd : decode cc pc = .ok (.iaload, 1)) (kk : G p l e R s m args below meth c D A kc ks Q nL (pM b cI cZ τ) (pc + 1) lv (.int (τ 4 i.toNatClampNeg) :: st)) : G p l e R s m args below meth c D A kc ks Q nL (pM b cI cZ τ) pc lv (.int i :: .ref (b 4) :: st) := g_iald 4 C rfl hi hd kk
theorem gM_st4 {own : String} {i x : Int32} (C : Cx p s m args meth c cc nL own ret D cI cZ A) (hi : vp_in i 16) (hd : decode cc pc = .ok (.iastore, 1)) (kk : G p l e R s m args below meth c D A kc ks Q nL (pM b cI cZ (up2 τ 4 i.toNatClampNeg x)) (pc + 1) lv st) : G p l e R s m args below meth c D A kc ks Q nL (pM b cI cZ τ) pc lv (.int x :: .int i :: .ref (b 4) :: st) := g_iast 4 C rfl hi rfl hd kk
theorem gM_ld5 {own : String} {i : Int32} (C : Cx p s m args meth c cc nL own ret D cI cZ A) (hi : vp_in i 48) (hd : decode cc pc = .ok (.iaload, 1)) (kk : G p l e R s m args below meth c D A kc ks Q nL (pM b cI cZ τ) (pc + 1) lv (.int (τ 5 i.toNatClampNeg) :: st)) : G p l e R s m args below meth c D A kc ks Q nL (pM b cI cZ τ) pc lv (.int i :: .ref (b 5) :: st) := g_iald 5 C rfl hi hd kk
theorem gM_st5 {own : String} {i x : Int32} (C : Cx p s m args meth c cc nL own ret D cI cZ A) (hi : vp_in i 48) (hd : decode cc pc = .ok (.iastore, 1)) (kk : G p l e R s m args below meth c D A kc ks Q nL (pM b cI cZ (up2 τ 5 i.toNatClampNeg x)) (pc + 1) lv st) : G p l e R s m args below meth c D A kc ks Q nL (pM b cI cZ τ) pc lv (.int x :: .int i :: .ref (b 5) :: st) := g_iast 5 C rfl hi rfl hd kk
theorem gM_ld6 {own : String} {i : Int32} (C : Cx p s m args meth c cc nL own ret D cI cZ A) (hi : vp_in i 256) (hd : decode cc pc = .ok (.baload, 1)) (kk : G p l e R s m args below meth c D A kc ks Q nL (pM b cI cZ τ) (pc + 1) lv (.int (τ 6 i.toNatClampNeg) :: st)) : G p l e R s m args below meth c D A kc ks Q nL (pM b cI cZ τ) pc lv (.int i :: .ref (b 6) :: st) := g_zald 6 C rfl hi hd kk
theorem gM_st6 {own : String} {i x : Int32} (C : Cx p s m args meth c cc nL own ret D cI cZ A) (hi : vp_in i 256) (hx : vp_nar .boolean x = x) (hd : decode cc pc = .ok (.bastore, 1)) (kk : G p l e R s m args below meth c D A kc ks Q nL (pM b cI cZ (up2 τ 6 i.toNatClampNeg x)) (pc + 1) lv st) : G p l e R s m args below meth c D A kc ks Q nL (pM b cI cZ τ) pc lv (.int x :: .int i :: .ref (b 6) :: st) := g_zast 6 C rfl hi hx rfl hd kk
theorem gM_ld7 {own : String} {i : Int32} (C : Cx p s m args meth c cc nL own ret D cI cZ A) (hi : vp_in i 8) (hd : decode cc pc = .ok (.iaload, 1)) (kk : G p l e R s m args below meth c D A kc ks Q nL (pM b cI cZ τ) (pc + 1) lv (.int (τ 7 i.toNatClampNeg) :: st)) : G p l e R s m args below meth c D A kc ks Q nL (pM b cI cZ τ) pc lv (.int i :: .ref (b 7) :: st) := g_iald 7 C rfl hi hd kk
theorem gM_st7 {own : String} {i x : Int32} (C : Cx p s m args meth c cc nL own ret D cI cZ A) (hi : vp_in i 8) (hd : decode cc pc = .ok (.iastore, 1)) (kk : G p l e R s m args below meth c D A kc ks Q nL (pM b cI cZ (up2 τ 7 i.toNatClampNeg x)) (pc + 1) lv st) : G p l e R s m args below meth c D A kc ks Q nL (pM b cI cZ τ) pc lv (.int x :: .int i :: .ref (b 7) :: st) := g_iast 7 C rfl hi rfl hd kk
theorem gM_ld8 {own : String} {i : Int32} (C : Cx p s m args meth c cc nL own ret D cI cZ A) (hi : vp_in i 8) (hd : decode cc pc = .ok (.baload, 1)) (kk : G p l e R s m args below meth c D A kc ks Q nL (pM b cI cZ τ) (pc + 1) lv (.int (τ 8 i.toNatClampNeg) :: st)) : G p l e R s m args below meth c D A kc ks Q nL (pM b cI cZ τ) pc lv (.int i :: .ref (b 8) :: st) := g_zald 8 C rfl hi hd kk
theorem gM_st8 {own : String} {i x : Int32} (C : Cx p s m args meth c cc nL own ret D cI cZ A) (hi : vp_in i 8) (hx : vp_nar .boolean x = x) (hd : decode cc pc = .ok (.bastore, 1)) (kk : G p l e R s m args below meth c D A kc ks Q nL (pM b cI cZ (up2 τ 8 i.toNatClampNeg x)) (pc + 1) lv st) : G p l e R s m args below meth c D A kc ks Q nL (pM b cI cZ τ) pc lv (.int x :: .int i :: .ref (b 8) :: st) := g_zast 8 C rfl hi hx rfl hd kk
theorem gM_ld9 {own : String} {i : Int32} (C : Cx p s m args meth c cc nL own ret D cI cZ A) (hi : vp_in i 60) (hd : decode cc pc = .ok (.iaload, 1)) (kk : G p l e R s m args below meth c D A kc ks Q nL (pM b cI cZ τ) (pc + 1) lv (.int (τ 9 i.toNatClampNeg) :: st)) : G p l e R s m args below meth c D A kc ks Q nL (pM b cI cZ τ) pc lv (.int i :: .ref (b 9) :: st) := g_iald 9 C rfl hi hd kk
theorem gM_st9 {own : String} {i x : Int32} (C : Cx p s m args meth c cc nL own ret D cI cZ A) (hi : vp_in i 60) (hd : decode cc pc = .ok (.iastore, 1)) (kk : G p l e R s m args below meth c D A kc ks Q nL (pM b cI cZ (up2 τ 9 i.toNatClampNeg x)) (pc + 1) lv st) : G p l e R s m args below meth c D A kc ks Q nL (pM b cI cZ τ) pc lv (.int x :: .int i :: .ref (b 9) :: st) := g_iast 9 C rfl hi rfl hd kk
theorem gM_ld10 {own : String} {i : Int32} (C : Cx p s m args meth c cc nL own ret D cI cZ A) (hi : vp_in i 60) (hd : decode cc pc = .ok (.iaload, 1)) (kk : G p l e R s m args below meth c D A kc ks Q nL (pM b cI cZ τ) (pc + 1) lv (.int (τ 10 i.toNatClampNeg) :: st)) : G p l e R s m args below meth c D A kc ks Q nL (pM b cI cZ τ) pc lv (.int i :: .ref (b 10) :: st) := g_iald 10 C rfl hi hd kk
theorem gM_st10 {own : String} {i x : Int32} (C : Cx p s m args meth c cc nL own ret D cI cZ A) (hi : vp_in i 60) (hd : decode cc pc = .ok (.iastore, 1)) (kk : G p l e R s m args below meth c D A kc ks Q nL (pM b cI cZ (up2 τ 10 i.toNatClampNeg x)) (pc + 1) lv st) : G p l e R s m args below meth c D A kc ks Q nL (pM b cI cZ τ) pc lv (.int x :: .int i :: .ref (b 10) :: st) := g_iast 10 C rfl hi rfl hd kk
theorem gM_ld11 {own : String} {i : Int32} (C : Cx p s m args meth c cc nL own ret D cI cZ A) (hi : vp_in i 60) (hd : decode cc pc = .ok (.iaload, 1)) (kk : G p l e R s m args below meth c D A kc ks Q nL (pM b cI cZ τ) (pc + 1) lv (.int (τ 11 i.toNatClampNeg) :: st)) : G p l e R s m args below meth c D A kc ks Q nL (pM b cI cZ τ) pc lv (.int i :: .ref (b 11) :: st) := g_iald 11 C rfl hi hd kk
theorem gM_st11 {own : String} {i x : Int32} (C : Cx p s m args meth c cc nL own ret D cI cZ A) (hi : vp_in i 60) (hd : decode cc pc = .ok (.iastore, 1)) (kk : G p l e R s m args below meth c D A kc ks Q nL (pM b cI cZ (up2 τ 11 i.toNatClampNeg x)) (pc + 1) lv st) : G p l e R s m args below meth c D A kc ks Q nL (pM b cI cZ τ) pc lv (.int x :: .int i :: .ref (b 11) :: st) := g_iast 11 C rfl hi rfl hd kk
theorem gM_ld12 {own : String} {i : Int32} (C : Cx p s m args meth c cc nL own ret D cI cZ A) (hi : vp_in i 60) (hd : decode cc pc = .ok (.iaload, 1)) (kk : G p l e R s m args below meth c D A kc ks Q nL (pM b cI cZ τ) (pc + 1) lv (.int (τ 12 i.toNatClampNeg) :: st)) : G p l e R s m args below meth c D A kc ks Q nL (pM b cI cZ τ) pc lv (.int i :: .ref (b 12) :: st) := g_iald 12 C rfl hi hd kk
theorem gM_st12 {own : String} {i x : Int32} (C : Cx p s m args meth c cc nL own ret D cI cZ A) (hi : vp_in i 60) (hd : decode cc pc = .ok (.iastore, 1)) (kk : G p l e R s m args below meth c D A kc ks Q nL (pM b cI cZ (up2 τ 12 i.toNatClampNeg x)) (pc + 1) lv st) : G p l e R s m args below meth c D A kc ks Q nL (pM b cI cZ τ) pc lv (.int x :: .int i :: .ref (b 12) :: st) := g_iast 12 C rfl hi rfl hd kk
theorem gM_ld13 {own : String} {i : Int32} (C : Cx p s m args meth c cc nL own ret D cI cZ A) (hi : vp_in i 60) (hd : decode cc pc = .ok (.iaload, 1)) (kk : G p l e R s m args below meth c D A kc ks Q nL (pM b cI cZ τ) (pc + 1) lv (.int (τ 13 i.toNatClampNeg) :: st)) : G p l e R s m args below meth c D A kc ks Q nL (pM b cI cZ τ) pc lv (.int i :: .ref (b 13) :: st) := g_iald 13 C rfl hi hd kk
theorem gM_st13 {own : String} {i x : Int32} (C : Cx p s m args meth c cc nL own ret D cI cZ A) (hi : vp_in i 60) (hd : decode cc pc = .ok (.iastore, 1)) (kk : G p l e R s m args below meth c D A kc ks Q nL (pM b cI cZ (up2 τ 13 i.toNatClampNeg x)) (pc + 1) lv st) : G p l e R s m args below meth c D A kc ks Q nL (pM b cI cZ τ) pc lv (.int x :: .int i :: .ref (b 13) :: st) := g_iast 13 C rfl hi rfl hd kk
theorem gM_ld14 {own : String} {i : Int32} (C : Cx p s m args meth c cc nL own ret D cI cZ A) (hi : vp_in i 3600) (hd : decode cc pc = .ok (.baload, 1)) (kk : G p l e R s m args below meth c D A kc ks Q nL (pM b cI cZ τ) (pc + 1) lv (.int (τ 14 i.toNatClampNeg) :: st)) : G p l e R s m args below meth c D A kc ks Q nL (pM b cI cZ τ) pc lv (.int i :: .ref (b 14) :: st) := g_zald 14 C rfl hi hd kk
theorem gM_st14 {own : String} {i x : Int32} (C : Cx p s m args meth c cc nL own ret D cI cZ A) (hi : vp_in i 3600) (hx : vp_nar .boolean x = x) (hd : decode cc pc = .ok (.bastore, 1)) (kk : G p l e R s m args below meth c D A kc ks Q nL (pM b cI cZ (up2 τ 14 i.toNatClampNeg x)) (pc + 1) lv st) : G p l e R s m args below meth c D A kc ks Q nL (pM b cI cZ τ) pc lv (.int x :: .int i :: .ref (b 14) :: st) := g_zast 14 C rfl hi hx rfl hd kk
theorem gM_ld15 {own : String} {i : Int32} (C : Cx p s m args meth c cc nL own ret D cI cZ A) (hi : vp_in i 2400) (hd : decode cc pc = .ok (.iaload, 1)) (kk : G p l e R s m args below meth c D A kc ks Q nL (pM b cI cZ τ) (pc + 1) lv (.int (τ 15 i.toNatClampNeg) :: st)) : G p l e R s m args below meth c D A kc ks Q nL (pM b cI cZ τ) pc lv (.int i :: .ref (b 15) :: st) := g_iald 15 C rfl hi hd kk
theorem gM_st15 {own : String} {i x : Int32} (C : Cx p s m args meth c cc nL own ret D cI cZ A) (hi : vp_in i 2400) (hd : decode cc pc = .ok (.iastore, 1)) (kk : G p l e R s m args below meth c D A kc ks Q nL (pM b cI cZ (up2 τ 15 i.toNatClampNeg x)) (pc + 1) lv st) : G p l e R s m args below meth c D A kc ks Q nL (pM b cI cZ τ) pc lv (.int x :: .int i :: .ref (b 15) :: st) := g_iast 15 C rfl hi rfl hd kk
theorem gM_ld16 {own : String} {i : Int32} (C : Cx p s m args meth c cc nL own ret D cI cZ A) (hi : vp_in i 2400) (hd : decode cc pc = .ok (.iaload, 1)) (kk : G p l e R s m args below meth c D A kc ks Q nL (pM b cI cZ τ) (pc + 1) lv (.int (τ 16 i.toNatClampNeg) :: st)) : G p l e R s m args below meth c D A kc ks Q nL (pM b cI cZ τ) pc lv (.int i :: .ref (b 16) :: st) := g_iald 16 C rfl hi hd kk
theorem gM_st16 {own : String} {i x : Int32} (C : Cx p s m args meth c cc nL own ret D cI cZ A) (hi : vp_in i 2400) (hd : decode cc pc = .ok (.iastore, 1)) (kk : G p l e R s m args below meth c D A kc ks Q nL (pM b cI cZ (up2 τ 16 i.toNatClampNeg x)) (pc + 1) lv st) : G p l e R s m args below meth c D A kc ks Q nL (pM b cI cZ τ) pc lv (.int x :: .int i :: .ref (b 16) :: st) := g_iast 16 C rfl hi rfl hd kk
theorem gM_ld17 {own : String} {i : Int32} (C : Cx p s m args meth c cc nL own ret D cI cZ A) (hi : vp_in i 2400) (hd : decode cc pc = .ok (.iaload, 1)) (kk : G p l e R s m args below meth c D A kc ks Q nL (pM b cI cZ τ) (pc + 1) lv (.int (τ 17 i.toNatClampNeg) :: st)) : G p l e R s m args below meth c D A kc ks Q nL (pM b cI cZ τ) pc lv (.int i :: .ref (b 17) :: st) := g_iald 17 C rfl hi hd kk
theorem gM_st17 {own : String} {i x : Int32} (C : Cx p s m args meth c cc nL own ret D cI cZ A) (hi : vp_in i 2400) (hd : decode cc pc = .ok (.iastore, 1)) (kk : G p l e R s m args below meth c D A kc ks Q nL (pM b cI cZ (up2 τ 17 i.toNatClampNeg x)) (pc + 1) lv st) : G p l e R s m args below meth c D A kc ks Q nL (pM b cI cZ τ) pc lv (.int x :: .int i :: .ref (b 17) :: st) := g_iast 17 C rfl hi rfl hd kk
theorem gX_ld2 {own : String} {i : Int32} (C : Cx p s m args meth c cc nL own ret D cI cZ A) (hi : vp_in i 16) (hd : decode cc pc = .ok (.iaload, 1)) (kk : G p l e R s m args below meth c D A kc ks Q nL (pX b cI cZ τ) (pc + 1) lv (.int (τ 2 i.toNatClampNeg) :: st)) : G p l e R s m args below meth c D A kc ks Q nL (pX b cI cZ τ) pc lv (.int i :: .ref (b 2) :: st) := g_iald 2 C rfl hi hd kk
theorem gX_st2 {own : String} {i x : Int32} (C : Cx p s m args meth c cc nL own ret D cI cZ A) (hi : vp_in i 16) (hd : decode cc pc = .ok (.iastore, 1)) (kk : G p l e R s m args below meth c D A kc ks Q nL (pX b cI cZ (up2 τ 2 i.toNatClampNeg x)) (pc + 1) lv st) : G p l e R s m args below meth c D A kc ks Q nL (pX b cI cZ τ) pc lv (.int x :: .int i :: .ref (b 2) :: st) := g_iast 2 C rfl hi rfl hd kk
theorem gX_ld3 {own : String} {i : Int32} (C : Cx p s m args meth c cc nL own ret D cI cZ A) (hi : vp_in i 16) (hd : decode cc pc = .ok (.iaload, 1)) (kk : G p l e R s m args below meth c D A kc ks Q nL (pX b cI cZ τ) (pc + 1) lv (.int (τ 3 i.toNatClampNeg) :: st)) : G p l e R s m args below meth c D A kc ks Q nL (pX b cI cZ τ) pc lv (.int i :: .ref (b 3) :: st) := g_iald 3 C rfl hi hd kk
theorem gX_st3 {own : String} {i x : Int32} (C : Cx p s m args meth c cc nL own ret D cI cZ A) (hi : vp_in i 16) (hd : decode cc pc = .ok (.iastore, 1)) (kk : G p l e R s m args below meth c D A kc ks Q nL (pX b cI cZ (up2 τ 3 i.toNatClampNeg x)) (pc + 1) lv st) : G p l e R s m args below meth c D A kc ks Q nL (pX b cI cZ τ) pc lv (.int x :: .int i :: .ref (b 3) :: st) := g_iast 3 C rfl hi rfl hd kk
theorem gX_ld4 {own : String} {i : Int32} (C : Cx p s m args meth c cc nL own ret D cI cZ A) (hi : vp_in i 16) (hd : decode cc pc = .ok (.iaload, 1)) (kk : G p l e R s m args below meth c D A kc ks Q nL (pX b cI cZ τ) (pc + 1) lv (.int (τ 4 i.toNatClampNeg) :: st)) : G p l e R s m args below meth c D A kc ks Q nL (pX b cI cZ τ) pc lv (.int i :: .ref (b 4) :: st) := g_iald 4 C rfl hi hd kk
theorem gX_st4 {own : String} {i x : Int32} (C : Cx p s m args meth c cc nL own ret D cI cZ A) (hi : vp_in i 16) (hd : decode cc pc = .ok (.iastore, 1)) (kk : G p l e R s m args below meth c D A kc ks Q nL (pX b cI cZ (up2 τ 4 i.toNatClampNeg x)) (pc + 1) lv st) : G p l e R s m args below meth c D A kc ks Q nL (pX b cI cZ τ) pc lv (.int x :: .int i :: .ref (b 4) :: st) := g_iast 4 C rfl hi rfl hd kk
theorem gX_ld5 {own : String} {i : Int32} (C : Cx p s m args meth c cc nL own ret D cI cZ A) (hi : vp_in i 16) (hd : decode cc pc = .ok (.iaload, 1)) (kk : G p l e R s m args below meth c D A kc ks Q nL (pX b cI cZ τ) (pc + 1) lv (.int (τ 5 i.toNatClampNeg) :: st)) : G p l e R s m args below meth c D A kc ks Q nL (pX b cI cZ τ) pc lv (.int i :: .ref (b 5) :: st) := g_iald 5 C rfl hi hd kk
theorem gX_st5 {own : String} {i x : Int32} (C : Cx p s m args meth c cc nL own ret D cI cZ A) (hi : vp_in i 16) (hd : decode cc pc = .ok (.iastore, 1)) (kk : G p l e R s m args below meth c D A kc ks Q nL (pX b cI cZ (up2 τ 5 i.toNatClampNeg x)) (pc + 1) lv st) : G p l e R s m args below meth c D A kc ks Q nL (pX b cI cZ τ) pc lv (.int x :: .int i :: .ref (b 5) :: st) := g_iast 5 C rfl hi rfl hd kk
theorem gX_ld6 {own : String} {i : Int32} (C : Cx p s m args meth c cc nL own ret D cI cZ A) (hi : vp_in i 16) (hd : decode cc pc = .ok (.iaload, 1)) (kk : G p l e R s m args below meth c D A kc ks Q nL (pX b cI cZ τ) (pc + 1) lv (.int (τ 6 i.toNatClampNeg) :: st)) : G p l e R s m args below meth c D A kc ks Q nL (pX b cI cZ τ) pc lv (.int i :: .ref (b 6) :: st) := g_iald 6 C rfl hi hd kk
theorem gX_st6 {own : String} {i x : Int32} (C : Cx p s m args meth c cc nL own ret D cI cZ A) (hi : vp_in i 16) (hd : decode cc pc = .ok (.iastore, 1)) (kk : G p l e R s m args below meth c D A kc ks Q nL (pX b cI cZ (up2 τ 6 i.toNatClampNeg x)) (pc + 1) lv st) : G p l e R s m args below meth c D A kc ks Q nL (pX b cI cZ τ) pc lv (.int x :: .int i :: .ref (b 6) :: st) := g_iast 6 C rfl hi rfl hd kk
theorem gX_ld8 {own : String} {i : Int32} (C : Cx p s m args meth c cc nL own ret D cI cZ A) (hi : vp_in i 8) (hd : decode cc pc = .ok (.iaload, 1)) (kk : G p l e R s m args below meth c D A kc ks Q nL (pX b cI cZ τ) (pc + 1) lv (.int (τ 8 i.toNatClampNeg) :: st)) : G p l e R s m args below meth c D A kc ks Q nL (pX b cI cZ τ) pc lv (.int i :: .ref (b 8) :: st) := g_iald 8 C rfl hi hd kk
theorem gX_st8 {own : String} {i x : Int32} (C : Cx p s m args meth c cc nL own ret D cI cZ A) (hi : vp_in i 8) (hd : decode cc pc = .ok (.iastore, 1)) (kk : G p l e R s m args below meth c D A kc ks Q nL (pX b cI cZ (up2 τ 8 i.toNatClampNeg x)) (pc + 1) lv st) : G p l e R s m args below meth c D A kc ks Q nL (pX b cI cZ τ) pc lv (.int x :: .int i :: .ref (b 8) :: st) := g_iast 8 C rfl hi rfl hd kk
theorem gX_ld10 {own : String} {i : Int32} (C : Cx p s m args meth c cc nL own ret D cI cZ A) (hi : vp_in i 60) (hd : decode cc pc = .ok (.iaload, 1)) (kk : G p l e R s m args below meth c D A kc ks Q nL (pX b cI cZ τ) (pc + 1) lv (.int (τ 10 i.toNatClampNeg) :: st)) : G p l e R s m args below meth c D A kc ks Q nL (pX b cI cZ τ) pc lv (.int i :: .ref (b 10) :: st) := g_iald 10 C rfl hi hd kk
theorem gX_st10 {own : String} {i x : Int32} (C : Cx p s m args meth c cc nL own ret D cI cZ A) (hi : vp_in i 60) (hd : decode cc pc = .ok (.iastore, 1)) (kk : G p l e R s m args below meth c D A kc ks Q nL (pX b cI cZ (up2 τ 10 i.toNatClampNeg x)) (pc + 1) lv st) : G p l e R s m args below meth c D A kc ks Q nL (pX b cI cZ τ) pc lv (.int x :: .int i :: .ref (b 10) :: st) := g_iast 10 C rfl hi rfl hd kk
theorem gX_ld11 {own : String} {i : Int32} (C : Cx p s m args meth c cc nL own ret D cI cZ A) (hi : vp_in i 60) (hd : decode cc pc = .ok (.iaload, 1)) (kk : G p l e R s m args below meth c D A kc ks Q nL (pX b cI cZ τ) (pc + 1) lv (.int (τ 11 i.toNatClampNeg) :: st)) : G p l e R s m args below meth c D A kc ks Q nL (pX b cI cZ τ) pc lv (.int i :: .ref (b 11) :: st) := g_iald 11 C rfl hi hd kk
theorem gX_st11 {own : String} {i x : Int32} (C : Cx p s m args meth c cc nL own ret D cI cZ A) (hi : vp_in i 60) (hd : decode cc pc = .ok (.iastore, 1)) (kk : G p l e R s m args below meth c D A kc ks Q nL (pX b cI cZ (up2 τ 11 i.toNatClampNeg x)) (pc + 1) lv st) : G p l e R s m args below meth c D A kc ks Q nL (pX b cI cZ τ) pc lv (.int x :: .int i :: .ref (b 11) :: st) := g_iast 11 C rfl hi rfl hd kk
theorem gX_ld12 {own : String} {i : Int32} (C : Cx p s m args meth c cc nL own ret D cI cZ A) (hi : vp_in i 60) (hd : decode cc pc = .ok (.iaload, 1)) (kk : G p l e R s m args below meth c D A kc ks Q nL (pX b cI cZ τ) (pc + 1) lv (.int (τ 12 i.toNatClampNeg) :: st)) : G p l e R s m args below meth c D A kc ks Q nL (pX b cI cZ τ) pc lv (.int i :: .ref (b 12) :: st) := g_iald 12 C rfl hi hd kk
theorem gX_st12 {own : String} {i x : Int32} (C : Cx p s m args meth c cc nL own ret D cI cZ A) (hi : vp_in i 60) (hd : decode cc pc = .ok (.iastore, 1)) (kk : G p l e R s m args below meth c D A kc ks Q nL (pX b cI cZ (up2 τ 12 i.toNatClampNeg x)) (pc + 1) lv st) : G p l e R s m args below meth c D A kc ks Q nL (pX b cI cZ τ) pc lv (.int x :: .int i :: .ref (b 12) :: st) := g_iast 12 C rfl hi rfl hd kk
theorem gX_ld13 {own : String} {i : Int32} (C : Cx p s m args meth c cc nL own ret D cI cZ A) (hi : vp_in i 60) (hd : decode cc pc = .ok (.iaload, 1)) (kk : G p l e R s m args below meth c D A kc ks Q nL (pX b cI cZ τ) (pc + 1) lv (.int (τ 13 i.toNatClampNeg) :: st)) : G p l e R s m args below meth c D A kc ks Q nL (pX b cI cZ τ) pc lv (.int i :: .ref (b 13) :: st) := g_iald 13 C rfl hi hd kk
theorem gX_st13 {own : String} {i x : Int32} (C : Cx p s m args meth c cc nL own ret D cI cZ A) (hi : vp_in i 60) (hd : decode cc pc = .ok (.iastore, 1)) (kk : G p l e R s m args below meth c D A kc ks Q nL (pX b cI cZ (up2 τ 13 i.toNatClampNeg x)) (pc + 1) lv st) : G p l e R s m args below meth c D A kc ks Q nL (pX b cI cZ τ) pc lv (.int x :: .int i :: .ref (b 13) :: st) := g_iast 13 C rfl hi rfl hd kk
theorem gX_ld14 {own : String} {i : Int32} (C : Cx p s m args meth c cc nL own ret D cI cZ A) (hi : vp_in i 60) (hd : decode cc pc = .ok (.iaload, 1)) (kk : G p l e R s m args below meth c D A kc ks Q nL (pX b cI cZ τ) (pc + 1) lv (.int (τ 14 i.toNatClampNeg) :: st)) : G p l e R s m args below meth c D A kc ks Q nL (pX b cI cZ τ) pc lv (.int i :: .ref (b 14) :: st) := g_iald 14 C rfl hi hd kk
theorem gX_st14 {own : String} {i x : Int32} (C : Cx p s m args meth c cc nL own ret D cI cZ A) (hi : vp_in i 60) (hd : decode cc pc = .ok (.iastore, 1)) (kk : G p l e R s m args below meth c D A kc ks Q nL (pX b cI cZ (up2 τ 14 i.toNatClampNeg x)) (pc + 1) lv st) : G p l e R s m args below meth c D A kc ks Q nL (pX b cI cZ τ) pc lv (.int x :: .int i :: .ref (b 14) :: st) := g_iast 14 C rfl hi rfl hd kk
theorem gX_ld15 {own : String} {i : Int32} (C : Cx p s m args meth c cc nL own ret D cI cZ A) (hi : vp_in i 128) (hd : decode cc pc = .ok (.iaload, 1)) (kk : G p l e R s m args below meth c D A kc ks Q nL (pX b cI cZ τ) (pc + 1) lv (.int (τ 15 i.toNatClampNeg) :: st)) : G p l e R s m args below meth c D A kc ks Q nL (pX b cI cZ τ) pc lv (.int i :: .ref (b 15) :: st) := g_iald 15 C rfl hi hd kk
theorem gX_st15 {own : String} {i x : Int32} (C : Cx p s m args meth c cc nL own ret D cI cZ A) (hi : vp_in i 128) (hd : decode cc pc = .ok (.iastore, 1)) (kk : G p l e R s m args below meth c D A kc ks Q nL (pX b cI cZ (up2 τ 15 i.toNatClampNeg x)) (pc + 1) lv st) : G p l e R s m args below meth c D A kc ks Q nL (pX b cI cZ τ) pc lv (.int x :: .int i :: .ref (b 15) :: st) := g_iast 15 C rfl hi rfl hd kk
theorem gM_ln1 {own : String} {j : Nat} (C : Cx p s m args meth c cc nL own ret D cI cZ A) (hj : j < 16) (hd : decode cc pc = .ok (.iaload, 1)) (kk : G p l e R s m args below meth c D A kc ks Q nL (pM b cI cZ τ) (pc + 1) lv (.int (τ 1 j) :: st)) : G p l e R s m args below meth c D A kc ks Q nL (pM b cI cZ τ) pc lv (.int (nI j) :: .ref (b 1) :: st) := gM_ld1 C (vp_in_nI hj (by decide)) hd (by rw [nI_clamp (by omega)]; exact kk)
theorem gM_lv1 {own : String} {j : Nat} {v : Int32} (C : Cx p s m args meth c cc nL own ret D cI cZ A) (hj : j < 16) (hv : τ 1 j = v) (hd : decode cc pc = .ok (.iaload, 1)) (kk : G p l e R s m args below meth c D A kc ks Q nL (pM b cI cZ τ) (pc + 1) lv (.int v :: st)) : G p l e R s m args below meth c D A kc ks Q nL (pM b cI cZ τ) pc lv (.int (nI j) :: .ref (b 1) :: st) := gM_ln1 C hj hd (by rw [hv]; exact kk)
theorem gM_sn1 {own : String} {j : Nat} {x : Int32} (C : Cx p s m args meth c cc nL own ret D cI cZ A) (hj : j < 16) (hd : decode cc pc = .ok (.iastore, 1)) (kk : G p l e R s m args below meth c D A kc ks Q nL (pM b cI cZ (up2 τ 1 j x)) (pc + 1) lv st) : G p l e R s m args below meth c D A kc ks Q nL (pM b cI cZ τ) pc lv (.int x :: .int (nI j) :: .ref (b 1) :: st) := gM_st1 C (vp_in_nI hj (by decide)) hd (by rw [nI_clamp (by omega)]; exact kk)
theorem gM_ln2 {own : String} {j : Nat} (C : Cx p s m args meth c cc nL own ret D cI cZ A) (hj : j < 16) (hd : decode cc pc = .ok (.iaload, 1)) (kk : G p l e R s m args below meth c D A kc ks Q nL (pM b cI cZ τ) (pc + 1) lv (.int (τ 2 j) :: st)) : G p l e R s m args below meth c D A kc ks Q nL (pM b cI cZ τ) pc lv (.int (nI j) :: .ref (b 2) :: st) := gM_ld2 C (vp_in_nI hj (by decide)) hd (by rw [nI_clamp (by omega)]; exact kk)
theorem gM_lv2 {own : String} {j : Nat} {v : Int32} (C : Cx p s m args meth c cc nL own ret D cI cZ A) (hj : j < 16) (hv : τ 2 j = v) (hd : decode cc pc = .ok (.iaload, 1)) (kk : G p l e R s m args below meth c D A kc ks Q nL (pM b cI cZ τ) (pc + 1) lv (.int v :: st)) : G p l e R s m args below meth c D A kc ks Q nL (pM b cI cZ τ) pc lv (.int (nI j) :: .ref (b 2) :: st) := gM_ln2 C hj hd (by rw [hv]; exact kk)
theorem gM_sn2 {own : String} {j : Nat} {x : Int32} (C : Cx p s m args meth c cc nL own ret D cI cZ A) (hj : j < 16) (hd : decode cc pc = .ok (.iastore, 1)) (kk : G p l e R s m args below meth c D A kc ks Q nL (pM b cI cZ (up2 τ 2 j x)) (pc + 1) lv st) : G p l e R s m args below meth c D A kc ks Q nL (pM b cI cZ τ) pc lv (.int x :: .int (nI j) :: .ref (b 2) :: st) := gM_st2 C (vp_in_nI hj (by decide)) hd (by rw [nI_clamp (by omega)]; exact kk)
theorem gM_ln3 {own : String} {j : Nat} (C : Cx p s m args meth c cc nL own ret D cI cZ A) (hj : j < 16) (hd : decode cc pc = .ok (.iaload, 1)) (kk : G p l e R s m args below meth c D A kc ks Q nL (pM b cI cZ τ) (pc + 1) lv (.int (τ 3 j) :: st)) : G p l e R s m args below meth c D A kc ks Q nL (pM b cI cZ τ) pc lv (.int (nI j) :: .ref (b 3) :: st) := gM_ld3 C (vp_in_nI hj (by decide)) hd (by rw [nI_clamp (by omega)]; exact kk)
theorem gM_lv3 {own : String} {j : Nat} {v : Int32} (C : Cx p s m args meth c cc nL own ret D cI cZ A) (hj : j < 16) (hv : τ 3 j = v) (hd : decode cc pc = .ok (.iaload, 1)) (kk : G p l e R s m args below meth c D A kc ks Q nL (pM b cI cZ τ) (pc + 1) lv (.int v :: st)) : G p l e R s m args below meth c D A kc ks Q nL (pM b cI cZ τ) pc lv (.int (nI j) :: .ref (b 3) :: st) := gM_ln3 C hj hd (by rw [hv]; exact kk)
theorem gM_sn3 {own : String} {j : Nat} {x : Int32} (C : Cx p s m args meth c cc nL own ret D cI cZ A) (hj : j < 16) (hd : decode cc pc = .ok (.iastore, 1)) (kk : G p l e R s m args below meth c D A kc ks Q nL (pM b cI cZ (up2 τ 3 j x)) (pc + 1) lv st) : G p l e R s m args below meth c D A kc ks Q nL (pM b cI cZ τ) pc lv (.int x :: .int (nI j) :: .ref (b 3) :: st) := gM_st3 C (vp_in_nI hj (by decide)) hd (by rw [nI_clamp (by omega)]; exact kk)
theorem gM_ln4 {own : String} {j : Nat} (C : Cx p s m args meth c cc nL own ret D cI cZ A) (hj : j < 16) (hd : decode cc pc = .ok (.iaload, 1)) (kk : G p l e R s m args below meth c D A kc ks Q nL (pM b cI cZ τ) (pc + 1) lv (.int (τ 4 j) :: st)) : G p l e R s m args below meth c D A kc ks Q nL (pM b cI cZ τ) pc lv (.int (nI j) :: .ref (b 4) :: st) := gM_ld4 C (vp_in_nI hj (by decide)) hd (by rw [nI_clamp (by omega)]; exact kk)
theorem gM_lv4 {own : String} {j : Nat} {v : Int32} (C : Cx p s m args meth c cc nL own ret D cI cZ A) (hj : j < 16) (hv : τ 4 j = v) (hd : decode cc pc = .ok (.iaload, 1)) (kk : G p l e R s m args below meth c D A kc ks Q nL (pM b cI cZ τ) (pc + 1) lv (.int v :: st)) : G p l e R s m args below meth c D A kc ks Q nL (pM b cI cZ τ) pc lv (.int (nI j) :: .ref (b 4) :: st) := gM_ln4 C hj hd (by rw [hv]; exact kk)
theorem gM_sn4 {own : String} {j : Nat} {x : Int32} (C : Cx p s m args meth c cc nL own ret D cI cZ A) (hj : j < 16) (hd : decode cc pc = .ok (.iastore, 1)) (kk : G p l e R s m args below meth c D A kc ks Q nL (pM b cI cZ (up2 τ 4 j x)) (pc + 1) lv st) : G p l e R s m args below meth c D A kc ks Q nL (pM b cI cZ τ) pc lv (.int x :: .int (nI j) :: .ref (b 4) :: st) := gM_st4 C (vp_in_nI hj (by decide)) hd (by rw [nI_clamp (by omega)]; exact kk)
theorem gM_ln5 {own : String} {j : Nat} (C : Cx p s m args meth c cc nL own ret D cI cZ A) (hj : j < 48) (hd : decode cc pc = .ok (.iaload, 1)) (kk : G p l e R s m args below meth c D A kc ks Q nL (pM b cI cZ τ) (pc + 1) lv (.int (τ 5 j) :: st)) : G p l e R s m args below meth c D A kc ks Q nL (pM b cI cZ τ) pc lv (.int (nI j) :: .ref (b 5) :: st) := gM_ld5 C (vp_in_nI hj (by decide)) hd (by rw [nI_clamp (by omega)]; exact kk)
theorem gM_lv5 {own : String} {j : Nat} {v : Int32} (C : Cx p s m args meth c cc nL own ret D cI cZ A) (hj : j < 48) (hv : τ 5 j = v) (hd : decode cc pc = .ok (.iaload, 1)) (kk : G p l e R s m args below meth c D A kc ks Q nL (pM b cI cZ τ) (pc + 1) lv (.int v :: st)) : G p l e R s m args below meth c D A kc ks Q nL (pM b cI cZ τ) pc lv (.int (nI j) :: .ref (b 5) :: st) := gM_ln5 C hj hd (by rw [hv]; exact kk)
theorem gM_sn5 {own : String} {j : Nat} {x : Int32} (C : Cx p s m args meth c cc nL own ret D cI cZ A) (hj : j < 48) (hd : decode cc pc = .ok (.iastore, 1)) (kk : G p l e R s m args below meth c D A kc ks Q nL (pM b cI cZ (up2 τ 5 j x)) (pc + 1) lv st) : G p l e R s m args below meth c D A kc ks Q nL (pM b cI cZ τ) pc lv (.int x :: .int (nI j) :: .ref (b 5) :: st) := gM_st5 C (vp_in_nI hj (by decide)) hd (by rw [nI_clamp (by omega)]; exact kk)
theorem gM_ln6 {own : String} {j : Nat} (C : Cx p s m args meth c cc nL own ret D cI cZ A) (hj : j < 256) (hd : decode cc pc = .ok (.baload, 1)) (kk : G p l e R s m args below meth c D A kc ks Q nL (pM b cI cZ τ) (pc + 1) lv (.int (τ 6 j) :: st)) : G p l e R s m args below meth c D A kc ks Q nL (pM b cI cZ τ) pc lv (.int (nI j) :: .ref (b 6) :: st) := gM_ld6 C (vp_in_nI hj (by decide)) hd (by rw [nI_clamp (by omega)]; exact kk)
theorem gM_lv6 {own : String} {j : Nat} {v : Int32} (C : Cx p s m args meth c cc nL own ret D cI cZ A) (hj : j < 256) (hv : τ 6 j = v) (hd : decode cc pc = .ok (.baload, 1)) (kk : G p l e R s m args below meth c D A kc ks Q nL (pM b cI cZ τ) (pc + 1) lv (.int v :: st)) : G p l e R s m args below meth c D A kc ks Q nL (pM b cI cZ τ) pc lv (.int (nI j) :: .ref (b 6) :: st) := gM_ln6 C hj hd (by rw [hv]; exact kk)
theorem gM_sn6 {own : String} {j : Nat} {x : Int32} (C : Cx p s m args meth c cc nL own ret D cI cZ A) (hj : j < 256) (hx : vp_nar .boolean x = x) (hd : decode cc pc = .ok (.bastore, 1)) (kk : G p l e R s m args below meth c D A kc ks Q nL (pM b cI cZ (up2 τ 6 j x)) (pc + 1) lv st) : G p l e R s m args below meth c D A kc ks Q nL (pM b cI cZ τ) pc lv (.int x :: .int (nI j) :: .ref (b 6) :: st) := gM_st6 C (vp_in_nI hj (by decide)) hx hd (by rw [nI_clamp (by omega)]; exact kk)
theorem gM_ln7 {own : String} {j : Nat} (C : Cx p s m args meth c cc nL own ret D cI cZ A) (hj : j < 8) (hd : decode cc pc = .ok (.iaload, 1)) (kk : G p l e R s m args below meth c D A kc ks Q nL (pM b cI cZ τ) (pc + 1) lv (.int (τ 7 j) :: st)) : G p l e R s m args below meth c D A kc ks Q nL (pM b cI cZ τ) pc lv (.int (nI j) :: .ref (b 7) :: st) := gM_ld7 C (vp_in_nI hj (by decide)) hd (by rw [nI_clamp (by omega)]; exact kk)
theorem gM_lv7 {own : String} {j : Nat} {v : Int32} (C : Cx p s m args meth c cc nL own ret D cI cZ A) (hj : j < 8) (hv : τ 7 j = v) (hd : decode cc pc = .ok (.iaload, 1)) (kk : G p l e R s m args below meth c D A kc ks Q nL (pM b cI cZ τ) (pc + 1) lv (.int v :: st)) : G p l e R s m args below meth c D A kc ks Q nL (pM b cI cZ τ) pc lv (.int (nI j) :: .ref (b 7) :: st) := gM_ln7 C hj hd (by rw [hv]; exact kk)
theorem gM_sn7 {own : String} {j : Nat} {x : Int32} (C : Cx p s m args meth c cc nL own ret D cI cZ A) (hj : j < 8) (hd : decode cc pc = .ok (.iastore, 1)) (kk : G p l e R s m args below meth c D A kc ks Q nL (pM b cI cZ (up2 τ 7 j x)) (pc + 1) lv st) : G p l e R s m args below meth c D A kc ks Q nL (pM b cI cZ τ) pc lv (.int x :: .int (nI j) :: .ref (b 7) :: st) := gM_st7 C (vp_in_nI hj (by decide)) hd (by rw [nI_clamp (by omega)]; exact kk)
theorem gM_ln8 {own : String} {j : Nat} (C : Cx p s m args meth c cc nL own ret D cI cZ A) (hj : j < 8) (hd : decode cc pc = .ok (.baload, 1)) (kk : G p l e R s m args below meth c D A kc ks Q nL (pM b cI cZ τ) (pc + 1) lv (.int (τ 8 j) :: st)) : G p l e R s m args below meth c D A kc ks Q nL (pM b cI cZ τ) pc lv (.int (nI j) :: .ref (b 8) :: st) := gM_ld8 C (vp_in_nI hj (by decide)) hd (by rw [nI_clamp (by omega)]; exact kk)
theorem gM_lv8 {own : String} {j : Nat} {v : Int32} (C : Cx p s m args meth c cc nL own ret D cI cZ A) (hj : j < 8) (hv : τ 8 j = v) (hd : decode cc pc = .ok (.baload, 1)) (kk : G p l e R s m args below meth c D A kc ks Q nL (pM b cI cZ τ) (pc + 1) lv (.int v :: st)) : G p l e R s m args below meth c D A kc ks Q nL (pM b cI cZ τ) pc lv (.int (nI j) :: .ref (b 8) :: st) := gM_ln8 C hj hd (by rw [hv]; exact kk)
theorem gM_sn8 {own : String} {j : Nat} {x : Int32} (C : Cx p s m args meth c cc nL own ret D cI cZ A) (hj : j < 8) (hx : vp_nar .boolean x = x) (hd : decode cc pc = .ok (.bastore, 1)) (kk : G p l e R s m args below meth c D A kc ks Q nL (pM b cI cZ (up2 τ 8 j x)) (pc + 1) lv st) : G p l e R s m args below meth c D A kc ks Q nL (pM b cI cZ τ) pc lv (.int x :: .int (nI j) :: .ref (b 8) :: st) := gM_st8 C (vp_in_nI hj (by decide)) hx hd (by rw [nI_clamp (by omega)]; exact kk)
theorem gM_ln9 {own : String} {j : Nat} (C : Cx p s m args meth c cc nL own ret D cI cZ A) (hj : j < 60) (hd : decode cc pc = .ok (.iaload, 1)) (kk : G p l e R s m args below meth c D A kc ks Q nL (pM b cI cZ τ) (pc + 1) lv (.int (τ 9 j) :: st)) : G p l e R s m args below meth c D A kc ks Q nL (pM b cI cZ τ) pc lv (.int (nI j) :: .ref (b 9) :: st) := gM_ld9 C (vp_in_nI hj (by decide)) hd (by rw [nI_clamp (by omega)]; exact kk)
theorem gM_lv9 {own : String} {j : Nat} {v : Int32} (C : Cx p s m args meth c cc nL own ret D cI cZ A) (hj : j < 60) (hv : τ 9 j = v) (hd : decode cc pc = .ok (.iaload, 1)) (kk : G p l e R s m args below meth c D A kc ks Q nL (pM b cI cZ τ) (pc + 1) lv (.int v :: st)) : G p l e R s m args below meth c D A kc ks Q nL (pM b cI cZ τ) pc lv (.int (nI j) :: .ref (b 9) :: st) := gM_ln9 C hj hd (by rw [hv]; exact kk)
theorem gM_sn9 {own : String} {j : Nat} {x : Int32} (C : Cx p s m args meth c cc nL own ret D cI cZ A) (hj : j < 60) (hd : decode cc pc = .ok (.iastore, 1)) (kk : G p l e R s m args below meth c D A kc ks Q nL (pM b cI cZ (up2 τ 9 j x)) (pc + 1) lv st) : G p l e R s m args below meth c D A kc ks Q nL (pM b cI cZ τ) pc lv (.int x :: .int (nI j) :: .ref (b 9) :: st) := gM_st9 C (vp_in_nI hj (by decide)) hd (by rw [nI_clamp (by omega)]; exact kk)
theorem gM_ln10 {own : String} {j : Nat} (C : Cx p s m args meth c cc nL own ret D cI cZ A) (hj : j < 60) (hd : decode cc pc = .ok (.iaload, 1)) (kk : G p l e R s m args below meth c D A kc ks Q nL (pM b cI cZ τ) (pc + 1) lv (.int (τ 10 j) :: st)) : G p l e R s m args below meth c D A kc ks Q nL (pM b cI cZ τ) pc lv (.int (nI j) :: .ref (b 10) :: st) := gM_ld10 C (vp_in_nI hj (by decide)) hd (by rw [nI_clamp (by omega)]; exact kk)
theorem gM_lv10 {own : String} {j : Nat} {v : Int32} (C : Cx p s m args meth c cc nL own ret D cI cZ A) (hj : j < 60) (hv : τ 10 j = v) (hd : decode cc pc = .ok (.iaload, 1)) (kk : G p l e R s m args below meth c D A kc ks Q nL (pM b cI cZ τ) (pc + 1) lv (.int v :: st)) : G p l e R s m args below meth c D A kc ks Q nL (pM b cI cZ τ) pc lv (.int (nI j) :: .ref (b 10) :: st) := gM_ln10 C hj hd (by rw [hv]; exact kk)
theorem gM_sn10 {own : String} {j : Nat} {x : Int32} (C : Cx p s m args meth c cc nL own ret D cI cZ A) (hj : j < 60) (hd : decode cc pc = .ok (.iastore, 1)) (kk : G p l e R s m args below meth c D A kc ks Q nL (pM b cI cZ (up2 τ 10 j x)) (pc + 1) lv st) : G p l e R s m args below meth c D A kc ks Q nL (pM b cI cZ τ) pc lv (.int x :: .int (nI j) :: .ref (b 10) :: st) := gM_st10 C (vp_in_nI hj (by decide)) hd (by rw [nI_clamp (by omega)]; exact kk)
theorem gM_ln11 {own : String} {j : Nat} (C : Cx p s m args meth c cc nL own ret D cI cZ A) (hj : j < 60) (hd : decode cc pc = .ok (.iaload, 1)) (kk : G p l e R s m args below meth c D A kc ks Q nL (pM b cI cZ τ) (pc + 1) lv (.int (τ 11 j) :: st)) : G p l e R s m args below meth c D A kc ks Q nL (pM b cI cZ τ) pc lv (.int (nI j) :: .ref (b 11) :: st) := gM_ld11 C (vp_in_nI hj (by decide)) hd (by rw [nI_clamp (by omega)]; exact kk)
theorem gM_lv11 {own : String} {j : Nat} {v : Int32} (C : Cx p s m args meth c cc nL own ret D cI cZ A) (hj : j < 60) (hv : τ 11 j = v) (hd : decode cc pc = .ok (.iaload, 1)) (kk : G p l e R s m args below meth c D A kc ks Q nL (pM b cI cZ τ) (pc + 1) lv (.int v :: st)) : G p l e R s m args below meth c D A kc ks Q nL (pM b cI cZ τ) pc lv (.int (nI j) :: .ref (b 11) :: st) := gM_ln11 C hj hd (by rw [hv]; exact kk)
theorem gM_sn11 {own : String} {j : Nat} {x : Int32} (C : Cx p s m args meth c cc nL own ret D cI cZ A) (hj : j < 60) (hd : decode cc pc = .ok (.iastore, 1)) (kk : G p l e R s m args below meth c D A kc ks Q nL (pM b cI cZ (up2 τ 11 j x)) (pc + 1) lv st) : G p l e R s m args below meth c D A kc ks Q nL (pM b cI cZ τ) pc lv (.int x :: .int (nI j) :: .ref (b 11) :: st) := gM_st11 C (vp_in_nI hj (by decide)) hd (by rw [nI_clamp (by omega)]; exact kk)
theorem gM_ln12 {own : String} {j : Nat} (C : Cx p s m args meth c cc nL own ret D cI cZ A) (hj : j < 60) (hd : decode cc pc = .ok (.iaload, 1)) (kk : G p l e R s m args below meth c D A kc ks Q nL (pM b cI cZ τ) (pc + 1) lv (.int (τ 12 j) :: st)) : G p l e R s m args below meth c D A kc ks Q nL (pM b cI cZ τ) pc lv (.int (nI j) :: .ref (b 12) :: st) := gM_ld12 C (vp_in_nI hj (by decide)) hd (by rw [nI_clamp (by omega)]; exact kk)
theorem gM_lv12 {own : String} {j : Nat} {v : Int32} (C : Cx p s m args meth c cc nL own ret D cI cZ A) (hj : j < 60) (hv : τ 12 j = v) (hd : decode cc pc = .ok (.iaload, 1)) (kk : G p l e R s m args below meth c D A kc ks Q nL (pM b cI cZ τ) (pc + 1) lv (.int v :: st)) : G p l e R s m args below meth c D A kc ks Q nL (pM b cI cZ τ) pc lv (.int (nI j) :: .ref (b 12) :: st) := gM_ln12 C hj hd (by rw [hv]; exact kk)
theorem gM_sn12 {own : String} {j : Nat} {x : Int32} (C : Cx p s m args meth c cc nL own ret D cI cZ A) (hj : j < 60) (hd : decode cc pc = .ok (.iastore, 1)) (kk : G p l e R s m args below meth c D A kc ks Q nL (pM b cI cZ (up2 τ 12 j x)) (pc + 1) lv st) : G p l e R s m args below meth c D A kc ks Q nL (pM b cI cZ τ) pc lv (.int x :: .int (nI j) :: .ref (b 12) :: st) := gM_st12 C (vp_in_nI hj (by decide)) hd (by rw [nI_clamp (by omega)]; exact kk)
theorem gM_ln13 {own : String} {j : Nat} (C : Cx p s m args meth c cc nL own ret D cI cZ A) (hj : j < 60) (hd : decode cc pc = .ok (.iaload, 1)) (kk : G p l e R s m args below meth c D A kc ks Q nL (pM b cI cZ τ) (pc + 1) lv (.int (τ 13 j) :: st)) : G p l e R s m args below meth c D A kc ks Q nL (pM b cI cZ τ) pc lv (.int (nI j) :: .ref (b 13) :: st) := gM_ld13 C (vp_in_nI hj (by decide)) hd (by rw [nI_clamp (by omega)]; exact kk)
theorem gM_lv13 {own : String} {j : Nat} {v : Int32} (C : Cx p s m args meth c cc nL own ret D cI cZ A) (hj : j < 60) (hv : τ 13 j = v) (hd : decode cc pc = .ok (.iaload, 1)) (kk : G p l e R s m args below meth c D A kc ks Q nL (pM b cI cZ τ) (pc + 1) lv (.int v :: st)) : G p l e R s m args below meth c D A kc ks Q nL (pM b cI cZ τ) pc lv (.int (nI j) :: .ref (b 13) :: st) := gM_ln13 C hj hd (by rw [hv]; exact kk)
theorem gM_sn13 {own : String} {j : Nat} {x : Int32} (C : Cx p s m args meth c cc nL own ret D cI cZ A) (hj : j < 60) (hd : decode cc pc = .ok (.iastore, 1)) (kk : G p l e R s m args below meth c D A kc ks Q nL (pM b cI cZ (up2 τ 13 j x)) (pc + 1) lv st) : G p l e R s m args below meth c D A kc ks Q nL (pM b cI cZ τ) pc lv (.int x :: .int (nI j) :: .ref (b 13) :: st) := gM_st13 C (vp_in_nI hj (by decide)) hd (by rw [nI_clamp (by omega)]; exact kk)
theorem gM_ln14 {own : String} {j : Nat} (C : Cx p s m args meth c cc nL own ret D cI cZ A) (hj : j < 3600) (hd : decode cc pc = .ok (.baload, 1)) (kk : G p l e R s m args below meth c D A kc ks Q nL (pM b cI cZ τ) (pc + 1) lv (.int (τ 14 j) :: st)) : G p l e R s m args below meth c D A kc ks Q nL (pM b cI cZ τ) pc lv (.int (nI j) :: .ref (b 14) :: st) := gM_ld14 C (vp_in_nI hj (by decide)) hd (by rw [nI_clamp (by omega)]; exact kk)
theorem gM_lv14 {own : String} {j : Nat} {v : Int32} (C : Cx p s m args meth c cc nL own ret D cI cZ A) (hj : j < 3600) (hv : τ 14 j = v) (hd : decode cc pc = .ok (.baload, 1)) (kk : G p l e R s m args below meth c D A kc ks Q nL (pM b cI cZ τ) (pc + 1) lv (.int v :: st)) : G p l e R s m args below meth c D A kc ks Q nL (pM b cI cZ τ) pc lv (.int (nI j) :: .ref (b 14) :: st) := gM_ln14 C hj hd (by rw [hv]; exact kk)
theorem gM_sn14 {own : String} {j : Nat} {x : Int32} (C : Cx p s m args meth c cc nL own ret D cI cZ A) (hj : j < 3600) (hx : vp_nar .boolean x = x) (hd : decode cc pc = .ok (.bastore, 1)) (kk : G p l e R s m args below meth c D A kc ks Q nL (pM b cI cZ (up2 τ 14 j x)) (pc + 1) lv st) : G p l e R s m args below meth c D A kc ks Q nL (pM b cI cZ τ) pc lv (.int x :: .int (nI j) :: .ref (b 14) :: st) := gM_st14 C (vp_in_nI hj (by decide)) hx hd (by rw [nI_clamp (by omega)]; exact kk)
theorem gM_ln15 {own : String} {j : Nat} (C : Cx p s m args meth c cc nL own ret D cI cZ A) (hj : j < 2400) (hd : decode cc pc = .ok (.iaload, 1)) (kk : G p l e R s m args below meth c D A kc ks Q nL (pM b cI cZ τ) (pc + 1) lv (.int (τ 15 j) :: st)) : G p l e R s m args below meth c D A kc ks Q nL (pM b cI cZ τ) pc lv (.int (nI j) :: .ref (b 15) :: st) := gM_ld15 C (vp_in_nI hj (by decide)) hd (by rw [nI_clamp (by omega)]; exact kk)
theorem gM_lv15 {own : String} {j : Nat} {v : Int32} (C : Cx p s m args meth c cc nL own ret D cI cZ A) (hj : j < 2400) (hv : τ 15 j = v) (hd : decode cc pc = .ok (.iaload, 1)) (kk : G p l e R s m args below meth c D A kc ks Q nL (pM b cI cZ τ) (pc + 1) lv (.int v :: st)) : G p l e R s m args below meth c D A kc ks Q nL (pM b cI cZ τ) pc lv (.int (nI j) :: .ref (b 15) :: st) := gM_ln15 C hj hd (by rw [hv]; exact kk)
theorem gM_sn15 {own : String} {j : Nat} {x : Int32} (C : Cx p s m args meth c cc nL own ret D cI cZ A) (hj : j < 2400) (hd : decode cc pc = .ok (.iastore, 1)) (kk : G p l e R s m args below meth c D A kc ks Q nL (pM b cI cZ (up2 τ 15 j x)) (pc + 1) lv st) : G p l e R s m args below meth c D A kc ks Q nL (pM b cI cZ τ) pc lv (.int x :: .int (nI j) :: .ref (b 15) :: st) := gM_st15 C (vp_in_nI hj (by decide)) hd (by rw [nI_clamp (by omega)]; exact kk)
theorem gM_ln16 {own : String} {j : Nat} (C : Cx p s m args meth c cc nL own ret D cI cZ A) (hj : j < 2400) (hd : decode cc pc = .ok (.iaload, 1)) (kk : G p l e R s m args below meth c D A kc ks Q nL (pM b cI cZ τ) (pc + 1) lv (.int (τ 16 j) :: st)) : G p l e R s m args below meth c D A kc ks Q nL (pM b cI cZ τ) pc lv (.int (nI j) :: .ref (b 16) :: st) := gM_ld16 C (vp_in_nI hj (by decide)) hd (by rw [nI_clamp (by omega)]; exact kk)
theorem gM_lv16 {own : String} {j : Nat} {v : Int32} (C : Cx p s m args meth c cc nL own ret D cI cZ A) (hj : j < 2400) (hv : τ 16 j = v) (hd : decode cc pc = .ok (.iaload, 1)) (kk : G p l e R s m args below meth c D A kc ks Q nL (pM b cI cZ τ) (pc + 1) lv (.int v :: st)) : G p l e R s m args below meth c D A kc ks Q nL (pM b cI cZ τ) pc lv (.int (nI j) :: .ref (b 16) :: st) := gM_ln16 C hj hd (by rw [hv]; exact kk)
theorem gM_sn16 {own : String} {j : Nat} {x : Int32} (C : Cx p s m args meth c cc nL own ret D cI cZ A) (hj : j < 2400) (hd : decode cc pc = .ok (.iastore, 1)) (kk : G p l e R s m args below meth c D A kc ks Q nL (pM b cI cZ (up2 τ 16 j x)) (pc + 1) lv st) : G p l e R s m args below meth c D A kc ks Q nL (pM b cI cZ τ) pc lv (.int x :: .int (nI j) :: .ref (b 16) :: st) := gM_st16 C (vp_in_nI hj (by decide)) hd (by rw [nI_clamp (by omega)]; exact kk)
theorem gM_ln17 {own : String} {j : Nat} (C : Cx p s m args meth c cc nL own ret D cI cZ A) (hj : j < 2400) (hd : decode cc pc = .ok (.iaload, 1)) (kk : G p l e R s m args below meth c D A kc ks Q nL (pM b cI cZ τ) (pc + 1) lv (.int (τ 17 j) :: st)) : G p l e R s m args below meth c D A kc ks Q nL (pM b cI cZ τ) pc lv (.int (nI j) :: .ref (b 17) :: st) := gM_ld17 C (vp_in_nI hj (by decide)) hd (by rw [nI_clamp (by omega)]; exact kk)
theorem gM_lv17 {own : String} {j : Nat} {v : Int32} (C : Cx p s m args meth c cc nL own ret D cI cZ A) (hj : j < 2400) (hv : τ 17 j = v) (hd : decode cc pc = .ok (.iaload, 1)) (kk : G p l e R s m args below meth c D A kc ks Q nL (pM b cI cZ τ) (pc + 1) lv (.int v :: st)) : G p l e R s m args below meth c D A kc ks Q nL (pM b cI cZ τ) pc lv (.int (nI j) :: .ref (b 17) :: st) := gM_ln17 C hj hd (by rw [hv]; exact kk)
theorem gM_sn17 {own : String} {j : Nat} {x : Int32} (C : Cx p s m args meth c cc nL own ret D cI cZ A) (hj : j < 2400) (hd : decode cc pc = .ok (.iastore, 1)) (kk : G p l e R s m args below meth c D A kc ks Q nL (pM b cI cZ (up2 τ 17 j x)) (pc + 1) lv st) : G p l e R s m args below meth c D A kc ks Q nL (pM b cI cZ τ) pc lv (.int x :: .int (nI j) :: .ref (b 17) :: st) := gM_st17 C (vp_in_nI hj (by decide)) hd (by rw [nI_clamp (by omega)]; exact kk)
theorem gX_ln2 {own : String} {j : Nat} (C : Cx p s m args meth c cc nL own ret D cI cZ A) (hj : j < 16) (hd : decode cc pc = .ok (.iaload, 1)) (kk : G p l e R s m args below meth c D A kc ks Q nL (pX b cI cZ τ) (pc + 1) lv (.int (τ 2 j) :: st)) : G p l e R s m args below meth c D A kc ks Q nL (pX b cI cZ τ) pc lv (.int (nI j) :: .ref (b 2) :: st) := gX_ld2 C (vp_in_nI hj (by decide)) hd (by rw [nI_clamp (by omega)]; exact kk)
theorem gX_lv2 {own : String} {j : Nat} {v : Int32} (C : Cx p s m args meth c cc nL own ret D cI cZ A) (hj : j < 16) (hv : τ 2 j = v) (hd : decode cc pc = .ok (.iaload, 1)) (kk : G p l e R s m args below meth c D A kc ks Q nL (pX b cI cZ τ) (pc + 1) lv (.int v :: st)) : G p l e R s m args below meth c D A kc ks Q nL (pX b cI cZ τ) pc lv (.int (nI j) :: .ref (b 2) :: st) := gX_ln2 C hj hd (by rw [hv]; exact kk)
theorem gX_sn2 {own : String} {j : Nat} {x : Int32} (C : Cx p s m args meth c cc nL own ret D cI cZ A) (hj : j < 16) (hd : decode cc pc = .ok (.iastore, 1)) (kk : G p l e R s m args below meth c D A kc ks Q nL (pX b cI cZ (up2 τ 2 j x)) (pc + 1) lv st) : G p l e R s m args below meth c D A kc ks Q nL (pX b cI cZ τ) pc lv (.int x :: .int (nI j) :: .ref (b 2) :: st) := gX_st2 C (vp_in_nI hj (by decide)) hd (by rw [nI_clamp (by omega)]; exact kk)
theorem gX_ln3 {own : String} {j : Nat} (C : Cx p s m args meth c cc nL own ret D cI cZ A) (hj : j < 16) (hd : decode cc pc = .ok (.iaload, 1)) (kk : G p l e R s m args below meth c D A kc ks Q nL (pX b cI cZ τ) (pc + 1) lv (.int (τ 3 j) :: st)) : G p l e R s m args below meth c D A kc ks Q nL (pX b cI cZ τ) pc lv (.int (nI j) :: .ref (b 3) :: st) := gX_ld3 C (vp_in_nI hj (by decide)) hd (by rw [nI_clamp (by omega)]; exact kk)
theorem gX_lv3 {own : String} {j : Nat} {v : Int32} (C : Cx p s m args meth c cc nL own ret D cI cZ A) (hj : j < 16) (hv : τ 3 j = v) (hd : decode cc pc = .ok (.iaload, 1)) (kk : G p l e R s m args below meth c D A kc ks Q nL (pX b cI cZ τ) (pc + 1) lv (.int v :: st)) : G p l e R s m args below meth c D A kc ks Q nL (pX b cI cZ τ) pc lv (.int (nI j) :: .ref (b 3) :: st) := gX_ln3 C hj hd (by rw [hv]; exact kk)
theorem gX_sn3 {own : String} {j : Nat} {x : Int32} (C : Cx p s m args meth c cc nL own ret D cI cZ A) (hj : j < 16) (hd : decode cc pc = .ok (.iastore, 1)) (kk : G p l e R s m args below meth c D A kc ks Q nL (pX b cI cZ (up2 τ 3 j x)) (pc + 1) lv st) : G p l e R s m args below meth c D A kc ks Q nL (pX b cI cZ τ) pc lv (.int x :: .int (nI j) :: .ref (b 3) :: st) := gX_st3 C (vp_in_nI hj (by decide)) hd (by rw [nI_clamp (by omega)]; exact kk)
theorem gX_ln4 {own : String} {j : Nat} (C : Cx p s m args meth c cc nL own ret D cI cZ A) (hj : j < 16) (hd : decode cc pc = .ok (.iaload, 1)) (kk : G p l e R s m args below meth c D A kc ks Q nL (pX b cI cZ τ) (pc + 1) lv (.int (τ 4 j) :: st)) : G p l e R s m args below meth c D A kc ks Q nL (pX b cI cZ τ) pc lv (.int (nI j) :: .ref (b 4) :: st) := gX_ld4 C (vp_in_nI hj (by decide)) hd (by rw [nI_clamp (by omega)]; exact kk)
theorem gX_lv4 {own : String} {j : Nat} {v : Int32} (C : Cx p s m args meth c cc nL own ret D cI cZ A) (hj : j < 16) (hv : τ 4 j = v) (hd : decode cc pc = .ok (.iaload, 1)) (kk : G p l e R s m args below meth c D A kc ks Q nL (pX b cI cZ τ) (pc + 1) lv (.int v :: st)) : G p l e R s m args below meth c D A kc ks Q nL (pX b cI cZ τ) pc lv (.int (nI j) :: .ref (b 4) :: st) := gX_ln4 C hj hd (by rw [hv]; exact kk)
theorem gX_sn4 {own : String} {j : Nat} {x : Int32} (C : Cx p s m args meth c cc nL own ret D cI cZ A) (hj : j < 16) (hd : decode cc pc = .ok (.iastore, 1)) (kk : G p l e R s m args below meth c D A kc ks Q nL (pX b cI cZ (up2 τ 4 j x)) (pc + 1) lv st) : G p l e R s m args below meth c D A kc ks Q nL (pX b cI cZ τ) pc lv (.int x :: .int (nI j) :: .ref (b 4) :: st) := gX_st4 C (vp_in_nI hj (by decide)) hd (by rw [nI_clamp (by omega)]; exact kk)
theorem gX_ln5 {own : String} {j : Nat} (C : Cx p s m args meth c cc nL own ret D cI cZ A) (hj : j < 16) (hd : decode cc pc = .ok (.iaload, 1)) (kk : G p l e R s m args below meth c D A kc ks Q nL (pX b cI cZ τ) (pc + 1) lv (.int (τ 5 j) :: st)) : G p l e R s m args below meth c D A kc ks Q nL (pX b cI cZ τ) pc lv (.int (nI j) :: .ref (b 5) :: st) := gX_ld5 C (vp_in_nI hj (by decide)) hd (by rw [nI_clamp (by omega)]; exact kk)
theorem gX_lv5 {own : String} {j : Nat} {v : Int32} (C : Cx p s m args meth c cc nL own ret D cI cZ A) (hj : j < 16) (hv : τ 5 j = v) (hd : decode cc pc = .ok (.iaload, 1)) (kk : G p l e R s m args below meth c D A kc ks Q nL (pX b cI cZ τ) (pc + 1) lv (.int v :: st)) : G p l e R s m args below meth c D A kc ks Q nL (pX b cI cZ τ) pc lv (.int (nI j) :: .ref (b 5) :: st) := gX_ln5 C hj hd (by rw [hv]; exact kk)
theorem gX_sn5 {own : String} {j : Nat} {x : Int32} (C : Cx p s m args meth c cc nL own ret D cI cZ A) (hj : j < 16) (hd : decode cc pc = .ok (.iastore, 1)) (kk : G p l e R s m args below meth c D A kc ks Q nL (pX b cI cZ (up2 τ 5 j x)) (pc + 1) lv st) : G p l e R s m args below meth c D A kc ks Q nL (pX b cI cZ τ) pc lv (.int x :: .int (nI j) :: .ref (b 5) :: st) := gX_st5 C (vp_in_nI hj (by decide)) hd (by rw [nI_clamp (by omega)]; exact kk)
theorem gX_ln6 {own : String} {j : Nat} (C : Cx p s m args meth c cc nL own ret D cI cZ A) (hj : j < 16) (hd : decode cc pc = .ok (.iaload, 1)) (kk : G p l e R s m args below meth c D A kc ks Q nL (pX b cI cZ τ) (pc + 1) lv (.int (τ 6 j) :: st)) : G p l e R s m args below meth c D A kc ks Q nL (pX b cI cZ τ) pc lv (.int (nI j) :: .ref (b 6) :: st) := gX_ld6 C (vp_in_nI hj (by decide)) hd (by rw [nI_clamp (by omega)]; exact kk)
theorem gX_lv6 {own : String} {j : Nat} {v : Int32} (C : Cx p s m args meth c cc nL own ret D cI cZ A) (hj : j < 16) (hv : τ 6 j = v) (hd : decode cc pc = .ok (.iaload, 1)) (kk : G p l e R s m args below meth c D A kc ks Q nL (pX b cI cZ τ) (pc + 1) lv (.int v :: st)) : G p l e R s m args below meth c D A kc ks Q nL (pX b cI cZ τ) pc lv (.int (nI j) :: .ref (b 6) :: st) := gX_ln6 C hj hd (by rw [hv]; exact kk)
theorem gX_sn6 {own : String} {j : Nat} {x : Int32} (C : Cx p s m args meth c cc nL own ret D cI cZ A) (hj : j < 16) (hd : decode cc pc = .ok (.iastore, 1)) (kk : G p l e R s m args below meth c D A kc ks Q nL (pX b cI cZ (up2 τ 6 j x)) (pc + 1) lv st) : G p l e R s m args below meth c D A kc ks Q nL (pX b cI cZ τ) pc lv (.int x :: .int (nI j) :: .ref (b 6) :: st) := gX_st6 C (vp_in_nI hj (by decide)) hd (by rw [nI_clamp (by omega)]; exact kk)
theorem gX_ln8 {own : String} {j : Nat} (C : Cx p s m args meth c cc nL own ret D cI cZ A) (hj : j < 8) (hd : decode cc pc = .ok (.iaload, 1)) (kk : G p l e R s m args below meth c D A kc ks Q nL (pX b cI cZ τ) (pc + 1) lv (.int (τ 8 j) :: st)) : G p l e R s m args below meth c D A kc ks Q nL (pX b cI cZ τ) pc lv (.int (nI j) :: .ref (b 8) :: st) := gX_ld8 C (vp_in_nI hj (by decide)) hd (by rw [nI_clamp (by omega)]; exact kk)
theorem gX_lv8 {own : String} {j : Nat} {v : Int32} (C : Cx p s m args meth c cc nL own ret D cI cZ A) (hj : j < 8) (hv : τ 8 j = v) (hd : decode cc pc = .ok (.iaload, 1)) (kk : G p l e R s m args below meth c D A kc ks Q nL (pX b cI cZ τ) (pc + 1) lv (.int v :: st)) : G p l e R s m args below meth c D A kc ks Q nL (pX b cI cZ τ) pc lv (.int (nI j) :: .ref (b 8) :: st) := gX_ln8 C hj hd (by rw [hv]; exact kk)
theorem gX_sn8 {own : String} {j : Nat} {x : Int32} (C : Cx p s m args meth c cc nL own ret D cI cZ A) (hj : j < 8) (hd : decode cc pc = .ok (.iastore, 1)) (kk : G p l e R s m args below meth c D A kc ks Q nL (pX b cI cZ (up2 τ 8 j x)) (pc + 1) lv st) : G p l e R s m args below meth c D A kc ks Q nL (pX b cI cZ τ) pc lv (.int x :: .int (nI j) :: .ref (b 8) :: st) := gX_st8 C (vp_in_nI hj (by decide)) hd (by rw [nI_clamp (by omega)]; exact kk)
theorem gX_ln10 {own : String} {j : Nat} (C : Cx p s m args meth c cc nL own ret D cI cZ A) (hj : j < 60) (hd : decode cc pc = .ok (.iaload, 1)) (kk : G p l e R s m args below meth c D A kc ks Q nL (pX b cI cZ τ) (pc + 1) lv (.int (τ 10 j) :: st)) : G p l e R s m args below meth c D A kc ks Q nL (pX b cI cZ τ) pc lv (.int (nI j) :: .ref (b 10) :: st) := gX_ld10 C (vp_in_nI hj (by decide)) hd (by rw [nI_clamp (by omega)]; exact kk)
theorem gX_lv10 {own : String} {j : Nat} {v : Int32} (C : Cx p s m args meth c cc nL own ret D cI cZ A) (hj : j < 60) (hv : τ 10 j = v) (hd : decode cc pc = .ok (.iaload, 1)) (kk : G p l e R s m args below meth c D A kc ks Q nL (pX b cI cZ τ) (pc + 1) lv (.int v :: st)) : G p l e R s m args below meth c D A kc ks Q nL (pX b cI cZ τ) pc lv (.int (nI j) :: .ref (b 10) :: st) := gX_ln10 C hj hd (by rw [hv]; exact kk)
theorem gX_sn10 {own : String} {j : Nat} {x : Int32} (C : Cx p s m args meth c cc nL own ret D cI cZ A) (hj : j < 60) (hd : decode cc pc = .ok (.iastore, 1)) (kk : G p l e R s m args below meth c D A kc ks Q nL (pX b cI cZ (up2 τ 10 j x)) (pc + 1) lv st) : G p l e R s m args below meth c D A kc ks Q nL (pX b cI cZ τ) pc lv (.int x :: .int (nI j) :: .ref (b 10) :: st) := gX_st10 C (vp_in_nI hj (by decide)) hd (by rw [nI_clamp (by omega)]; exact kk)
theorem gX_ln11 {own : String} {j : Nat} (C : Cx p s m args meth c cc nL own ret D cI cZ A) (hj : j < 60) (hd : decode cc pc = .ok (.iaload, 1)) (kk : G p l e R s m args below meth c D A kc ks Q nL (pX b cI cZ τ) (pc + 1) lv (.int (τ 11 j) :: st)) : G p l e R s m args below meth c D A kc ks Q nL (pX b cI cZ τ) pc lv (.int (nI j) :: .ref (b 11) :: st) := gX_ld11 C (vp_in_nI hj (by decide)) hd (by rw [nI_clamp (by omega)]; exact kk)
theorem gX_lv11 {own : String} {j : Nat} {v : Int32} (C : Cx p s m args meth c cc nL own ret D cI cZ A) (hj : j < 60) (hv : τ 11 j = v) (hd : decode cc pc = .ok (.iaload, 1)) (kk : G p l e R s m args below meth c D A kc ks Q nL (pX b cI cZ τ) (pc + 1) lv (.int v :: st)) : G p l e R s m args below meth c D A kc ks Q nL (pX b cI cZ τ) pc lv (.int (nI j) :: .ref (b 11) :: st) := gX_ln11 C hj hd (by rw [hv]; exact kk)
theorem gX_sn11 {own : String} {j : Nat} {x : Int32} (C : Cx p s m args meth c cc nL own ret D cI cZ A) (hj : j < 60) (hd : decode cc pc = .ok (.iastore, 1)) (kk : G p l e R s m args below meth c D A kc ks Q nL (pX b cI cZ (up2 τ 11 j x)) (pc + 1) lv st) : G p l e R s m args below meth c D A kc ks Q nL (pX b cI cZ τ) pc lv (.int x :: .int (nI j) :: .ref (b 11) :: st) := gX_st11 C (vp_in_nI hj (by decide)) hd (by rw [nI_clamp (by omega)]; exact kk)
theorem gX_ln12 {own : String} {j : Nat} (C : Cx p s m args meth c cc nL own ret D cI cZ A) (hj : j < 60) (hd : decode cc pc = .ok (.iaload, 1)) (kk : G p l e R s m args below meth c D A kc ks Q nL (pX b cI cZ τ) (pc + 1) lv (.int (τ 12 j) :: st)) : G p l e R s m args below meth c D A kc ks Q nL (pX b cI cZ τ) pc lv (.int (nI j) :: .ref (b 12) :: st) := gX_ld12 C (vp_in_nI hj (by decide)) hd (by rw [nI_clamp (by omega)]; exact kk)
theorem gX_lv12 {own : String} {j : Nat} {v : Int32} (C : Cx p s m args meth c cc nL own ret D cI cZ A) (hj : j < 60) (hv : τ 12 j = v) (hd : decode cc pc = .ok (.iaload, 1)) (kk : G p l e R s m args below meth c D A kc ks Q nL (pX b cI cZ τ) (pc + 1) lv (.int v :: st)) : G p l e R s m args below meth c D A kc ks Q nL (pX b cI cZ τ) pc lv (.int (nI j) :: .ref (b 12) :: st) := gX_ln12 C hj hd (by rw [hv]; exact kk)
theorem gX_sn12 {own : String} {j : Nat} {x : Int32} (C : Cx p s m args meth c cc nL own ret D cI cZ A) (hj : j < 60) (hd : decode cc pc = .ok (.iastore, 1)) (kk : G p l e R s m args below meth c D A kc ks Q nL (pX b cI cZ (up2 τ 12 j x)) (pc + 1) lv st) : G p l e R s m args below meth c D A kc ks Q nL (pX b cI cZ τ) pc lv (.int x :: .int (nI j) :: .ref (b 12) :: st) := gX_st12 C (vp_in_nI hj (by decide)) hd (by rw [nI_clamp (by omega)]; exact kk)
theorem gX_ln13 {own : String} {j : Nat} (C : Cx p s m args meth c cc nL own ret D cI cZ A) (hj : j < 60) (hd : decode cc pc = .ok (.iaload, 1)) (kk : G p l e R s m args below meth c D A kc ks Q nL (pX b cI cZ τ) (pc + 1) lv (.int (τ 13 j) :: st)) : G p l e R s m args below meth c D A kc ks Q nL (pX b cI cZ τ) pc lv (.int (nI j) :: .ref (b 13) :: st) := gX_ld13 C (vp_in_nI hj (by decide)) hd (by rw [nI_clamp (by omega)]; exact kk)
theorem gX_lv13 {own : String} {j : Nat} {v : Int32} (C : Cx p s m args meth c cc nL own ret D cI cZ A) (hj : j < 60) (hv : τ 13 j = v) (hd : decode cc pc = .ok (.iaload, 1)) (kk : G p l e R s m args below meth c D A kc ks Q nL (pX b cI cZ τ) (pc + 1) lv (.int v :: st)) : G p l e R s m args below meth c D A kc ks Q nL (pX b cI cZ τ) pc lv (.int (nI j) :: .ref (b 13) :: st) := gX_ln13 C hj hd (by rw [hv]; exact kk)
theorem gX_sn13 {own : String} {j : Nat} {x : Int32} (C : Cx p s m args meth c cc nL own ret D cI cZ A) (hj : j < 60) (hd : decode cc pc = .ok (.iastore, 1)) (kk : G p l e R s m args below meth c D A kc ks Q nL (pX b cI cZ (up2 τ 13 j x)) (pc + 1) lv st) : G p l e R s m args below meth c D A kc ks Q nL (pX b cI cZ τ) pc lv (.int x :: .int (nI j) :: .ref (b 13) :: st) := gX_st13 C (vp_in_nI hj (by decide)) hd (by rw [nI_clamp (by omega)]; exact kk)
theorem gX_ln14 {own : String} {j : Nat} (C : Cx p s m args meth c cc nL own ret D cI cZ A) (hj : j < 60) (hd : decode cc pc = .ok (.iaload, 1)) (kk : G p l e R s m args below meth c D A kc ks Q nL (pX b cI cZ τ) (pc + 1) lv (.int (τ 14 j) :: st)) : G p l e R s m args below meth c D A kc ks Q nL (pX b cI cZ τ) pc lv (.int (nI j) :: .ref (b 14) :: st) := gX_ld14 C (vp_in_nI hj (by decide)) hd (by rw [nI_clamp (by omega)]; exact kk)
theorem gX_lv14 {own : String} {j : Nat} {v : Int32} (C : Cx p s m args meth c cc nL own ret D cI cZ A) (hj : j < 60) (hv : τ 14 j = v) (hd : decode cc pc = .ok (.iaload, 1)) (kk : G p l e R s m args below meth c D A kc ks Q nL (pX b cI cZ τ) (pc + 1) lv (.int v :: st)) : G p l e R s m args below meth c D A kc ks Q nL (pX b cI cZ τ) pc lv (.int (nI j) :: .ref (b 14) :: st) := gX_ln14 C hj hd (by rw [hv]; exact kk)
theorem gX_sn14 {own : String} {j : Nat} {x : Int32} (C : Cx p s m args meth c cc nL own ret D cI cZ A) (hj : j < 60) (hd : decode cc pc = .ok (.iastore, 1)) (kk : G p l e R s m args below meth c D A kc ks Q nL (pX b cI cZ (up2 τ 14 j x)) (pc + 1) lv st) : G p l e R s m args below meth c D A kc ks Q nL (pX b cI cZ τ) pc lv (.int x :: .int (nI j) :: .ref (b 14) :: st) := gX_st14 C (vp_in_nI hj (by decide)) hd (by rw [nI_clamp (by omega)]; exact kk)
theorem gX_ln15 {own : String} {j : Nat} (C : Cx p s m args meth c cc nL own ret D cI cZ A) (hj : j < 128) (hd : decode cc pc = .ok (.iaload, 1)) (kk : G p l e R s m args below meth c D A kc ks Q nL (pX b cI cZ τ) (pc + 1) lv (.int (τ 15 j) :: st)) : G p l e R s m args below meth c D A kc ks Q nL (pX b cI cZ τ) pc lv (.int (nI j) :: .ref (b 15) :: st) := gX_ld15 C (vp_in_nI hj (by decide)) hd (by rw [nI_clamp (by omega)]; exact kk)
theorem gX_lv15 {own : String} {j : Nat} {v : Int32} (C : Cx p s m args meth c cc nL own ret D cI cZ A) (hj : j < 128) (hv : τ 15 j = v) (hd : decode cc pc = .ok (.iaload, 1)) (kk : G p l e R s m args below meth c D A kc ks Q nL (pX b cI cZ τ) (pc + 1) lv (.int v :: st)) : G p l e R s m args below meth c D A kc ks Q nL (pX b cI cZ τ) pc lv (.int (nI j) :: .ref (b 15) :: st) := gX_ln15 C hj hd (by rw [hv]; exact kk)
theorem gX_sn15 {own : String} {j : Nat} {x : Int32} (C : Cx p s m args meth c cc nL own ret D cI cZ A) (hj : j < 128) (hd : decode cc pc = .ok (.iastore, 1)) (kk : G p l e R s m args below meth c D A kc ks Q nL (pX b cI cZ (up2 τ 15 j x)) (pc + 1) lv st) : G p l e R s m args below meth c D A kc ks Q nL (pX b cI cZ τ) pc lv (.int x :: .int (nI j) :: .ref (b 15) :: st) := gX_st15 C (vp_in_nI hj (by decide)) hd (by rw [nI_clamp (by omega)]; exact kk)
theorem gn_X6_62 {v : Int32} (C : Cx p s m args meth c cc nL RX6 ret D cI cZ A) (hv : τ 0 0 = v) (hd : decode cc pc = .ok (.getfield 62, 3)) (kk : G p l e R s m args below meth c D A kc ks Q nL (pM b cI cZ τ) (pc + 3) lv (.int v :: st)) : G p l e R s m args below meth c D A kc ks Q nL (pM b cI cZ τ) pc lv (.ref (b 0) :: st) := gf_X6_62 C hd (by rw [hv]; exact kk)
theorem gn_X6_73 {v : Int32} (C : Cx p s m args meth c cc nL RX6 ret D cI cZ A) (hv : τ 0 1 = v) (hd : decode cc pc = .ok (.getfield 73, 3)) (kk : G p l e R s m args below meth c D A kc ks Q nL (pM b cI cZ τ) (pc + 3) lv (.int v :: st)) : G p l e R s m args below meth c D A kc ks Q nL (pM b cI cZ τ) pc lv (.ref (b 0) :: st) := gf_X6_73 C hd (by rw [hv]; exact kk)
theorem gn_X6_70 {v : Int32} (C : Cx p s m args meth c cc nL RX6 ret D cI cZ A) (hv : τ 0 2 = v) (hd : decode cc pc = .ok (.getfield 70, 3)) (kk : G p l e R s m args below meth c D A kc ks Q nL (pM b cI cZ τ) (pc + 3) lv (.int v :: st)) : G p l e R s m args below meth c D A kc ks Q nL (pM b cI cZ τ) pc lv (.ref (b 0) :: st) := gf_X6_70 C hd (by rw [hv]; exact kk)
theorem gn_X6_144 {v : Int32} (C : Cx p s m args meth c cc nL RX6 ret D cI cZ A) (hv : τ 0 3 = v) (hd : decode cc pc = .ok (.getfield 144, 3)) (kk : G p l e R s m args below meth c D A kc ks Q nL (pM b cI cZ τ) (pc + 3) lv (.int v :: st)) : G p l e R s m args below meth c D A kc ks Q nL (pM b cI cZ τ) pc lv (.ref (b 0) :: st) := gf_X6_144 C hd (by rw [hv]; exact kk)
theorem gn_X4_27 {v : Int32} (C : Cx p s m args meth c cc nL RX4 ret D cI cZ A) (hv : τ 0 0 = v) (hd : decode cc pc = .ok (.getfield 27, 3)) (kk : G p l e R s m args below meth c D A kc ks Q nL (pX b cI cZ τ) (pc + 3) lv (.int v :: st)) : G p l e R s m args below meth c D A kc ks Q nL (pX b cI cZ τ) pc lv (.ref (b 1) :: st) := gf_X4_27 C hd (by rw [hv]; exact kk)
theorem gn_X3_15 {v : Int32} (C : Cx p s m args meth c cc nL RX3 ret D cI cZ A) (hv : τ 0 1 = v) (hd : decode cc pc = .ok (.getfield 15, 3)) (kk : G p l e R s m args below meth c D A kc ks Q nL (pX b cI cZ τ) (pc + 3) lv (.int v :: st)) : G p l e R s m args below meth c D A kc ks Q nL (pX b cI cZ τ) pc lv (.ref (b 7) :: st) := gf_X3_15 C hd (by rw [hv]; exact kk)
theorem gn_X3_19 {v : Int32} (C : Cx p s m args meth c cc nL RX3 ret D cI cZ A) (hv : τ 0 2 = v) (hd : decode cc pc = .ok (.getfield 19, 3)) (kk : G p l e R s m args below meth c D A kc ks Q nL (pX b cI cZ τ) (pc + 3) lv (.int v :: st)) : G p l e R s m args below meth c D A kc ks Q nL (pX b cI cZ τ) pc lv (.ref (b 7) :: st) := gf_X3_19 C hd (by rw [hv]; exact kk)
theorem gn_X2_30 {v : Int32} (C : Cx p s m args meth c cc nL RX2 ret D cI cZ A) (hv : τ 0 3 = v) (hd : decode cc pc = .ok (.getfield 30, 3)) (kk : G p l e R s m args below meth c D A kc ks Q nL (pX b cI cZ τ) (pc + 3) lv (.int v :: st)) : G p l e R s m args below meth c D A kc ks Q nL (pX b cI cZ τ) pc lv (.ref (b 9) :: st) := gf_X2_30 C hd (by rw [hv]; exact kk)
theorem gn_X1_9 {v : Int32} (C : Cx p s m args meth c cc nL RX1 ret D cI cZ A) (hv : τ 0 4 = v) (hd : decode cc pc = .ok (.getfield 9, 3)) (kk : G p l e R s m args below meth c D A kc ks Q nL (pX b cI cZ τ) (pc + 3) lv (.int v :: st)) : G p l e R s m args below meth c D A kc ks Q nL (pX b cI cZ τ) pc lv (.ref (b 17) :: st) := gf_X1_9 C hd (by rw [hv]; exact kk)
theorem gn_X1_15 {v : Int32} (C : Cx p s m args meth c cc nL RX1 ret D cI cZ A) (hv : τ 0 5 = v) (hd : decode cc pc = .ok (.getfield 15, 3)) (kk : G p l e R s m args below meth c D A kc ks Q nL (pX b cI cZ τ) (pc + 3) lv (.int v :: st)) : G p l e R s m args below meth c D A kc ks Q nL (pX b cI cZ τ) pc lv (.ref (b 17) :: st) := gf_X1_15 C hd (by rw [hv]; exact kk)
theorem gn_X1_18 {v : Int32} (C : Cx p s m args meth c cc nL RX1 ret D cI cZ A) (hv : τ 0 6 = v) (hd : decode cc pc = .ok (.getfield 18, 3)) (kk : G p l e R s m args below meth c D A kc ks Q nL (pX b cI cZ τ) (pc + 3) lv (.int v :: st)) : G p l e R s m args below meth c D A kc ks Q nL (pX b cI cZ τ) pc lv (.ref (b 17) :: st) := gf_X1_18 C hd (by rw [hv]; exact kk)
theorem gn_X1_21 {v : Int32} (C : Cx p s m args meth c cc nL RX1 ret D cI cZ A) (hv : τ 0 7 = v) (hd : decode cc pc = .ok (.getfield 21, 3)) (kk : G p l e R s m args below meth c D A kc ks Q nL (pX b cI cZ τ) (pc + 3) lv (.int v :: st)) : G p l e R s m args below meth c D A kc ks Q nL (pX b cI cZ τ) pc lv (.ref (b 17) :: st) := gf_X1_21 C hd (by rw [hv]; exact kk)
theorem gn_X1_24 {v : Int32} (C : Cx p s m args meth c cc nL RX1 ret D cI cZ A) (hv : τ 0 8 = v) (hd : decode cc pc = .ok (.getfield 24, 3)) (kk : G p l e R s m args below meth c D A kc ks Q nL (pX b cI cZ τ) (pc + 3) lv (.int v :: st)) : G p l e R s m args below meth c D A kc ks Q nL (pX b cI cZ τ) pc lv (.ref (b 17) :: st) := gf_X1_24 C hd (by rw [hv]; exact kk)
end PIC
theorem mw_X5_clear : Mw yX5_clear cX5_clear 2 (some .int) 0 := ⟨im_X5_clear, se_X5_clear, in_X5, co_X5_clear, by decide +kernel⟩
theorem mw_X2_size : Mw yX2_size cX2_size 1 (some .int) 0 := ⟨im_X2_size, se_X2_size, in_X2, co_X2_size, by decide +kernel⟩
theorem mw_X4_forget : Mw yX4_forget cX4_forget 1 none 0 := ⟨im_X4_forget, se_X4_forget, in_X4, co_X4_forget, by decide +kernel⟩
theorem mw_X3_forget : Mw yX3_forget cX3_forget 1 none 0 := ⟨im_X3_forget, se_X3_forget, in_X3, co_X3_forget, by decide +kernel⟩
theorem mw_X2_forget : Mw yX2_forget cX2_forget 2 none 0 := ⟨im_X2_forget, se_X2_forget, in_X2, co_X2_forget, by decide +kernel⟩
theorem mw_X5_type : Mw yX5_type cX5_type 4 (some .int) 3 := ⟨im_X5_type, se_X5_type, in_X5, co_X5_type, by decide +kernel⟩
theorem mw_X4_has : Mw yX4_has cX4_has 2 (some .boolean) 1 := ⟨im_X4_has, se_X4_has, in_X4, co_X4_has, by decide +kernel⟩
theorem mw_X4_isInterface : Mw yX4_isInterface cX4_isInterface 2 (some .boolean) 1 := ⟨im_X4_isInterface, se_X4_isInterface, in_X4, co_X4_isInterface, by decide +kernel⟩
theorem mw_X4_isFull : Mw yX4_isFull cX4_isFull 1 (some .boolean) 0 := ⟨im_X4_isFull, se_X4_isFull, in_X4, co_X4_isFull, by decide +kernel⟩
theorem mw_X4_add : Mw yX4_add cX4_add 5 (some .int) 3 := ⟨im_X4_add, se_X4_add, in_X4, co_X4_add, by decide +kernel⟩
theorem mw_X4_findAbove : Mw yX4_findAbove cX4_findAbove 5 none 1 := ⟨im_X4_findAbove, se_X4_findAbove, in_X4, co_X4_findAbove, by decide +kernel⟩
theorem mw_X5_hasBit : Ms yX5_hasBit cX5_hasBit 2 (some .boolean) 2 := ⟨sm_X5_hasBit, in_X5, co_X5_hasBit, by decide +kernel⟩
theorem mw_X5_face : Mw yX5_face cX5_face 3 (some .int) 2 := ⟨im_X5_face, se_X5_face, in_X5, co_X5_face, by decide +kernel⟩
theorem mw_X4_hasFace : Mw yX4_hasFace cX4_hasFace 3 (some .boolean) 2 := ⟨im_X4_hasFace, se_X4_hasFace, in_X4, co_X4_hasFace, by decide +kernel⟩
theorem mw_X4_countFaces : Mw yX4_countFaces cX4_countFaces 2 (some .int) 1 := ⟨im_X4_countFaces, se_X4_countFaces, in_X4, co_X4_countFaces, by decide +kernel⟩
theorem mw_J6_bitCount_0f7a4 : Ms yJ6_bitCount_0f7a4 cJ6_bitCount_0f7a4 1 (some .int) 1 := ⟨sm_J6_bitCount_0f7a4, in_J6, co_J6_bitCount_0f7a4, by decide +kernel⟩
theorem mw_X4_addFace : Mw yX4_addFace cX4_addFace 4 (some .int) 2 := ⟨im_X4_addFace, se_X4_addFace, in_X4, co_X4_addFace, by decide +kernel⟩
theorem mw_X5_thrown0 : Mw yX5_thrown0 cX5_thrown0 3 (some .int) 2 := ⟨im_X5_thrown0, se_X5_thrown0, in_X5, co_X5_thrown0, by decide +kernel⟩
theorem mw_X3_has : Mw yX3_has cX3_has 2 (some .boolean) 1 := ⟨im_X3_has, se_X3_has, in_X3, co_X3_has, by decide +kernel⟩
theorem mw_X3_isFull : Mw yX3_isFull cX3_isFull 1 (some .boolean) 0 := ⟨im_X3_isFull, se_X3_isFull, in_X3, co_X3_isFull, by decide +kernel⟩
theorem mw_X3_add : Mw yX3_add cX3_add 4 (some .int) 2 := ⟨im_X3_add, se_X3_add, in_X3, co_X3_add, by decide +kernel⟩
theorem mw_X5_member : Mw yX5_member cX5_member 5 (some .int) 4 := ⟨im_X5_member, se_X5_member, in_X5, co_X5_member, by decide +kernel⟩
theorem mw_X5_isMissingType : Mw yX5_isMissingType cX5_isMissingType 2 (some .boolean) 1 := ⟨im_X5_isMissingType, se_X5_isMissingType, in_X5, co_X5_isMissingType, by decide +kernel⟩
theorem mw_X5_areMarks : Ms yX5_areMarks cX5_areMarks 2 (some .boolean) 2 := ⟨sm_X5_areMarks, in_X5, co_X5_areMarks, by decide +kernel⟩
theorem mw_X5_areInterfaceMarks : Ms yX5_areInterfaceMarks cX5_areInterfaceMarks 2 (some .boolean) 1 := ⟨sm_X5_areInterfaceMarks, in_X5, co_X5_areInterfaceMarks, by decide +kernel⟩
theorem mw_X5_areClassMarks : Ms yX5_areClassMarks cX5_areClassMarks 1 (some .boolean) 1 := ⟨sm_X5_areClassMarks, in_X5, co_X5_areClassMarks, by decide +kernel⟩
theorem mw_X2_at : Mw yX2_at cX2_at 4 (some .int) 2 := ⟨im_X2_at, se_X2_at, in_X2, co_X2_at, by decide +kernel⟩
theorem mw_X2_isFull : Mw yX2_isFull cX2_isFull 1 (some .boolean) 0 := ⟨im_X2_isFull, se_X2_isFull, in_X2, co_X2_isFull, by decide +kernel⟩
theorem mw_X2_add : Mw yX2_add cX2_add 7 (some .int) 4 := ⟨im_X2_add, se_X2_add, in_X2, co_X2_add, by decide +kernel⟩
theorem mw_X5_throws0 : Mw yX5_throws0 cX5_throws0 3 (some .int) 2 := ⟨im_X5_throws0, se_X5_throws0, in_X5, co_X5_throws0, by decide +kernel⟩
theorem mw_X2_has : Mw yX2_has cX2_has 2 (some .boolean) 1 := ⟨im_X2_has, se_X2_has, in_X2, co_X2_has, by decide +kernel⟩
theorem mw_X2_addThrow : Mw yX2_addThrow cX2_addThrow 4 (some .boolean) 2 := ⟨im_X2_addThrow, se_X2_addThrow, in_X2, co_X2_addThrow, by decide +kernel⟩
theorem mw_X5_oneIf : Ms yX5_oneIf cX5_oneIf 1 (some .int) 1 := ⟨sm_X5_oneIf, in_X5, co_X5_oneIf, by decide +kernel⟩
theorem mw_X5_overrides : Mw yX5_overrides cX5_overrides 3 (some .int) 2 := ⟨im_X5_overrides, se_X5_overrides, in_X5, co_X5_overrides, by decide +kernel⟩
theorem mw_X2_isOverriding : Mw yX2_isOverriding cX2_isOverriding 3 (some .boolean) 2 := ⟨im_X2_isOverriding, se_X2_isOverriding, in_X2, co_X2_isOverriding, by decide +kernel⟩
theorem mw_X2_isOfNameBelow : Mw yX2_isOfNameBelow cX2_isOfNameBelow 3 (some .boolean) 2 := ⟨im_X2_isOfNameBelow, se_X2_isOfNameBelow, in_X2, co_X2_isOfNameBelow, by decide +kernel⟩
theorem mw_X4_isBelow : Mw yX4_isBelow cX4_isBelow 3 (some .boolean) 2 := ⟨im_X4_isBelow, se_X4_isBelow, in_X4, co_X4_isBelow, by decide +kernel⟩
theorem mw_X2_hasMark : Mw yX2_hasMark cX2_hasMark 3 (some .boolean) 2 := ⟨im_X2_hasMark, se_X2_hasMark, in_X2, co_X2_hasMark, by decide +kernel⟩
theorem mw_X2_isInheritable : Mw yX2_isInheritable cX2_isInheritable 2 (some .boolean) 1 := ⟨im_X2_isInheritable, se_X2_isInheritable, in_X2, co_X2_isInheritable, by decide +kernel⟩
theorem mw_X2_isReached : Mw yX2_isReached cX2_isReached 9 (some .boolean) 2 := ⟨im_X2_isReached, se_X2_isReached, in_X2, co_X2_isReached, by decide +kernel⟩
theorem mw_X4_packetOf : Mw yX4_packetOf cX4_packetOf 2 (some .int) 1 := ⟨im_X4_packetOf, se_X4_packetOf, in_X4, co_X4_packetOf, by decide +kernel⟩
theorem mw_X4_parentOf : Mw yX4_parentOf cX4_parentOf 2 (some .int) 1 := ⟨im_X4_parentOf, se_X4_parentOf, in_X4, co_X4_parentOf, by decide +kernel⟩
theorem mw_X5_hides : Mw yX5_hides cX5_hides 3 (some .int) 2 := ⟨im_X5_hides, se_X5_hides, in_X5, co_X5_hides, by decide +kernel⟩
theorem mw_X2_isHiding : Mw yX2_isHiding cX2_isHiding 3 (some .boolean) 2 := ⟨im_X2_isHiding, se_X2_isHiding, in_X2, co_X2_isHiding, by decide +kernel⟩
theorem mw_X2_isSeen : Mw yX2_isSeen cX2_isSeen 3 (some .boolean) 2 := ⟨im_X2_isSeen, se_X2_isSeen, in_X2, co_X2_isSeen, by decide +kernel⟩
theorem mw_X5_chosen : Mw yX5_chosen cX5_chosen 3 (some .int) 2 := ⟨im_X5_chosen, se_X5_chosen, in_X5, co_X5_chosen, by decide +kernel⟩
theorem mw_X2_typeOf : Mw yX2_typeOf cX2_typeOf 2 (some .int) 1 := ⟨im_X2_typeOf, se_X2_typeOf, in_X2, co_X2_typeOf, by decide +kernel⟩
theorem mw_X4_isSub : Mw yX4_isSub cX4_isSub 3 (some .boolean) 2 := ⟨im_X4_isSub, se_X4_isSub, in_X4, co_X4_isSub, by decide +kernel⟩
theorem mw_X0_choose : Mw yX0_choose cX0_choose 8 (some .int) 2 := ⟨im_X0_choose, se_X0_choose, in_X0, co_X0_choose, by decide +kernel⟩
theorem mw_X2_nameOf : Mw yX2_nameOf cX2_nameOf 2 (some .int) 1 := ⟨im_X2_nameOf, se_X2_nameOf, in_X2, co_X2_nameOf, by decide +kernel⟩
theorem mw_X0_chooseOfInterfaces : Mw yX0_chooseOfInterfaces cX0_chooseOfInterfaces 6 (some .int) 2 := ⟨im_X0_chooseOfInterfaces, se_X0_chooseOfInterfaces, in_X0, co_X0_chooseOfInterfaces, by decide +kernel⟩
theorem mw_X4_allAbove : Mw yX4_allAbove cX4_allAbove 2 (some .int) 1 := ⟨im_X4_allAbove, se_X4_allAbove, in_X4, co_X4_allAbove, by decide +kernel⟩
theorem mw_X0_leastOrFight : Mw yX0_leastOrFight cX0_leastOrFight 7 (some .int) 2 := ⟨im_X0_leastOrFight, se_X0_leastOrFight, in_X0, co_X0_leastOrFight, by decide +kernel⟩
theorem mw_X4_size : Mw yX4_size cX4_size 1 (some .int) 0 := ⟨im_X4_size, se_X4_size, in_X4, co_X4_size, by decide +kernel⟩
theorem mw_J9_min_7cf53 : Ms yJ9_min_7cf53 cJ9_min_7cf53 2 (some .int) 2 := ⟨sm_J9_min_7cf53, in_J9, co_J9_min_7cf53, by decide +kernel⟩
theorem mw_X5_sub : Mw yX5_sub cX5_sub 3 (some .int) 2 := ⟨im_X5_sub, se_X5_sub, in_X5, co_X5_sub, by decide +kernel⟩
theorem mw_X5_check : Mw yX5_check cX5_check 2 (some .int) 1 := ⟨im_X5_check, se_X5_check, in_X5, co_X5_check, by decide +kernel⟩
theorem mw_X1_walk : Mw yX1_walk cX1_walk 4 (some .int) 2 := ⟨im_X1_walk, se_X1_walk, in_X1, co_X1_walk, by decide +kernel⟩
theorem mw_X1_walkOwn : Mw yX1_walkOwn cX1_walkOwn 5 none 1 := ⟨im_X1_walkOwn, se_X1_walkOwn, in_X1, co_X1_walkOwn, by decide +kernel⟩
theorem mw_X2_isMixed : Mw yX2_isMixed cX2_isMixed 3 (some .boolean) 2 := ⟨im_X2_isMixed, se_X2_isMixed, in_X2, co_X2_isMixed, by decide +kernel⟩
theorem mw_X1_noteIf : Mw yX1_noteIf cX1_noteIf 5 none 4 := ⟨im_X1_noteIf, se_X1_noteIf, in_X1, co_X1_noteIf, by decide +kernel⟩
theorem mw_X1_note : Mw yX1_note cX1_note 4 none 3 := ⟨im_X1_note, se_X1_note, in_X1, co_X1_note, by decide +kernel⟩
theorem mw_X1_compare : Mw yX1_compare cX1_compare 3 none 2 := ⟨im_X1_compare, se_X1_compare, in_X1, co_X1_compare, by decide +kernel⟩
theorem mw_X2_accessOf : Mw yX2_accessOf cX2_accessOf 2 (some .int) 1 := ⟨im_X2_accessOf, se_X2_accessOf, in_X2, co_X2_accessOf, by decide +kernel⟩
theorem mw_X2_resultOf : Mw yX2_resultOf cX2_resultOf 2 (some .int) 1 := ⟨im_X2_resultOf, se_X2_resultOf, in_X2, co_X2_resultOf, by decide +kernel⟩
theorem mw_X1_suits : Mw yX1_suits cX1_suits 3 (some .boolean) 2 := ⟨im_X1_suits, se_X1_suits, in_X1, co_X1_suits, by decide +kernel⟩
theorem mw_X2_thrownBy : Mw yX2_thrownBy cX2_thrownBy 2 (some .int) 1 := ⟨im_X2_thrownBy, se_X2_thrownBy, in_X2, co_X2_thrownBy, by decide +kernel⟩
theorem mw_X3_areAllowed : Mw yX3_areAllowed cX3_areAllowed 4 (some .boolean) 2 := ⟨im_X3_areAllowed, se_X3_areAllowed, in_X3, co_X3_areAllowed, by decide +kernel⟩
theorem mw_X4_isPlainClass : Mw yX4_isPlainClass cX4_isPlainClass 2 (some .boolean) 1 := ⟨im_X4_isPlainClass, se_X4_isPlainClass, in_X4, co_X4_isPlainClass, by decide +kernel⟩
theorem mw_X1_walkInherited : Mw yX1_walkInherited cX1_walkInherited 3 none 1 := ⟨im_X1_walkInherited, se_X1_walkInherited, in_X1, co_X1_walkInherited, by decide +kernel⟩
theorem mw_X1_noteChosen : Mw yX1_noteChosen cX1_noteChosen 4 none 3 := ⟨im_X1_noteChosen, se_X1_noteChosen, in_X1, co_X1_noteChosen, by decide +kernel⟩
theorem mw_X1_isMetByChance : Mw yX1_isMetByChance cX1_isMetByChance 5 (some .boolean) 2 := ⟨im_X1_isMetByChance, se_X1_isMetByChance, in_X1, co_X1_isMetByChance, by decide +kernel⟩
theorem mw_X5_fault : Mw yX5_fault cX5_fault 4 (some .int) 3 := ⟨im_X5_fault, se_X5_fault, in_X5, co_X5_fault, by decide +kernel⟩
theorem mw_X1_pickedPart : Mw yX1_pickedPart cX1_pickedPart 2 (some .int) 1 := ⟨im_X1_pickedPart, se_X1_pickedPart, in_X1, co_X1_pickedPart, by decide +kernel⟩
theorem mw_X5_bridges : Mw yX5_bridges cX5_bridges 4 (some .int) 1 := ⟨im_X5_bridges, se_X5_bridges, in_X5, co_X5_bridges, by decide +kernel⟩
theorem mw_X2_countBridges : Mw yX2_countBridges cX2_countBridges 4 (some .int) 1 := ⟨im_X2_countBridges, se_X2_countBridges, in_X2, co_X2_countBridges, by decide +kernel⟩
theorem mw_X5_first : Mw yX5_first cX5_first 6 (some .int) 1 := ⟨im_X5_first, se_X5_first, in_X5, co_X5_first, by decide +kernel⟩
theorem mw_X2_countOverridden : Mw yX2_countOverridden cX2_countOverridden 4 (some .int) 1 := ⟨im_X2_countOverridden, se_X2_countOverridden, in_X2, co_X2_countOverridden, by decide +kernel⟩
theorem mw_X5_told : Mw yX5_told cX5_told 4 (some .int) 1 := ⟨im_X5_told, se_X5_told, in_X5, co_X5_told, by decide +kernel⟩
theorem mw_X3_size : Mw yX3_size cX3_size 1 (some .int) 0 := ⟨im_X3_size, se_X3_size, in_X3, co_X3_size, by decide +kernel⟩
theorem mw_X6_clear : Mw yX6_clear cX6_clear 2 (some .int) 0 := ⟨im_X6_clear, se_X6_clear, in_X6, co_X6_clear, by decide +kernel⟩
theorem mw_X6_type : Mw yX6_type cX6_type 4 (some .int) 3 := ⟨im_X6_type, se_X6_type, in_X6, co_X6_type, by decide +kernel⟩
theorem mw_X6_isType : Mw yX6_isType cX6_isType 2 (some .boolean) 1 := ⟨im_X6_isType, se_X6_isType, in_X6, co_X6_isType, by decide +kernel⟩
theorem mw_X6_in : Ms yX6_in cX6_in 3 (some .boolean) 3 := ⟨sm_X6_in, in_X6, co_X6_in, by decide +kernel⟩
theorem mw_X6_rise : Mw yX6_rise cX6_rise 3 none 0 := ⟨im_X6_rise, se_X6_rise, in_X6, co_X6_rise, by decide +kernel⟩
theorem mw_X6_lift : Mw yX6_lift cX6_lift 4 none 2 := ⟨im_X6_lift, se_X6_lift, in_X6, co_X6_lift, by decide +kernel⟩
theorem mw_X6_work : Mw yX6_work cX6_work 5 none 0 := ⟨im_X6_work, se_X6_work, in_X6, co_X6_work, by decide +kernel⟩
theorem mw_X6_isBelow : Mw yX6_isBelow cX6_isBelow 3 (some .boolean) 2 := ⟨im_X6_isBelow, se_X6_isBelow, in_X6, co_X6_isBelow, by decide +kernel⟩
theorem mw_X6_isStatic : Mw yX6_isStatic cX6_isStatic 2 (some .boolean) 1 := ⟨im_X6_isStatic, se_X6_isStatic, in_X6, co_X6_isStatic, by decide +kernel⟩
theorem mw_X6_has : Mw yX6_has cX6_has 3 (some .boolean) 2 := ⟨im_X6_has, se_X6_has, in_X6, co_X6_has, by decide +kernel⟩
theorem mw_X6_isPrivate : Mw yX6_isPrivate cX6_isPrivate 2 (some .boolean) 1 := ⟨im_X6_isPrivate, se_X6_isPrivate, in_X6, co_X6_isPrivate, by decide +kernel⟩
theorem mw_X6_goesOver : Mw yX6_goesOver cX6_goesOver 4 (some .boolean) 2 := ⟨im_X6_goesOver, se_X6_goesOver, in_X6, co_X6_goesOver, by decide +kernel⟩
theorem mw_X6_isInterface : Mw yX6_isInterface cX6_isInterface 2 (some .boolean) 1 := ⟨im_X6_isInterface, se_X6_isInterface, in_X6, co_X6_isInterface, by decide +kernel⟩
theorem mw_X6_isSeen : Mw yX6_isSeen cX6_isSeen 3 (some .boolean) 2 := ⟨im_X6_isSeen, se_X6_isSeen, in_X6, co_X6_isSeen, by decide +kernel⟩
theorem mw_X6_access : Mw yX6_access cX6_access 2 (some .int) 1 := ⟨im_X6_access, se_X6_access, in_X6, co_X6_access, by decide +kernel⟩
theorem mw_X6_face : Mw yX6_face cX6_face 5 (some .int) 2 := ⟨im_X6_face, se_X6_face, in_X6, co_X6_face, by decide +kernel⟩
theorem mw_X6_sub : Mw yX6_sub cX6_sub 3 (some .int) 2 := ⟨im_X6_sub, se_X6_sub, in_X6, co_X6_sub, by decide +kernel⟩
theorem mw_X6_isSub : Mw yX6_isSub cX6_isSub 3 (some .boolean) 2 := ⟨im_X6_isSub, se_X6_isSub, in_X6, co_X6_isSub, by decide +kernel⟩
theorem mw_X6_thrown0 : Mw yX6_thrown0 cX6_thrown0 3 (some .int) 2 := ⟨im_X6_thrown0, se_X6_thrown0, in_X6, co_X6_thrown0, by decide +kernel⟩
theorem mw_X6_throws0 : Mw yX6_throws0 cX6_throws0 5 (some .int) 2 := ⟨im_X6_throws0, se_X6_throws0, in_X6, co_X6_throws0, by decide +kernel⟩
theorem mw_X6_isMember : Mw yX6_isMember cX6_isMember 2 (some .boolean) 1 := ⟨im_X6_isMember, se_X6_isMember, in_X6, co_X6_isMember, by decide +kernel⟩
theorem mw_X6_member : Mw yX6_member cX6_member 7 (some .int) 4 := ⟨im_X6_member, se_X6_member, in_X6, co_X6_member, by decide +kernel⟩
theorem mw_X6_mayBe : Ms yX6_mayBe cX6_mayBe 3 (some .boolean) 2 := ⟨sm_X6_mayBe, in_X6, co_X6_mayBe, by decide +kernel⟩
theorem mw_X6_one : Ms yX6_one cX6_one 2 (some .int) 2 := ⟨sm_X6_one, in_X6, co_X6_one, by decide +kernel⟩
theorem mw_X6_overrides : Mw yX6_overrides cX6_overrides 3 (some .int) 2 := ⟨im_X6_overrides, se_X6_overrides, in_X6, co_X6_overrides, by decide +kernel⟩
theorem mw_X6_isOver : Mw yX6_isOver cX6_isOver 3 (some .boolean) 2 := ⟨im_X6_isOver, se_X6_isOver, in_X6, co_X6_isOver, by decide +kernel⟩
theorem mw_X6_hides : Mw yX6_hides cX6_hides 3 (some .int) 2 := ⟨im_X6_hides, se_X6_hides, in_X6, co_X6_hides, by decide +kernel⟩
theorem mw_X6_hidesIt : Mw yX6_hidesIt cX6_hidesIt 3 (some .boolean) 2 := ⟨im_X6_hidesIt, se_X6_hidesIt, in_X6, co_X6_hidesIt, by decide +kernel⟩
theorem mw_X6_chosen : Mw yX6_chosen cX6_chosen 3 (some .int) 2 := ⟨im_X6_chosen, se_X6_chosen, in_X6, co_X6_chosen, by decide +kernel⟩
theorem mw_X6_isPlain : Mw yX6_isPlain cX6_isPlain 2 (some .boolean) 1 := ⟨im_X6_isPlain, se_X6_isPlain, in_X6, co_X6_isPlain, by decide +kernel⟩
theorem mw_X6_choose : Mw yX6_choose cX6_choose 7 (some .int) 2 := ⟨im_X6_choose, se_X6_choose, in_X6, co_X6_choose, by decide +kernel⟩
theorem mw_X6_isLast : Mw yX6_isLast cX6_isLast 4 (some .boolean) 2 := ⟨im_X6_isLast, se_X6_isLast, in_X6, co_X6_isLast, by decide +kernel⟩
theorem mw_X6_check : Mw yX6_check cX6_check 2 (some .int) 1 := ⟨im_X6_check, se_X6_check, in_X6, co_X6_check, by decide +kernel⟩
theorem mw_X6_judge : Mw yX6_judge cX6_judge 5 none 1 := ⟨im_X6_judge, se_X6_judge, in_X6, co_X6_judge, by decide +kernel⟩
theorem mw_X6_isMixed : Mw yX6_isMixed cX6_isMixed 4 (some .boolean) 2 := ⟨im_X6_isMixed, se_X6_isMixed, in_X6, co_X6_isMixed, by decide +kernel⟩
theorem mw_X6_note : Mw yX6_note cX6_note 4 none 3 := ⟨im_X6_note, se_X6_note, in_X6, co_X6_note, by decide +kernel⟩
theorem mw_X6_three : Mw yX6_three cX6_three 3 none 2 := ⟨im_X6_three, se_X6_three, in_X6, co_X6_three, by decide +kernel⟩
theorem mw_X6_suits : Mw yX6_suits cX6_suits 3 (some .boolean) 2 := ⟨im_X6_suits, se_X6_suits, in_X6, co_X6_suits, by decide +kernel⟩
theorem mw_X6_throwsMore : Mw yX6_throwsMore cX6_throwsMore 6 (some .boolean) 2 := ⟨im_X6_throwsMore, se_X6_throwsMore, in_X6, co_X6_throwsMore, by decide +kernel⟩
theorem mw_X6_inherited : Mw yX6_inherited cX6_inherited 4 none 2 := ⟨im_X6_inherited, se_X6_inherited, in_X6, co_X6_inherited, by decide +kernel⟩
theorem mw_X6_fault : Mw yX6_fault cX6_fault 4 (some .int) 3 := ⟨im_X6_fault, se_X6_fault, in_X6, co_X6_fault, by decide +kernel⟩
theorem mw_X6_bridges : Mw yX6_bridges cX6_bridges 7 (some .int) 1 := ⟨im_X6_bridges, se_X6_bridges, in_X6, co_X6_bridges, by decide +kernel⟩
theorem mw_X6_first : Mw yX6_first cX6_first 7 (some .int) 1 := ⟨im_X6_first, se_X6_first, in_X6, co_X6_first, by decide +kernel⟩
theorem mw_X6_told : Mw yX6_told cX6_told 4 (some .int) 1 := ⟨im_X6_told, se_X6_told, in_X6, co_X6_told, by decide +kernel⟩
end
section
/-! ===== rows over natural numbers, contracts that only read ===== -/
section GN
variable {p : Program} {l : Launch} {e : Env} {R : Room} {s : State} {m : MethodId} {args : Array Value} {below : List Frame} {meth : Method} {c : Code} {D : va_G} {A : Nat → Prop} {kc ks : Nat} {Q : State → Prop} {nL : Nat} {ws : va_W} {pc : Nat} {lv : List (Option Value)} {st : List Value} {cc : ByteArray} {own : String} {ret : Option FieldType} {cI cZ : ClassId}
theorem g_iconstN {n : Int} (k : Nat) (C : Cx p s m args meth c cc nL own ret D cI cZ A) (hd : decode cc pc = .ok (.iconst n, 1)) (hv : Int32.ofInt n = nI k) (kk : G p l e R s m args below meth c D A kc ks Q nL ws (pc + 1) lv (.int (nI k) :: st)) : G p l e R s m args below meth c D A kc ks Q nL ws pc lv st := g_iconst C hd hv kk
theorem g_bipushN {n : Int} (k : Nat) (C : Cx p s m args meth c cc nL own ret D cI cZ A) (hd : decode cc pc = .ok (.bipush n, 2)) (hv : (Int8.ofInt n).toInt32 = nI k) (kk : G p l e R s m args below meth c D A kc ks Q nL ws (pc + 2) lv (.int (nI k) :: st)) : G p l e R s m args below meth c D A kc ks Q nL ws pc lv st := g_bipush C hd hv kk
theorem g_sipushN {n : Int} (k : Nat) (C : Cx p s m args meth c cc nL own ret D cI cZ A) (hd : decode cc pc = .ok (.sipush n, 3)) (hv : (Int16.ofInt n).toInt32 = nI k) (kk : G p l e R s m args below meth c D A kc ks Q nL ws (pc + 3) lv (.int (nI k) :: st)) : G p l e R s m args below meth c D A kc ks Q nL ws pc lv st := g_sipush C hd hv kk
theorem g_iaddN {x y : Nat} (C : Cx p s m args meth c cc nL own ret D cI cZ A) (hd : decode cc pc = .ok (.iadd, 1)) (kk : G p l e R s m args below meth c D A kc ks Q nL ws (pc + 1) lv (.int (nI (x + y)) :: st)) : G p l e R s m args below meth c D A kc ks Q nL ws pc lv (.int (nI y) :: .int (nI x) :: st) := g_iadd C hd (by rw [nI_add]; exact kk)
theorem g_imulN {x y : Nat} (C : Cx p s m args meth c cc nL own ret D cI cZ A) (hd : decode cc pc = .ok (.imul, 1)) (kk : G p l e R s m args below meth c D A kc ks Q nL ws (pc + 1) lv (.int (nI (x * y)) :: st)) : G p l e R s m args below meth c D A kc ks Q nL ws pc lv (.int (nI y) :: .int (nI x) :: st) := g_imul C hd (by rw [pk_mul]; exact kk)
theorem g_isubN {x y : Nat} (C : Cx p s m args meth c cc nL own ret D cI cZ A) (h : y ≤ x) (hd : decode cc pc = .ok (.isub, 1)) (kk : G p l e R s m args below meth c D A kc ks Q nL ws (pc + 1) lv (.int (nI (x - y)) :: st)) : G p l e R s m args below meth c D A kc ks Q nL ws pc lv (.int (nI y) :: .int (nI x) :: st) := g_isub C hd (by rw [pk_sub h]; exact kk)
theorem g_iincN {k x : Nat} (C : Cx p s m args meth c cc nL own ret D cI cZ A) (hd : decode cc pc = .ok (.iinc k 1, 3)) (hg : lgt lv k = some (.int (nI x))) (hn : k < nL) (kk : G p l e R s m args below meth c D A kc ks Q nL ws (pc + 3) (lst lv k (.int (nI (x + 1)))) st) : G p l e R s m args below meth c D A kc ks Q nL ws pc lv st := g_iinc (v := 1) C hd hg (by decide) hn (by rw [nI_1]; exact kk)
theorem g_icmpN_eq {x y : Nat} {off : Int} {tgt : Nat} (C : Cx p s m args meth c cc nL own ret D cI cZ A) (hx : x < 2 ^ 31) (hy : y < 2 ^ 31) (hd : decode cc pc = .ok (.if_icmp .eq off, 3)) (ht : (pc : Int) + off = (tgt : Int)) (kt : x = y → G p l e R s m args below meth c D A kc ks Q nL ws tgt lv st) (kf : x ≠ y → G p l e R s m args below meth c D A kc ks Q nL ws (pc + 3) lv st) : G p l e R s m args below meth c D A kc ks Q nL ws pc lv (.int (nI y) :: .int (nI x) :: st) := g_icmp_eq C hd ht (fun h => kt ((nI_eq hx hy).mp h)) (fun h => kf (fun q => h ((nI_eq hx hy).mpr q)))
theorem g_icmpN_ne {x y : Nat} {off : Int} {tgt : Nat} (C : Cx p s m args meth c cc nL own ret D cI cZ A) (hx : x < 2 ^ 31) (hy : y < 2 ^ 31) (hd : decode cc pc = .ok (.if_icmp .ne off, 3)) (ht : (pc : Int) + off = (tgt : Int)) (kt : x ≠ y → G p l e R s m args below meth c D A kc ks Q nL ws tgt lv st) (kf : x = y → G p l e R s m args below meth c D A kc ks Q nL ws (pc + 3) lv st) : G p l e R s m args below meth c D A kc ks Q nL ws pc lv (.int (nI y) :: .int (nI x) :: st) := g_icmp_ne C hd ht (fun h => kt (fun q => h ((nI_eq hx hy).mpr q))) (fun h => kf ((nI_eq hx hy).mp h))
theorem g_icmpN_lt {x y : Nat} {off : Int} {tgt : Nat} (C : Cx p s m args meth c cc nL own ret D cI cZ A) (hx : x < 2 ^ 31) (hy : y < 2 ^ 31) (hd : decode cc pc = .ok (.if_icmp .lt off, 3)) (ht : (pc : Int) + off = (tgt : Int)) (kt : x < y → G p l e R s m args below meth c D A kc ks Q nL ws tgt lv st) (kf : y ≤ x → G p l e R s m args below meth c D A kc ks Q nL ws (pc + 3) lv st) : G p l e R s m args below meth c D A kc ks Q nL ws pc lv (.int (nI y) :: .int (nI x) :: st) := g_icmp_lt C hd ht (fun h => kt ((nI_ltI hx hy).mp h)) (fun h => kf (Nat.le_of_not_lt (fun q => h ((nI_ltI hx hy).mpr q))))
theorem g_icmpN_ge {x y : Nat} {off : Int} {tgt : Nat} (C : Cx p s m args meth c cc nL own ret D cI cZ A) (hx : x < 2 ^ 31) (hy : y < 2 ^ 31) (hd : decode cc pc = .ok (.if_icmp .ge off, 3)) (ht : (pc : Int) + off = (tgt : Int)) (kt : y ≤ x → G p l e R s m args below meth c D A kc ks Q nL ws tgt lv st) (kf : x < y → G p l e R s m args below meth c D A kc ks Q nL ws (pc + 3) lv st) : G p l e R s m args below meth c D A kc ks Q nL ws pc lv (.int (nI y) :: .int (nI x) :: st) := g_icmp_ge C hd ht (fun h => kt ((nI_leI hy hx).mp h)) (fun h => kf (Nat.lt_of_not_le (fun q => h ((nI_leI hy hx).mpr q))))
theorem g_icmpN_gt {x y : Nat} {off : Int} {tgt : Nat} (C : Cx p s m args meth c cc nL own ret D cI cZ A) (hx : x < 2 ^ 31) (hy : y < 2 ^ 31) (hd : decode cc pc = .ok (.if_icmp .gt off, 3)) (ht : (pc : Int) + off = (tgt : Int)) (kt : y < x → G p l e R s m args below meth c D A kc ks Q nL ws tgt lv st) (kf : x ≤ y → G p l e R s m args below meth c D A kc ks Q nL ws (pc + 3) lv st) : G p l e R s m args below meth c D A kc ks Q nL ws pc lv (.int (nI y) :: .int (nI x) :: st) := g_icmp_gt C hd ht (fun h => kt ((nI_ltI hy hx).mp h)) (fun h => kf (Nat.le_of_not_lt (fun q => h ((nI_ltI hy hx).mpr q))))
theorem g_icmpN_le {x y : Nat} {off : Int} {tgt : Nat} (C : Cx p s m args meth c cc nL own ret D cI cZ A) (hx : x < 2 ^ 31) (hy : y < 2 ^ 31) (hd : decode cc pc = .ok (.if_icmp .le off, 3)) (ht : (pc : Int) + off = (tgt : Int)) (kt : x ≤ y → G p l e R s m args below meth c D A kc ks Q nL ws tgt lv st) (kf : y < x → G p l e R s m args below meth c D A kc ks Q nL ws (pc + 3) lv st) : G p l e R s m args below meth c D A kc ks Q nL ws pc lv (.int (nI y) :: .int (nI x) :: st) := g_icmp_le C hd ht (fun h => kt ((nI_leI hx hy).mp h)) (fun h => kf (Nat.lt_of_not_le (fun q => h ((nI_leI hx hy).mpr q))))
end GN
/-- a contract that only reads: the answer is v, the state as it was -/
def Cr (l : Launch) (y : MethodName) (yc : ByteArray) (n : Nat) (ret : Option FieldType) (f k : Nat) (D : va_G) (cI cZ : ClassId) (pic : St → va_W) (av : List Value) (σ : St) (v : Int32) : Prop :=
  Ct l y yc n ret f k D cI cZ pic av σ (fun r u => r = some (.int v) ∧ u = σ)
section GVr
variable {p : Program} {l : Launch} {e : Env} {R : Room} {s : State} {m : MethodId} {args : Array Value} {below : List Frame} {meth : Method} {c : Code} {D : va_G} {A : Nat → Prop} {kc ks : Nat} {Q : State → Prop} {nL : Nat} {pc : Nat} {lv : List (Option Value)} {cc : ByteArray} {own : String} {ret ret0 : Option FieldType} {cI cZ : ClassId}
variable {pic : St → va_W} {σ : St} {v : Int32} {y : MethodName} {yc : ByteArray} {n f k na index a0 ci N : Nat} {T : u_T} {fs As rest st : List Value}
theorem g_callVr (q0 : Nat) (C : Cx p s m args meth c cc nL own ret0 D cI cZ A) (hM : Cr l y yc n ret f k D cI cZ pic (.ref a0 :: As) σ v) (hw : Mw y yc n ret na) (hl : Cond.methodLink own index y ∈ lw_all) (he : (pic σ)[q0]? = some (a0, .inr (ci, fs))) (hc : vwCl[ci]? = some (y.cls, T, N)) (hst : st = As.reverse ++ .ref a0 :: rest) (hn : As.length = na) (hcat : (rest.map fun v => v.category).sum ≤ 8) (hd : decode cc pc = .ok (.invokevirtual index, 3)) (hR : f + 1 ≤ R.frames ∧ 8 + (n + 11) + k ≤ R.locals) (hR2 : kc ≤ R.cells ∧ ks ≤ R.slots)
    (kk : G p l e R s m args below meth c D A kc ks Q nL (pic σ) (pc + 3) lv (.int v :: rest)) : G p l e R s m args below meth c D A kc ks Q nL (pic σ) pc lv st :=
  g_callV q0 C hM hw hl he hc hst hn hcat hd hR hR2 (fun r u h => by rw [h.1, h.2]; exact kk)
theorem g_callSr (C : Cx p s m args meth c cc nL own ret0 D cI cZ A) (hM : Cr l y yc n ret f k D cI cZ pic As σ v) (hw : Ms y yc n ret na) (hl : Cond.methodLink own index y ∈ lw_all) (hst : st = As.reverse ++ rest) (hn : As.length = na) (hcat : (rest.map fun v => v.category).sum ≤ 8) (hd : decode cc pc = .ok (.invokestatic index, 3)) (hR : f + 1 ≤ R.frames ∧ 8 + (n + 11) + k ≤ R.locals) (hR2 : kc ≤ R.cells ∧ ks ≤ R.slots)
    (kk : G p l e R s m args below meth c D A kc ks Q nL (pic σ) (pc + 3) lv (.int v :: rest)) : G p l e R s m args below meth c D A kc ks Q nL (pic σ) pc lv st :=
  g_callS C hM hw hl hst hn hcat hd hR hR2 (fun r u h => by rw [h.1, h.2]; exact kk)
theorem g_callSNr {host : String} (C : Cx p s m args meth c cc nL own ret0 D cI cZ A) (hM : Cr l y yc n ret f k D cI cZ pic As σ v) (hw : Ms y yc n ret na) (hl : Cond.methodLinkNest own index y host ∈ lw_nest) (hst : st = As.reverse ++ rest) (hn : As.length = na) (hcat : (rest.map fun v => v.category).sum ≤ 8) (hd : decode cc pc = .ok (.invokestatic index, 3)) (hR : f + 1 ≤ R.frames ∧ 8 + (n + 11) + k ≤ R.locals) (hR2 : kc ≤ R.cells ∧ ks ≤ R.slots)
    (kk : G p l e R s m args below meth c D A kc ks Q nL (pic σ) (pc + 3) lv (.int v :: rest)) : G p l e R s m args below meth c D A kc ks Q nL (pic σ) pc lv st :=
  g_callSN C hM hw hl hst hn hcat hd hR hR2 (fun r u h => by rw [h.1, h.2]; exact kk)
end GVr
theorem rt_t {B : Bool} (h : B = true) : some (Value.int 1) = some (Value.int (b2i B)) := by rw [h]; rfl
theorem rt_f {B : Bool} (h : B = false) : some (Value.int 0) = some (Value.int (b2i B)) := by rw [h]; rfl
theorem rt_b {A B : Bool} (h : A = B) : some (Value.int (b2i A)) = some (Value.int (b2i B)) := by rw [h]
theorem rt_i {a b : Int32} (h : a = b) : some (Value.int a) = some (Value.int b) := by rw [h]
theorem nar_0 : narrow .boolean (.int 0) = .int 0 := by decide +kernel
theorem nar_1 : narrow .boolean (.int 1) = .int 1 := by decide +kernel
/-! ===== the reference's state, read as numbers ===== -/
def nT (τ : St) : Nat := (τ 0 0).toNatClampNeg
def nX (τ : St) : Nat := (τ 0 1).toNatClampNeg
def nM (τ : St) : Nat := (τ 0 2).toNatClampNeg
def nF (τ : St) (t : Nat) : Nat := (τ 4 t).toNatClampNeg
def Fc (τ : St) (t k : Nat) : Nat := (τ 5 (3 * t + k)).toNatClampNeg
def Bel (τ : St) (t u : Nat) : Bool := decide (¬ τ 6 (16 * t + u) = 0)
def Ckd (τ : St) (x : Nat) : Bool := decide (¬ τ 8 x = 0)
def Of (τ : St) (m : Nat) : Nat := (τ 9 m).toNatClampNeg
def Rs (τ : St) (m : Nat) : Nat := (τ 11 m).toNatClampNeg
def Ov (τ : St) (m o : Nat) : Bool := decide (¬ τ 14 (60 * m + o) = 0)
/-- a number that names a lesser one, or none -/
def lessOr (x : Int32) (t : Nat) : Prop := x = -1 ∨ ∃ p : Nat, p < t ∧ x = nI p
/-- what makes the reference's walks safe -/
def W0 (τ : St) : Prop := (τ 0 0 = nI (nT τ) ∧ nT τ ≤ 16) ∧ (τ 0 1 = nI (nX τ) ∧ nX τ ≤ 8) ∧ (τ 0 2 = nI (nM τ) ∧ nM τ ≤ 60) ∧
  (∀ t, t < nT τ → lessOr (τ 3 t) t ∧ (τ 4 t = nI (nF τ t) ∧ nF τ t ≤ 3) ∧ ∀ k, k < nF τ t → τ 5 (3 * t + k) = nI (Fc τ t k) ∧ Fc τ t k < t) ∧
  (∀ x, x < nX τ → lessOr (τ 7 x) x) ∧ (∀ m, m < nM τ → (τ 9 m = nI (Of τ m) ∧ Of τ m < nT τ) ∧ τ 11 m = nI (Rs τ m) ∧ Rs τ m < 20) ∧
  (∀ j, τ 6 j = 0 ∨ τ 6 j = 1) ∧ (∀ j, τ 8 j = 0 ∨ τ 8 j = 1) ∧ (∀ j, τ 14 j = 0 ∨ τ 14 j = 1)
theorem bz {x : Int32} (h : x = 0 ∨ x = 1) : x = b2i (decide (¬ x = 0)) := by rcases h with rfl | rfl <;> decide
theorem w0_t {τ : St} (h : W0 τ) : τ 0 0 = nI (nT τ) := h.1.1
theorem w0_tl {τ : St} (h : W0 τ) : nT τ ≤ 16 := h.1.2
theorem w0_x {τ : St} (h : W0 τ) : τ 0 1 = nI (nX τ) := h.2.1.1
theorem w0_xl {τ : St} (h : W0 τ) : nX τ ≤ 8 := h.2.1.2
theorem w0_m {τ : St} (h : W0 τ) : τ 0 2 = nI (nM τ) := h.2.2.1.1
theorem w0_ml {τ : St} (h : W0 τ) : nM τ ≤ 60 := h.2.2.1.2
theorem w0_pa {τ : St} (h : W0 τ) {t : Nat} (ht : t < nT τ) : lessOr (τ 3 t) t := (h.2.2.2.1 t ht).1
theorem w0_f {τ : St} (h : W0 τ) {t : Nat} (ht : t < nT τ) : τ 4 t = nI (nF τ t) := (h.2.2.2.1 t ht).2.1.1
theorem w0_fl {τ : St} (h : W0 τ) {t : Nat} (ht : t < nT τ) : nF τ t ≤ 3 := (h.2.2.2.1 t ht).2.1.2
theorem w0_fc {τ : St} (h : W0 τ) {t k : Nat} (ht : t < nT τ) (hk : k < nF τ t) : τ 5 (3 * t + k) = nI (Fc τ t k) := ((h.2.2.2.1 t ht).2.2 k hk).1
theorem w0_fcl {τ : St} (h : W0 τ) {t k : Nat} (ht : t < nT τ) (hk : k < nF τ t) : Fc τ t k < t := ((h.2.2.2.1 t ht).2.2 k hk).2
theorem w0_tp {τ : St} (h : W0 τ) {x : Nat} (hx : x < nX τ) : lessOr (τ 7 x) x := h.2.2.2.2.1 x hx
theorem w0_of {τ : St} (h : W0 τ) {m : Nat} (hm : m < nM τ) : τ 9 m = nI (Of τ m) := (h.2.2.2.2.2.1 m hm).1.1
theorem w0_ofl {τ : St} (h : W0 τ) {m : Nat} (hm : m < nM τ) : Of τ m < nT τ := (h.2.2.2.2.2.1 m hm).1.2
theorem w0_rs {τ : St} (h : W0 τ) {m : Nat} (hm : m < nM τ) : τ 11 m = nI (Rs τ m) := (h.2.2.2.2.2.1 m hm).2.1
theorem w0_rsl {τ : St} (h : W0 τ) {m : Nat} (hm : m < nM τ) : Rs τ m < 20 := (h.2.2.2.2.2.1 m hm).2.2
theorem w0_b6 {τ : St} (h : W0 τ) (j : Nat) : τ 6 j = b2i (decide (¬ τ 6 j = 0)) := bz (h.2.2.2.2.2.2.1 j)
theorem w0_b8 {τ : St} (h : W0 τ) (j : Nat) : τ 8 j = b2i (decide (¬ τ 8 j = 0)) := bz (h.2.2.2.2.2.2.2.1 j)
theorem w0_b14 {τ : St} (h : W0 τ) (j : Nat) : τ 14 j = b2i (decide (¬ τ 14 j = 0)) := bz (h.2.2.2.2.2.2.2.2 j)
end
section
/-! ===== small pure words ===== -/
def anyN : Nat → (Nat → Bool) → Bool
  | 0, _ => false
  | n + 1, f => anyN n f || f n
theorem anyN_t {n x : Nat} {f : Nat → Bool} (hx : x < n) (h : f x = true) : anyN n f = true := by
  induction n with
  | zero => omega
  | succ n ih =>
    rcases Nat.lt_or_ge x n with q | q
    · simp [anyN, ih q]
    · have : x = n := by omega
      subst this
      simp [anyN, h]
theorem anyN_f {n : Nat} {f : Nat → Bool} (h : ∀ x, x < n → f x = false) : anyN n f = false := by
  induction n with
  | zero => rfl
  | succ n ih => simp [anyN, ih (fun x hx => h x (by omega)), h n (by omega)]
theorem anyN_iff {n : Nat} {f : Nat → Bool} : anyN n f = true ↔ ∃ x, x < n ∧ f x = true := by
  constructor
  · intro h
    induction n with
    | zero => simp [anyN] at h
    | succ n ih =>
      simp only [anyN, Bool.or_eq_true] at h
      rcases h with h | h
      · obtain ⟨x, hx, hf⟩ := ih h; exact ⟨x, by omega, hf⟩
      · exact ⟨n, by omega, h⟩
  · rintro ⟨x, hx, hf⟩; exact anyN_t hx hf
/-- fewer known locals -/
def lvle : List (Option Value) → List (Option Value) → Prop
  | [], _ => True
  | none :: l, _ :: r => lvle l r
  | none :: l, [] => lvle l []
  | some v :: l, w :: r => w = some v ∧ lvle l r
  | some _ :: _, [] => False
theorem lvle_get : ∀ (l r : List (Option Value)), lvle l r → ∀ i v, lgt l i = some v → lgt r i = some v
  | [], _, _, i, v, h => by simp [lgt] at h
  | none :: l, w :: r, hl, i, v, h => by
    cases i with
    | zero => simp [lgt] at h
    | succ i => exact lvle_get l r hl i v h
  | none :: l, [], hl, i, v, h => by
    cases i with
    | zero => simp [lgt] at h
    | succ i => have := lvle_get l [] hl i v h; simp [lgt] at this
  | some u :: l, w :: r, hl, i, v, h => by
    cases i with
    | zero => rw [hl.1]; exact h
    | succ i => exact lvle_get l r hl.2 i v h
theorem lh.weak {ls : Array Slot} {nL : Nat} {l r : List (Option Value)} (h : lh ls nL r) (hl : lvle l r) : lh ls nL l :=
  ⟨⟨h.1.1, h.1.2.1, fun q hq => h.at (lvle_get l r hl _ _ (prs_mem.mp hq))⟩, fun i v hv => h.2 i v (lvle_get l r hl i v hv)⟩
theorem G.weak {p : Program} {l : Launch} {e : Env} {R : Room} {s : State} {m : MethodId} {args : Array Value} {below : List Frame} {meth : Method} {c : Code} {D : va_G} {A : Nat → Prop} {kc ks : Nat} {Q : State → Prop} {nL : Nat} {ws : va_W} {pc : Nat} {lv lv2 : List (Option Value)} {st : List Value} (kk : G p l e R s m args below meth c D A kc ks Q nL ws pc lv2 st) (hl : lvle lv2 lv) : G p l e R s m args below meth c D A kc ks Q nL ws pc lv st :=
  fun H locs ls hP hD hS hlh => kk H locs ls hP hD hS (hlh.weak hl)
def fstN : Nat → (Nat → Bool) → Option Nat
  | 0, _ => none
  | n + 1, f => match fstN n f with
    | some x => some x
    | none => if f n = true then some n else none
theorem fstN_none {n : Nat} {f : Nat → Bool} (h : ∀ x, x < n → f x = false) : fstN n f = none := by
  induction n with
  | zero => rfl
  | succ n ih => simp [fstN, ih (fun x hx => h x (by omega)), h n (by omega)]
theorem fstN_some {n x : Nat} {f : Nat → Bool} (hx : x < n) (hf : f x = true) (h : ∀ z, z < x → f z = false) : fstN n f = some x := by
  induction n with
  | zero => omega
  | succ n ih =>
    rcases Nat.lt_or_ge x n with q | q
    · simp [fstN, ih q]
    · have : x = n := by omega
      subst this
      simp [fstN, fstN_none h, hf]
theorem fstN_is {n x : Nat} {f : Nat → Bool} (h : fstN n f = some x) : x < n ∧ f x = true ∧ ∀ z, z < x → f z = false := by
  induction n with
  | zero => simp [fstN] at h
  | succ n ih =>
    simp only [fstN] at h
    cases hq : fstN n f with
    | some y =>
      rw [hq] at h
      simp at h
      subst h
      obtain ⟨a, b, c⟩ := ih hq
      exact ⟨by omega, b, c⟩
    | none =>
      rw [hq] at h
      by_cases hf : f n = true
      · simp [hf] at h
        subst h
        refine ⟨by omega, hf, fun z hz => ?_⟩
        cases hz2 : f z with
        | false => rfl
        | true =>
          exfalso
          have : ∀ k, z < k → k ≤ n → fstN k f ≠ none := by
            intro k
            induction k with
            | zero => omega
            | succ k ihk =>
              intro h1 h2 h3
              simp only [fstN] at h3
              rcases Nat.lt_or_ge z k with q | q
              · cases h4 : fstN k f with
                | some y => rw [h4] at h3; simp at h3
                | none => exact ihk q (by omega) h4
              · have : z = k := by omega
                subst this
                cases h4 : fstN z f with
                | some y => rw [h4] at h3; simp at h3
                | none => rw [h4, hz2] at h3; simp at h3
          exact this n hz (Nat.le_refl n) hq
      · simp [hf] at h
/-- something holds on the chain from y up -/
def chF (pa : Nat → Int32) (f : Nat → Bool) : Nat → Nat → Bool
  | 0, _ => false
  | n + 1, y => f y || (if pa y = -1 then false else chF pa f n (pa y).toNatClampNeg)
def chV (pa : Nat → Int32) (f : Nat → Bool) (y : Int32) : Bool := if y = -1 then false else chF pa f 17 y.toNatClampNeg
theorem nI_m1 {t : Nat} (h : t < 2 ^ 31) : ¬ nI t = -1 := by
  intro q
  have := nI_pos (n := t) h
  rw [q] at this
  exact this (by decide)
theorem lessOr.mono {x : Int32} {a b : Nat} (h : lessOr x a) (hab : a ≤ b) : lessOr x b := by
  rcases h with h | ⟨p, hp, h⟩
  · exact Or.inl h
  · exact Or.inr ⟨p, by omega, h⟩
theorem chF_st {pa : Nat → Int32} {f : Nat → Bool} {N : Nat} (hN : N ≤ 16) (h : ∀ x, x < N → lessOr (pa x) x) : ∀ (y : Nat), y < N → ∀ n m, y < n → y < m → chF pa f n y = chF pa f m y := by
  intro y
  induction y using Nat.strongRecOn with
  | ind y ih =>
    intro hy n m hn hm
    match n, m, hn, hm with
    | n + 1, m + 1, hn, hm =>
      simp only [chF]
      rcases h y hy with q | ⟨p, hp, q⟩
      · simp [q]
      · have h1 : ¬ pa y = -1 := by rw [q]; exact nI_m1 (by omega)
        rw [if_neg h1, if_neg h1, q, nI_clamp (by omega), ih p hp (by omega) n m (by omega) (by omega)]
theorem chF_step {pa : Nat → Int32} {f : Nat → Bool} {N y : Nat} (hN : N ≤ 16) (h : ∀ x, x < N → lessOr (pa x) x) (hy : y < N) : chV pa f (nI y) = (f y || chV pa f (pa y)) := by
  have e : chV pa f (nI y) = chF pa f 17 y := by simp only [chV, if_neg (nI_m1 (t := y) (by omega)), nI_clamp (n := y) (by omega)]
  rw [e]
  show (f y || _) = _
  congr 1
  rcases h y hy with q | ⟨p, hp, q⟩
  · simp [chV, q]
  · have h1 : ¬ pa y = -1 := by rw [q]; exact nI_m1 (by omega)
    rw [if_neg h1, chV, if_neg h1, q, nI_clamp (by omega)]
    exact chF_st hN h p (by omega) 16 17 (by omega) (by omega)
/-- the first answer on the chain from t up -/
def chC (pa : Nat → Int32) (g : Nat → Option Nat) : Nat → Nat → Option Nat
  | 0, _ => none
  | k + 1, t => match g t with
    | some n => some n
    | none => if pa t = -1 then none else chC pa g k (pa t).toNatClampNeg
def chO (pa : Nat → Int32) (g : Nat → Option Nat) (y : Int32) : Option Nat := if y = -1 then none else chC pa g 17 y.toNatClampNeg
theorem chC_st {pa : Nat → Int32} {g : Nat → Option Nat} {N : Nat} (hN : N ≤ 16) (h : ∀ x, x < N → lessOr (pa x) x) : ∀ (y : Nat), y < N → ∀ n m, y < n → y < m → chC pa g n y = chC pa g m y := by
  intro y
  induction y using Nat.strongRecOn with
  | ind y ih =>
    intro hy n m hn hm
    match n, m, hn, hm with
    | n + 1, m + 1, hn, hm =>
      simp only [chC]
      cases hg : g y with
      | some v => rfl
      | none =>
        rcases h y hy with q | ⟨p, hp, q⟩
        · simp [q]
        · have h1 : ¬ pa y = -1 := by rw [q]; exact nI_m1 (by omega)
          simp only [if_neg h1]
          rw [q, nI_clamp (by omega), ih p hp (by omega) n m (by omega) (by omega)]
theorem chC_step {pa : Nat → Int32} {g : Nat → Option Nat} {N y : Nat} (hN : N ≤ 16) (h : ∀ x, x < N → lessOr (pa x) x) (hy : y < N) : chO pa g (nI y) = match g y with
    | some n => some n
    | none => chO pa g (pa y) := by
  have e : chO pa g (nI y) = chC pa g 17 y := by simp only [chO, if_neg (nI_m1 (t := y) (by omega)), nI_clamp (n := y) (by omega)]
  rw [e]
  simp only [chC]
  cases hg : g y with
  | some v => rfl
  | none =>
    rcases h y hy with q | ⟨p, hp, q⟩
    · simp [chO, q]
    · have h1 : ¬ pa y = -1 := by rw [q]; exact nI_m1 (by omega)
      simp only [chO, if_neg h1]
      rw [q, nI_clamp (by omega)]
      exact chC_st hN h p (by omega) 16 17 (by omega) (by omega)
theorem nbeq {k n : Nat} (h : ¬ k = n) : Nat.beq k n = false := by
  cases e : Nat.beq k n with
  | false => rfl
  | true => exact absurd (Nat.eq_of_beq_eq_true e) h
end
section
/-! ===== the reference: its reading methods ===== -/
def inB (v a z : Int32) : Bool := decide (a ≤ v) && decide (v ≤ z)
def isT (τ : St) (t : Int32) : Bool := inB t 0 (τ 0 0 - 1)
def isM (τ : St) (m : Int32) : Bool := inB m 0 (τ 0 2 - 1)
def Hs (τ : St) (m : Nat) (k : Int32) : Bool := decide (¬ (τ 12 m &&& k) = 0)
def Ifc (τ : St) (m : Nat) : Bool := decide (τ 1 (Of τ m) = 2)
def SubB (τ : St) (t u : Nat) : Bool := decide (t = u) || Bel τ t u
def Acc (τ : St) (m : Nat) : Int32 := bif Hs τ m 4 then 0 else bif Hs τ m 1 || Ifc τ m then 3 else bif Hs τ m 2 then 2 else 1
def Sts (τ : St) (a b : Nat) : Bool := decide (a = b) || (decide (a < 16) && decide (b < 16) && SubB τ a b)
def Seen (τ : St) (m o : Nat) : Bool := decide (2 ≤ Acc τ o) || decide (τ 2 (Of τ m) = τ 2 (Of τ o))
def Hid (τ : St) (m o : Nat) : Bool := decide (τ 10 m = τ 10 o) && Hs τ m 8 && Hs τ o 8 && Bel τ (Of τ m) (Of τ o) && !Ifc τ o && !Hs τ o 4 && Seen τ m o
def Mix (τ : St) (m o : Nat) : Bool := decide (τ 10 m = τ 10 o) && (Hs τ m 8 != Hs τ o 8) && Bel τ (Of τ m) (Of τ o) && !Hs τ o 4 && (bif Ifc τ o then !Hs τ o 8 else Seen τ m o)
def Pln (τ : St) (m : Nat) : Bool := !Hs τ m 8 && !Hs τ m 4
def one0 (v k : Int32) : Int32 := if (v &&& k) = 0 then 0 else 1
def mayB (kd v : Int32) : Bool := inB v 0 255 && decide (one0 v 1 + one0 v 2 + one0 v 4 ≤ 1) && (if kd < 2 then decide (one0 v 64 = 0) && (decide (one0 v 32 = 0) || decide (one0 v 4 + one0 v 8 + one0 v 16 = 0)) else decide (one0 v 2 + one0 v 16 = 0) && (decide (one0 v 4 + one0 v 8 + one0 v 32 + one0 v 64 = 1) || (decide (one0 v 4 + one0 v 8 + one0 v 32 + one0 v 64 = 2) && decide (one0 v 4 + one0 v 8 = 2))))
set_option maxRecDepth 100000 in
set_option maxHeartbeats 4000000 in
theorem cr_X6_in {l : Launch} {D : va_G} {cI cZ : ClassId} {pic : St → va_W} {τ : St} {v a z : Int32} : Cr l yX6_in cX6_in 3 (some .boolean) 0 0 D cI cZ (pic) [.int v, .int a, .int z] τ (b2i (inB v a z)) := by
  refine Ct.of 0 (by decide) (by simp [Value.category]) (Nat.le_of_ble_eq_true rfl) ?_
  intro p e s m below meth c C
  refine g_iload_n C dX6_in_0 rfl ?_
  refine g_iload_n C dX6_in_1 rfl ?_
  refine g_icmp_lt (tgt := 14) C dX6_in_2 (by decide) (fun h2 => ?_) (fun h2 => ?_)
  · refine g_iconst (v := 0) C dX6_in_14 (by decide) ?_
    exact g_zret C dX6_in_15 nar_0 ⟨rt_f (by grind [inB]), rfl⟩
  · refine g_iload_n C dX6_in_5 rfl ?_
    refine g_iload_n C dX6_in_6 rfl ?_
    refine g_icmp_gt (tgt := 14) C dX6_in_7 (by decide) (fun h7 => ?_) (fun h7 => ?_)
    · refine g_iconst (v := 0) C dX6_in_14 (by decide) ?_
      exact g_zret C dX6_in_15 nar_0 ⟨rt_f (by grind [inB]), rfl⟩
    · refine g_iconst (v := 1) C dX6_in_10 (by decide) ?_
      refine g_goto (tgt := 15) C dX6_in_11 (by decide) ?_
      exact g_zret C dX6_in_15 nar_1 ⟨rt_t (by grind [inB]), rfl⟩
set_option maxRecDepth 100000 in
set_option maxHeartbeats 4000000 in
theorem cr_X6_isType {l : Launch} {D : va_G} {cI cZ : ClassId} {b : Nat → Nat} {τ : St} {t : Int32} : Cr l yX6_isType cX6_isType 2 (some .boolean) 1 22 D cI cZ (pM b cI cZ) [.ref (b 0), .int t] τ (b2i (isT τ t)) := by
  refine Ct.of 0 (by decide) (by simp [Value.category]) (Nat.le_of_ble_eq_true rfl) ?_
  intro p e s m below meth c C
  refine g_iload_n C dX6_isType_0 rfl ?_
  refine g_iconst (v := 0) C dX6_isType_1 (by decide) ?_
  refine g_aload_n C dX6_isType_2 rfl ?_
  refine gf_X6_62 C dX6_isType_3 ?_
  refine g_iconst (v := 1) C dX6_isType_6 (by decide) ?_
  refine g_isub C dX6_isType_7 ?_
  refine g_callSr C (cr_X6_in) mw_X6_in ml_X6_66 rfl rfl (Nat.le_of_ble_eq_true rfl) dX6_isType_8 ⟨Nat.le_of_ble_eq_true rfl, Nat.le_of_ble_eq_true rfl⟩ ⟨Nat.le_of_ble_eq_true rfl, Nat.le_of_ble_eq_true rfl⟩ ?_
  exact g_zret C dX6_isType_11 (b2i_nar _) ⟨rt_b (by rfl), rfl⟩
set_option maxRecDepth 100000 in
set_option maxHeartbeats 4000000 in
theorem cr_X6_isMember {l : Launch} {D : va_G} {cI cZ : ClassId} {b : Nat → Nat} {τ : St} {t : Int32} : Cr l yX6_isMember cX6_isMember 2 (some .boolean) 1 22 D cI cZ (pM b cI cZ) [.ref (b 0), .int t] τ (b2i (isM τ t)) := by
  refine Ct.of 0 (by decide) (by simp [Value.category]) (Nat.le_of_ble_eq_true rfl) ?_
  intro p e s m below meth c C
  refine g_iload_n C dX6_isMember_0 rfl ?_
  refine g_iconst (v := 0) C dX6_isMember_1 (by decide) ?_
  refine g_aload_n C dX6_isMember_2 rfl ?_
  refine gf_X6_70 C dX6_isMember_3 ?_
  refine g_iconst (v := 1) C dX6_isMember_6 (by decide) ?_
  refine g_isub C dX6_isMember_7 ?_
  refine g_callSr C (cr_X6_in) mw_X6_in ml_X6_66 rfl rfl (Nat.le_of_ble_eq_true rfl) dX6_isMember_8 ⟨Nat.le_of_ble_eq_true rfl, Nat.le_of_ble_eq_true rfl⟩ ⟨Nat.le_of_ble_eq_true rfl, Nat.le_of_ble_eq_true rfl⟩ ?_
  exact g_zret C dX6_isMember_11 (b2i_nar _) ⟨rt_b (by rfl), rfl⟩
set_option maxRecDepth 100000 in
set_option maxHeartbeats 4000000 in
theorem cr_X6_isBelow {l : Launch} {D : va_G} {cI cZ : ClassId} {b : Nat → Nat} {τ : St} (hW : W0 τ) {t u : Nat} (ht : t < 16) (hu : u < 16) : Cr l yX6_isBelow cX6_isBelow 3 (some .boolean) 0 0 D cI cZ (pM b cI cZ) [.ref (b 0), .int (nI t), .int (nI u)] τ (b2i (Bel τ t u)) := by
  refine Ct.of 0 (by decide) (by simp [Value.category]) (Nat.le_of_ble_eq_true rfl) ?_
  intro p e s m below meth c C
  refine g_aload_n C dX6_isBelow_0 rfl ?_
  refine gf_X6_25 C dX6_isBelow_1 ?_
  refine g_bipushN 16 C dX6_isBelow_4 (by decide) ?_
  refine g_iload_n C dX6_isBelow_6 rfl ?_
  refine g_imulN C dX6_isBelow_7 ?_
  refine g_iload_n C dX6_isBelow_8 rfl ?_
  refine g_iaddN C dX6_isBelow_9 ?_
  refine gM_lv6 C (by omega) (w0_b6 hW _) dX6_isBelow_10 ?_
  exact g_zret C dX6_isBelow_11 (b2i_nar _) ⟨rt_b (by rfl), rfl⟩
set_option maxRecDepth 100000 in
set_option maxHeartbeats 4000000 in
theorem cr_X6_isSub {l : Launch} {D : va_G} {cI cZ : ClassId} {b : Nat → Nat} {τ : St} (hW : W0 τ) {t u : Nat} (ht : t < 16) (hu : u < 16) : Cr l yX6_isSub cX6_isSub 3 (some .boolean) 1 22 D cI cZ (pM b cI cZ) [.ref (b 0), .int (nI t), .int (nI u)] τ (b2i (SubB τ t u)) := by
  refine Ct.of 0 (by decide) (by simp [Value.category]) (Nat.le_of_ble_eq_true rfl) ?_
  intro p e s m below meth c C
  refine g_iload_n C dX6_isSub_0 rfl ?_
  refine g_iload_n C dX6_isSub_1 rfl ?_
  refine g_icmpN_eq (tgt := 14) C (by omega) (by omega) dX6_isSub_2 (by decide) (fun h2 => ?_) (fun h2 => ?_)
  · refine g_iconst (v := 1) C dX6_isSub_14 (by decide) ?_
    refine g_goto (tgt := 19) C dX6_isSub_15 (by decide) ?_
    exact g_zret C dX6_isSub_19 nar_1 ⟨rt_t (by simp [SubB, *]), rfl⟩
  · refine g_aload_n C dX6_isSub_5 rfl ?_
    refine g_iload_n C dX6_isSub_6 rfl ?_
    refine g_iload_n C dX6_isSub_7 rfl ?_
    refine g_callVr 0 C (cr_X6_isBelow hW (by omega) (by omega)) mw_X6_isBelow ml_X6_90 rfl rfl rfl rfl (Nat.le_of_ble_eq_true rfl) dX6_isSub_8 ⟨Nat.le_of_ble_eq_true rfl, Nat.le_of_ble_eq_true rfl⟩ ⟨Nat.le_of_ble_eq_true rfl, Nat.le_of_ble_eq_true rfl⟩ ?_
    refine g_ifb_eq (tgt := 18) C dX6_isSub_11 (by decide) (fun h11 => ?_) (fun h11 => ?_)
    · refine g_iconst (v := 0) C dX6_isSub_18 (by decide) ?_
      exact g_zret C dX6_isSub_19 nar_0 ⟨rt_f (by simp [SubB, *]), rfl⟩
    · refine g_iconst (v := 1) C dX6_isSub_14 (by decide) ?_
      refine g_goto (tgt := 19) C dX6_isSub_15 (by decide) ?_
      exact g_zret C dX6_isSub_19 nar_1 ⟨rt_t (by simp [SubB, *]), rfl⟩
set_option maxRecDepth 100000 in
set_option maxHeartbeats 4000000 in
theorem cr_X6_has {l : Launch} {D : va_G} {cI cZ : ClassId} {b : Nat → Nat} {τ : St} {m0 : Nat} {k : Int32} (hm : m0 < 60) : Cr l yX6_has cX6_has 3 (some .boolean) 0 0 D cI cZ (pM b cI cZ) [.ref (b 0), .int (nI m0), .int k] τ (b2i (Hs τ m0 k)) := by
  refine Ct.of 0 (by decide) (by simp [Value.category]) (Nat.le_of_ble_eq_true rfl) ?_
  intro p e s m below meth c C
  refine g_aload_n C dX6_has_0 rfl ?_
  refine gf_X6_44 C dX6_has_1 ?_
  refine g_iload_n C dX6_has_4 rfl ?_
  refine gM_ln12 C (by omega) dX6_has_5 ?_
  refine g_iload_n C dX6_has_6 rfl ?_
  refine g_iand C dX6_has_7 ?_
  refine g_if_eq (tgt := 15) C dX6_has_8 (by decide) (fun h8 => ?_) (fun h8 => ?_)
  · refine g_iconst (v := 0) C dX6_has_15 (by decide) ?_
    exact g_zret C dX6_has_16 nar_0 ⟨rt_f (by simp [Hs, *]), rfl⟩
  · refine g_iconst (v := 1) C dX6_has_11 (by decide) ?_
    refine g_goto (tgt := 16) C dX6_has_12 (by decide) ?_
    exact g_zret C dX6_has_16 nar_1 ⟨rt_t (by simp [Hs, *]), rfl⟩
set_option maxRecDepth 100000 in
set_option maxHeartbeats 4000000 in
theorem cr_X6_isStatic {l : Launch} {D : va_G} {cI cZ : ClassId} {b : Nat → Nat} {τ : St} {m0 : Nat} (hm : m0 < 60) : Cr l yX6_isStatic cX6_isStatic 2 (some .boolean) 1 22 D cI cZ (pM b cI cZ) [.ref (b 0), .int (nI m0)] τ (b2i (Hs τ m0 8)) := by
  refine Ct.of 0 (by decide) (by simp [Value.category]) (Nat.le_of_ble_eq_true rfl) ?_
  intro p e s m below meth c C
  refine g_aload_n C dX6_isStatic_0 rfl ?_
  refine g_iload_n C dX6_isStatic_1 rfl ?_
  refine g_bipush (v := 8) C dX6_isStatic_2 (by decide) ?_
  refine g_callVr 0 C (cr_X6_has (by omega)) mw_X6_has ml_X6_100 rfl rfl rfl rfl (Nat.le_of_ble_eq_true rfl) dX6_isStatic_4 ⟨Nat.le_of_ble_eq_true rfl, Nat.le_of_ble_eq_true rfl⟩ ⟨Nat.le_of_ble_eq_true rfl, Nat.le_of_ble_eq_true rfl⟩ ?_
  exact g_zret C dX6_isStatic_7 (b2i_nar _) ⟨rt_b (by rfl), rfl⟩
set_option maxRecDepth 100000 in
set_option maxHeartbeats 4000000 in
theorem cr_X6_isPrivate {l : Launch} {D : va_G} {cI cZ : ClassId} {b : Nat → Nat} {τ : St} {m0 : Nat} (hm : m0 < 60) : Cr l yX6_isPrivate cX6_isPrivate 2 (some .boolean) 1 22 D cI cZ (pM b cI cZ) [.ref (b 0), .int (nI m0)] τ (b2i (Hs τ m0 4)) := by
  refine Ct.of 0 (by decide) (by simp [Value.category]) (Nat.le_of_ble_eq_true rfl) ?_
  intro p e s m below meth c C
  refine g_aload_n C dX6_isPrivate_0 rfl ?_
  refine g_iload_n C dX6_isPrivate_1 rfl ?_
  refine g_iconst (v := 4) C dX6_isPrivate_2 (by decide) ?_
  refine g_callVr 0 C (cr_X6_has (by omega)) mw_X6_has ml_X6_100 rfl rfl rfl rfl (Nat.le_of_ble_eq_true rfl) dX6_isPrivate_3 ⟨Nat.le_of_ble_eq_true rfl, Nat.le_of_ble_eq_true rfl⟩ ⟨Nat.le_of_ble_eq_true rfl, Nat.le_of_ble_eq_true rfl⟩ ?_
  exact g_zret C dX6_isPrivate_6 (b2i_nar _) ⟨rt_b (by rfl), rfl⟩
set_option maxRecDepth 100000 in
set_option maxHeartbeats 4000000 in
theorem cr_X6_isInterface {l : Launch} {D : va_G} {cI cZ : ClassId} {b : Nat → Nat} {τ : St} (hW : W0 τ) {x : Nat} (hx : x < nM τ) : Cr l yX6_isInterface cX6_isInterface 2 (some .boolean) 0 0 D cI cZ (pM b cI cZ) [.ref (b 0), .int (nI x)] τ (b2i (Ifc τ x)) := by
  refine Ct.of 0 (by decide) (by simp [Value.category]) (Nat.le_of_ble_eq_true rfl) ?_
  intro p e s m below meth c C
  have hTl := w0_tl hW
  have hMl := w0_ml hW
  have hof_x := w0_ofl hW hx
  refine g_aload_n C dX6_isInterface_0 rfl ?_
  refine gf_X6_7 C dX6_isInterface_1 ?_
  refine g_aload_n C dX6_isInterface_4 rfl ?_
  refine gf_X6_35 C dX6_isInterface_5 ?_
  refine g_iload_n C dX6_isInterface_8 rfl ?_
  refine gM_lv9 C (by omega) (w0_of hW (by omega)) dX6_isInterface_9 ?_
  refine gM_ln1 C (by omega) dX6_isInterface_10 ?_
  refine g_iconst (v := 2) C dX6_isInterface_11 (by decide) ?_
  refine g_icmp_ne (tgt := 19) C dX6_isInterface_12 (by decide) (fun h12 => ?_) (fun h12 => ?_)
  · refine g_iconst (v := 0) C dX6_isInterface_19 (by decide) ?_
    exact g_zret C dX6_isInterface_20 nar_0 ⟨rt_f (by simp [Ifc, *]), rfl⟩
  · refine g_iconst (v := 1) C dX6_isInterface_15 (by decide) ?_
    refine g_goto (tgt := 20) C dX6_isInterface_16 (by decide) ?_
    exact g_zret C dX6_isInterface_20 nar_1 ⟨rt_t (by simp [Ifc, *]), rfl⟩
set_option maxRecDepth 100000 in
set_option maxHeartbeats 4000000 in
theorem cr_X6_one {l : Launch} {D : va_G} {cI cZ : ClassId} {pic : St → va_W} {τ : St} {v k : Int32} : Cr l yX6_one cX6_one 2 (some .int) 0 0 D cI cZ (pic) [.int v, .int k] τ (one0 v k) := by
  refine Ct.of 0 (by decide) (by simp [Value.category]) (Nat.le_of_ble_eq_true rfl) ?_
  intro p e s m below meth c C
  refine g_iload_n C dX6_one_0 rfl ?_
  refine g_iload_n C dX6_one_1 rfl ?_
  refine g_iand C dX6_one_2 ?_
  refine g_if_ne (tgt := 10) C dX6_one_3 (by decide) (fun h3 => ?_) (fun h3 => ?_)
  · refine g_iconst (v := 1) C dX6_one_10 (by decide) ?_
    exact g_iret C dX6_one_11 ⟨rt_i (by simp [one0, *]), rfl⟩
  · refine g_iconst (v := 0) C dX6_one_6 (by decide) ?_
    refine g_goto (tgt := 11) C dX6_one_7 (by decide) ?_
    exact g_iret C dX6_one_11 ⟨rt_i (by simp [one0, *]), rfl⟩
set_option maxRecDepth 100000 in
set_option maxHeartbeats 4000000 in
theorem cr_X6_mayBe {l : Launch} {D : va_G} {cI cZ : ClassId} {pic : St → va_W} {τ : St} {kd v : Int32} : Cr l yX6_mayBe cX6_mayBe 3 (some .boolean) 1 22 D cI cZ (pic) [.int kd, .int v] τ (b2i (mayB kd v)) := by
  refine Ct.of 1 (by decide) (by simp [Value.category]) (Nat.le_of_ble_eq_true rfl) ?_
  intro p e s m below meth c C
  refine g_iload_n C dX6_mayBe_0 rfl ?_
  refine g_iconst (v := 0) C dX6_mayBe_1 (by decide) ?_
  refine g_sipush (v := 255) C dX6_mayBe_2 (by decide) ?_
  refine g_callSr C (cr_X6_in) mw_X6_in ml_X6_66 rfl rfl (Nat.le_of_ble_eq_true rfl) dX6_mayBe_5 ⟨Nat.le_of_ble_eq_true rfl, Nat.le_of_ble_eq_true rfl⟩ ⟨Nat.le_of_ble_eq_true rfl, Nat.le_of_ble_eq_true rfl⟩ ?_
  refine g_ifb_eq (tgt := 32) C dX6_mayBe_8 (by decide) (fun h8 => ?_) (fun h8 => ?_)
  · refine g_iconst (v := 0) C dX6_mayBe_32 (by decide) ?_
    exact g_zret C dX6_mayBe_33 nar_0 ⟨rt_f (by grind [mayB]), rfl⟩
  · refine g_iload_n C dX6_mayBe_11 rfl ?_
    refine g_iconst (v := 1) C dX6_mayBe_12 (by decide) ?_
    refine g_callSr C (cr_X6_one) mw_X6_one ml_X6_103 rfl rfl (Nat.le_of_ble_eq_true rfl) dX6_mayBe_13 ⟨Nat.le_of_ble_eq_true rfl, Nat.le_of_ble_eq_true rfl⟩ ⟨Nat.le_of_ble_eq_true rfl, Nat.le_of_ble_eq_true rfl⟩ ?_
    refine g_iload_n C dX6_mayBe_16 rfl ?_
    refine g_iconst (v := 2) C dX6_mayBe_17 (by decide) ?_
    refine g_callSr C (cr_X6_one) mw_X6_one ml_X6_103 rfl rfl (Nat.le_of_ble_eq_true rfl) dX6_mayBe_18 ⟨Nat.le_of_ble_eq_true rfl, Nat.le_of_ble_eq_true rfl⟩ ⟨Nat.le_of_ble_eq_true rfl, Nat.le_of_ble_eq_true rfl⟩ ?_
    refine g_iadd C dX6_mayBe_21 ?_
    refine g_iload_n C dX6_mayBe_22 rfl ?_
    refine g_iconst (v := 4) C dX6_mayBe_23 (by decide) ?_
    refine g_callSr C (cr_X6_one) mw_X6_one ml_X6_103 rfl rfl (Nat.le_of_ble_eq_true rfl) dX6_mayBe_24 ⟨Nat.le_of_ble_eq_true rfl, Nat.le_of_ble_eq_true rfl⟩ ⟨Nat.le_of_ble_eq_true rfl, Nat.le_of_ble_eq_true rfl⟩ ?_
    refine g_iadd C dX6_mayBe_27 ?_
    refine g_iconst (v := 1) C dX6_mayBe_28 (by decide) ?_
    refine g_icmp_le (tgt := 34) C dX6_mayBe_29 (by decide) (fun h29 => ?_) (fun h29 => ?_)
    · refine g_iload_n C dX6_mayBe_34 rfl ?_
      refine g_iconst (v := 2) C dX6_mayBe_35 (by decide) ?_
      refine g_icmp_ge (tgt := 85) C dX6_mayBe_36 (by decide) (fun h36 => ?_) (fun h36 => ?_)
      · refine g_iload_n C dX6_mayBe_85 rfl ?_
        refine g_iconst (v := 4) C dX6_mayBe_86 (by decide) ?_
        refine g_callSr C (cr_X6_one) mw_X6_one ml_X6_103 rfl rfl (Nat.le_of_ble_eq_true rfl) dX6_mayBe_87 ⟨Nat.le_of_ble_eq_true rfl, Nat.le_of_ble_eq_true rfl⟩ ⟨Nat.le_of_ble_eq_true rfl, Nat.le_of_ble_eq_true rfl⟩ ?_
        refine g_iload_n C dX6_mayBe_90 rfl ?_
        refine g_bipush (v := 8) C dX6_mayBe_91 (by decide) ?_
        refine g_callSr C (cr_X6_one) mw_X6_one ml_X6_103 rfl rfl (Nat.le_of_ble_eq_true rfl) dX6_mayBe_93 ⟨Nat.le_of_ble_eq_true rfl, Nat.le_of_ble_eq_true rfl⟩ ⟨Nat.le_of_ble_eq_true rfl, Nat.le_of_ble_eq_true rfl⟩ ?_
        refine g_iadd C dX6_mayBe_96 ?_
        refine g_iload_n C dX6_mayBe_97 rfl ?_
        refine g_bipush (v := 32) C dX6_mayBe_98 (by decide) ?_
        refine g_callSr C (cr_X6_one) mw_X6_one ml_X6_103 rfl rfl (Nat.le_of_ble_eq_true rfl) dX6_mayBe_100 ⟨Nat.le_of_ble_eq_true rfl, Nat.le_of_ble_eq_true rfl⟩ ⟨Nat.le_of_ble_eq_true rfl, Nat.le_of_ble_eq_true rfl⟩ ?_
        refine g_iadd C dX6_mayBe_103 ?_
        refine g_iload_n C dX6_mayBe_104 rfl ?_
        refine g_bipush (v := 64) C dX6_mayBe_105 (by decide) ?_
        refine g_callSr C (cr_X6_one) mw_X6_one ml_X6_103 rfl rfl (Nat.le_of_ble_eq_true rfl) dX6_mayBe_107 ⟨Nat.le_of_ble_eq_true rfl, Nat.le_of_ble_eq_true rfl⟩ ⟨Nat.le_of_ble_eq_true rfl, Nat.le_of_ble_eq_true rfl⟩ ?_
        refine g_iadd C dX6_mayBe_110 ?_
        refine g_istore_n C dX6_mayBe_111 (by decide) ?_
        refine g_iload_n C dX6_mayBe_112 rfl ?_
        refine g_iconst (v := 2) C dX6_mayBe_113 (by decide) ?_
        refine g_callSr C (cr_X6_one) mw_X6_one ml_X6_103 rfl rfl (Nat.le_of_ble_eq_true rfl) dX6_mayBe_114 ⟨Nat.le_of_ble_eq_true rfl, Nat.le_of_ble_eq_true rfl⟩ ⟨Nat.le_of_ble_eq_true rfl, Nat.le_of_ble_eq_true rfl⟩ ?_
        refine g_iload_n C dX6_mayBe_117 rfl ?_
        refine g_bipush (v := 16) C dX6_mayBe_118 (by decide) ?_
        refine g_callSr C (cr_X6_one) mw_X6_one ml_X6_103 rfl rfl (Nat.le_of_ble_eq_true rfl) dX6_mayBe_120 ⟨Nat.le_of_ble_eq_true rfl, Nat.le_of_ble_eq_true rfl⟩ ⟨Nat.le_of_ble_eq_true rfl, Nat.le_of_ble_eq_true rfl⟩ ?_
        refine g_iadd C dX6_mayBe_123 ?_
        refine g_if_ne (tgt := 157) C dX6_mayBe_124 (by decide) (fun h124 => ?_) (fun h124 => ?_)
        · refine g_iconst (v := 0) C dX6_mayBe_157 (by decide) ?_
          exact g_zret C dX6_mayBe_158 nar_0 ⟨rt_f (by grind [mayB]), rfl⟩
        · refine g_iload_n C dX6_mayBe_127 rfl ?_
          refine g_iconst (v := 1) C dX6_mayBe_128 (by decide) ?_
          refine g_icmp_eq (tgt := 153) C dX6_mayBe_129 (by decide) (fun h129 => ?_) (fun h129 => ?_)
          · refine g_iconst (v := 1) C dX6_mayBe_153 (by decide) ?_
            refine g_goto (tgt := 158) C dX6_mayBe_154 (by decide) ?_
            exact g_zret C dX6_mayBe_158 nar_1 ⟨rt_t (by grind [mayB]), rfl⟩
          · refine g_iload_n C dX6_mayBe_132 rfl ?_
            refine g_iconst (v := 2) C dX6_mayBe_133 (by decide) ?_
            refine g_icmp_ne (tgt := 157) C dX6_mayBe_134 (by decide) (fun h134 => ?_) (fun h134 => ?_)
            · refine g_iconst (v := 0) C dX6_mayBe_157 (by decide) ?_
              exact g_zret C dX6_mayBe_158 nar_0 ⟨rt_f (by grind [mayB]), rfl⟩
            · refine g_iload_n C dX6_mayBe_137 rfl ?_
              refine g_iconst (v := 4) C dX6_mayBe_138 (by decide) ?_
              refine g_callSr C (cr_X6_one) mw_X6_one ml_X6_103 rfl rfl (Nat.le_of_ble_eq_true rfl) dX6_mayBe_139 ⟨Nat.le_of_ble_eq_true rfl, Nat.le_of_ble_eq_true rfl⟩ ⟨Nat.le_of_ble_eq_true rfl, Nat.le_of_ble_eq_true rfl⟩ ?_
              refine g_iload_n C dX6_mayBe_142 rfl ?_
              refine g_bipush (v := 8) C dX6_mayBe_143 (by decide) ?_
              refine g_callSr C (cr_X6_one) mw_X6_one ml_X6_103 rfl rfl (Nat.le_of_ble_eq_true rfl) dX6_mayBe_145 ⟨Nat.le_of_ble_eq_true rfl, Nat.le_of_ble_eq_true rfl⟩ ⟨Nat.le_of_ble_eq_true rfl, Nat.le_of_ble_eq_true rfl⟩ ?_
              refine g_iadd C dX6_mayBe_148 ?_
              refine g_iconst (v := 2) C dX6_mayBe_149 (by decide) ?_
              refine g_icmp_ne (tgt := 157) C dX6_mayBe_150 (by decide) (fun h150 => ?_) (fun h150 => ?_)
              · refine g_iconst (v := 0) C dX6_mayBe_157 (by decide) ?_
                exact g_zret C dX6_mayBe_158 nar_0 ⟨rt_f (by grind [mayB]), rfl⟩
              · refine g_iconst (v := 1) C dX6_mayBe_153 (by decide) ?_
                refine g_goto (tgt := 158) C dX6_mayBe_154 (by decide) ?_
                exact g_zret C dX6_mayBe_158 nar_1 ⟨rt_t (by grind [mayB]), rfl⟩
      · refine g_iload_n C dX6_mayBe_39 rfl ?_
        refine g_bipush (v := 64) C dX6_mayBe_40 (by decide) ?_
        refine g_callSr C (cr_X6_one) mw_X6_one ml_X6_103 rfl rfl (Nat.le_of_ble_eq_true rfl) dX6_mayBe_42 ⟨Nat.le_of_ble_eq_true rfl, Nat.le_of_ble_eq_true rfl⟩ ⟨Nat.le_of_ble_eq_true rfl, Nat.le_of_ble_eq_true rfl⟩ ?_
        refine g_if_ne (tgt := 83) C dX6_mayBe_45 (by decide) (fun h45 => ?_) (fun h45 => ?_)
        · refine g_iconst (v := 0) C dX6_mayBe_83 (by decide) ?_
          exact g_zret C dX6_mayBe_84 nar_0 ⟨rt_f (by grind [mayB]), rfl⟩
        · refine g_iload_n C dX6_mayBe_48 rfl ?_
          refine g_bipush (v := 32) C dX6_mayBe_49 (by decide) ?_
          refine g_callSr C (cr_X6_one) mw_X6_one ml_X6_103 rfl rfl (Nat.le_of_ble_eq_true rfl) dX6_mayBe_51 ⟨Nat.le_of_ble_eq_true rfl, Nat.le_of_ble_eq_true rfl⟩ ⟨Nat.le_of_ble_eq_true rfl, Nat.le_of_ble_eq_true rfl⟩ ?_
          refine g_if_eq (tgt := 79) C dX6_mayBe_54 (by decide) (fun h54 => ?_) (fun h54 => ?_)
          · refine g_iconst (v := 1) C dX6_mayBe_79 (by decide) ?_
            refine g_goto (tgt := 84) C dX6_mayBe_80 (by decide) ?_
            exact g_zret C dX6_mayBe_84 nar_1 ⟨rt_t (by grind [mayB]), rfl⟩
          · refine g_iload_n C dX6_mayBe_57 rfl ?_
            refine g_iconst (v := 4) C dX6_mayBe_58 (by decide) ?_
            refine g_callSr C (cr_X6_one) mw_X6_one ml_X6_103 rfl rfl (Nat.le_of_ble_eq_true rfl) dX6_mayBe_59 ⟨Nat.le_of_ble_eq_true rfl, Nat.le_of_ble_eq_true rfl⟩ ⟨Nat.le_of_ble_eq_true rfl, Nat.le_of_ble_eq_true rfl⟩ ?_
            refine g_iload_n C dX6_mayBe_62 rfl ?_
            refine g_bipush (v := 8) C dX6_mayBe_63 (by decide) ?_
            refine g_callSr C (cr_X6_one) mw_X6_one ml_X6_103 rfl rfl (Nat.le_of_ble_eq_true rfl) dX6_mayBe_65 ⟨Nat.le_of_ble_eq_true rfl, Nat.le_of_ble_eq_true rfl⟩ ⟨Nat.le_of_ble_eq_true rfl, Nat.le_of_ble_eq_true rfl⟩ ?_
            refine g_iadd C dX6_mayBe_68 ?_
            refine g_iload_n C dX6_mayBe_69 rfl ?_
            refine g_bipush (v := 16) C dX6_mayBe_70 (by decide) ?_
            refine g_callSr C (cr_X6_one) mw_X6_one ml_X6_103 rfl rfl (Nat.le_of_ble_eq_true rfl) dX6_mayBe_72 ⟨Nat.le_of_ble_eq_true rfl, Nat.le_of_ble_eq_true rfl⟩ ⟨Nat.le_of_ble_eq_true rfl, Nat.le_of_ble_eq_true rfl⟩ ?_
            refine g_iadd C dX6_mayBe_75 ?_
            refine g_if_ne (tgt := 83) C dX6_mayBe_76 (by decide) (fun h76 => ?_) (fun h76 => ?_)
            · refine g_iconst (v := 0) C dX6_mayBe_83 (by decide) ?_
              exact g_zret C dX6_mayBe_84 nar_0 ⟨rt_f (by grind [mayB]), rfl⟩
            · refine g_iconst (v := 1) C dX6_mayBe_79 (by decide) ?_
              refine g_goto (tgt := 84) C dX6_mayBe_80 (by decide) ?_
              exact g_zret C dX6_mayBe_84 nar_1 ⟨rt_t (by grind [mayB]), rfl⟩
    · refine g_iconst (v := 0) C dX6_mayBe_32 (by decide) ?_
      exact g_zret C dX6_mayBe_33 nar_0 ⟨rt_f (by grind [mayB]), rfl⟩
set_option maxRecDepth 100000 in
set_option maxHeartbeats 4000000 in
theorem cr_X6_access {l : Launch} {D : va_G} {cI cZ : ClassId} {b : Nat → Nat} {τ : St} (hW : W0 τ) {x : Nat} (hx : x < nM τ) : Cr l yX6_access cX6_access 2 (some .int) 1 22 D cI cZ (pM b cI cZ) [.ref (b 0), .int (nI x)] τ (Acc τ x) := by
  refine Ct.of 0 (by decide) (by simp [Value.category]) (Nat.le_of_ble_eq_true rfl) ?_
  intro p e s m below meth c C
  have hTl := w0_tl hW
  have hMl := w0_ml hW
  refine g_aload_n C dX6_access_0 rfl ?_
  refine g_iload_n C dX6_access_1 rfl ?_
  refine g_iconst (v := 4) C dX6_access_2 (by decide) ?_
  refine g_callVr 0 C (cr_X6_has (by omega)) mw_X6_has ml_X6_100 rfl rfl rfl rfl (Nat.le_of_ble_eq_true rfl) dX6_access_3 ⟨Nat.le_of_ble_eq_true rfl, Nat.le_of_ble_eq_true rfl⟩ ⟨Nat.le_of_ble_eq_true rfl, Nat.le_of_ble_eq_true rfl⟩ ?_
  refine g_ifb_eq (tgt := 13) C dX6_access_6 (by decide) (fun h6 => ?_) (fun h6 => ?_)
  · refine g_aload_n C dX6_access_13 rfl ?_
    refine g_iload_n C dX6_access_14 rfl ?_
    refine g_iconst (v := 1) C dX6_access_15 (by decide) ?_
    refine g_callVr 0 C (cr_X6_has (by omega)) mw_X6_has ml_X6_100 rfl rfl rfl rfl (Nat.le_of_ble_eq_true rfl) dX6_access_16 ⟨Nat.le_of_ble_eq_true rfl, Nat.le_of_ble_eq_true rfl⟩ ⟨Nat.le_of_ble_eq_true rfl, Nat.le_of_ble_eq_true rfl⟩ ?_
    refine g_ifb_ne (tgt := 30) C dX6_access_19 (by decide) (fun h19 => ?_) (fun h19 => ?_)
    · refine g_iconst (v := 3) C dX6_access_30 (by decide) ?_
      refine g_goto (tgt := 48) C dX6_access_31 (by decide) ?_
      exact g_iret C dX6_access_48 ⟨rt_i (by simp [Acc, *]), rfl⟩
    · refine g_aload_n C dX6_access_22 rfl ?_
      refine g_iload_n C dX6_access_23 rfl ?_
      refine g_callVr 0 C (cr_X6_isInterface hW (by omega)) mw_X6_isInterface ml_X6_110 rfl rfl rfl rfl (Nat.le_of_ble_eq_true rfl) dX6_access_24 ⟨Nat.le_of_ble_eq_true rfl, Nat.le_of_ble_eq_true rfl⟩ ⟨Nat.le_of_ble_eq_true rfl, Nat.le_of_ble_eq_true rfl⟩ ?_
      refine g_ifb_eq (tgt := 34) C dX6_access_27 (by decide) (fun h27 => ?_) (fun h27 => ?_)
      · refine g_aload_n C dX6_access_34 rfl ?_
        refine g_iload_n C dX6_access_35 rfl ?_
        refine g_iconst (v := 2) C dX6_access_36 (by decide) ?_
        refine g_callVr 0 C (cr_X6_has (by omega)) mw_X6_has ml_X6_100 rfl rfl rfl rfl (Nat.le_of_ble_eq_true rfl) dX6_access_37 ⟨Nat.le_of_ble_eq_true rfl, Nat.le_of_ble_eq_true rfl⟩ ⟨Nat.le_of_ble_eq_true rfl, Nat.le_of_ble_eq_true rfl⟩ ?_
        refine g_ifb_eq (tgt := 47) C dX6_access_40 (by decide) (fun h40 => ?_) (fun h40 => ?_)
        · refine g_iconst (v := 1) C dX6_access_47 (by decide) ?_
          exact g_iret C dX6_access_48 ⟨rt_i (by simp [Acc, *]), rfl⟩
        · refine g_iconst (v := 2) C dX6_access_43 (by decide) ?_
          refine g_goto (tgt := 48) C dX6_access_44 (by decide) ?_
          exact g_iret C dX6_access_48 ⟨rt_i (by simp [Acc, *]), rfl⟩
      · refine g_iconst (v := 3) C dX6_access_30 (by decide) ?_
        refine g_goto (tgt := 48) C dX6_access_31 (by decide) ?_
        exact g_iret C dX6_access_48 ⟨rt_i (by simp [Acc, *]), rfl⟩
  · refine g_iconst (v := 0) C dX6_access_9 (by decide) ?_
    refine g_goto (tgt := 48) C dX6_access_10 (by decide) ?_
    exact g_iret C dX6_access_48 ⟨rt_i (by simp [Acc, *]), rfl⟩
set_option maxRecDepth 100000 in
set_option maxHeartbeats 4000000 in
theorem cr_X6_suits {l : Launch} {D : va_G} {cI cZ : ClassId} {b : Nat → Nat} {τ : St} (hW : W0 τ) {a z : Nat} (ha : a < 20) (hz : z < 20) : Cr l yX6_suits cX6_suits 3 (some .boolean) 2 44 D cI cZ (pM b cI cZ) [.ref (b 0), .int (nI a), .int (nI z)] τ (b2i (Sts τ a z)) := by
  refine Ct.of 0 (by decide) (by simp [Value.category]) (Nat.le_of_ble_eq_true rfl) ?_
  intro p e s m below meth c C
  refine g_iload_n C dX6_suits_0 rfl ?_
  refine g_iload_n C dX6_suits_1 rfl ?_
  refine g_icmpN_eq (tgt := 26) C (by omega) (by omega) dX6_suits_2 (by decide) (fun h2 => ?_) (fun h2 => ?_)
  · refine g_iconst (v := 1) C dX6_suits_26 (by decide) ?_
    refine g_goto (tgt := 31) C dX6_suits_27 (by decide) ?_
    exact g_zret C dX6_suits_31 nar_1 ⟨rt_t (by simp [Sts, *] <;> omega), rfl⟩
  · refine g_iload_n C dX6_suits_5 rfl ?_
    refine g_bipushN 16 C dX6_suits_6 (by decide) ?_
    refine g_icmpN_ge (tgt := 30) C (by omega) (by omega) dX6_suits_8 (by decide) (fun h8 => ?_) (fun h8 => ?_)
    · refine g_iconst (v := 0) C dX6_suits_30 (by decide) ?_
      exact g_zret C dX6_suits_31 nar_0 ⟨rt_f (by simp [Sts, *] <;> omega), rfl⟩
    · refine g_iload_n C dX6_suits_11 rfl ?_
      refine g_bipushN 16 C dX6_suits_12 (by decide) ?_
      refine g_icmpN_ge (tgt := 30) C (by omega) (by omega) dX6_suits_14 (by decide) (fun h14 => ?_) (fun h14 => ?_)
      · refine g_iconst (v := 0) C dX6_suits_30 (by decide) ?_
        exact g_zret C dX6_suits_31 nar_0 ⟨rt_f (by simp [Sts, *] <;> omega), rfl⟩
      · refine g_aload_n C dX6_suits_17 rfl ?_
        refine g_iload_n C dX6_suits_18 rfl ?_
        refine g_iload_n C dX6_suits_19 rfl ?_
        refine g_callVr 0 C (cr_X6_isSub hW (by omega) (by omega)) mw_X6_isSub ml_X6_94 rfl rfl rfl rfl (Nat.le_of_ble_eq_true rfl) dX6_suits_20 ⟨Nat.le_of_ble_eq_true rfl, Nat.le_of_ble_eq_true rfl⟩ ⟨Nat.le_of_ble_eq_true rfl, Nat.le_of_ble_eq_true rfl⟩ ?_
        refine g_ifb_eq (tgt := 30) C dX6_suits_23 (by decide) (fun h23 => ?_) (fun h23 => ?_)
        · refine g_iconst (v := 0) C dX6_suits_30 (by decide) ?_
          exact g_zret C dX6_suits_31 nar_0 ⟨rt_f (by simp [Sts, *] <;> omega), rfl⟩
        · refine g_iconst (v := 1) C dX6_suits_26 (by decide) ?_
          refine g_goto (tgt := 31) C dX6_suits_27 (by decide) ?_
          exact g_zret C dX6_suits_31 nar_1 ⟨rt_t (by simp [Sts, *] <;> omega), rfl⟩
set_option maxRecDepth 100000 in
set_option maxHeartbeats 4000000 in
theorem cr_X6_isSeen {l : Launch} {D : va_G} {cI cZ : ClassId} {b : Nat → Nat} {τ : St} (hW : W0 τ) {x o : Nat} (hx : x < nM τ) (ho : o < nM τ) : Cr l yX6_isSeen cX6_isSeen 3 (some .boolean) 2 43 D cI cZ (pM b cI cZ) [.ref (b 0), .int (nI x), .int (nI o)] τ (b2i (Seen τ x o)) := by
  refine Ct.of 0 (by decide) (by simp [Value.category]) (Nat.le_of_ble_eq_true rfl) ?_
  intro p e s m below meth c C
  have hTl := w0_tl hW
  have hMl := w0_ml hW
  have hof_x := w0_ofl hW hx
  have hof_o := w0_ofl hW ho
  refine g_aload_n C dX6_isSeen_0 rfl ?_
  refine g_iload_n C dX6_isSeen_1 rfl ?_
  refine g_callVr 0 C (cr_X6_access hW (by omega)) mw_X6_access ml_X6_113 rfl rfl rfl rfl (Nat.le_of_ble_eq_true rfl) dX6_isSeen_2 ⟨Nat.le_of_ble_eq_true rfl, Nat.le_of_ble_eq_true rfl⟩ ⟨Nat.le_of_ble_eq_true rfl, Nat.le_of_ble_eq_true rfl⟩ ?_
  refine g_iconst (v := 2) C dX6_isSeen_5 (by decide) ?_
  refine g_icmp_ge (tgt := 34) C dX6_isSeen_6 (by decide) (fun h6 => ?_) (fun h6 => ?_)
  · refine g_iconst (v := 1) C dX6_isSeen_34 (by decide) ?_
    refine g_goto (tgt := 39) C dX6_isSeen_35 (by decide) ?_
    exact g_zret C dX6_isSeen_39 nar_1 ⟨rt_t (by simp [Seen, *]), rfl⟩
  · refine g_aload_n C dX6_isSeen_9 rfl ?_
    refine gf_X6_13 C dX6_isSeen_10 ?_
    refine g_aload_n C dX6_isSeen_13 rfl ?_
    refine gf_X6_35 C dX6_isSeen_14 ?_
    refine g_iload_n C dX6_isSeen_17 rfl ?_
    refine gM_lv9 C (by omega) (w0_of hW (by omega)) dX6_isSeen_18 ?_
    refine gM_ln2 C (by omega) dX6_isSeen_19 ?_
    refine g_aload_n C dX6_isSeen_20 rfl ?_
    refine gf_X6_13 C dX6_isSeen_21 ?_
    refine g_aload_n C dX6_isSeen_24 rfl ?_
    refine gf_X6_35 C dX6_isSeen_25 ?_
    refine g_iload_n C dX6_isSeen_28 rfl ?_
    refine gM_lv9 C (by omega) (w0_of hW (by omega)) dX6_isSeen_29 ?_
    refine gM_ln2 C (by omega) dX6_isSeen_30 ?_
    refine g_icmp_ne (tgt := 38) C dX6_isSeen_31 (by decide) (fun h31 => ?_) (fun h31 => ?_)
    · refine g_iconst (v := 0) C dX6_isSeen_38 (by decide) ?_
      exact g_zret C dX6_isSeen_39 nar_0 ⟨rt_f (by simp [Seen, *]), rfl⟩
    · refine g_iconst (v := 1) C dX6_isSeen_34 (by decide) ?_
      refine g_goto (tgt := 39) C dX6_isSeen_35 (by decide) ?_
      exact g_zret C dX6_isSeen_39 nar_1 ⟨rt_t (by simp [Seen, *]), rfl⟩
set_option maxRecDepth 100000 in
set_option maxHeartbeats 4000000 in
theorem cr_X6_isOver {l : Launch} {D : va_G} {cI cZ : ClassId} {b : Nat → Nat} {τ : St} (hW : W0 τ) {x o : Nat} (hx : x < 60) (ho : o < 60) : Cr l yX6_isOver cX6_isOver 3 (some .boolean) 0 0 D cI cZ (pM b cI cZ) [.ref (b 0), .int (nI x), .int (nI o)] τ (b2i (Ov τ x o)) := by
  refine Ct.of 0 (by decide) (by simp [Value.category]) (Nat.le_of_ble_eq_true rfl) ?_
  intro p e s m below meth c C
  refine g_aload_n C dX6_isOver_0 rfl ?_
  refine gf_X6_50 C dX6_isOver_1 ?_
  refine g_bipushN 60 C dX6_isOver_4 (by decide) ?_
  refine g_iload_n C dX6_isOver_6 rfl ?_
  refine g_imulN C dX6_isOver_7 ?_
  refine g_iload_n C dX6_isOver_8 rfl ?_
  refine g_iaddN C dX6_isOver_9 ?_
  refine gM_lv14 C (by omega) (w0_b14 hW _) dX6_isOver_10 ?_
  exact g_zret C dX6_isOver_11 (b2i_nar _) ⟨rt_b (by rfl), rfl⟩
set_option maxRecDepth 100000 in
set_option maxHeartbeats 4000000 in
theorem cr_X6_hidesIt {l : Launch} {D : va_G} {cI cZ : ClassId} {b : Nat → Nat} {τ : St} (hW : W0 τ) {x o : Nat} (hx : x < nM τ) (ho : o < nM τ) : Cr l yX6_hidesIt cX6_hidesIt 3 (some .boolean) 3 65 D cI cZ (pM b cI cZ) [.ref (b 0), .int (nI x), .int (nI o)] τ (b2i (Hid τ x o)) := by
  refine Ct.of 0 (by decide) (by simp [Value.category]) (Nat.le_of_ble_eq_true rfl) ?_
  intro p e s m below meth c C
  have hTl := w0_tl hW
  have hMl := w0_ml hW
  have hof_x := w0_ofl hW hx
  have hof_o := w0_ofl hW ho
  refine g_aload_n C dX6_hidesIt_0 rfl ?_
  refine gf_X6_38 C dX6_hidesIt_1 ?_
  refine g_iload_n C dX6_hidesIt_4 rfl ?_
  refine gM_ln10 C (by omega) dX6_hidesIt_5 ?_
  refine g_aload_n C dX6_hidesIt_6 rfl ?_
  refine gf_X6_38 C dX6_hidesIt_7 ?_
  refine g_iload_n C dX6_hidesIt_10 rfl ?_
  refine gM_ln10 C (by omega) dX6_hidesIt_11 ?_
  refine g_icmp_ne (tgt := 79) C dX6_hidesIt_12 (by decide) (fun h12 => ?_) (fun h12 => ?_)
  · refine g_iconst (v := 0) C dX6_hidesIt_79 (by decide) ?_
    exact g_zret C dX6_hidesIt_80 nar_0 ⟨rt_f (by simp [Hid, *]), rfl⟩
  · refine g_aload_n C dX6_hidesIt_15 rfl ?_
    refine g_iload_n C dX6_hidesIt_16 rfl ?_
    refine g_callVr 0 C (cr_X6_isStatic (by omega)) mw_X6_isStatic ml_X6_117 rfl rfl rfl rfl (Nat.le_of_ble_eq_true rfl) dX6_hidesIt_17 ⟨Nat.le_of_ble_eq_true rfl, Nat.le_of_ble_eq_true rfl⟩ ⟨Nat.le_of_ble_eq_true rfl, Nat.le_of_ble_eq_true rfl⟩ ?_
    refine g_ifb_eq (tgt := 79) C dX6_hidesIt_20 (by decide) (fun h20 => ?_) (fun h20 => ?_)
    · refine g_iconst (v := 0) C dX6_hidesIt_79 (by decide) ?_
      exact g_zret C dX6_hidesIt_80 nar_0 ⟨rt_f (by simp [Hid, *]), rfl⟩
    · refine g_aload_n C dX6_hidesIt_23 rfl ?_
      refine g_iload_n C dX6_hidesIt_24 rfl ?_
      refine g_callVr 0 C (cr_X6_isStatic (by omega)) mw_X6_isStatic ml_X6_117 rfl rfl rfl rfl (Nat.le_of_ble_eq_true rfl) dX6_hidesIt_25 ⟨Nat.le_of_ble_eq_true rfl, Nat.le_of_ble_eq_true rfl⟩ ⟨Nat.le_of_ble_eq_true rfl, Nat.le_of_ble_eq_true rfl⟩ ?_
      refine g_ifb_eq (tgt := 79) C dX6_hidesIt_28 (by decide) (fun h28 => ?_) (fun h28 => ?_)
      · refine g_iconst (v := 0) C dX6_hidesIt_79 (by decide) ?_
        exact g_zret C dX6_hidesIt_80 nar_0 ⟨rt_f (by simp [Hid, *]), rfl⟩
      · refine g_aload_n C dX6_hidesIt_31 rfl ?_
        refine g_aload_n C dX6_hidesIt_32 rfl ?_
        refine gf_X6_35 C dX6_hidesIt_33 ?_
        refine g_iload_n C dX6_hidesIt_36 rfl ?_
        refine gM_lv9 C (by omega) (w0_of hW (by omega)) dX6_hidesIt_37 ?_
        refine g_aload_n C dX6_hidesIt_38 rfl ?_
        refine gf_X6_35 C dX6_hidesIt_39 ?_
        refine g_iload_n C dX6_hidesIt_42 rfl ?_
        refine gM_lv9 C (by omega) (w0_of hW (by omega)) dX6_hidesIt_43 ?_
        refine g_callVr 0 C (cr_X6_isBelow hW (by omega) (by omega)) mw_X6_isBelow ml_X6_90 rfl rfl rfl rfl (Nat.le_of_ble_eq_true rfl) dX6_hidesIt_44 ⟨Nat.le_of_ble_eq_true rfl, Nat.le_of_ble_eq_true rfl⟩ ⟨Nat.le_of_ble_eq_true rfl, Nat.le_of_ble_eq_true rfl⟩ ?_
        refine g_ifb_eq (tgt := 79) C dX6_hidesIt_47 (by decide) (fun h47 => ?_) (fun h47 => ?_)
        · refine g_iconst (v := 0) C dX6_hidesIt_79 (by decide) ?_
          exact g_zret C dX6_hidesIt_80 nar_0 ⟨rt_f (by simp [Hid, *]), rfl⟩
        · refine g_aload_n C dX6_hidesIt_50 rfl ?_
          refine g_iload_n C dX6_hidesIt_51 rfl ?_
          refine g_callVr 0 C (cr_X6_isInterface hW (by omega)) mw_X6_isInterface ml_X6_110 rfl rfl rfl rfl (Nat.le_of_ble_eq_true rfl) dX6_hidesIt_52 ⟨Nat.le_of_ble_eq_true rfl, Nat.le_of_ble_eq_true rfl⟩ ⟨Nat.le_of_ble_eq_true rfl, Nat.le_of_ble_eq_true rfl⟩ ?_
          refine g_ifb_ne (tgt := 79) C dX6_hidesIt_55 (by decide) (fun h55 => ?_) (fun h55 => ?_)
          · refine g_iconst (v := 0) C dX6_hidesIt_79 (by decide) ?_
            exact g_zret C dX6_hidesIt_80 nar_0 ⟨rt_f (by simp [Hid, *]), rfl⟩
          · refine g_aload_n C dX6_hidesIt_58 rfl ?_
            refine g_iload_n C dX6_hidesIt_59 rfl ?_
            refine g_callVr 0 C (cr_X6_isPrivate (by omega)) mw_X6_isPrivate ml_X6_120 rfl rfl rfl rfl (Nat.le_of_ble_eq_true rfl) dX6_hidesIt_60 ⟨Nat.le_of_ble_eq_true rfl, Nat.le_of_ble_eq_true rfl⟩ ⟨Nat.le_of_ble_eq_true rfl, Nat.le_of_ble_eq_true rfl⟩ ?_
            refine g_ifb_ne (tgt := 79) C dX6_hidesIt_63 (by decide) (fun h63 => ?_) (fun h63 => ?_)
            · refine g_iconst (v := 0) C dX6_hidesIt_79 (by decide) ?_
              exact g_zret C dX6_hidesIt_80 nar_0 ⟨rt_f (by simp [Hid, *]), rfl⟩
            · refine g_aload_n C dX6_hidesIt_66 rfl ?_
              refine g_iload_n C dX6_hidesIt_67 rfl ?_
              refine g_iload_n C dX6_hidesIt_68 rfl ?_
              refine g_callVr 0 C (cr_X6_isSeen hW (by omega) (by omega)) mw_X6_isSeen ml_X6_126 rfl rfl rfl rfl (Nat.le_of_ble_eq_true rfl) dX6_hidesIt_69 ⟨Nat.le_of_ble_eq_true rfl, Nat.le_of_ble_eq_true rfl⟩ ⟨Nat.le_of_ble_eq_true rfl, Nat.le_of_ble_eq_true rfl⟩ ?_
              refine g_ifb_eq (tgt := 79) C dX6_hidesIt_72 (by decide) (fun h72 => ?_) (fun h72 => ?_)
              · refine g_iconst (v := 0) C dX6_hidesIt_79 (by decide) ?_
                exact g_zret C dX6_hidesIt_80 nar_0 ⟨rt_f (by simp [Hid, *]), rfl⟩
              · refine g_iconst (v := 1) C dX6_hidesIt_75 (by decide) ?_
                refine g_goto (tgt := 80) C dX6_hidesIt_76 (by decide) ?_
                exact g_zret C dX6_hidesIt_80 nar_1 ⟨rt_t (by simp [Hid, *]), rfl⟩
set_option maxRecDepth 100000 in
set_option maxHeartbeats 4000000 in
theorem cr_X6_isMixed {l : Launch} {D : va_G} {cI cZ : ClassId} {b : Nat → Nat} {τ : St} (hW : W0 τ) {x o : Nat} (hx : x < nM τ) (ho : o < nM τ) : Cr l yX6_isMixed cX6_isMixed 4 (some .boolean) 3 65 D cI cZ (pM b cI cZ) [.ref (b 0), .int (nI x), .int (nI o)] τ (b2i (Mix τ x o)) := by
  refine Ct.of 1 (by decide) (by simp [Value.category]) (Nat.le_of_ble_eq_true rfl) ?_
  intro p e s m below meth c C
  have hTl := w0_tl hW
  have hMl := w0_ml hW
  have hof_x := w0_ofl hW hx
  have hof_o := w0_ofl hW ho
  refine g_aload_n C dX6_isMixed_0 rfl ?_
  refine gf_X6_38 C dX6_isMixed_1 ?_
  refine g_iload_n C dX6_isMixed_4 rfl ?_
  refine gM_ln10 C (by omega) dX6_isMixed_5 ?_
  refine g_aload_n C dX6_isMixed_6 rfl ?_
  refine gf_X6_38 C dX6_isMixed_7 ?_
  refine g_iload_n C dX6_isMixed_10 rfl ?_
  refine gM_ln10 C (by omega) dX6_isMixed_11 ?_
  refine g_icmp_ne (tgt := 59) C dX6_isMixed_12 (by decide) (fun h12 => ?_) (fun h12 => ?_)
  · refine g_iconst (v := 0) C dX6_isMixed_59 (by decide) ?_
    refine g_istore_n C dX6_isMixed_60 (by decide) ?_
    refine g_iload_n C dX6_isMixed_61 rfl ?_
    refine g_if_eq (tgt := 97) C dX6_isMixed_62 (by decide) (fun h62 => ?_) (fun h62 => ?_)
    · refine g_iconst (v := 0) C dX6_isMixed_97 (by decide) ?_
      exact g_zret C dX6_isMixed_98 nar_0 ⟨rt_f (by simp_all [Mix, b2i_inj]), rfl⟩
    · exact absurd h62 (by decide)
  · refine g_aload_n C dX6_isMixed_15 rfl ?_
    refine g_iload_n C dX6_isMixed_16 rfl ?_
    refine g_callVr 0 C (cr_X6_isStatic (by omega)) mw_X6_isStatic ml_X6_117 rfl rfl rfl rfl (Nat.le_of_ble_eq_true rfl) dX6_isMixed_17 ⟨Nat.le_of_ble_eq_true rfl, Nat.le_of_ble_eq_true rfl⟩ ⟨Nat.le_of_ble_eq_true rfl, Nat.le_of_ble_eq_true rfl⟩ ?_
    refine g_aload_n C dX6_isMixed_20 rfl ?_
    refine g_iload_n C dX6_isMixed_21 rfl ?_
    refine g_callVr 0 C (cr_X6_isStatic (by omega)) mw_X6_isStatic ml_X6_117 rfl rfl rfl rfl (Nat.le_of_ble_eq_true rfl) dX6_isMixed_22 ⟨Nat.le_of_ble_eq_true rfl, Nat.le_of_ble_eq_true rfl⟩ ⟨Nat.le_of_ble_eq_true rfl, Nat.le_of_ble_eq_true rfl⟩ ?_
    refine g_icmp_eq (tgt := 59) C dX6_isMixed_25 (by decide) (fun h25 => ?_) (fun h25 => ?_)
    · refine g_iconst (v := 0) C dX6_isMixed_59 (by decide) ?_
      refine g_istore_n C dX6_isMixed_60 (by decide) ?_
      refine g_iload_n C dX6_isMixed_61 rfl ?_
      refine g_if_eq (tgt := 97) C dX6_isMixed_62 (by decide) (fun h62 => ?_) (fun h62 => ?_)
      · refine g_iconst (v := 0) C dX6_isMixed_97 (by decide) ?_
        exact g_zret C dX6_isMixed_98 nar_0 ⟨rt_f (by simp_all [Mix, b2i_inj]), rfl⟩
      · exact absurd h62 (by decide)
    · refine g_aload_n C dX6_isMixed_28 rfl ?_
      refine g_aload_n C dX6_isMixed_29 rfl ?_
      refine gf_X6_35 C dX6_isMixed_30 ?_
      refine g_iload_n C dX6_isMixed_33 rfl ?_
      refine gM_lv9 C (by omega) (w0_of hW (by omega)) dX6_isMixed_34 ?_
      refine g_aload_n C dX6_isMixed_35 rfl ?_
      refine gf_X6_35 C dX6_isMixed_36 ?_
      refine g_iload_n C dX6_isMixed_39 rfl ?_
      refine gM_lv9 C (by omega) (w0_of hW (by omega)) dX6_isMixed_40 ?_
      refine g_callVr 0 C (cr_X6_isBelow hW (by omega) (by omega)) mw_X6_isBelow ml_X6_90 rfl rfl rfl rfl (Nat.le_of_ble_eq_true rfl) dX6_isMixed_41 ⟨Nat.le_of_ble_eq_true rfl, Nat.le_of_ble_eq_true rfl⟩ ⟨Nat.le_of_ble_eq_true rfl, Nat.le_of_ble_eq_true rfl⟩ ?_
      refine g_ifb_eq (tgt := 59) C dX6_isMixed_44 (by decide) (fun h44 => ?_) (fun h44 => ?_)
      · refine g_iconst (v := 0) C dX6_isMixed_59 (by decide) ?_
        refine g_istore_n C dX6_isMixed_60 (by decide) ?_
        refine g_iload_n C dX6_isMixed_61 rfl ?_
        refine g_if_eq (tgt := 97) C dX6_isMixed_62 (by decide) (fun h62 => ?_) (fun h62 => ?_)
        · refine g_iconst (v := 0) C dX6_isMixed_97 (by decide) ?_
          exact g_zret C dX6_isMixed_98 nar_0 ⟨rt_f (by simp_all [Mix, b2i_inj]), rfl⟩
        · exact absurd h62 (by decide)
      · refine g_aload_n C dX6_isMixed_47 rfl ?_
        refine g_iload_n C dX6_isMixed_48 rfl ?_
        refine g_callVr 0 C (cr_X6_isPrivate (by omega)) mw_X6_isPrivate ml_X6_120 rfl rfl rfl rfl (Nat.le_of_ble_eq_true rfl) dX6_isMixed_49 ⟨Nat.le_of_ble_eq_true rfl, Nat.le_of_ble_eq_true rfl⟩ ⟨Nat.le_of_ble_eq_true rfl, Nat.le_of_ble_eq_true rfl⟩ ?_
        refine g_ifb_ne (tgt := 59) C dX6_isMixed_52 (by decide) (fun h52 => ?_) (fun h52 => ?_)
        · refine g_iconst (v := 0) C dX6_isMixed_59 (by decide) ?_
          refine g_istore_n C dX6_isMixed_60 (by decide) ?_
          refine g_iload_n C dX6_isMixed_61 rfl ?_
          refine g_if_eq (tgt := 97) C dX6_isMixed_62 (by decide) (fun h62 => ?_) (fun h62 => ?_)
          · refine g_iconst (v := 0) C dX6_isMixed_97 (by decide) ?_
            exact g_zret C dX6_isMixed_98 nar_0 ⟨rt_f (by simp_all [Mix, b2i_inj]), rfl⟩
          · exact absurd h62 (by decide)
        · refine g_iconst (v := 1) C dX6_isMixed_55 (by decide) ?_
          refine g_goto (tgt := 60) C dX6_isMixed_56 (by decide) ?_
          refine g_istore_n C dX6_isMixed_60 (by decide) ?_
          refine g_iload_n C dX6_isMixed_61 rfl ?_
          refine g_if_eq (tgt := 97) C dX6_isMixed_62 (by decide) (fun h62 => ?_) (fun h62 => ?_)
          · exact absurd h62 (by decide)
          · refine g_aload_n C dX6_isMixed_65 rfl ?_
            refine g_iload_n C dX6_isMixed_66 rfl ?_
            refine g_callVr 0 C (cr_X6_isInterface hW (by omega)) mw_X6_isInterface ml_X6_110 rfl rfl rfl rfl (Nat.le_of_ble_eq_true rfl) dX6_isMixed_67 ⟨Nat.le_of_ble_eq_true rfl, Nat.le_of_ble_eq_true rfl⟩ ⟨Nat.le_of_ble_eq_true rfl, Nat.le_of_ble_eq_true rfl⟩ ?_
            refine g_ifb_eq (tgt := 84) C dX6_isMixed_70 (by decide) (fun h70 => ?_) (fun h70 => ?_)
            · refine g_aload_n C dX6_isMixed_84 rfl ?_
              refine g_iload_n C dX6_isMixed_85 rfl ?_
              refine g_iload_n C dX6_isMixed_86 rfl ?_
              refine g_callVr 0 C (cr_X6_isSeen hW (by omega) (by omega)) mw_X6_isSeen ml_X6_126 rfl rfl rfl rfl (Nat.le_of_ble_eq_true rfl) dX6_isMixed_87 ⟨Nat.le_of_ble_eq_true rfl, Nat.le_of_ble_eq_true rfl⟩ ⟨Nat.le_of_ble_eq_true rfl, Nat.le_of_ble_eq_true rfl⟩ ?_
              refine g_ifb_eq (tgt := 97) C dX6_isMixed_90 (by decide) (fun h90 => ?_) (fun h90 => ?_)
              · refine g_iconst (v := 0) C dX6_isMixed_97 (by decide) ?_
                exact g_zret C dX6_isMixed_98 nar_0 ⟨rt_f (by simp_all [Mix, b2i_inj]), rfl⟩
              · refine g_iconst (v := 1) C dX6_isMixed_93 (by decide) ?_
                refine g_goto (tgt := 98) C dX6_isMixed_94 (by decide) ?_
                exact g_zret C dX6_isMixed_98 nar_1 ⟨rt_t (by simp_all [Mix, b2i_inj]), rfl⟩
            · refine g_aload_n C dX6_isMixed_73 rfl ?_
              refine g_iload_n C dX6_isMixed_74 rfl ?_
              refine g_callVr 0 C (cr_X6_isStatic (by omega)) mw_X6_isStatic ml_X6_117 rfl rfl rfl rfl (Nat.le_of_ble_eq_true rfl) dX6_isMixed_75 ⟨Nat.le_of_ble_eq_true rfl, Nat.le_of_ble_eq_true rfl⟩ ⟨Nat.le_of_ble_eq_true rfl, Nat.le_of_ble_eq_true rfl⟩ ?_
              refine g_ifb_ne (tgt := 97) C dX6_isMixed_78 (by decide) (fun h78 => ?_) (fun h78 => ?_)
              · refine g_iconst (v := 0) C dX6_isMixed_97 (by decide) ?_
                exact g_zret C dX6_isMixed_98 nar_0 ⟨rt_f (by simp_all [Mix, b2i_inj]), rfl⟩
              · refine g_goto (tgt := 93) C dX6_isMixed_81 (by decide) ?_
                refine g_iconst (v := 1) C dX6_isMixed_93 (by decide) ?_
                refine g_goto (tgt := 98) C dX6_isMixed_94 (by decide) ?_
                exact g_zret C dX6_isMixed_98 nar_1 ⟨rt_t (by simp_all [Mix, b2i_inj]), rfl⟩
set_option maxRecDepth 100000 in
set_option maxHeartbeats 4000000 in
theorem cr_X6_isPlain {l : Launch} {D : va_G} {cI cZ : ClassId} {b : Nat → Nat} {τ : St} {m0 : Nat} (hm : m0 < 60) : Cr l yX6_isPlain cX6_isPlain 2 (some .boolean) 2 43 D cI cZ (pM b cI cZ) [.ref (b 0), .int (nI m0)] τ (b2i (Pln τ m0)) := by
  refine Ct.of 0 (by decide) (by simp [Value.category]) (Nat.le_of_ble_eq_true rfl) ?_
  intro p e s m below meth c C
  refine g_aload_n C dX6_isPlain_0 rfl ?_
  refine g_iload_n C dX6_isPlain_1 rfl ?_
  refine g_callVr 0 C (cr_X6_isStatic (by omega)) mw_X6_isStatic ml_X6_117 rfl rfl rfl rfl (Nat.le_of_ble_eq_true rfl) dX6_isPlain_2 ⟨Nat.le_of_ble_eq_true rfl, Nat.le_of_ble_eq_true rfl⟩ ⟨Nat.le_of_ble_eq_true rfl, Nat.le_of_ble_eq_true rfl⟩ ?_
  refine g_ifb_ne (tgt := 20) C dX6_isPlain_5 (by decide) (fun h5 => ?_) (fun h5 => ?_)
  · refine g_iconst (v := 0) C dX6_isPlain_20 (by decide) ?_
    exact g_zret C dX6_isPlain_21 nar_0 ⟨rt_f (by simp [Pln, *]), rfl⟩
  · refine g_aload_n C dX6_isPlain_8 rfl ?_
    refine g_iload_n C dX6_isPlain_9 rfl ?_
    refine g_callVr 0 C (cr_X6_isPrivate (by omega)) mw_X6_isPrivate ml_X6_120 rfl rfl rfl rfl (Nat.le_of_ble_eq_true rfl) dX6_isPlain_10 ⟨Nat.le_of_ble_eq_true rfl, Nat.le_of_ble_eq_true rfl⟩ ⟨Nat.le_of_ble_eq_true rfl, Nat.le_of_ble_eq_true rfl⟩ ?_
    refine g_ifb_ne (tgt := 20) C dX6_isPlain_13 (by decide) (fun h13 => ?_) (fun h13 => ?_)
    · refine g_iconst (v := 0) C dX6_isPlain_20 (by decide) ?_
      exact g_zret C dX6_isPlain_21 nar_0 ⟨rt_f (by simp [Pln, *]), rfl⟩
    · refine g_iconst (v := 1) C dX6_isPlain_16 (by decide) ?_
      refine g_goto (tgt := 21) C dX6_isPlain_17 (by decide) ?_
      exact g_zret C dX6_isPlain_21 nar_1 ⟨rt_t (by simp [Pln, *]), rfl⟩
end
section
/-! ===== the reference: loops that only read ===== -/
def GoX (τ : St) (x o z : Nat) : Bool := decide (τ 10 z = τ 10 x) && Bel τ (Of τ z) (Of τ o) && Bel τ (Of τ x) (Of τ z) && Ov τ x z && Ov τ z o
def GoB (τ : St) (x o : Nat) : Bool := Ifc τ o || Seen τ x o || anyN (nM τ) (GoX τ x o)
def LasX (τ : St) (t o z : Nat) : Bool := decide (τ 10 z = τ 10 o) && Pln τ z && Ifc τ z && Bel τ t (Of τ z) && Bel τ (Of τ z) (Of τ o)
def LasB (τ : St) (t o : Nat) : Bool := !anyN (nM τ) (LasX τ t o)
set_option maxRecDepth 100000 in
set_option maxHeartbeats 4000000 in
theorem cr_X6_goesOver {l : Launch} {D : va_G} {cI cZ : ClassId} {b : Nat → Nat} {τ : St} (hW : W0 τ) {x o : Nat} (hx : x < nM τ) (ho : o < nM τ) : Cr l yX6_goesOver cX6_goesOver 4 (some .boolean) 3 65 D cI cZ (pM b cI cZ) [.ref (b 0), .int (nI x), .int (nI o)] τ (b2i (GoB τ x o)) := by
  refine Ct.of 1 (by decide) (by simp [Value.category]) (Nat.le_of_ble_eq_true rfl) ?_
  intro p e s m below meth c C
  have hTl := w0_tl hW
  have hMl := w0_ml hW
  have hof_x := w0_ofl hW hx
  have hof_o := w0_ofl hW ho
  have loop : ∀ (n i : Nat), i ≤ nM τ → nM τ + 1 ≤ i + n → (∀ z, z < i → GoX τ x o z = false) → Ifc τ o = false → Seen τ x o = false → G p l e (rmo 3 65) s m ([.ref (b 0), .int (nI x), .int (nI o)] : List Value).toArray below meth c D (va_A (pM b cI cZ τ) s.heap.size) 0 0 (Qe below ([.ref (b 0), .int (nI x), .int (nI o)] : List Value).toArray s D (pM b cI cZ) τ (fun r u => r = some (.int (b2i (GoB τ x o))) ∧ u = τ)) 4 (pM b cI cZ τ) 21 [some (.ref (b 0)), some (.int (nI x)), some (.int (nI o)), some (.int (nI i))] [] := by
    intro n
    induction n with
    | zero => intro i h1 h2; omega
    | succ n ih =>
      intro i h1 h2 hF hI hS
      refine g_iload_n C dX6_goesOver_21 rfl ?_
      refine g_aload_n C dX6_goesOver_22 rfl ?_
      refine gn_X6_70 C (w0_m hW) dX6_goesOver_23 ?_
      refine g_icmpN_ge (tgt := 118) C (by omega) (by omega) dX6_goesOver_26 (by decide) (fun h26 => ?_) (fun h26 => ?_)
      · refine g_iconst (v := 0) C dX6_goesOver_118 (by decide) ?_
        exact g_zret C dX6_goesOver_119 nar_0 ⟨rt_f (by rw [GoB, hI, hS, anyN_f (fun z hz => hF z (by omega))]; rfl), rfl⟩
      · refine g_aload_n C dX6_goesOver_29 rfl ?_
        have hi := ‹i < nM τ›
        have hof_i := w0_ofl hW hi
        refine gf_X6_38 C dX6_goesOver_30 ?_
        refine g_iload_n C dX6_goesOver_33 rfl ?_
        refine gM_ln10 C (by omega) dX6_goesOver_34 ?_
        refine g_aload_n C dX6_goesOver_35 rfl ?_
        refine gf_X6_38 C dX6_goesOver_36 ?_
        refine g_iload_n C dX6_goesOver_39 rfl ?_
        refine gM_ln10 C (by omega) dX6_goesOver_40 ?_
        refine g_icmp_ne (tgt := 112) C dX6_goesOver_41 (by decide) (fun h41 => ?_) (fun h41 => ?_)
        · refine g_iincN C dX6_goesOver_112 rfl (by decide) ?_
          refine g_goto (tgt := 21) C dX6_goesOver_115 (by decide) ?_
          exact ih (i + 1) (by omega) (by omega) (fun z hz => by rcases Nat.lt_or_eq_of_le (Nat.le_of_lt_succ hz) with q | rfl <;> first | exact hF z q | simp_all [GoX, Ov]) hI hS
        · refine g_aload_n C dX6_goesOver_44 rfl ?_
          refine g_aload_n C dX6_goesOver_45 rfl ?_
          refine gf_X6_35 C dX6_goesOver_46 ?_
          refine g_iload_n C dX6_goesOver_49 rfl ?_
          refine gM_lv9 C (by omega) (w0_of hW (by omega)) dX6_goesOver_50 ?_
          refine g_aload_n C dX6_goesOver_51 rfl ?_
          refine gf_X6_35 C dX6_goesOver_52 ?_
          refine g_iload_n C dX6_goesOver_55 rfl ?_
          refine gM_lv9 C (by omega) (w0_of hW (by omega)) dX6_goesOver_56 ?_
          refine g_callVr 0 C (cr_X6_isBelow hW (by omega) (by omega)) mw_X6_isBelow ml_X6_90 rfl rfl rfl rfl (Nat.le_of_ble_eq_true rfl) dX6_goesOver_57 ⟨Nat.le_of_ble_eq_true rfl, Nat.le_of_ble_eq_true rfl⟩ ⟨Nat.le_of_ble_eq_true rfl, Nat.le_of_ble_eq_true rfl⟩ ?_
          refine g_ifb_eq (tgt := 112) C dX6_goesOver_60 (by decide) (fun h60 => ?_) (fun h60 => ?_)
          · refine g_iincN C dX6_goesOver_112 rfl (by decide) ?_
            refine g_goto (tgt := 21) C dX6_goesOver_115 (by decide) ?_
            exact ih (i + 1) (by omega) (by omega) (fun z hz => by rcases Nat.lt_or_eq_of_le (Nat.le_of_lt_succ hz) with q | rfl <;> first | exact hF z q | simp_all [GoX, Ov]) hI hS
          · refine g_aload_n C dX6_goesOver_63 rfl ?_
            refine g_aload_n C dX6_goesOver_64 rfl ?_
            refine gf_X6_35 C dX6_goesOver_65 ?_
            refine g_iload_n C dX6_goesOver_68 rfl ?_
            refine gM_lv9 C (by omega) (w0_of hW (by omega)) dX6_goesOver_69 ?_
            refine g_aload_n C dX6_goesOver_70 rfl ?_
            refine gf_X6_35 C dX6_goesOver_71 ?_
            refine g_iload_n C dX6_goesOver_74 rfl ?_
            refine gM_lv9 C (by omega) (w0_of hW (by omega)) dX6_goesOver_75 ?_
            refine g_callVr 0 C (cr_X6_isBelow hW (by omega) (by omega)) mw_X6_isBelow ml_X6_90 rfl rfl rfl rfl (Nat.le_of_ble_eq_true rfl) dX6_goesOver_76 ⟨Nat.le_of_ble_eq_true rfl, Nat.le_of_ble_eq_true rfl⟩ ⟨Nat.le_of_ble_eq_true rfl, Nat.le_of_ble_eq_true rfl⟩ ?_
            refine g_ifb_eq (tgt := 112) C dX6_goesOver_79 (by decide) (fun h79 => ?_) (fun h79 => ?_)
            · refine g_iincN C dX6_goesOver_112 rfl (by decide) ?_
              refine g_goto (tgt := 21) C dX6_goesOver_115 (by decide) ?_
              exact ih (i + 1) (by omega) (by omega) (fun z hz => by rcases Nat.lt_or_eq_of_le (Nat.le_of_lt_succ hz) with q | rfl <;> first | exact hF z q | simp_all [GoX, Ov]) hI hS
            · refine g_aload_n C dX6_goesOver_82 rfl ?_
              refine gf_X6_50 C dX6_goesOver_83 ?_
              refine g_bipushN 60 C dX6_goesOver_86 (by decide) ?_
              refine g_iload_n C dX6_goesOver_88 rfl ?_
              refine g_imulN C dX6_goesOver_89 ?_
              refine g_iload_n C dX6_goesOver_90 rfl ?_
              refine g_iaddN C dX6_goesOver_91 ?_
              refine gM_lv14 C (by omega) (w0_b14 hW _) dX6_goesOver_92 ?_
              refine g_ifb_eq (tgt := 112) C dX6_goesOver_93 (by decide) (fun h93 => ?_) (fun h93 => ?_)
              · refine g_iincN C dX6_goesOver_112 rfl (by decide) ?_
                refine g_goto (tgt := 21) C dX6_goesOver_115 (by decide) ?_
                exact ih (i + 1) (by omega) (by omega) (fun z hz => by rcases Nat.lt_or_eq_of_le (Nat.le_of_lt_succ hz) with q | rfl <;> first | exact hF z q | simp_all [GoX, Ov]) hI hS
              · refine g_aload_n C dX6_goesOver_96 rfl ?_
                refine gf_X6_50 C dX6_goesOver_97 ?_
                refine g_bipushN 60 C dX6_goesOver_100 (by decide) ?_
                refine g_iload_n C dX6_goesOver_102 rfl ?_
                refine g_imulN C dX6_goesOver_103 ?_
                refine g_iload_n C dX6_goesOver_104 rfl ?_
                refine g_iaddN C dX6_goesOver_105 ?_
                refine gM_lv14 C (by omega) (w0_b14 hW _) dX6_goesOver_106 ?_
                refine g_ifb_eq (tgt := 112) C dX6_goesOver_107 (by decide) (fun h107 => ?_) (fun h107 => ?_)
                · refine g_iincN C dX6_goesOver_112 rfl (by decide) ?_
                  refine g_goto (tgt := 21) C dX6_goesOver_115 (by decide) ?_
                  exact ih (i + 1) (by omega) (by omega) (fun z hz => by rcases Nat.lt_or_eq_of_le (Nat.le_of_lt_succ hz) with q | rfl <;> first | exact hF z q | simp_all [GoX, Ov]) hI hS
                · refine g_iconst (v := 1) C dX6_goesOver_110 (by decide) ?_
                  exact g_zret C dX6_goesOver_111 nar_1 ⟨rt_t (by rw [GoB, anyN_t (x := i) (by omega) (by simp_all [GoX, Ov])]; simp), rfl⟩
  refine g_aload_n C dX6_goesOver_0 rfl ?_
  refine g_iload_n C dX6_goesOver_1 rfl ?_
  refine g_callVr 0 C (cr_X6_isInterface hW (by omega)) mw_X6_isInterface ml_X6_110 rfl rfl rfl rfl (Nat.le_of_ble_eq_true rfl) dX6_goesOver_2 ⟨Nat.le_of_ble_eq_true rfl, Nat.le_of_ble_eq_true rfl⟩ ⟨Nat.le_of_ble_eq_true rfl, Nat.le_of_ble_eq_true rfl⟩ ?_
  refine g_ifb_ne (tgt := 17) C dX6_goesOver_5 (by decide) (fun h5 => ?_) (fun h5 => ?_)
  · refine g_iconst (v := 1) C dX6_goesOver_17 (by decide) ?_
    exact g_zret C dX6_goesOver_18 nar_1 ⟨rt_t (by simp [GoB, *]), rfl⟩
  · refine g_aload_n C dX6_goesOver_8 rfl ?_
    refine g_iload_n C dX6_goesOver_9 rfl ?_
    refine g_iload_n C dX6_goesOver_10 rfl ?_
    refine g_callVr 0 C (cr_X6_isSeen hW (by omega) (by omega)) mw_X6_isSeen ml_X6_126 rfl rfl rfl rfl (Nat.le_of_ble_eq_true rfl) dX6_goesOver_11 ⟨Nat.le_of_ble_eq_true rfl, Nat.le_of_ble_eq_true rfl⟩ ⟨Nat.le_of_ble_eq_true rfl, Nat.le_of_ble_eq_true rfl⟩ ?_
    refine g_ifb_eq (tgt := 19) C dX6_goesOver_14 (by decide) (fun h14 => ?_) (fun h14 => ?_)
    · refine g_iconstN 0 C dX6_goesOver_19 (by decide) ?_
      refine g_istore_n C dX6_goesOver_20 (by decide) ?_
      exact loop (nM τ + 1) 0 (by omega) (by omega) (fun z hz => by omega) h5 h14
    · refine g_iconst (v := 1) C dX6_goesOver_17 (by decide) ?_
      exact g_zret C dX6_goesOver_18 nar_1 ⟨rt_t (by simp [GoB, *]), rfl⟩
set_option maxRecDepth 100000 in
set_option maxHeartbeats 4000000 in
theorem cr_X6_isLast {l : Launch} {D : va_G} {cI cZ : ClassId} {b : Nat → Nat} {τ : St} (hW : W0 τ) {t o : Nat} (ht : t < 16) (ho : o < nM τ) : Cr l yX6_isLast cX6_isLast 4 (some .boolean) 3 64 D cI cZ (pM b cI cZ) [.ref (b 0), .int (nI t), .int (nI o)] τ (b2i (LasB τ t o)) := by
  refine Ct.of 1 (by decide) (by simp [Value.category]) (Nat.le_of_ble_eq_true rfl) ?_
  intro p e s m below meth c C
  have hTl := w0_tl hW
  have hMl := w0_ml hW
  have hof_o := w0_ofl hW ho
  have loop : ∀ (n i : Nat), i ≤ nM τ → nM τ + 1 ≤ i + n → (∀ z, z < i → LasX τ t o z = false) → G p l e (rmo 3 64) s m ([.ref (b 0), .int (nI t), .int (nI o)] : List Value).toArray below meth c D (va_A (pM b cI cZ τ) s.heap.size) 0 0 (Qe below ([.ref (b 0), .int (nI t), .int (nI o)] : List Value).toArray s D (pM b cI cZ) τ (fun r u => r = some (.int (b2i (LasB τ t o))) ∧ u = τ)) 4 (pM b cI cZ τ) 2 [some (.ref (b 0)), some (.int (nI t)), some (.int (nI o)), some (.int (nI i))] [] := by
    intro n
    induction n with
    | zero => intro i h1 h2; omega
    | succ n ih =>
      intro i h1 h2 hF
      refine g_iload_n C dX6_isLast_2 rfl ?_
      refine g_aload_n C dX6_isLast_3 rfl ?_
      refine gn_X6_70 C (w0_m hW) dX6_isLast_4 ?_
      refine g_icmpN_ge (tgt := 82) C (by omega) (by omega) dX6_isLast_7 (by decide) (fun h7 => ?_) (fun h7 => ?_)
      · refine g_iconst (v := 1) C dX6_isLast_82 (by decide) ?_
        exact g_zret C dX6_isLast_83 nar_1 ⟨rt_t (by rw [LasB, anyN_f (fun z hz => hF z (by omega))]; rfl), rfl⟩
      · refine g_aload_n C dX6_isLast_10 rfl ?_
        have hi := ‹i < nM τ›
        have hof_i := w0_ofl hW hi
        refine gf_X6_38 C dX6_isLast_11 ?_
        refine g_iload_n C dX6_isLast_14 rfl ?_
        refine gM_ln10 C (by omega) dX6_isLast_15 ?_
        refine g_aload_n C dX6_isLast_16 rfl ?_
        refine gf_X6_38 C dX6_isLast_17 ?_
        refine g_iload_n C dX6_isLast_20 rfl ?_
        refine gM_ln10 C (by omega) dX6_isLast_21 ?_
        refine g_icmp_ne (tgt := 76) C dX6_isLast_22 (by decide) (fun h22 => ?_) (fun h22 => ?_)
        · refine g_iincN C dX6_isLast_76 rfl (by decide) ?_
          refine g_goto (tgt := 2) C dX6_isLast_79 (by decide) ?_
          exact ih (i + 1) (by omega) (by omega) (fun z hz => by rcases Nat.lt_or_eq_of_le (Nat.le_of_lt_succ hz) with q | rfl <;> first | exact hF z q | simp [LasX, *])
        · refine g_aload_n C dX6_isLast_25 rfl ?_
          refine g_iload_n C dX6_isLast_26 rfl ?_
          refine g_callVr 0 C (cr_X6_isPlain (by omega)) mw_X6_isPlain ml_X6_135 rfl rfl rfl rfl (Nat.le_of_ble_eq_true rfl) dX6_isLast_27 ⟨Nat.le_of_ble_eq_true rfl, Nat.le_of_ble_eq_true rfl⟩ ⟨Nat.le_of_ble_eq_true rfl, Nat.le_of_ble_eq_true rfl⟩ ?_
          refine g_ifb_eq (tgt := 76) C dX6_isLast_30 (by decide) (fun h30 => ?_) (fun h30 => ?_)
          · refine g_iincN C dX6_isLast_76 rfl (by decide) ?_
            refine g_goto (tgt := 2) C dX6_isLast_79 (by decide) ?_
            exact ih (i + 1) (by omega) (by omega) (fun z hz => by rcases Nat.lt_or_eq_of_le (Nat.le_of_lt_succ hz) with q | rfl <;> first | exact hF z q | simp [LasX, *])
          · refine g_aload_n C dX6_isLast_33 rfl ?_
            refine g_iload_n C dX6_isLast_34 rfl ?_
            refine g_callVr 0 C (cr_X6_isInterface hW (by omega)) mw_X6_isInterface ml_X6_110 rfl rfl rfl rfl (Nat.le_of_ble_eq_true rfl) dX6_isLast_35 ⟨Nat.le_of_ble_eq_true rfl, Nat.le_of_ble_eq_true rfl⟩ ⟨Nat.le_of_ble_eq_true rfl, Nat.le_of_ble_eq_true rfl⟩ ?_
            refine g_ifb_eq (tgt := 76) C dX6_isLast_38 (by decide) (fun h38 => ?_) (fun h38 => ?_)
            · refine g_iincN C dX6_isLast_76 rfl (by decide) ?_
              refine g_goto (tgt := 2) C dX6_isLast_79 (by decide) ?_
              exact ih (i + 1) (by omega) (by omega) (fun z hz => by rcases Nat.lt_or_eq_of_le (Nat.le_of_lt_succ hz) with q | rfl <;> first | exact hF z q | simp [LasX, *])
            · refine g_aload_n C dX6_isLast_41 rfl ?_
              refine g_iload_n C dX6_isLast_42 rfl ?_
              refine g_aload_n C dX6_isLast_43 rfl ?_
              refine gf_X6_35 C dX6_isLast_44 ?_
              refine g_iload_n C dX6_isLast_47 rfl ?_
              refine gM_lv9 C (by omega) (w0_of hW (by omega)) dX6_isLast_48 ?_
              refine g_callVr 0 C (cr_X6_isBelow hW (by omega) (by omega)) mw_X6_isBelow ml_X6_90 rfl rfl rfl rfl (Nat.le_of_ble_eq_true rfl) dX6_isLast_49 ⟨Nat.le_of_ble_eq_true rfl, Nat.le_of_ble_eq_true rfl⟩ ⟨Nat.le_of_ble_eq_true rfl, Nat.le_of_ble_eq_true rfl⟩ ?_
              refine g_ifb_eq (tgt := 76) C dX6_isLast_52 (by decide) (fun h52 => ?_) (fun h52 => ?_)
              · refine g_iincN C dX6_isLast_76 rfl (by decide) ?_
                refine g_goto (tgt := 2) C dX6_isLast_79 (by decide) ?_
                exact ih (i + 1) (by omega) (by omega) (fun z hz => by rcases Nat.lt_or_eq_of_le (Nat.le_of_lt_succ hz) with q | rfl <;> first | exact hF z q | simp [LasX, *])
              · refine g_aload_n C dX6_isLast_55 rfl ?_
                refine g_aload_n C dX6_isLast_56 rfl ?_
                refine gf_X6_35 C dX6_isLast_57 ?_
                refine g_iload_n C dX6_isLast_60 rfl ?_
                refine gM_lv9 C (by omega) (w0_of hW (by omega)) dX6_isLast_61 ?_
                refine g_aload_n C dX6_isLast_62 rfl ?_
                refine gf_X6_35 C dX6_isLast_63 ?_
                refine g_iload_n C dX6_isLast_66 rfl ?_
                refine gM_lv9 C (by omega) (w0_of hW (by omega)) dX6_isLast_67 ?_
                refine g_callVr 0 C (cr_X6_isBelow hW (by omega) (by omega)) mw_X6_isBelow ml_X6_90 rfl rfl rfl rfl (Nat.le_of_ble_eq_true rfl) dX6_isLast_68 ⟨Nat.le_of_ble_eq_true rfl, Nat.le_of_ble_eq_true rfl⟩ ⟨Nat.le_of_ble_eq_true rfl, Nat.le_of_ble_eq_true rfl⟩ ?_
                refine g_ifb_eq (tgt := 76) C dX6_isLast_71 (by decide) (fun h71 => ?_) (fun h71 => ?_)
                · refine g_iincN C dX6_isLast_76 rfl (by decide) ?_
                  refine g_goto (tgt := 2) C dX6_isLast_79 (by decide) ?_
                  exact ih (i + 1) (by omega) (by omega) (fun z hz => by rcases Nat.lt_or_eq_of_le (Nat.le_of_lt_succ hz) with q | rfl <;> first | exact hF z q | simp [LasX, *])
                · refine g_iconst (v := 0) C dX6_isLast_74 (by decide) ?_
                  exact g_zret C dX6_isLast_75 nar_0 ⟨rt_f (by rw [LasB, anyN_t (x := i) (by omega) (by simp [LasX, *])]; simp), rfl⟩
  refine g_iconstN 0 C dX6_isLast_0 (by decide) ?_
  refine g_istore_n C dX6_isLast_1 (by decide) ?_
  exact loop (nM τ + 1) 0 (by omega) (by omega) (fun z hz => by omega)
end
section
/-! ===== the reference: throwsMore, choose ===== -/
def bitB (v : Int32) (x : Nat) : Bool := decide ((v >>> (nI x &&& 31)) &&& 1 = 1)
def ThX (τ : St) (x o w : Nat) : Bool := bitB (τ 13 x) w && Ckd τ w && !chV (τ 7) (bitB (τ 13 o)) (nI w)
def ThB (τ : St) (x o : Nat) : Bool := anyN (nX τ) (ThX τ x o)
def ChX (τ : St) (o t n : Nat) : Bool := decide (Of τ n = t) && decide (τ 10 n = τ 10 o) && Pln τ n && (decide (n = o) || Ov τ n o || Ifc τ o)
def ChI (τ : St) (t o n : Nat) : Bool := decide (τ 10 n = τ 10 o) && Pln τ n && Ifc τ n && Bel τ t (Of τ n) && LasB τ t n
def choF (f h : Nat → Bool) : Nat → Nat × Int32 × Bool
  | 0 => (0, -1, false)
  | i + 1 => if f i = true then ((choF f h i).1 + 1, (if (choF f h i).2.1 = -1 then nI i else (choF f h i).2.1), (choF f h i).2.2 || h i) else choF f h i
abbrev choI (τ : St) (t o : Nat) : Nat → Nat × Int32 × Bool := choF (ChI τ t o) (fun i => Hs τ i 64)
def ChsI (τ : St) (t o : Nat) : Int32 := if 1 < (choI τ t o (nM τ)).1 ∧ (choI τ t o (nM τ)).2.2 = true then -5 else (choI τ t o (nM τ)).2.1
def Chs (τ : St) (t o : Nat) : Int32 := match chO (τ 3) (fun u => fstN (nM τ) (ChX τ o u)) (nI t) with
  | some n => nI n
  | none => ChsI τ t o
theorem choF_le (f h : Nat → Bool) : ∀ i, (choF f h i).1 ≤ i
  | 0 => Nat.le_refl 0
  | i + 1 => by
    have := choF_le f h i
    simp only [choF]
    split <;> simp <;> omega
theorem choI_le (τ : St) (t o : Nat) (i : Nat) : (choI τ t o i).1 ≤ i := choF_le _ _ i
set_option maxRecDepth 100000 in
set_option maxHeartbeats 4000000 in
theorem cr_X6_throwsMore {l : Launch} {D : va_G} {cI cZ : ClassId} {b : Nat → Nat} {τ : St} (hW : W0 τ) {x o : Nat} (hx : x < nM τ) (ho : o < nM τ) : Cr l yX6_throwsMore cX6_throwsMore 6 (some .boolean) 0 0 D cI cZ (pM b cI cZ) [.ref (b 0), .int (nI x), .int (nI o)] τ (b2i (ThB τ x o)) := by
  refine Ct.of 3 (by decide) (by simp [Value.category]) (Nat.le_of_ble_eq_true rfl) ?_
  intro p e s m below meth c C
  have hTl := w0_tl hW
  have hMl := w0_ml hW
  have hXl := w0_xl hW
  have loop : ∀ (n i : Nat), i ≤ nX τ → nX τ + 1 ≤ i + n → (∀ z, z < i → ThX τ x o z = false) → G p l e (rmo 0 0) s m ([.ref (b 0), .int (nI x), .int (nI o)] : List Value).toArray below meth c D (va_A (pM b cI cZ τ) s.heap.size) 0 0 (Qe below ([.ref (b 0), .int (nI x), .int (nI o)] : List Value).toArray s D (pM b cI cZ) τ (fun r u => r = some (.int (b2i (ThB τ x o))) ∧ u = τ)) 6 (pM b cI cZ τ) 2 [some (.ref (b 0)), some (.int (nI x)), some (.int (nI o)), some (.int (nI i)), none, none] [] := by
    intro n
    induction n with
    | zero => intro i h1 h2; omega
    | succ n ih =>
      intro i h1 h2 hF
      have inner : i < nX τ → bitB (τ 13 x) i = true → Ckd τ i = true → ∀ (k : Nat) (v : Bool) (y : Int32), lessOr y k → k ≤ nX τ → (v || chV (τ 7) (bitB (τ 13 o)) y) = chV (τ 7) (bitB (τ 13 o)) (nI i) → G p l e (rmo 0 0) s m ([.ref (b 0), .int (nI x), .int (nI o)] : List Value).toArray below meth c D (va_A (pM b cI cZ τ) s.heap.size) 0 0 (Qe below ([.ref (b 0), .int (nI x), .int (nI o)] : List Value).toArray s D (pM b cI cZ) τ (fun r u => r = some (.int (b2i (ThB τ x o))) ∧ u = τ)) 6 (pM b cI cZ τ) 39 [some (.ref (b 0)), some (.int (nI x)), some (.int (nI o)), some (.int (nI i)), some (.int (b2i v)), some (.int (y))] [] := by
        intro hi hb hc
        have base : ∀ (v : Bool), v = chV (τ 7) (bitB (τ 13 o)) (nI i) → G p l e (rmo 0 0) s m ([.ref (b 0), .int (nI x), .int (nI o)] : List Value).toArray below meth c D (va_A (pM b cI cZ τ) s.heap.size) 0 0 (Qe below ([.ref (b 0), .int (nI x), .int (nI o)] : List Value).toArray s D (pM b cI cZ) τ (fun r u => r = some (.int (b2i (ThB τ x o))) ∧ u = τ)) 6 (pM b cI cZ τ) 39 [some (.ref (b 0)), some (.int (nI x)), some (.int (nI o)), some (.int (nI i)), some (.int (b2i v)), some (.int (-1))] [] := by
          intro v hv
          refine g_iload C dX6_throwsMore_39 rfl ?_
          refine g_iconst (v := -1) C dX6_throwsMore_41 (by decide) ?_
          refine g_icmp_eq (tgt := 84) C dX6_throwsMore_42 (by decide) (fun h42 => ?_) (fun h42 => ?_)
          · refine g_iload C dX6_throwsMore_84 rfl ?_
            refine g_ifb_ne (tgt := 91) C dX6_throwsMore_86 (by decide) (fun h86 => ?_) (fun h86 => ?_)
            · refine g_iincN C dX6_throwsMore_91 rfl (by decide) ?_
              refine g_goto (tgt := 2) C dX6_throwsMore_94 (by decide) ?_
              exact (ih (i + 1) (by omega) (by omega) (fun z hz => by rcases Nat.lt_or_eq_of_le (Nat.le_of_lt_succ hz) with q | rfl <;> first | exact hF z q | simp [ThX, ← hv, h86])).weak (by simp [lvle, lst])
            · refine g_iconst (v := 1) C dX6_throwsMore_89 (by decide) ?_
              exact g_zret C dX6_throwsMore_90 nar_1 ⟨rt_t (by rw [ThB]; exact anyN_t (x := i) hi (by simp [ThX, hb, hc, ← hv, h86])), rfl⟩
          · exact absurd rfl h42
        intro k
        induction k with
        | zero =>
          intro v y hy hk he
          rcases hy with rfl | ⟨q, hq, rfl⟩
          · exact base v (by simpa [chV] using he)
          · omega
        | succ k ihk =>
          intro v y hy hk he
          rcases hy with rfl | ⟨q, hq, rfl⟩
          · exact base v (by simpa [chV] using he)
          rw [chF_step (N := nX τ) (by omega) (fun z hz => w0_tp hW hz) (by omega)] at he
          have htp := w0_tp hW (x := q) (by omega)
          refine g_iload C dX6_throwsMore_39 rfl ?_
          refine g_iconst (v := -1) C dX6_throwsMore_41 (by decide) ?_
          refine g_icmp_eq (tgt := 84) C dX6_throwsMore_42 (by decide) (fun h42 => ?_) (fun h42 => ?_)
          · exact absurd h42 (nI_m1 (by omega))
          · refine g_iload C dX6_throwsMore_45 rfl ?_
            refine g_ifb_ne (tgt := 65) C dX6_throwsMore_47 (by decide) (fun h47 => ?_) (fun h47 => ?_)
            · refine g_iconst (v := 1) C dX6_throwsMore_65 (by decide) ?_
              refine g_goto (tgt := 70) C dX6_throwsMore_66 (by decide) ?_
              refine g_istore C dX6_throwsMore_70 (by decide) ?_
              refine g_aload_n C dX6_throwsMore_72 rfl ?_
              refine gf_X6_29 C dX6_throwsMore_73 ?_
              refine g_iload C dX6_throwsMore_76 rfl ?_
              refine gM_ln7 C (by omega) dX6_throwsMore_78 ?_
              refine g_istore C dX6_throwsMore_79 (by decide) ?_
              refine g_goto (tgt := 39) C dX6_throwsMore_81 (by decide) ?_
              first | exact ihk true (τ 7 q) (htp.mono (by omega)) (by omega) (by simp_all [bitB]) | exact ihk false (τ 7 q) (htp.mono (by omega)) (by omega) (by simp_all [bitB])
            · refine g_aload_n C dX6_throwsMore_50 rfl ?_
              refine gf_X6_47 C dX6_throwsMore_51 ?_
              refine g_iload_n C dX6_throwsMore_54 rfl ?_
              refine gM_ln13 C (by omega) dX6_throwsMore_55 ?_
              refine g_iload C dX6_throwsMore_56 rfl ?_
              refine g_ishr C dX6_throwsMore_58 ?_
              refine g_iconst (v := 1) C dX6_throwsMore_59 (by decide) ?_
              refine g_iand C dX6_throwsMore_60 ?_
              refine g_iconst (v := 1) C dX6_throwsMore_61 (by decide) ?_
              refine g_icmp_ne (tgt := 69) C dX6_throwsMore_62 (by decide) (fun h62 => ?_) (fun h62 => ?_)
              · refine g_iconst (v := 0) C dX6_throwsMore_69 (by decide) ?_
                refine g_istore C dX6_throwsMore_70 (by decide) ?_
                refine g_aload_n C dX6_throwsMore_72 rfl ?_
                refine gf_X6_29 C dX6_throwsMore_73 ?_
                refine g_iload C dX6_throwsMore_76 rfl ?_
                refine gM_ln7 C (by omega) dX6_throwsMore_78 ?_
                refine g_istore C dX6_throwsMore_79 (by decide) ?_
                refine g_goto (tgt := 39) C dX6_throwsMore_81 (by decide) ?_
                first | exact ihk true (τ 7 q) (htp.mono (by omega)) (by omega) (by simp_all [bitB]) | exact ihk false (τ 7 q) (htp.mono (by omega)) (by omega) (by simp_all [bitB])
              · refine g_iconst (v := 1) C dX6_throwsMore_65 (by decide) ?_
                refine g_goto (tgt := 70) C dX6_throwsMore_66 (by decide) ?_
                refine g_istore C dX6_throwsMore_70 (by decide) ?_
                refine g_aload_n C dX6_throwsMore_72 rfl ?_
                refine gf_X6_29 C dX6_throwsMore_73 ?_
                refine g_iload C dX6_throwsMore_76 rfl ?_
                refine gM_ln7 C (by omega) dX6_throwsMore_78 ?_
                refine g_istore C dX6_throwsMore_79 (by decide) ?_
                refine g_goto (tgt := 39) C dX6_throwsMore_81 (by decide) ?_
                first | exact ihk true (τ 7 q) (htp.mono (by omega)) (by omega) (by simp_all [bitB]) | exact ihk false (τ 7 q) (htp.mono (by omega)) (by omega) (by simp_all [bitB])
      refine g_iload_n C dX6_throwsMore_2 rfl ?_
      refine g_aload_n C dX6_throwsMore_3 rfl ?_
      refine gn_X6_73 C (w0_x hW) dX6_throwsMore_4 ?_
      refine g_icmpN_ge (tgt := 97) C (by omega) (by omega) dX6_throwsMore_7 (by decide) (fun h7 => ?_) (fun h7 => ?_)
      · refine g_iconst (v := 0) C dX6_throwsMore_97 (by decide) ?_
        exact g_zret C dX6_throwsMore_98 nar_0 ⟨rt_f (by rw [ThB]; exact anyN_f (fun z hz => hF z (by omega))), rfl⟩
      · refine g_aload_n C dX6_throwsMore_10 rfl ?_
        refine gf_X6_47 C dX6_throwsMore_11 ?_
        refine g_iload_n C dX6_throwsMore_14 rfl ?_
        refine gM_ln13 C (by omega) dX6_throwsMore_15 ?_
        refine g_iload_n C dX6_throwsMore_16 rfl ?_
        refine g_ishr C dX6_throwsMore_17 ?_
        refine g_iconst (v := 1) C dX6_throwsMore_18 (by decide) ?_
        refine g_iand C dX6_throwsMore_19 ?_
        refine g_iconst (v := 1) C dX6_throwsMore_20 (by decide) ?_
        refine g_icmp_ne (tgt := 91) C dX6_throwsMore_21 (by decide) (fun h21 => ?_) (fun h21 => ?_)
        · refine g_iincN C dX6_throwsMore_91 rfl (by decide) ?_
          refine g_goto (tgt := 2) C dX6_throwsMore_94 (by decide) ?_
          exact (ih (i + 1) (by omega) (by omega) (fun z hz => by rcases Nat.lt_or_eq_of_le (Nat.le_of_lt_succ hz) with q | rfl <;> first | exact hF z q | simp_all [ThX, bitB, Ckd])).weak (by simp [lvle, lst])
        · refine g_aload_n C dX6_throwsMore_24 rfl ?_
          refine gf_X6_32 C dX6_throwsMore_25 ?_
          refine g_iload_n C dX6_throwsMore_28 rfl ?_
          refine gM_lv8 C (by omega) (w0_b8 hW _) dX6_throwsMore_29 ?_
          refine g_ifb_eq (tgt := 91) C dX6_throwsMore_30 (by decide) (fun h30 => ?_) (fun h30 => ?_)
          · refine g_iincN C dX6_throwsMore_91 rfl (by decide) ?_
            refine g_goto (tgt := 2) C dX6_throwsMore_94 (by decide) ?_
            exact (ih (i + 1) (by omega) (by omega) (fun z hz => by rcases Nat.lt_or_eq_of_le (Nat.le_of_lt_succ hz) with q | rfl <;> first | exact hF z q | simp_all [ThX, bitB, Ckd])).weak (by simp [lvle, lst])
          · refine g_iconst (v := 0) C dX6_throwsMore_33 (by decide) ?_
            refine g_istore C dX6_throwsMore_34 (by decide) ?_
            refine g_iload_n C dX6_throwsMore_36 rfl ?_
            refine g_istore C dX6_throwsMore_37 (by decide) ?_
            exact inner (by omega) (by simp_all [bitB]) (by simp_all [Ckd]) (i + 1) false (nI i) (Or.inr ⟨i, by omega, rfl⟩) (by omega) (by simp)
  refine g_iconstN 0 C dX6_throwsMore_0 (by decide) ?_
  refine g_istore_n C dX6_throwsMore_1 (by decide) ?_
  exact loop (nX τ + 1) 0 (by omega) (by omega) (fun z hz => by omega)
set_option maxRecDepth 100000 in
set_option maxHeartbeats 4000000 in
theorem cr_X6_choose {l : Launch} {D : va_G} {cI cZ : ClassId} {b : Nat → Nat} {τ : St} (hW : W0 τ) {t o : Nat} (ht : t < nT τ) (ho : o < nM τ) : Cr l yX6_choose cX6_choose 7 (some .int) 4 87 D cI cZ (pM b cI cZ) [.ref (b 0), .int (nI t), .int (nI o)] τ (Chs τ t o) := by
  refine Ct.of 4 (by decide) (by simp [Value.category]) (Nat.le_of_ble_eq_true rfl) ?_
  intro p e s m below meth c C
  have hTl := w0_tl hW
  have hMl := w0_ml hW
  have hof_o := w0_ofl hW ho
  have loop2 : Chs τ t o = ChsI τ t o → ∀ (n i : Nat), i ≤ nM τ → nM τ + 1 ≤ i + n → G p l e (rmo 4 87) s m ([.ref (b 0), .int (nI t), .int (nI o)] : List Value).toArray below meth c D (va_A (pM b cI cZ τ) s.heap.size) 0 0 (Qe below ([.ref (b 0), .int (nI t), .int (nI o)] : List Value).toArray s D (pM b cI cZ) τ (fun r u => r = some (.int (Chs τ t o)) ∧ u = τ)) 7 (pM b cI cZ τ) 109 [some (.ref (b 0)), some (.int (nI t)), some (.int (nI o)), some (.int (nI (choI τ t o i).1)), some (.int ((choI τ t o i).2.1)), some (.int (b2i (choI τ t o i).2.2)), some (.int (nI i))] [] := by
    intro hE n
    induction n with
    | zero => intro i h1 h2; omega
    | succ n ih =>
      intro i h1 h2
      have hle := choI_le τ t o i
      have hnext : ∀ (a : Nat × Int32 × Bool), a = choI τ t o (i + 1) → i < nM τ → G p l e (rmo 4 87) s m ([.ref (b 0), .int (nI t), .int (nI o)] : List Value).toArray below meth c D (va_A (pM b cI cZ τ) s.heap.size) 0 0 (Qe below ([.ref (b 0), .int (nI t), .int (nI o)] : List Value).toArray s D (pM b cI cZ) τ (fun r u => r = some (.int (Chs τ t o)) ∧ u = τ)) 7 (pM b cI cZ τ) 218 [some (.ref (b 0)), some (.int (nI t)), some (.int (nI o)), some (.int (nI a.1)), some (.int (a.2.1)), some (.int (b2i a.2.2)), some (.int (nI i))] [] := by
        intro a ha hi
        subst ha
        refine g_iincN C dX6_choose_218 rfl (by decide) ?_
        refine g_goto (tgt := 109) C dX6_choose_221 (by decide) ?_
        exact ih (i + 1) (by omega) (by omega)
      refine g_iload C dX6_choose_109 rfl ?_
      refine g_aload_n C dX6_choose_111 rfl ?_
      refine gn_X6_70 C (w0_m hW) dX6_choose_112 ?_
      refine g_icmpN_ge (tgt := 224) C (by omega) (by omega) dX6_choose_115 (by decide) (fun h115 => ?_) (fun h115 => ?_)
      · refine g_iload_n C dX6_choose_224 rfl ?_
        refine g_iconstN 1 C dX6_choose_225 (by decide) ?_
        refine g_icmpN_le (tgt := 239) C (by omega) (by omega) dX6_choose_226 (by decide) (fun h226 => ?_) (fun h226 => ?_)
        · refine g_iload C dX6_choose_239 rfl ?_
          exact g_iret C dX6_choose_241 ⟨rt_i (by rw [hE, ChsI, ← (show i = nM τ by omega)]; simp_all <;> omega), rfl⟩
        · refine g_iload C dX6_choose_229 rfl ?_
          refine g_ifb_eq (tgt := 239) C dX6_choose_231 (by decide) (fun h231 => ?_) (fun h231 => ?_)
          · refine g_iload C dX6_choose_239 rfl ?_
            exact g_iret C dX6_choose_241 ⟨rt_i (by rw [hE, ChsI, ← (show i = nM τ by omega)]; simp_all <;> omega), rfl⟩
          · refine g_bipush (v := -5) C dX6_choose_234 (by decide) ?_
            refine g_goto (tgt := 241) C dX6_choose_236 (by decide) ?_
            exact g_iret C dX6_choose_241 ⟨rt_i (by rw [hE, ChsI, ← (show i = nM τ by omega)]; simp_all <;> omega), rfl⟩
      · refine g_aload_n C dX6_choose_118 rfl ?_
        have hi := ‹i < nM τ›
        have hof_i := w0_ofl hW hi
        refine gf_X6_38 C dX6_choose_119 ?_
        refine g_iload C dX6_choose_122 rfl ?_
        refine gM_ln10 C (by omega) dX6_choose_124 ?_
        refine g_aload_n C dX6_choose_125 rfl ?_
        refine gf_X6_38 C dX6_choose_126 ?_
        refine g_iload_n C dX6_choose_129 rfl ?_
        refine gM_ln10 C (by omega) dX6_choose_130 ?_
        refine g_icmp_ne (tgt := 218) C dX6_choose_131 (by decide) (fun h131 => ?_) (fun h131 => ?_)
        · first | exact hnext (choI τ t o i) (by simp only [choI, choF]; rw [if_neg (by simp_all [ChI])]) (by omega) | exact hnext ((choI τ t o i).1 + 1, nI i, true) (by simp only [choI, choF]; rw [if_pos (by simp_all [ChI])]; simp_all) (by omega) | exact hnext ((choI τ t o i).1 + 1, nI i, false) (by simp only [choI, choF]; rw [if_pos (by simp_all [ChI])]; simp_all) (by omega) | exact hnext ((choI τ t o i).1 + 1, (choI τ t o i).2.1, true) (by simp only [choI, choF]; rw [if_pos (by simp_all [ChI])]; simp_all) (by omega) | exact hnext ((choI τ t o i).1 + 1, (choI τ t o i).2.1, false) (by simp only [choI, choF]; rw [if_pos (by simp_all [ChI])]; simp_all) (by omega)
        · refine g_aload_n C dX6_choose_134 rfl ?_
          refine g_iload C dX6_choose_135 rfl ?_
          refine g_callVr 0 C (cr_X6_isPlain (by omega)) mw_X6_isPlain ml_X6_135 rfl rfl rfl rfl (Nat.le_of_ble_eq_true rfl) dX6_choose_137 ⟨Nat.le_of_ble_eq_true rfl, Nat.le_of_ble_eq_true rfl⟩ ⟨Nat.le_of_ble_eq_true rfl, Nat.le_of_ble_eq_true rfl⟩ ?_
          refine g_ifb_eq (tgt := 218) C dX6_choose_140 (by decide) (fun h140 => ?_) (fun h140 => ?_)
          · first | exact hnext (choI τ t o i) (by simp only [choI, choF]; rw [if_neg (by simp_all [ChI])]) (by omega) | exact hnext ((choI τ t o i).1 + 1, nI i, true) (by simp only [choI, choF]; rw [if_pos (by simp_all [ChI])]; simp_all) (by omega) | exact hnext ((choI τ t o i).1 + 1, nI i, false) (by simp only [choI, choF]; rw [if_pos (by simp_all [ChI])]; simp_all) (by omega) | exact hnext ((choI τ t o i).1 + 1, (choI τ t o i).2.1, true) (by simp only [choI, choF]; rw [if_pos (by simp_all [ChI])]; simp_all) (by omega) | exact hnext ((choI τ t o i).1 + 1, (choI τ t o i).2.1, false) (by simp only [choI, choF]; rw [if_pos (by simp_all [ChI])]; simp_all) (by omega)
          · refine g_aload_n C dX6_choose_143 rfl ?_
            refine g_iload C dX6_choose_144 rfl ?_
            refine g_callVr 0 C (cr_X6_isInterface hW (by omega)) mw_X6_isInterface ml_X6_110 rfl rfl rfl rfl (Nat.le_of_ble_eq_true rfl) dX6_choose_146 ⟨Nat.le_of_ble_eq_true rfl, Nat.le_of_ble_eq_true rfl⟩ ⟨Nat.le_of_ble_eq_true rfl, Nat.le_of_ble_eq_true rfl⟩ ?_
            refine g_ifb_eq (tgt := 218) C dX6_choose_149 (by decide) (fun h149 => ?_) (fun h149 => ?_)
            · first | exact hnext (choI τ t o i) (by simp only [choI, choF]; rw [if_neg (by simp_all [ChI])]) (by omega) | exact hnext ((choI τ t o i).1 + 1, nI i, true) (by simp only [choI, choF]; rw [if_pos (by simp_all [ChI])]; simp_all) (by omega) | exact hnext ((choI τ t o i).1 + 1, nI i, false) (by simp only [choI, choF]; rw [if_pos (by simp_all [ChI])]; simp_all) (by omega) | exact hnext ((choI τ t o i).1 + 1, (choI τ t o i).2.1, true) (by simp only [choI, choF]; rw [if_pos (by simp_all [ChI])]; simp_all) (by omega) | exact hnext ((choI τ t o i).1 + 1, (choI τ t o i).2.1, false) (by simp only [choI, choF]; rw [if_pos (by simp_all [ChI])]; simp_all) (by omega)
            · refine g_aload_n C dX6_choose_152 rfl ?_
              refine g_iload_n C dX6_choose_153 rfl ?_
              refine g_aload_n C dX6_choose_154 rfl ?_
              refine gf_X6_35 C dX6_choose_155 ?_
              refine g_iload C dX6_choose_158 rfl ?_
              refine gM_lv9 C (by omega) (w0_of hW (by omega)) dX6_choose_160 ?_
              refine g_callVr 0 C (cr_X6_isBelow hW (by omega) (by omega)) mw_X6_isBelow ml_X6_90 rfl rfl rfl rfl (Nat.le_of_ble_eq_true rfl) dX6_choose_161 ⟨Nat.le_of_ble_eq_true rfl, Nat.le_of_ble_eq_true rfl⟩ ⟨Nat.le_of_ble_eq_true rfl, Nat.le_of_ble_eq_true rfl⟩ ?_
              refine g_ifb_eq (tgt := 218) C dX6_choose_164 (by decide) (fun h164 => ?_) (fun h164 => ?_)
              · first | exact hnext (choI τ t o i) (by simp only [choI, choF]; rw [if_neg (by simp_all [ChI])]) (by omega) | exact hnext ((choI τ t o i).1 + 1, nI i, true) (by simp only [choI, choF]; rw [if_pos (by simp_all [ChI])]; simp_all) (by omega) | exact hnext ((choI τ t o i).1 + 1, nI i, false) (by simp only [choI, choF]; rw [if_pos (by simp_all [ChI])]; simp_all) (by omega) | exact hnext ((choI τ t o i).1 + 1, (choI τ t o i).2.1, true) (by simp only [choI, choF]; rw [if_pos (by simp_all [ChI])]; simp_all) (by omega) | exact hnext ((choI τ t o i).1 + 1, (choI τ t o i).2.1, false) (by simp only [choI, choF]; rw [if_pos (by simp_all [ChI])]; simp_all) (by omega)
              · refine g_aload_n C dX6_choose_167 rfl ?_
                refine g_iload_n C dX6_choose_168 rfl ?_
                refine g_iload C dX6_choose_169 rfl ?_
                refine g_callVr 0 C (cr_X6_isLast hW (by omega) (by omega)) mw_X6_isLast ml_X6_138 rfl rfl rfl rfl (Nat.le_of_ble_eq_true rfl) dX6_choose_171 ⟨Nat.le_of_ble_eq_true rfl, Nat.le_of_ble_eq_true rfl⟩ ⟨Nat.le_of_ble_eq_true rfl, Nat.le_of_ble_eq_true rfl⟩ ?_
                refine g_ifb_eq (tgt := 218) C dX6_choose_174 (by decide) (fun h174 => ?_) (fun h174 => ?_)
                · first | exact hnext (choI τ t o i) (by simp only [choI, choF]; rw [if_neg (by simp_all [ChI])]) (by omega) | exact hnext ((choI τ t o i).1 + 1, nI i, true) (by simp only [choI, choF]; rw [if_pos (by simp_all [ChI])]; simp_all) (by omega) | exact hnext ((choI τ t o i).1 + 1, nI i, false) (by simp only [choI, choF]; rw [if_pos (by simp_all [ChI])]; simp_all) (by omega) | exact hnext ((choI τ t o i).1 + 1, (choI τ t o i).2.1, true) (by simp only [choI, choF]; rw [if_pos (by simp_all [ChI])]; simp_all) (by omega) | exact hnext ((choI τ t o i).1 + 1, (choI τ t o i).2.1, false) (by simp only [choI, choF]; rw [if_pos (by simp_all [ChI])]; simp_all) (by omega)
                · refine g_iincN C dX6_choose_177 rfl (by decide) ?_
                  refine g_iload C dX6_choose_180 rfl ?_
                  refine g_iconst (v := -1) C dX6_choose_182 (by decide) ?_
                  refine g_icmp_ne (tgt := 191) C dX6_choose_183 (by decide) (fun h183 => ?_) (fun h183 => ?_)
                  · refine g_iload C dX6_choose_191 rfl ?_
                    refine g_istore C dX6_choose_193 (by decide) ?_
                    refine g_iload C dX6_choose_195 rfl ?_
                    refine g_ifb_ne (tgt := 211) C dX6_choose_197 (by decide) (fun h197 => ?_) (fun h197 => ?_)
                    · refine g_iconst (v := 1) C dX6_choose_211 (by decide) ?_
                      refine g_goto (tgt := 216) C dX6_choose_212 (by decide) ?_
                      refine g_istore C dX6_choose_216 (by decide) ?_
                      first | exact hnext (choI τ t o i) (by simp only [choI, choF]; rw [if_neg (by simp_all [ChI])]) (by omega) | exact hnext ((choI τ t o i).1 + 1, nI i, true) (by simp only [choI, choF]; rw [if_pos (by simp_all [ChI])]; simp_all) (by omega) | exact hnext ((choI τ t o i).1 + 1, nI i, false) (by simp only [choI, choF]; rw [if_pos (by simp_all [ChI])]; simp_all) (by omega) | exact hnext ((choI τ t o i).1 + 1, (choI τ t o i).2.1, true) (by simp only [choI, choF]; rw [if_pos (by simp_all [ChI])]; simp_all) (by omega) | exact hnext ((choI τ t o i).1 + 1, (choI τ t o i).2.1, false) (by simp only [choI, choF]; rw [if_pos (by simp_all [ChI])]; simp_all) (by omega)
                    · refine g_aload_n C dX6_choose_200 rfl ?_
                      refine g_iload C dX6_choose_201 rfl ?_
                      refine g_bipush (v := 64) C dX6_choose_203 (by decide) ?_
                      refine g_callVr 0 C (cr_X6_has (by omega)) mw_X6_has ml_X6_100 rfl rfl rfl rfl (Nat.le_of_ble_eq_true rfl) dX6_choose_205 ⟨Nat.le_of_ble_eq_true rfl, Nat.le_of_ble_eq_true rfl⟩ ⟨Nat.le_of_ble_eq_true rfl, Nat.le_of_ble_eq_true rfl⟩ ?_
                      refine g_ifb_eq (tgt := 215) C dX6_choose_208 (by decide) (fun h208 => ?_) (fun h208 => ?_)
                      · refine g_iconst (v := 0) C dX6_choose_215 (by decide) ?_
                        refine g_istore C dX6_choose_216 (by decide) ?_
                        first | exact hnext (choI τ t o i) (by simp only [choI, choF]; rw [if_neg (by simp_all [ChI])]) (by omega) | exact hnext ((choI τ t o i).1 + 1, nI i, true) (by simp only [choI, choF]; rw [if_pos (by simp_all [ChI])]; simp_all) (by omega) | exact hnext ((choI τ t o i).1 + 1, nI i, false) (by simp only [choI, choF]; rw [if_pos (by simp_all [ChI])]; simp_all) (by omega) | exact hnext ((choI τ t o i).1 + 1, (choI τ t o i).2.1, true) (by simp only [choI, choF]; rw [if_pos (by simp_all [ChI])]; simp_all) (by omega) | exact hnext ((choI τ t o i).1 + 1, (choI τ t o i).2.1, false) (by simp only [choI, choF]; rw [if_pos (by simp_all [ChI])]; simp_all) (by omega)
                      · refine g_iconst (v := 1) C dX6_choose_211 (by decide) ?_
                        refine g_goto (tgt := 216) C dX6_choose_212 (by decide) ?_
                        refine g_istore C dX6_choose_216 (by decide) ?_
                        first | exact hnext (choI τ t o i) (by simp only [choI, choF]; rw [if_neg (by simp_all [ChI])]) (by omega) | exact hnext ((choI τ t o i).1 + 1, nI i, true) (by simp only [choI, choF]; rw [if_pos (by simp_all [ChI])]; simp_all) (by omega) | exact hnext ((choI τ t o i).1 + 1, nI i, false) (by simp only [choI, choF]; rw [if_pos (by simp_all [ChI])]; simp_all) (by omega) | exact hnext ((choI τ t o i).1 + 1, (choI τ t o i).2.1, true) (by simp only [choI, choF]; rw [if_pos (by simp_all [ChI])]; simp_all) (by omega) | exact hnext ((choI τ t o i).1 + 1, (choI τ t o i).2.1, false) (by simp only [choI, choF]; rw [if_pos (by simp_all [ChI])]; simp_all) (by omega)
                  · refine g_iload C dX6_choose_186 rfl ?_
                    refine g_goto (tgt := 193) C dX6_choose_188 (by decide) ?_
                    refine g_istore C dX6_choose_193 (by decide) ?_
                    refine g_iload C dX6_choose_195 rfl ?_
                    refine g_ifb_ne (tgt := 211) C dX6_choose_197 (by decide) (fun h197 => ?_) (fun h197 => ?_)
                    · refine g_iconst (v := 1) C dX6_choose_211 (by decide) ?_
                      refine g_goto (tgt := 216) C dX6_choose_212 (by decide) ?_
                      refine g_istore C dX6_choose_216 (by decide) ?_
                      first | exact hnext (choI τ t o i) (by simp only [choI, choF]; rw [if_neg (by simp_all [ChI])]) (by omega) | exact hnext ((choI τ t o i).1 + 1, nI i, true) (by simp only [choI, choF]; rw [if_pos (by simp_all [ChI])]; simp_all) (by omega) | exact hnext ((choI τ t o i).1 + 1, nI i, false) (by simp only [choI, choF]; rw [if_pos (by simp_all [ChI])]; simp_all) (by omega) | exact hnext ((choI τ t o i).1 + 1, (choI τ t o i).2.1, true) (by simp only [choI, choF]; rw [if_pos (by simp_all [ChI])]; simp_all) (by omega) | exact hnext ((choI τ t o i).1 + 1, (choI τ t o i).2.1, false) (by simp only [choI, choF]; rw [if_pos (by simp_all [ChI])]; simp_all) (by omega)
                    · refine g_aload_n C dX6_choose_200 rfl ?_
                      refine g_iload C dX6_choose_201 rfl ?_
                      refine g_bipush (v := 64) C dX6_choose_203 (by decide) ?_
                      refine g_callVr 0 C (cr_X6_has (by omega)) mw_X6_has ml_X6_100 rfl rfl rfl rfl (Nat.le_of_ble_eq_true rfl) dX6_choose_205 ⟨Nat.le_of_ble_eq_true rfl, Nat.le_of_ble_eq_true rfl⟩ ⟨Nat.le_of_ble_eq_true rfl, Nat.le_of_ble_eq_true rfl⟩ ?_
                      refine g_ifb_eq (tgt := 215) C dX6_choose_208 (by decide) (fun h208 => ?_) (fun h208 => ?_)
                      · refine g_iconst (v := 0) C dX6_choose_215 (by decide) ?_
                        refine g_istore C dX6_choose_216 (by decide) ?_
                        first | exact hnext (choI τ t o i) (by simp only [choI, choF]; rw [if_neg (by simp_all [ChI])]) (by omega) | exact hnext ((choI τ t o i).1 + 1, nI i, true) (by simp only [choI, choF]; rw [if_pos (by simp_all [ChI])]; simp_all) (by omega) | exact hnext ((choI τ t o i).1 + 1, nI i, false) (by simp only [choI, choF]; rw [if_pos (by simp_all [ChI])]; simp_all) (by omega) | exact hnext ((choI τ t o i).1 + 1, (choI τ t o i).2.1, true) (by simp only [choI, choF]; rw [if_pos (by simp_all [ChI])]; simp_all) (by omega) | exact hnext ((choI τ t o i).1 + 1, (choI τ t o i).2.1, false) (by simp only [choI, choF]; rw [if_pos (by simp_all [ChI])]; simp_all) (by omega)
                      · refine g_iconst (v := 1) C dX6_choose_211 (by decide) ?_
                        refine g_goto (tgt := 216) C dX6_choose_212 (by decide) ?_
                        refine g_istore C dX6_choose_216 (by decide) ?_
                        first | exact hnext (choI τ t o i) (by simp only [choI, choF]; rw [if_neg (by simp_all [ChI])]) (by omega) | exact hnext ((choI τ t o i).1 + 1, nI i, true) (by simp only [choI, choF]; rw [if_pos (by simp_all [ChI])]; simp_all) (by omega) | exact hnext ((choI τ t o i).1 + 1, nI i, false) (by simp only [choI, choF]; rw [if_pos (by simp_all [ChI])]; simp_all) (by omega) | exact hnext ((choI τ t o i).1 + 1, (choI τ t o i).2.1, true) (by simp only [choI, choF]; rw [if_pos (by simp_all [ChI])]; simp_all) (by omega) | exact hnext ((choI τ t o i).1 + 1, (choI τ t o i).2.1, false) (by simp only [choI, choF]; rw [if_pos (by simp_all [ChI])]; simp_all) (by omega)
  have base : chO (τ 3) (fun u => fstN (nM τ) (ChX τ o u)) (nI t) = none → G p l e (rmo 4 87) s m ([.ref (b 0), .int (nI t), .int (nI o)] : List Value).toArray below meth c D (va_A (pM b cI cZ τ) s.heap.size) 0 0 (Qe below ([.ref (b 0), .int (nI t), .int (nI o)] : List Value).toArray s D (pM b cI cZ) τ (fun r u => r = some (.int (Chs τ t o)) ∧ u = τ)) 7 (pM b cI cZ τ) 2 [some (.ref (b 0)), some (.int (nI t)), some (.int (nI o)), some (.int (-1)), none, none, none] [] := by
    intro hn
    refine g_iload_n C dX6_choose_2 rfl ?_
    refine g_iconst (v := -1) C dX6_choose_3 (by decide) ?_
    refine g_icmp_eq (tgt := 98) C dX6_choose_4 (by decide) (fun h4 => ?_) (fun h4 => ?_)
    · refine g_iconstN 0 C dX6_choose_98 (by decide) ?_
      refine g_istore_n C dX6_choose_99 (by decide) ?_
      refine g_iconst (v := -1) C dX6_choose_100 (by decide) ?_
      refine g_istore C dX6_choose_101 (by decide) ?_
      refine g_iconst (v := 0) C dX6_choose_103 (by decide) ?_
      refine g_istore C dX6_choose_104 (by decide) ?_
      refine g_iconstN 0 C dX6_choose_106 (by decide) ?_
      refine g_istore C dX6_choose_107 (by decide) ?_
      exact loop2 (by simp only [Chs, hn]) (nM τ + 1) 0 (by omega) (by omega)
    · exact absurd rfl h4
  have first : ∀ (k : Nat) (y : Int32), lessOr y k → k ≤ nT τ → chO (τ 3) (fun u => fstN (nM τ) (ChX τ o u)) (nI t) = chO (τ 3) (fun u => fstN (nM τ) (ChX τ o u)) y → G p l e (rmo 4 87) s m ([.ref (b 0), .int (nI t), .int (nI o)] : List Value).toArray below meth c D (va_A (pM b cI cZ τ) s.heap.size) 0 0 (Qe below ([.ref (b 0), .int (nI t), .int (nI o)] : List Value).toArray s D (pM b cI cZ) τ (fun r u => r = some (.int (Chs τ t o)) ∧ u = τ)) 7 (pM b cI cZ τ) 2 [some (.ref (b 0)), some (.int (nI t)), some (.int (nI o)), some (.int (y)), none, none, none] [] := by
    intro k
    induction k with
    | zero =>
      intro y hy hk he
      rcases hy with rfl | ⟨q, hq, rfl⟩
      · exact base (by rw [he]; simp [chO])
      · omega
    | succ k ihk =>
      intro y hy hk he
      rcases hy with rfl | ⟨q, hq, rfl⟩
      · exact base (by rw [he]; simp [chO])
      rw [chC_step (N := nT τ) (by omega) (fun z hz => w0_pa hW hz) (y := q) (by omega)] at he
      have hpa := w0_pa hW (t := q) (by omega)
      have inner : ∀ (n i : Nat), i ≤ nM τ → nM τ + 1 ≤ i + n → (∀ z, z < i → ChX τ o q z = false) → G p l e (rmo 4 87) s m ([.ref (b 0), .int (nI t), .int (nI o)] : List Value).toArray below meth c D (va_A (pM b cI cZ τ) s.heap.size) 0 0 (Qe below ([.ref (b 0), .int (nI t), .int (nI o)] : List Value).toArray s D (pM b cI cZ) τ (fun r u => r = some (.int (Chs τ t o)) ∧ u = τ)) 7 (pM b cI cZ τ) 10 [some (.ref (b 0)), some (.int (nI t)), some (.int (nI o)), some (.int (nI q)), some (.int (nI i)), none, none] [] := by
        intro n
        induction n with
        | zero => intro i h1 h2; omega
        | succ n ih =>
          intro i h1 h2 hF
          refine g_iload C dX6_choose_10 rfl ?_
          refine g_aload_n C dX6_choose_12 rfl ?_
          refine gn_X6_70 C (w0_m hW) dX6_choose_13 ?_
          refine g_icmpN_ge (tgt := 88) C (by omega) (by omega) dX6_choose_16 (by decide) (fun h16 => ?_) (fun h16 => ?_)
          · refine g_aload_n C dX6_choose_88 rfl ?_
            refine gf_X6_16 C dX6_choose_89 ?_
            refine g_iload_n C dX6_choose_92 rfl ?_
            refine gM_ln3 C (by omega) dX6_choose_93 ?_
            refine g_istore_n C dX6_choose_94 (by decide) ?_
            refine g_goto (tgt := 2) C dX6_choose_95 (by decide) ?_
            exact (ihk (τ 3 q) (hpa.mono (by omega)) (by omega) (by rw [fstN_none (fun z hz => hF z (by omega))] at he; exact he)).weak (by simp [lvle, lst])
          · refine g_aload_n C dX6_choose_19 rfl ?_
            have hi := ‹i < nM τ›
            have hof_i := w0_ofl hW hi
            refine gf_X6_35 C dX6_choose_20 ?_
            refine g_iload C dX6_choose_23 rfl ?_
            refine gM_lv9 C (by omega) (w0_of hW (by omega)) dX6_choose_25 ?_
            refine g_iload_n C dX6_choose_26 rfl ?_
            refine g_icmpN_ne (tgt := 82) C (by omega) (by omega) dX6_choose_27 (by decide) (fun h27 => ?_) (fun h27 => ?_)
            · refine g_iincN C dX6_choose_82 rfl (by decide) ?_
              refine g_goto (tgt := 10) C dX6_choose_85 (by decide) ?_
              exact ih (i + 1) (by omega) (by omega) (fun z hz => by rcases Nat.lt_or_eq_of_le (Nat.le_of_lt_succ hz) with q | rfl <;> first | exact hF z q | simp_all [ChX])
            · refine g_aload_n C dX6_choose_30 rfl ?_
              refine gf_X6_38 C dX6_choose_31 ?_
              refine g_iload C dX6_choose_34 rfl ?_
              refine gM_ln10 C (by omega) dX6_choose_36 ?_
              refine g_aload_n C dX6_choose_37 rfl ?_
              refine gf_X6_38 C dX6_choose_38 ?_
              refine g_iload_n C dX6_choose_41 rfl ?_
              refine gM_ln10 C (by omega) dX6_choose_42 ?_
              refine g_icmp_ne (tgt := 82) C dX6_choose_43 (by decide) (fun h43 => ?_) (fun h43 => ?_)
              · refine g_iincN C dX6_choose_82 rfl (by decide) ?_
                refine g_goto (tgt := 10) C dX6_choose_85 (by decide) ?_
                exact ih (i + 1) (by omega) (by omega) (fun z hz => by rcases Nat.lt_or_eq_of_le (Nat.le_of_lt_succ hz) with q | rfl <;> first | exact hF z q | simp_all [ChX])
              · refine g_aload_n C dX6_choose_46 rfl ?_
                refine g_iload C dX6_choose_47 rfl ?_
                refine g_callVr 0 C (cr_X6_isPlain (by omega)) mw_X6_isPlain ml_X6_135 rfl rfl rfl rfl (Nat.le_of_ble_eq_true rfl) dX6_choose_49 ⟨Nat.le_of_ble_eq_true rfl, Nat.le_of_ble_eq_true rfl⟩ ⟨Nat.le_of_ble_eq_true rfl, Nat.le_of_ble_eq_true rfl⟩ ?_
                refine g_ifb_eq (tgt := 82) C dX6_choose_52 (by decide) (fun h52 => ?_) (fun h52 => ?_)
                · refine g_iincN C dX6_choose_82 rfl (by decide) ?_
                  refine g_goto (tgt := 10) C dX6_choose_85 (by decide) ?_
                  exact ih (i + 1) (by omega) (by omega) (fun z hz => by rcases Nat.lt_or_eq_of_le (Nat.le_of_lt_succ hz) with q | rfl <;> first | exact hF z q | simp_all [ChX])
                · refine g_iload C dX6_choose_55 rfl ?_
                  refine g_iload_n C dX6_choose_57 rfl ?_
                  refine g_icmpN_eq (tgt := 79) C (by omega) (by omega) dX6_choose_58 (by decide) (fun h58 => ?_) (fun h58 => ?_)
                  · refine g_iload C dX6_choose_79 rfl ?_
                    exact g_iret C dX6_choose_81 ⟨rt_i (by rw [fstN_some (x := i) (by omega) (by simp_all [ChX]) hF] at he; simp only [Chs, he]), rfl⟩
                  · refine g_aload_n C dX6_choose_61 rfl ?_
                    refine g_iload C dX6_choose_62 rfl ?_
                    refine g_iload_n C dX6_choose_64 rfl ?_
                    refine g_callVr 0 C (cr_X6_isOver hW (by omega) (by omega)) mw_X6_isOver ml_X6_129 rfl rfl rfl rfl (Nat.le_of_ble_eq_true rfl) dX6_choose_65 ⟨Nat.le_of_ble_eq_true rfl, Nat.le_of_ble_eq_true rfl⟩ ⟨Nat.le_of_ble_eq_true rfl, Nat.le_of_ble_eq_true rfl⟩ ?_
                    refine g_ifb_ne (tgt := 79) C dX6_choose_68 (by decide) (fun h68 => ?_) (fun h68 => ?_)
                    · refine g_iload C dX6_choose_79 rfl ?_
                      exact g_iret C dX6_choose_81 ⟨rt_i (by rw [fstN_some (x := i) (by omega) (by simp_all [ChX]) hF] at he; simp only [Chs, he]), rfl⟩
                    · refine g_aload_n C dX6_choose_71 rfl ?_
                      refine g_iload_n C dX6_choose_72 rfl ?_
                      refine g_callVr 0 C (cr_X6_isInterface hW (by omega)) mw_X6_isInterface ml_X6_110 rfl rfl rfl rfl (Nat.le_of_ble_eq_true rfl) dX6_choose_73 ⟨Nat.le_of_ble_eq_true rfl, Nat.le_of_ble_eq_true rfl⟩ ⟨Nat.le_of_ble_eq_true rfl, Nat.le_of_ble_eq_true rfl⟩ ?_
                      refine g_ifb_eq (tgt := 82) C dX6_choose_76 (by decide) (fun h76 => ?_) (fun h76 => ?_)
                      · refine g_iincN C dX6_choose_82 rfl (by decide) ?_
                        refine g_goto (tgt := 10) C dX6_choose_85 (by decide) ?_
                        exact ih (i + 1) (by omega) (by omega) (fun z hz => by rcases Nat.lt_or_eq_of_le (Nat.le_of_lt_succ hz) with q | rfl <;> first | exact hF z q | simp_all [ChX])
                      · refine g_iload C dX6_choose_79 rfl ?_
                        exact g_iret C dX6_choose_81 ⟨rt_i (by rw [fstN_some (x := i) (by omega) (by simp_all [ChX]) hF] at he; simp only [Chs, he]), rfl⟩
      refine g_iload_n C dX6_choose_2 rfl ?_
      refine g_iconst (v := -1) C dX6_choose_3 (by decide) ?_
      refine g_icmp_eq (tgt := 98) C dX6_choose_4 (by decide) (fun h4 => ?_) (fun h4 => ?_)
      · exact absurd h4 (nI_m1 (by omega))
      · refine g_iconstN 0 C dX6_choose_7 (by decide) ?_
        refine g_istore C dX6_choose_8 (by decide) ?_
        exact inner (nM τ + 1) 0 (by omega) (by omega) (fun z hz => by omega)
  refine g_iload_n C dX6_choose_0 rfl ?_
  refine g_istore_n C dX6_choose_1 (by decide) ?_
  exact first (nT τ) (nI t) (Or.inr ⟨t, ht, rfl⟩) (by omega) rfl
end
section
/-! ===== the reference: its faults ===== -/
abbrev Ft : Type := Int32 × Int32 × Int32
/-- the reference's state with other faults noted -/
def lgS (τ : St) (A B C : Nat → Int32) (n : Int32) : St := fun k => bif Nat.beq k 15 then A else bif Nat.beq k 16 then B else bif Nat.beq k 17 then C else bif Nat.beq k 0 then upd (τ 0) 3 n else τ k
theorem lgS_W0 {τ : St} {A B C : Nat → Int32} {n : Int32} (h : W0 τ) : W0 (lgS τ A B C n) := h
theorem lgS_15 {τ : St} {A B C : Nat → Int32} {n : Int32} {j : Nat} {x : Int32} : up2 (lgS τ A B C n) 15 j x = lgS τ (upd A j x) B C n := by
  funext k
  by_cases h : k = 15
  · subst h; rfl
  · have e : Nat.beq k 15 = false := nbeq h
    simp only [up2, lgS, e, cond_false]
theorem lgS_16 {τ : St} {A B C : Nat → Int32} {n : Int32} {j : Nat} {x : Int32} : up2 (lgS τ A B C n) 16 j x = lgS τ A (upd B j x) C n := by
  funext k
  by_cases h : k = 16
  · subst h; rfl
  · have e : Nat.beq k 16 = false := nbeq h
    simp only [up2, lgS, e, cond_false]
theorem lgS_17 {τ : St} {A B C : Nat → Int32} {n : Int32} {j : Nat} {x : Int32} : up2 (lgS τ A B C n) 17 j x = lgS τ A B (upd C j x) n := by
  funext k
  by_cases h : k = 17
  · subst h; rfl
  · have e : Nat.beq k 17 = false := nbeq h
    simp only [up2, lgS, e, cond_false]
theorem upd_upd {f : Nat → Int32} {k : Nat} {x y : Int32} : upd (upd f k x) k y = upd f k y := by
  funext j
  by_cases h : j = k <;> simp [upd, h]
theorem lgS_0 {τ : St} {A B C : Nat → Int32} {n x : Int32} : up2 (lgS τ A B C n) 0 3 x = lgS τ A B C x := by
  funext k
  by_cases h : k = 0
  · subst h
    show upd (upd (τ 0) 3 n) 3 x = upd (τ 0) 3 x
    exact upd_upd
  · have e : Nat.beq k 0 = false := nbeq h
    simp only [up2, lgS, e, cond_false]
theorem lgS_up {τ : St} {x : Int32} : up2 τ 0 3 x = lgS τ (τ 15) (τ 16) (τ 17) x := by
  funext k
  by_cases h : k = 0
  · subst h; rfl
  · have e : Nat.beq k 0 = false := nbeq h
    simp only [up2, lgS, e, cond_false]
    by_cases h5 : k = 15
    · subst h5; rfl
    by_cases h6 : k = 16
    · subst h6; rfl
    by_cases h7 : k = 17
    · subst h7; rfl
    have e5 : Nat.beq k 15 = false := nbeq h5
    have e6 : Nat.beq k 16 = false := nbeq h6
    have e7 : Nat.beq k 17 = false := nbeq h7
    simp only [e5, e6, e7, cond_false]
/-- the state u is τ with the faults L noted -/
def Lg (τ : St) (L : List Ft) (u : St) : Prop := ∃ A B C, u = lgS τ A B C (nI L.length) ∧ ∀ j, j < L.length → L[j]? = some (A j, B j, C j)
theorem Lg_nil {τ : St} : Lg τ [] (up2 τ 0 3 0) := ⟨τ 15, τ 16, τ 17, lgS_up, fun j h => by simp at h⟩
theorem Lg_snoc {τ : St} {L : List Ft} {A B C : Nat → Int32} (h : ∀ j, j < L.length → L[j]? = some (A j, B j, C j)) (x : Ft) : Lg τ (L ++ [x]) (lgS τ (upd A L.length x.1) (upd B L.length x.2.1) (upd C L.length x.2.2) (nI (L.length + 1))) := by
  refine ⟨_, _, _, by rw [List.length_append]; rfl, fun j hj => ?_⟩
  rw [List.length_append, List.length_singleton] at hj
  by_cases e : j = L.length
  · subst e
    simp [upd]
  · rw [List.getElem?_append_left (by omega), h j (by omega)]
    simp [upd, e]
def thrL (τ : St) (m o : Nat) : List Ft := (if Acc τ m < Acc τ o then [(3, nI m, nI o)] else []) ++ ((if Sts τ (Rs τ m) (Rs τ o) = true then [] else [(4, nI m, nI o)]) ++ (if ThB τ m o = true then [(5, nI m, nI o)] else []))
def pairL (τ : St) (m o : Nat) : List Ft := (if Mix τ m o = true then [(1, nI m, nI o)] else []) ++ (if (Ov τ m o || Hid τ m o) = true then (if Hs τ o 16 = true then [(2, nI m, nI o)] else []) ++ thrL τ m o else [])
def innL (τ : St) (m : Nat) : Nat → List Ft
  | 0 => []
  | j + 1 => innL τ m j ++ pairL τ m j
def ownL (τ : St) (t m : Nat) : List Ft := if Of τ m = t then innL τ m (nM τ) ++ ((if (Hs τ m 128 && !anyN (nM τ) (Ov τ m)) = true then [(6, nI m, -1)] else []) ++ (if (Hs τ m 32 && decide (τ 1 t = 0)) = true then [(7, nI m, -1)] else [])) else []
def jdO (τ : St) (t : Nat) : Nat → List Ft
  | 0 => []
  | i + 1 => jdO τ t i ++ ownL τ t i
def chN (τ : St) (t o : Nat) : Nat := (Chs τ t o).toNatClampNeg
def inhL (τ : St) (t o : Nat) : List Ft := if Chs τ t o = -5 then [(8, -1, nI o)] else (if (decide (τ 1 t = 0) && Hs τ (chN τ t o) 32 && !decide (Of τ (chN τ t o) = t)) = true then [(9, nI (chN τ t o), nI o)] else []) ++ (if (Ifc τ o && !Ifc τ (chN τ t o) && Bel τ t (Of τ (chN τ t o)) && !Bel τ (Of τ (chN τ t o)) (Of τ o)) = true then thrL τ (chN τ t o) o else [])
def inhC (τ : St) (t o : Nat) : Bool := Pln τ o && Bel τ t (Of τ o) && (Hs τ o 32 || Hs τ o 64)
def inhO (τ : St) (t : Nat) : Nat → List Ft
  | 0 => []
  | i + 1 => inhO τ t i ++ (if inhC τ t i = true then inhL τ t i else [])
def jdg (τ : St) (t : Nat) : List Ft := jdO τ t (nM τ) ++ (if τ 1 t < 2 then inhO τ t (nM τ) else [])
theorem jdO_le {τ : St} {t : Nat} : ∀ (n i : Nat), i ≤ n → (jdO τ t i).length ≤ (jdO τ t n).length
  | 0, i, h => by rw [Nat.le_zero.mp h]; exact Nat.le_refl _
  | n + 1, i, h => by
    rcases Nat.lt_or_eq_of_le h with q | rfl
    · have := jdO_le (τ := τ) (t := t) n i (by omega)
      simp only [jdO, List.length_append]
      omega
    · exact Nat.le_refl _
theorem inhO_le {τ : St} {t : Nat} : ∀ (n i : Nat), i ≤ n → (inhO τ t i).length ≤ (inhO τ t n).length
  | 0, i, h => by rw [Nat.le_zero.mp h]; exact Nat.le_refl _
  | n + 1, i, h => by
    rcases Nat.lt_or_eq_of_le h with q | rfl
    · have := inhO_le (τ := τ) (t := t) n i (by omega)
      simp only [inhO, List.length_append]
      omega
    · exact Nat.le_refl _
theorem innL_le {τ : St} {m : Nat} : ∀ (n i : Nat), i ≤ n → (innL τ m i).length ≤ (innL τ m n).length
  | 0, i, h => by rw [Nat.le_zero.mp h]; exact Nat.le_refl _
  | n + 1, i, h => by
    rcases Nat.lt_or_eq_of_le h with q | rfl
    · have := innL_le (τ := τ) (m := m) n i (by omega)
      simp only [innL, List.length_append]
      omega
    · exact Nat.le_refl _
set_option maxRecDepth 100000 in
set_option maxHeartbeats 4000000 in
theorem ct_X6_note {l : Launch} {D : va_G} {cI cZ : ClassId} {b : Nat → Nat} {τ u : St} {L : List Ft} (hu : Lg τ L u) (hL : L.length < 2400) {x1 x2 x3 : Int32} : Ct l yX6_note cX6_note 4 none 0 0 D cI cZ (pM b cI cZ) [.ref (b 0), .int x1, .int x2, .int x3] u (fun r v => r = none ∧ Lg τ (L ++ [(x1, x2, x3)]) v) := by
  obtain ⟨A1, B1, C1, rfl, hA⟩ := hu
  refine Ct.of 0 (by decide) (by simp [Value.category]) (Nat.le_of_ble_eq_true rfl) ?_
  intro p e s m below meth c C
  refine g_aload_n C dX6_note_0 rfl ?_
  refine gf_X6_53 C dX6_note_1 ?_
  refine g_aload_n C dX6_note_4 rfl ?_
  refine gn_X6_144 C (v := nI L.length) rfl dX6_note_5 ?_
  refine g_iload_n C dX6_note_8 rfl ?_
  refine gM_sn15 C hL dX6_note_9 ?_
  rw [lgS_15]
  refine g_aload_n C dX6_note_10 rfl ?_
  refine gf_X6_56 C dX6_note_11 ?_
  refine g_aload_n C dX6_note_14 rfl ?_
  refine gn_X6_144 C (v := nI L.length) rfl dX6_note_15 ?_
  refine g_iload_n C dX6_note_18 rfl ?_
  refine gM_sn16 C hL dX6_note_19 ?_
  rw [lgS_16]
  refine g_aload_n C dX6_note_20 rfl ?_
  refine gf_X6_59 C dX6_note_21 ?_
  refine g_aload_n C dX6_note_24 rfl ?_
  refine gn_X6_144 C (v := nI L.length) rfl dX6_note_25 ?_
  refine g_iload_n C dX6_note_28 rfl ?_
  refine gM_sn17 C hL dX6_note_29 ?_
  rw [lgS_17]
  refine g_aload_n C dX6_note_30 rfl ?_
  refine g_dup C dX6_note_31 rfl ?_
  refine gn_X6_144 C (v := nI L.length) rfl dX6_note_32 ?_
  refine g_iconstN 1 C dX6_note_35 (by decide) ?_
  refine g_iaddN C dX6_note_36 ?_
  refine gp_X6_144 C dX6_note_37 ?_
  rw [lgS_0]
  exact g_vret C dX6_note_40 ⟨rfl, Lg_snoc hA (x1, x2, x3)⟩
set_option maxRecDepth 100000 in
set_option maxHeartbeats 4000000 in
theorem ct_X6_three {l : Launch} {D : va_G} {cI cZ : ClassId} {b : Nat → Nat} {τ u : St} (hW : W0 τ) {L : List Ft} (hu : Lg τ L u) {x o : Nat} (hx : x < nM τ) (ho : o < nM τ) (hL : (L ++ thrL τ x o).length ≤ 2400) : Ct l yX6_three cX6_three 3 none 3 66 D cI cZ (pM b cI cZ) [.ref (b 0), .int (nI x), .int (nI o)] u (fun r v => r = none ∧ Lg τ (L ++ thrL τ x o) v) := by
  refine Ct.of 0 (by decide) (by simp [Value.category]) (Nat.le_of_ble_eq_true rfl) ?_
  intro p e s m below meth c C
  have hTl := w0_tl hW
  have hMl := w0_ml hW
  have hrx := w0_rsl hW hx
  have hro := w0_rsl hW ho
  have j46 : ∀ (L2 : List Ft) (w : St), Lg τ L2 w → L2 ++ (if ThB τ x o = true then [(5, nI x, nI o)] else []) = L ++ thrL τ x o → G p l e (rmo 3 66) s m ([.ref (b 0), .int (nI x), .int (nI o)] : List Value).toArray below meth c D (va_A (pM b cI cZ u) s.heap.size) 0 0 (Qe below ([.ref (b 0), .int (nI x), .int (nI o)] : List Value).toArray s D (pM b cI cZ) u (fun r v => r = none ∧ Lg τ (L ++ thrL τ x o) v)) 3 (pM b cI cZ w) 46 [some (.ref (b 0)), some (.int (nI x)), some (.int (nI o))] [] := by
    intro L2 w hw he
    have hl := congrArg List.length he
    obtain ⟨A1, B1, C1, rfl, hA⟩ := id hw
    have hW1 : W0 (lgS τ A1 B1 C1 (nI L2.length)) := hW
    refine g_aload_n C dX6_three_46 rfl ?_
    refine g_iload_n C dX6_three_47 rfl ?_
    refine g_iload_n C dX6_three_48 rfl ?_
    refine g_callVr 0 C (cr_X6_throwsMore hW1 hx ho) mw_X6_throwsMore ml_X6_154 rfl rfl rfl rfl (Nat.le_of_ble_eq_true rfl) dX6_three_49 ⟨Nat.le_of_ble_eq_true rfl, Nat.le_of_ble_eq_true rfl⟩ ⟨Nat.le_of_ble_eq_true rfl, Nat.le_of_ble_eq_true rfl⟩ ?_
    refine g_ifb_eq (tgt := 62) C dX6_three_52 (by decide) (fun h52 => ?_) (fun h52 => ?_)
    · first | exact g_vret C dX6_three_62 ⟨rfl, by have hT : ThB τ x o = true := h52; simp [hT] at he; rw [← he]; exact hv⟩ | exact g_vret C dX6_three_62 ⟨rfl, by have hT : ThB τ x o = false := h52; simp [hT] at he; rw [← he]; exact hw⟩
    · refine g_aload_n C dX6_three_55 rfl ?_
      refine g_iconst (v := 5) C dX6_three_56 (by decide) ?_
      refine g_iload_n C dX6_three_57 rfl ?_
      refine g_iload_n C dX6_three_58 rfl ?_
      refine g_callV 0 C (ct_X6_note hw (by have hT : ThB τ x o = true := h52; simp [hT] at hl; simp at hL; omega)) mw_X6_note ml_X6_147 rfl rfl rfl rfl (Nat.le_of_ble_eq_true rfl) dX6_three_59 ⟨Nat.le_of_ble_eq_true rfl, Nat.le_of_ble_eq_true rfl⟩ ⟨Nat.le_of_ble_eq_true rfl, Nat.le_of_ble_eq_true rfl⟩ ?_
      intro r v hv
      obtain ⟨rfl, hv⟩ := hv
      first | exact g_vret C dX6_three_62 ⟨rfl, by have hT : ThB τ x o = true := h52; simp [hT] at he; rw [← he]; exact hv⟩ | exact g_vret C dX6_three_62 ⟨rfl, by have hT : ThB τ x o = false := h52; simp [hT] at he; rw [← he]; exact hw⟩
  have j20 : ∀ (L2 : List Ft) (w : St), Lg τ L2 w → L2 ++ ((if Sts τ (Rs τ x) (Rs τ o) = true then [] else [(4, nI x, nI o)]) ++ (if ThB τ x o = true then [(5, nI x, nI o)] else [])) = L ++ thrL τ x o → G p l e (rmo 3 66) s m ([.ref (b 0), .int (nI x), .int (nI o)] : List Value).toArray below meth c D (va_A (pM b cI cZ u) s.heap.size) 0 0 (Qe below ([.ref (b 0), .int (nI x), .int (nI o)] : List Value).toArray s D (pM b cI cZ) u (fun r v => r = none ∧ Lg τ (L ++ thrL τ x o) v)) 3 (pM b cI cZ w) 20 [some (.ref (b 0)), some (.int (nI x)), some (.int (nI o))] [] := by
    intro L2 w hw he
    have hl := congrArg List.length he
    obtain ⟨A1, B1, C1, rfl, hA⟩ := id hw
    have hW1 : W0 (lgS τ A1 B1 C1 (nI L2.length)) := hW
    refine g_aload_n C dX6_three_20 rfl ?_
    refine g_aload_n C dX6_three_21 rfl ?_
    refine gf_X6_41 C dX6_three_22 ?_
    refine g_iload_n C dX6_three_25 rfl ?_
    refine gM_lv11 C (by omega) (w0_rs hW1 (by assumption)) dX6_three_26 ?_
    refine g_aload_n C dX6_three_27 rfl ?_
    refine gf_X6_41 C dX6_three_28 ?_
    refine g_iload_n C dX6_three_31 rfl ?_
    refine gM_lv11 C (by omega) (w0_rs hW1 (by assumption)) dX6_three_32 ?_
    refine g_callVr 0 C (cr_X6_suits hW1 (a := Rs τ x) (z := Rs τ o) hrx hro) mw_X6_suits ml_X6_151 rfl rfl rfl rfl (Nat.le_of_ble_eq_true rfl) dX6_three_33 ⟨Nat.le_of_ble_eq_true rfl, Nat.le_of_ble_eq_true rfl⟩ ⟨Nat.le_of_ble_eq_true rfl, Nat.le_of_ble_eq_true rfl⟩ ?_
    refine g_ifb_ne (tgt := 46) C dX6_three_36 (by decide) (fun h36 => ?_) (fun h36 => ?_)
    · first | exact j46 _ _ hv (by have hT : Sts τ (Rs τ x) (Rs τ o) = false := h36; simp [hT] at he ⊢; exact he) | exact j46 _ _ hw (by have hT : Sts τ (Rs τ x) (Rs τ o) = true := h36; simp [hT] at he ⊢; exact he)
    · refine g_aload_n C dX6_three_39 rfl ?_
      refine g_iconst (v := 4) C dX6_three_40 (by decide) ?_
      refine g_iload_n C dX6_three_41 rfl ?_
      refine g_iload_n C dX6_three_42 rfl ?_
      refine g_callV 0 C (ct_X6_note hw (by have hT : Sts τ (Rs τ x) (Rs τ o) = false := h36; simp [hT] at hl; simp at hL; omega)) mw_X6_note ml_X6_147 rfl rfl rfl rfl (Nat.le_of_ble_eq_true rfl) dX6_three_43 ⟨Nat.le_of_ble_eq_true rfl, Nat.le_of_ble_eq_true rfl⟩ ⟨Nat.le_of_ble_eq_true rfl, Nat.le_of_ble_eq_true rfl⟩ ?_
      intro r v hv
      obtain ⟨rfl, hv⟩ := hv
      first | exact j46 _ _ hv (by have hT : Sts τ (Rs τ x) (Rs τ o) = false := h36; simp [hT] at he ⊢; exact he) | exact j46 _ _ hw (by have hT : Sts τ (Rs τ x) (Rs τ o) = true := h36; simp [hT] at he ⊢; exact he)
  have hl := congrArg List.length (rfl : L ++ thrL τ x o = L ++ thrL τ x o)
  obtain ⟨A1, B1, C1, rfl, hA⟩ := id hu
  have hW1 : W0 (lgS τ A1 B1 C1 (nI L.length)) := hW
  refine g_aload_n C dX6_three_0 rfl ?_
  refine g_iload_n C dX6_three_1 rfl ?_
  refine g_callVr 0 C (cr_X6_access hW1 (by assumption)) mw_X6_access ml_X6_113 rfl rfl rfl rfl (Nat.le_of_ble_eq_true rfl) dX6_three_2 ⟨Nat.le_of_ble_eq_true rfl, Nat.le_of_ble_eq_true rfl⟩ ⟨Nat.le_of_ble_eq_true rfl, Nat.le_of_ble_eq_true rfl⟩ ?_
  refine g_aload_n C dX6_three_5 rfl ?_
  refine g_iload_n C dX6_three_6 rfl ?_
  refine g_callVr 0 C (cr_X6_access hW1 (by assumption)) mw_X6_access ml_X6_113 rfl rfl rfl rfl (Nat.le_of_ble_eq_true rfl) dX6_three_7 ⟨Nat.le_of_ble_eq_true rfl, Nat.le_of_ble_eq_true rfl⟩ ⟨Nat.le_of_ble_eq_true rfl, Nat.le_of_ble_eq_true rfl⟩ ?_
  refine g_icmp_ge (tgt := 20) C dX6_three_10 (by decide) (fun h10 => ?_) (fun h10 => ?_)
  · first | exact j20 _ _ hv (by have hT : Acc τ x < Acc τ o := Int32.not_le.mp h10; simp [thrL, hT]) | exact j20 _ _ hu (by have hT : ¬ Acc τ x < Acc τ o := Int32.not_lt.mpr h10; simp [thrL, hT])
  · refine g_aload_n C dX6_three_13 rfl ?_
    refine g_iconst (v := 3) C dX6_three_14 (by decide) ?_
    refine g_iload_n C dX6_three_15 rfl ?_
    refine g_iload_n C dX6_three_16 rfl ?_
    refine g_callV 0 C (ct_X6_note hu (by have hT : Acc τ x < Acc τ o := Int32.not_le.mp h10; simp [thrL, hT] at hL; omega)) mw_X6_note ml_X6_147 rfl rfl rfl rfl (Nat.le_of_ble_eq_true rfl) dX6_three_17 ⟨Nat.le_of_ble_eq_true rfl, Nat.le_of_ble_eq_true rfl⟩ ⟨Nat.le_of_ble_eq_true rfl, Nat.le_of_ble_eq_true rfl⟩ ?_
    intro r v hv
    obtain ⟨rfl, hv⟩ := hv
    first | exact j20 _ _ hv (by have hT : Acc τ x < Acc τ o := Int32.not_le.mp h10; simp [thrL, hT]) | exact j20 _ _ hu (by have hT : ¬ Acc τ x < Acc τ o := Int32.not_lt.mpr h10; simp [thrL, hT])
end
section
/-! ===== the reference: inherited, judge ===== -/
theorem Cr.val {l : Launch} {y : MethodName} {yc : ByteArray} {n : Nat} {ret : Option FieldType} {f k : Nat} {D : va_G} {cI cZ : ClassId} {pic : St → va_W} {av : List Value} {σ : St} {v w : Int32} (h : Cr l y yc n ret f k D cI cZ pic av σ v) (e : v = w) : Cr l y yc n ret f k D cI cZ pic av σ w := e ▸ h
theorem nI_m5 {t : Nat} (h : t < 2 ^ 31) : ¬ nI t = -5 := by
  intro q
  have := nI_pos (n := t) h
  rw [q] at this
  exact this (by decide)
/-- someone is chosen, or there is a fight -/
def ChOk (τ : St) (t o : Nat) : Prop := Chs τ t o = -5 ∨ ∃ n, n < nM τ ∧ Chs τ t o = nI n
set_option maxRecDepth 100000 in
set_option maxHeartbeats 4000000 in
theorem ct_X6_inherited {l : Launch} {D : va_G} {cI cZ : ClassId} {b : Nat → Nat} {τ u : St} (hW : W0 τ) {L : List Ft} (hu : Lg τ L u) {t o : Nat} (ht : t < nT τ) (ho : o < nM τ) (hC : ChOk τ t o) (hL : (L ++ inhL τ t o).length ≤ 2400) : Ct l yX6_inherited cX6_inherited 4 none 5 113 D cI cZ (pM b cI cZ) [.ref (b 0), .int (nI t), .int (nI o)] u (fun r v => r = none ∧ Lg τ (L ++ inhL τ t o) v) := by
  refine Ct.of 1 (by decide) (by simp [Value.category]) (Nat.le_of_ble_eq_true rfl) ?_
  intro p e s m below meth c C
  have hTl := w0_tl hW
  have hMl := w0_ml hW
  have hof_o := w0_ofl hW ho
  rcases hC with hC | ⟨n, hn, hC⟩
  · obtain ⟨A1, B1, C1, rfl, hA⟩ := id hu
    have hW1 : W0 (lgS τ A1 B1 C1 (nI L.length)) := hW
    have eE : inhL τ t o = [(8, -1, nI o)] := by simp [inhL, hC]
    rw [eE] at hL
    refine g_aload_n C dX6_inherited_0 rfl ?_
    refine g_iload_n C dX6_inherited_1 rfl ?_
    refine g_iload_n C dX6_inherited_2 rfl ?_
    refine g_callVr 0 C ((cr_X6_choose hW1 ht ho).val hC) mw_X6_choose ml_X6_141 rfl rfl rfl rfl (Nat.le_of_ble_eq_true rfl) dX6_inherited_3 ⟨Nat.le_of_ble_eq_true rfl, Nat.le_of_ble_eq_true rfl⟩ ⟨Nat.le_of_ble_eq_true rfl, Nat.le_of_ble_eq_true rfl⟩ ?_
    refine g_istore_n C dX6_inherited_6 (by decide) ?_
    refine g_iload_n C dX6_inherited_7 rfl ?_
    refine g_bipush (v := -5) C dX6_inherited_8 (by decide) ?_
    refine g_icmp_ne (tgt := 22) C dX6_inherited_10 (by decide) (fun h10 => ?_) (fun h10 => ?_)
    · exact absurd rfl h10
    · refine g_aload_n C dX6_inherited_13 rfl ?_
      refine g_bipush (v := 8) C dX6_inherited_14 (by decide) ?_
      refine g_iconst (v := -1) C dX6_inherited_16 (by decide) ?_
      refine g_iload_n C dX6_inherited_17 rfl ?_
      refine g_callV 0 C (ct_X6_note hu (by simp at hL; omega)) mw_X6_note ml_X6_147 rfl rfl rfl rfl (Nat.le_of_ble_eq_true rfl) dX6_inherited_18 ⟨Nat.le_of_ble_eq_true rfl, Nat.le_of_ble_eq_true rfl⟩ ⟨Nat.le_of_ble_eq_true rfl, Nat.le_of_ble_eq_true rfl⟩ ?_
      intro r v hv
      obtain ⟨rfl, hv⟩ := hv
      exact g_vret C dX6_inherited_21 ⟨rfl, by rw [eE]; exact hv⟩
  have hof_n := w0_ofl hW hn
  have ec : chN τ t o = n := by rw [chN, hC]; exact nI_clamp (by omega)
  have h5 : ¬ Chs τ t o = -5 := by rw [hC]; exact nI_m5 (by omega)
  have eE : inhL τ t o = (if (decide (τ 1 t = 0) && Hs τ n 32 && !decide (Of τ n = t)) = true then [(9, nI n, nI o)] else []) ++ (if (Ifc τ o && !Ifc τ n && Bel τ t (Of τ n) && !Bel τ (Of τ n) (Of τ o)) = true then thrL τ n o else []) := by simp only [inhL, ec, if_neg h5]
  have j59 : ∀ (L2 : List Ft) (w : St), Lg τ L2 w → L2 ++ (if (Ifc τ o && !Ifc τ n && Bel τ t (Of τ n) && !Bel τ (Of τ n) (Of τ o)) = true then thrL τ n o else []) = L ++ inhL τ t o → G p l e (rmo 5 113) s m ([.ref (b 0), .int (nI t), .int (nI o)] : List Value).toArray below meth c D (va_A (pM b cI cZ u) s.heap.size) 0 0 (Qe below ([.ref (b 0), .int (nI t), .int (nI o)] : List Value).toArray s D (pM b cI cZ) u (fun r v => r = none ∧ Lg τ (L ++ inhL τ t o) v)) 4 (pM b cI cZ w) 59 [some (.ref (b 0)), some (.int (nI t)), some (.int (nI o)), some (.int (nI n))] [] := by
    intro L2 w hw he
    have hl := congrArg List.length he
    obtain ⟨A1, B1, C1, rfl, hA⟩ := id hw
    have hW1 : W0 (lgS τ A1 B1 C1 (nI L2.length)) := hW
    refine g_aload_n C dX6_inherited_59 rfl ?_
    refine g_iload_n C dX6_inherited_60 rfl ?_
    refine g_callVr 0 C (cr_X6_isInterface hW1 (show _ < nM τ by omega)) mw_X6_isInterface ml_X6_110 rfl rfl rfl rfl (Nat.le_of_ble_eq_true rfl) dX6_inherited_61 ⟨Nat.le_of_ble_eq_true rfl, Nat.le_of_ble_eq_true rfl⟩ ⟨Nat.le_of_ble_eq_true rfl, Nat.le_of_ble_eq_true rfl⟩ ?_
    refine g_ifb_eq (tgt := 114) C dX6_inherited_64 (by decide) (fun h64 => ?_) (fun h64 => ?_)
    · first | exact g_vret C dX6_inherited_114 ⟨rfl, by have hK : (Ifc τ o && !Ifc τ n && Bel τ t (Of τ n) && !Bel τ (Of τ n) (Of τ o)) = true := (by simp [show Ifc τ o = true from h64, show Ifc τ n = false from h72, show Bel τ t (Of τ n) = true from h86, show Bel τ (Of τ n) (Of τ o) = false from h105]); simp only [hK, Bool.false_eq_true, ↓reduceIte, List.append_nil, List.nil_append, List.append_assoc] at he; rw [← he]; exact hv⟩ | exact g_vret C dX6_inherited_114 ⟨rfl, by have hK : (Ifc τ o && !Ifc τ n && Bel τ t (Of τ n) && !Bel τ (Of τ n) (Of τ o)) = false := (by first | simp [show Ifc τ o = false from h64] | simp [show Ifc τ n = true from h72] | simp [show Bel τ t (Of τ n) = false from h86] | simp [show Bel τ (Of τ n) (Of τ o) = true from h105]); simp only [hK, Bool.false_eq_true, ↓reduceIte, List.append_nil, List.nil_append, List.append_assoc] at he; rw [← he]; exact hw⟩
    · refine g_aload_n C dX6_inherited_67 rfl ?_
      refine g_iload_n C dX6_inherited_68 rfl ?_
      refine g_callVr 0 C (cr_X6_isInterface hW1 (show _ < nM τ by omega)) mw_X6_isInterface ml_X6_110 rfl rfl rfl rfl (Nat.le_of_ble_eq_true rfl) dX6_inherited_69 ⟨Nat.le_of_ble_eq_true rfl, Nat.le_of_ble_eq_true rfl⟩ ⟨Nat.le_of_ble_eq_true rfl, Nat.le_of_ble_eq_true rfl⟩ ?_
      refine g_ifb_ne (tgt := 114) C dX6_inherited_72 (by decide) (fun h72 => ?_) (fun h72 => ?_)
      · first | exact g_vret C dX6_inherited_114 ⟨rfl, by have hK : (Ifc τ o && !Ifc τ n && Bel τ t (Of τ n) && !Bel τ (Of τ n) (Of τ o)) = true := (by simp [show Ifc τ o = true from h64, show Ifc τ n = false from h72, show Bel τ t (Of τ n) = true from h86, show Bel τ (Of τ n) (Of τ o) = false from h105]); simp only [hK, Bool.false_eq_true, ↓reduceIte, List.append_nil, List.nil_append, List.append_assoc] at he; rw [← he]; exact hv⟩ | exact g_vret C dX6_inherited_114 ⟨rfl, by have hK : (Ifc τ o && !Ifc τ n && Bel τ t (Of τ n) && !Bel τ (Of τ n) (Of τ o)) = false := (by first | simp [show Ifc τ o = false from h64] | simp [show Ifc τ n = true from h72] | simp [show Bel τ t (Of τ n) = false from h86] | simp [show Bel τ (Of τ n) (Of τ o) = true from h105]); simp only [hK, Bool.false_eq_true, ↓reduceIte, List.append_nil, List.nil_append, List.append_assoc] at he; rw [← he]; exact hw⟩
      · refine g_aload_n C dX6_inherited_75 rfl ?_
        refine g_iload_n C dX6_inherited_76 rfl ?_
        refine g_aload_n C dX6_inherited_77 rfl ?_
        refine gf_X6_35 C dX6_inherited_78 ?_
        refine g_iload_n C dX6_inherited_81 rfl ?_
        refine gM_lv9 C (by omega) (v := nI (Of τ _)) (w0_of hW (by omega)) dX6_inherited_82 ?_
        refine g_callVr 0 C (cr_X6_isBelow hW1 (by omega) (by omega)) mw_X6_isBelow ml_X6_90 rfl rfl rfl rfl (Nat.le_of_ble_eq_true rfl) dX6_inherited_83 ⟨Nat.le_of_ble_eq_true rfl, Nat.le_of_ble_eq_true rfl⟩ ⟨Nat.le_of_ble_eq_true rfl, Nat.le_of_ble_eq_true rfl⟩ ?_
        refine g_ifb_eq (tgt := 114) C dX6_inherited_86 (by decide) (fun h86 => ?_) (fun h86 => ?_)
        · first | exact g_vret C dX6_inherited_114 ⟨rfl, by have hK : (Ifc τ o && !Ifc τ n && Bel τ t (Of τ n) && !Bel τ (Of τ n) (Of τ o)) = true := (by simp [show Ifc τ o = true from h64, show Ifc τ n = false from h72, show Bel τ t (Of τ n) = true from h86, show Bel τ (Of τ n) (Of τ o) = false from h105]); simp only [hK, Bool.false_eq_true, ↓reduceIte, List.append_nil, List.nil_append, List.append_assoc] at he; rw [← he]; exact hv⟩ | exact g_vret C dX6_inherited_114 ⟨rfl, by have hK : (Ifc τ o && !Ifc τ n && Bel τ t (Of τ n) && !Bel τ (Of τ n) (Of τ o)) = false := (by first | simp [show Ifc τ o = false from h64] | simp [show Ifc τ n = true from h72] | simp [show Bel τ t (Of τ n) = false from h86] | simp [show Bel τ (Of τ n) (Of τ o) = true from h105]); simp only [hK, Bool.false_eq_true, ↓reduceIte, List.append_nil, List.nil_append, List.append_assoc] at he; rw [← he]; exact hw⟩
        · refine g_aload_n C dX6_inherited_89 rfl ?_
          refine g_aload_n C dX6_inherited_90 rfl ?_
          refine gf_X6_35 C dX6_inherited_91 ?_
          refine g_iload_n C dX6_inherited_94 rfl ?_
          refine gM_lv9 C (by omega) (v := nI (Of τ _)) (w0_of hW (by omega)) dX6_inherited_95 ?_
          refine g_aload_n C dX6_inherited_96 rfl ?_
          refine gf_X6_35 C dX6_inherited_97 ?_
          refine g_iload_n C dX6_inherited_100 rfl ?_
          refine gM_lv9 C (by omega) (v := nI (Of τ _)) (w0_of hW (by omega)) dX6_inherited_101 ?_
          refine g_callVr 0 C (cr_X6_isBelow hW1 (by omega) (by omega)) mw_X6_isBelow ml_X6_90 rfl rfl rfl rfl (Nat.le_of_ble_eq_true rfl) dX6_inherited_102 ⟨Nat.le_of_ble_eq_true rfl, Nat.le_of_ble_eq_true rfl⟩ ⟨Nat.le_of_ble_eq_true rfl, Nat.le_of_ble_eq_true rfl⟩ ?_
          refine g_ifb_ne (tgt := 114) C dX6_inherited_105 (by decide) (fun h105 => ?_) (fun h105 => ?_)
          · first | exact g_vret C dX6_inherited_114 ⟨rfl, by have hK : (Ifc τ o && !Ifc τ n && Bel τ t (Of τ n) && !Bel τ (Of τ n) (Of τ o)) = true := (by simp [show Ifc τ o = true from h64, show Ifc τ n = false from h72, show Bel τ t (Of τ n) = true from h86, show Bel τ (Of τ n) (Of τ o) = false from h105]); simp only [hK, Bool.false_eq_true, ↓reduceIte, List.append_nil, List.nil_append, List.append_assoc] at he; rw [← he]; exact hv⟩ | exact g_vret C dX6_inherited_114 ⟨rfl, by have hK : (Ifc τ o && !Ifc τ n && Bel τ t (Of τ n) && !Bel τ (Of τ n) (Of τ o)) = false := (by first | simp [show Ifc τ o = false from h64] | simp [show Ifc τ n = true from h72] | simp [show Bel τ t (Of τ n) = false from h86] | simp [show Bel τ (Of τ n) (Of τ o) = true from h105]); simp only [hK, Bool.false_eq_true, ↓reduceIte, List.append_nil, List.nil_append, List.append_assoc] at he; rw [← he]; exact hw⟩
          · refine g_aload_n C dX6_inherited_108 rfl ?_
            refine g_iload_n C dX6_inherited_109 rfl ?_
            refine g_iload_n C dX6_inherited_110 rfl ?_
            refine g_callV 0 C (ct_X6_three hW hw hn ho (by have hK : (Ifc τ o && !Ifc τ n && Bel τ t (Of τ n) && !Bel τ (Of τ n) (Of τ o)) = true := (by simp [show Ifc τ o = true from h64, show Ifc τ n = false from h72, show Bel τ t (Of τ n) = true from h86, show Bel τ (Of τ n) (Of τ o) = false from h105]); simp only [hK, Bool.false_eq_true, ↓reduceIte, List.length_append, List.length_cons, List.length_nil] at hl hL ⊢; omega)) mw_X6_three ml_X6_160 rfl rfl rfl rfl (Nat.le_of_ble_eq_true rfl) dX6_inherited_111 ⟨Nat.le_of_ble_eq_true rfl, Nat.le_of_ble_eq_true rfl⟩ ⟨Nat.le_of_ble_eq_true rfl, Nat.le_of_ble_eq_true rfl⟩ ?_
            intro r v hv
            obtain ⟨rfl, hv⟩ := hv
            first | exact g_vret C dX6_inherited_114 ⟨rfl, by have hK : (Ifc τ o && !Ifc τ n && Bel τ t (Of τ n) && !Bel τ (Of τ n) (Of τ o)) = true := (by simp [show Ifc τ o = true from h64, show Ifc τ n = false from h72, show Bel τ t (Of τ n) = true from h86, show Bel τ (Of τ n) (Of τ o) = false from h105]); simp only [hK, Bool.false_eq_true, ↓reduceIte, List.append_nil, List.nil_append, List.append_assoc] at he; rw [← he]; exact hv⟩ | exact g_vret C dX6_inherited_114 ⟨rfl, by have hK : (Ifc τ o && !Ifc τ n && Bel τ t (Of τ n) && !Bel τ (Of τ n) (Of τ o)) = false := (by first | simp [show Ifc τ o = false from h64] | simp [show Ifc τ n = true from h72] | simp [show Bel τ t (Of τ n) = false from h86] | simp [show Bel τ (Of τ n) (Of τ o) = true from h105]); simp only [hK, Bool.false_eq_true, ↓reduceIte, List.append_nil, List.nil_append, List.append_assoc] at he; rw [← he]; exact hw⟩
  obtain ⟨A1, B1, C1, rfl, hA⟩ := id hu
  have hW1 : W0 (lgS τ A1 B1 C1 (nI L.length)) := hW
  refine g_aload_n C dX6_inherited_0 rfl ?_
  refine g_iload_n C dX6_inherited_1 rfl ?_
  refine g_iload_n C dX6_inherited_2 rfl ?_
  refine g_callVr 0 C ((cr_X6_choose hW1 ht ho).val hC) mw_X6_choose ml_X6_141 rfl rfl rfl rfl (Nat.le_of_ble_eq_true rfl) dX6_inherited_3 ⟨Nat.le_of_ble_eq_true rfl, Nat.le_of_ble_eq_true rfl⟩ ⟨Nat.le_of_ble_eq_true rfl, Nat.le_of_ble_eq_true rfl⟩ ?_
  refine g_istore_n C dX6_inherited_6 (by decide) ?_
  refine g_iload_n C dX6_inherited_7 rfl ?_
  refine g_bipush (v := -5) C dX6_inherited_8 (by decide) ?_
  refine g_icmp_ne (tgt := 22) C dX6_inherited_10 (by decide) (fun h10 => ?_) (fun h10 => ?_)
  · refine g_aload_n C dX6_inherited_22 rfl ?_
    refine gf_X6_7 C dX6_inherited_23 ?_
    refine g_iload_n C dX6_inherited_26 rfl ?_
    refine gM_ln1 C (by omega) dX6_inherited_27 ?_
    refine g_if_ne (tgt := 59) C dX6_inherited_28 (by decide) (fun h28 => ?_) (fun h28 => ?_)
    · first | exact j59 _ _ hv (by have hK : (decide (τ 1 t = 0) && Hs τ n 32 && !decide (Of τ n = t)) = true := (by simp [show τ 1 t = 0 from h28, show Hs τ n 32 = true from h38, h48]); rw [eE]; simp only [hK, Bool.false_eq_true, ↓reduceIte, List.append_nil, List.nil_append, List.append_assoc]) | exact j59 _ _ hu (by have hK : (decide (τ 1 t = 0) && Hs τ n 32 && !decide (Of τ n = t)) = false := (by first | simp [show ¬ τ 1 t = 0 from h28] | simp [show Hs τ n 32 = false from h38] | simp [h48]); rw [eE]; simp only [hK, Bool.false_eq_true, ↓reduceIte, List.append_nil, List.nil_append, List.append_assoc])
    · refine g_aload_n C dX6_inherited_31 rfl ?_
      refine g_iload_n C dX6_inherited_32 rfl ?_
      refine g_bipush (v := 32) C dX6_inherited_33 (by decide) ?_
      refine g_callVr 0 C (cr_X6_has (by omega)) mw_X6_has ml_X6_100 rfl rfl rfl rfl (Nat.le_of_ble_eq_true rfl) dX6_inherited_35 ⟨Nat.le_of_ble_eq_true rfl, Nat.le_of_ble_eq_true rfl⟩ ⟨Nat.le_of_ble_eq_true rfl, Nat.le_of_ble_eq_true rfl⟩ ?_
      refine g_ifb_eq (tgt := 59) C dX6_inherited_38 (by decide) (fun h38 => ?_) (fun h38 => ?_)
      · first | exact j59 _ _ hv (by have hK : (decide (τ 1 t = 0) && Hs τ n 32 && !decide (Of τ n = t)) = true := (by simp [show τ 1 t = 0 from h28, show Hs τ n 32 = true from h38, h48]); rw [eE]; simp only [hK, Bool.false_eq_true, ↓reduceIte, List.append_nil, List.nil_append, List.append_assoc]) | exact j59 _ _ hu (by have hK : (decide (τ 1 t = 0) && Hs τ n 32 && !decide (Of τ n = t)) = false := (by first | simp [show ¬ τ 1 t = 0 from h28] | simp [show Hs τ n 32 = false from h38] | simp [h48]); rw [eE]; simp only [hK, Bool.false_eq_true, ↓reduceIte, List.append_nil, List.nil_append, List.append_assoc])
      · refine g_aload_n C dX6_inherited_41 rfl ?_
        refine gf_X6_35 C dX6_inherited_42 ?_
        refine g_iload_n C dX6_inherited_45 rfl ?_
        refine gM_lv9 C (by omega) (v := nI (Of τ _)) (w0_of hW (by omega)) dX6_inherited_46 ?_
        refine g_iload_n C dX6_inherited_47 rfl ?_
        refine g_icmpN_eq (tgt := 59) C (by omega) (by omega) dX6_inherited_48 (by decide) (fun h48 => ?_) (fun h48 => ?_)
        · first | exact j59 _ _ hv (by have hK : (decide (τ 1 t = 0) && Hs τ n 32 && !decide (Of τ n = t)) = true := (by simp [show τ 1 t = 0 from h28, show Hs τ n 32 = true from h38, h48]); rw [eE]; simp only [hK, Bool.false_eq_true, ↓reduceIte, List.append_nil, List.nil_append, List.append_assoc]) | exact j59 _ _ hu (by have hK : (decide (τ 1 t = 0) && Hs τ n 32 && !decide (Of τ n = t)) = false := (by first | simp [show ¬ τ 1 t = 0 from h28] | simp [show Hs τ n 32 = false from h38] | simp [h48]); rw [eE]; simp only [hK, Bool.false_eq_true, ↓reduceIte, List.append_nil, List.nil_append, List.append_assoc])
        · refine g_aload_n C dX6_inherited_51 rfl ?_
          refine g_bipush (v := 9) C dX6_inherited_52 (by decide) ?_
          refine g_iload_n C dX6_inherited_54 rfl ?_
          refine g_iload_n C dX6_inherited_55 rfl ?_
          refine g_callV 0 C (ct_X6_note hu (by have hK : (decide (τ 1 t = 0) && Hs τ n 32 && !decide (Of τ n = t)) = true := (by simp [show τ 1 t = 0 from h28, show Hs τ n 32 = true from h38, h48]); rw [eE] at hL; simp only [hK, Bool.false_eq_true, ↓reduceIte, List.length_append, List.length_cons, List.length_nil] at hL; omega)) mw_X6_note ml_X6_147 rfl rfl rfl rfl (Nat.le_of_ble_eq_true rfl) dX6_inherited_56 ⟨Nat.le_of_ble_eq_true rfl, Nat.le_of_ble_eq_true rfl⟩ ⟨Nat.le_of_ble_eq_true rfl, Nat.le_of_ble_eq_true rfl⟩ ?_
          intro r v hv
          obtain ⟨rfl, hv⟩ := hv
          first | exact j59 _ _ hv (by have hK : (decide (τ 1 t = 0) && Hs τ n 32 && !decide (Of τ n = t)) = true := (by simp [show τ 1 t = 0 from h28, show Hs τ n 32 = true from h38, h48]); rw [eE]; simp only [hK, Bool.false_eq_true, ↓reduceIte, List.append_nil, List.nil_append, List.append_assoc]) | exact j59 _ _ hu (by have hK : (decide (τ 1 t = 0) && Hs τ n 32 && !decide (Of τ n = t)) = false := (by first | simp [show ¬ τ 1 t = 0 from h28] | simp [show Hs τ n 32 = false from h38] | simp [h48]); rw [eE]; simp only [hK, Bool.false_eq_true, ↓reduceIte, List.append_nil, List.nil_append, List.append_assoc])
  · exact absurd h10 (nI_m5 (by omega))
set_option maxRecDepth 100000 in
set_option maxHeartbeats 4000000 in
theorem ct_X6_judge {l : Launch} {D : va_G} {cI cZ : ClassId} {b : Nat → Nat} {τ : St} (hW : W0 τ) {t : Nat} (ht : t < nT τ) (hC : τ 1 t < 2 → ∀ o, o < nM τ → inhC τ t o = true → ChOk τ t o) (hL : (jdg τ t).length ≤ 2400) : Ct l yX6_judge cX6_judge 5 none 6 136 D cI cZ (pM b cI cZ) [.ref (b 0), .int (nI t)] τ (fun r v => r = none ∧ Lg τ (jdg τ t) v) := by
  refine Ct.of 3 (by decide) (by simp [Value.category]) (Nat.le_of_ble_eq_true rfl) ?_
  intro p e s m below meth c C
  have hTl := w0_tl hW
  have hMl := w0_ml hW
  have hJ : (jdO τ t (nM τ)).length + (if τ 1 t < 2 then inhO τ t (nM τ) else []).length ≤ 2400 := by simpa [jdg] using hL
  have loop2 : τ 1 t < 2 → ∀ (n i : Nat) (w : St), i ≤ nM τ → nM τ + 1 ≤ i + n → Lg τ (jdO τ t (nM τ) ++ inhO τ t i) w → G p l e (rmo 6 136) s m ([.ref (b 0), .int (nI t)] : List Value).toArray below meth c D (va_A (pM b cI cZ τ) s.heap.size) 0 0 (Qe below ([.ref (b 0), .int (nI t)] : List Value).toArray s D (pM b cI cZ) τ (fun r v => r = none ∧ Lg τ (jdg τ t) v)) 5 (pM b cI cZ w) 187 [some (.ref (b 0)), some (.int (nI t)), some (.int (nI i)), none, none] [] := by
    intro hk n
    induction n with
    | zero => intro i w h1 h2; omega
    | succ n ih =>
      intro i w h1 h2 hw
      obtain ⟨A1, B1, C1, rfl, hA⟩ := id hw
      have hW1 : W0 (lgS τ A1 B1 C1 (nI (jdO τ t (nM τ) ++ inhO τ t i).length)) := hW
      have j253 : i < nM τ → ∀ (w : St), Lg τ (jdO τ t (nM τ) ++ inhO τ t (i + 1)) w → G p l e (rmo 6 136) s m ([.ref (b 0), .int (nI t)] : List Value).toArray below meth c D (va_A (pM b cI cZ τ) s.heap.size) 0 0 (Qe below ([.ref (b 0), .int (nI t)] : List Value).toArray s D (pM b cI cZ) τ (fun r v => r = none ∧ Lg τ (jdg τ t) v)) 5 (pM b cI cZ w) 253 [some (.ref (b 0)), some (.int (nI t)), some (.int (nI i)), none, none] [] := by
        intro hi w hw
        refine g_iincN C dX6_judge_253 rfl (by decide) ?_
        refine g_goto (tgt := 187) C dX6_judge_256 (by decide) ?_
        exact ih (i + 1) w (by omega) (by omega) hw
      refine g_iload_n C dX6_judge_187 rfl ?_
      refine g_aload_n C dX6_judge_188 rfl ?_
      refine gn_X6_70 C (v := nI (nM τ)) (w0_m hW) dX6_judge_189 ?_
      refine g_icmpN_ge (tgt := 259) C (by omega) (by omega) dX6_judge_192 (by decide) (fun h192 => ?_) (fun h192 => ?_)
      · exact g_vret C dX6_judge_259 ⟨rfl, by obtain rfl : i = nM τ := (by omega); rw [jdg, if_pos hk]; exact hw⟩
      · refine g_aload_n C dX6_judge_195 rfl ?_
        have hi : i < nM τ := ‹_›
        have hof_i := w0_ofl hW hi
        refine gf_X6_7 C dX6_judge_196 ?_
        refine g_iload_n C dX6_judge_199 rfl ?_
        refine gM_ln1 C (by omega) dX6_judge_200 ?_
        refine g_iconst (v := 2) C dX6_judge_201 (by decide) ?_
        refine g_icmp_ge (tgt := 259) C dX6_judge_202 (by decide) (fun h202 => ?_) (fun h202 => ?_)
        · exact absurd hk (Int32.not_lt.mpr h202)
        · refine g_aload_n C dX6_judge_205 rfl ?_
          refine g_iload_n C dX6_judge_206 rfl ?_
          refine g_callVr 0 C (cr_X6_isPlain (by omega)) mw_X6_isPlain ml_X6_135 rfl rfl rfl rfl (Nat.le_of_ble_eq_true rfl) dX6_judge_207 ⟨Nat.le_of_ble_eq_true rfl, Nat.le_of_ble_eq_true rfl⟩ ⟨Nat.le_of_ble_eq_true rfl, Nat.le_of_ble_eq_true rfl⟩ ?_
          refine g_ifb_eq (tgt := 253) C dX6_judge_210 (by decide) (fun h210 => ?_) (fun h210 => ?_)
          · first | exact j253 hi _ (by have hK : inhC τ t i = true := (by first | simp [inhC, show Pln τ i = true from h210, show Bel τ t (Of τ i) = true from h224, show Hs τ i 32 = true from h234] | simp [inhC, show Pln τ i = true from h210, show Bel τ t (Of τ i) = true from h224, show Hs τ i 64 = true from h244]); simp only [inhO, hK, ↓reduceIte, ← List.append_assoc]; exact hv) | exact j253 hi _ (by have hK : inhC τ t i = false := (by first | simp [inhC, show Pln τ i = false from h210] | simp [inhC, show Bel τ t (Of τ i) = false from h224] | simp [inhC, show Hs τ i 32 = false from h234, show Hs τ i 64 = false from h244]); simp only [inhO, hK, Bool.false_eq_true, ↓reduceIte, List.append_nil]; exact hw)
          · refine g_aload_n C dX6_judge_213 rfl ?_
            refine g_iload_n C dX6_judge_214 rfl ?_
            refine g_aload_n C dX6_judge_215 rfl ?_
            refine gf_X6_35 C dX6_judge_216 ?_
            refine g_iload_n C dX6_judge_219 rfl ?_
            refine gM_lv9 C (by omega) (v := nI (Of τ _)) (w0_of hW (by omega)) dX6_judge_220 ?_
            refine g_callVr 0 C (cr_X6_isBelow hW1 (by omega) (by omega)) mw_X6_isBelow ml_X6_90 rfl rfl rfl rfl (Nat.le_of_ble_eq_true rfl) dX6_judge_221 ⟨Nat.le_of_ble_eq_true rfl, Nat.le_of_ble_eq_true rfl⟩ ⟨Nat.le_of_ble_eq_true rfl, Nat.le_of_ble_eq_true rfl⟩ ?_
            refine g_ifb_eq (tgt := 253) C dX6_judge_224 (by decide) (fun h224 => ?_) (fun h224 => ?_)
            · first | exact j253 hi _ (by have hK : inhC τ t i = true := (by first | simp [inhC, show Pln τ i = true from h210, show Bel τ t (Of τ i) = true from h224, show Hs τ i 32 = true from h234] | simp [inhC, show Pln τ i = true from h210, show Bel τ t (Of τ i) = true from h224, show Hs τ i 64 = true from h244]); simp only [inhO, hK, ↓reduceIte, ← List.append_assoc]; exact hv) | exact j253 hi _ (by have hK : inhC τ t i = false := (by first | simp [inhC, show Pln τ i = false from h210] | simp [inhC, show Bel τ t (Of τ i) = false from h224] | simp [inhC, show Hs τ i 32 = false from h234, show Hs τ i 64 = false from h244]); simp only [inhO, hK, Bool.false_eq_true, ↓reduceIte, List.append_nil]; exact hw)
            · refine g_aload_n C dX6_judge_227 rfl ?_
              refine g_iload_n C dX6_judge_228 rfl ?_
              refine g_bipush (v := 32) C dX6_judge_229 (by decide) ?_
              refine g_callVr 0 C (cr_X6_has (by omega)) mw_X6_has ml_X6_100 rfl rfl rfl rfl (Nat.le_of_ble_eq_true rfl) dX6_judge_231 ⟨Nat.le_of_ble_eq_true rfl, Nat.le_of_ble_eq_true rfl⟩ ⟨Nat.le_of_ble_eq_true rfl, Nat.le_of_ble_eq_true rfl⟩ ?_
              refine g_ifb_ne (tgt := 247) C dX6_judge_234 (by decide) (fun h234 => ?_) (fun h234 => ?_)
              · refine g_aload_n C dX6_judge_247 rfl ?_
                refine g_iload_n C dX6_judge_248 rfl ?_
                refine g_iload_n C dX6_judge_249 rfl ?_
                refine g_callV 0 C (ct_X6_inherited hW hw ht hi (hC hk i hi (by have hK : inhC τ t i = true := (by first | simp [inhC, show Pln τ i = true from h210, show Bel τ t (Of τ i) = true from h224, show Hs τ i 32 = true from h234] | simp [inhC, show Pln τ i = true from h210, show Bel τ t (Of τ i) = true from h224, show Hs τ i 64 = true from h244]); exact hK)) (by have hK : inhC τ t i = true := (by first | simp [inhC, show Pln τ i = true from h210, show Bel τ t (Of τ i) = true from h224, show Hs τ i 32 = true from h234] | simp [inhC, show Pln τ i = true from h210, show Bel τ t (Of τ i) = true from h224, show Hs τ i 64 = true from h244]); have hz := inhO_le (τ := τ) (t := t) (nM τ) (i + 1) hi; simp only [inhO, hK, ↓reduceIte, List.length_append] at hz; simp only [if_pos hk] at hJ; simp only [List.length_append]; omega)) mw_X6_inherited ml_X6_163 rfl rfl rfl rfl (Nat.le_of_ble_eq_true rfl) dX6_judge_250 ⟨Nat.le_of_ble_eq_true rfl, Nat.le_of_ble_eq_true rfl⟩ ⟨Nat.le_of_ble_eq_true rfl, Nat.le_of_ble_eq_true rfl⟩ ?_
                intro r v hv
                obtain ⟨rfl, hv⟩ := hv
                first | exact j253 hi _ (by have hK : inhC τ t i = true := (by first | simp [inhC, show Pln τ i = true from h210, show Bel τ t (Of τ i) = true from h224, show Hs τ i 32 = true from h234] | simp [inhC, show Pln τ i = true from h210, show Bel τ t (Of τ i) = true from h224, show Hs τ i 64 = true from h244]); simp only [inhO, hK, ↓reduceIte, ← List.append_assoc]; exact hv) | exact j253 hi _ (by have hK : inhC τ t i = false := (by first | simp [inhC, show Pln τ i = false from h210] | simp [inhC, show Bel τ t (Of τ i) = false from h224] | simp [inhC, show Hs τ i 32 = false from h234, show Hs τ i 64 = false from h244]); simp only [inhO, hK, Bool.false_eq_true, ↓reduceIte, List.append_nil]; exact hw)
              · refine g_aload_n C dX6_judge_237 rfl ?_
                refine g_iload_n C dX6_judge_238 rfl ?_
                refine g_bipush (v := 64) C dX6_judge_239 (by decide) ?_
                refine g_callVr 0 C (cr_X6_has (by omega)) mw_X6_has ml_X6_100 rfl rfl rfl rfl (Nat.le_of_ble_eq_true rfl) dX6_judge_241 ⟨Nat.le_of_ble_eq_true rfl, Nat.le_of_ble_eq_true rfl⟩ ⟨Nat.le_of_ble_eq_true rfl, Nat.le_of_ble_eq_true rfl⟩ ?_
                refine g_ifb_eq (tgt := 253) C dX6_judge_244 (by decide) (fun h244 => ?_) (fun h244 => ?_)
                · first | exact j253 hi _ (by have hK : inhC τ t i = true := (by first | simp [inhC, show Pln τ i = true from h210, show Bel τ t (Of τ i) = true from h224, show Hs τ i 32 = true from h234] | simp [inhC, show Pln τ i = true from h210, show Bel τ t (Of τ i) = true from h224, show Hs τ i 64 = true from h244]); simp only [inhO, hK, ↓reduceIte, ← List.append_assoc]; exact hv) | exact j253 hi _ (by have hK : inhC τ t i = false := (by first | simp [inhC, show Pln τ i = false from h210] | simp [inhC, show Bel τ t (Of τ i) = false from h224] | simp [inhC, show Hs τ i 32 = false from h234, show Hs τ i 64 = false from h244]); simp only [inhO, hK, Bool.false_eq_true, ↓reduceIte, List.append_nil]; exact hw)
                · refine g_aload_n C dX6_judge_247 rfl ?_
                  refine g_iload_n C dX6_judge_248 rfl ?_
                  refine g_iload_n C dX6_judge_249 rfl ?_
                  refine g_callV 0 C (ct_X6_inherited hW hw ht hi (hC hk i hi (by have hK : inhC τ t i = true := (by first | simp [inhC, show Pln τ i = true from h210, show Bel τ t (Of τ i) = true from h224, show Hs τ i 32 = true from h234] | simp [inhC, show Pln τ i = true from h210, show Bel τ t (Of τ i) = true from h224, show Hs τ i 64 = true from h244]); exact hK)) (by have hK : inhC τ t i = true := (by first | simp [inhC, show Pln τ i = true from h210, show Bel τ t (Of τ i) = true from h224, show Hs τ i 32 = true from h234] | simp [inhC, show Pln τ i = true from h210, show Bel τ t (Of τ i) = true from h224, show Hs τ i 64 = true from h244]); have hz := inhO_le (τ := τ) (t := t) (nM τ) (i + 1) hi; simp only [inhO, hK, ↓reduceIte, List.length_append] at hz; simp only [if_pos hk] at hJ; simp only [List.length_append]; omega)) mw_X6_inherited ml_X6_163 rfl rfl rfl rfl (Nat.le_of_ble_eq_true rfl) dX6_judge_250 ⟨Nat.le_of_ble_eq_true rfl, Nat.le_of_ble_eq_true rfl⟩ ⟨Nat.le_of_ble_eq_true rfl, Nat.le_of_ble_eq_true rfl⟩ ?_
                  intro r v hv
                  obtain ⟨rfl, hv⟩ := hv
                  first | exact j253 hi _ (by have hK : inhC τ t i = true := (by first | simp [inhC, show Pln τ i = true from h210, show Bel τ t (Of τ i) = true from h224, show Hs τ i 32 = true from h234] | simp [inhC, show Pln τ i = true from h210, show Bel τ t (Of τ i) = true from h224, show Hs τ i 64 = true from h244]); simp only [inhO, hK, ↓reduceIte, ← List.append_assoc]; exact hv) | exact j253 hi _ (by have hK : inhC τ t i = false := (by first | simp [inhC, show Pln τ i = false from h210] | simp [inhC, show Bel τ t (Of τ i) = false from h224] | simp [inhC, show Hs τ i 32 = false from h234, show Hs τ i 64 = false from h244]); simp only [inhO, hK, Bool.false_eq_true, ↓reduceIte, List.append_nil]; exact hw)
  have j187 : ∀ (w : St), Lg τ (jdO τ t (nM τ)) w → G p l e (rmo 6 136) s m ([.ref (b 0), .int (nI t)] : List Value).toArray below meth c D (va_A (pM b cI cZ τ) s.heap.size) 0 0 (Qe below ([.ref (b 0), .int (nI t)] : List Value).toArray s D (pM b cI cZ) τ (fun r v => r = none ∧ Lg τ (jdg τ t) v)) 5 (pM b cI cZ w) 187 [some (.ref (b 0)), some (.int (nI t)), some (.int (nI 0)), none, none] [] := by
    intro w hw
    by_cases hk : τ 1 t < 2
    · exact loop2 hk (nM τ + 1) 0 w (by omega) (by omega) (by simpa [inhO] using hw)
    obtain ⟨A1, B1, C1, rfl, hA⟩ := id hw
    have hW1 : W0 (lgS τ A1 B1 C1 (nI (jdO τ t (nM τ)).length)) := hW
    refine g_iload_n C dX6_judge_187 rfl ?_
    refine g_aload_n C dX6_judge_188 rfl ?_
    refine gn_X6_70 C (v := nI (nM τ)) (w0_m hW) dX6_judge_189 ?_
    refine g_icmpN_ge (tgt := 259) C (by omega) (by omega) dX6_judge_192 (by decide) (fun h192 => ?_) (fun h192 => ?_)
    · exact g_vret C dX6_judge_259 ⟨rfl, by rw [jdg, if_neg hk, List.append_nil]; exact hw⟩
    · refine g_aload_n C dX6_judge_195 rfl ?_
      refine gf_X6_7 C dX6_judge_196 ?_
      refine g_iload_n C dX6_judge_199 rfl ?_
      refine gM_ln1 C (by omega) dX6_judge_200 ?_
      refine g_iconst (v := 2) C dX6_judge_201 (by decide) ?_
      refine g_icmp_ge (tgt := 259) C dX6_judge_202 (by decide) (fun h202 => ?_) (fun h202 => ?_)
      · exact g_vret C dX6_judge_259 ⟨rfl, by rw [jdg, if_neg hk, List.append_nil]; exact hw⟩
      · exact absurd (Int32.not_le.mp h202) hk
  have loop1 : ∀ (n i : Nat) (w : St), i ≤ nM τ → nM τ + 1 ≤ i + n → Lg τ (jdO τ t i) w → G p l e (rmo 6 136) s m ([.ref (b 0), .int (nI t)] : List Value).toArray below meth c D (va_A (pM b cI cZ τ) s.heap.size) 0 0 (Qe below ([.ref (b 0), .int (nI t)] : List Value).toArray s D (pM b cI cZ) τ (fun r v => r = none ∧ Lg τ (jdg τ t) v)) 5 (pM b cI cZ w) 7 [some (.ref (b 0)), some (.int (nI t)), some (.int (nI i)), none, none] [] := by
    intro n
    induction n with
    | zero => intro i w h1 h2; omega
    | succ n ih =>
      intro i w h1 h2 hw
      have j179 : i < nM τ → ∀ (w : St), Lg τ (jdO τ t (i + 1)) w → G p l e (rmo 6 136) s m ([.ref (b 0), .int (nI t)] : List Value).toArray below meth c D (va_A (pM b cI cZ τ) s.heap.size) 0 0 (Qe below ([.ref (b 0), .int (nI t)] : List Value).toArray s D (pM b cI cZ) τ (fun r v => r = none ∧ Lg τ (jdg τ t) v)) 5 (pM b cI cZ w) 179 [some (.ref (b 0)), some (.int (nI t)), some (.int (nI i)), none, none] [] := by
        intro hi w hw
        refine g_iincN C dX6_judge_179 rfl (by decide) ?_
        refine g_goto (tgt := 7) C dX6_judge_182 (by decide) ?_
        exact ih (i + 1) w (by omega) (by omega) hw
      have own : i < nM τ → Of τ i = t → ∀ (w : St), Lg τ (jdO τ t i) w → G p l e (rmo 6 136) s m ([.ref (b 0), .int (nI t)] : List Value).toArray below meth c D (va_A (pM b cI cZ τ) s.heap.size) 0 0 (Qe below ([.ref (b 0), .int (nI t)] : List Value).toArray s D (pM b cI cZ) τ (fun r v => r = none ∧ Lg τ (jdg τ t) v)) 5 (pM b cI cZ w) 30 [some (.ref (b 0)), some (.int (nI t)), some (.int (nI i)), some (.int (b2i false)), some (.int (nI 0))] [] := by
        intro hi ht0 w0 hw0
        have hof_i := w0_ofl hW hi
        have eO : jdO τ t (i + 1) = jdO τ t i ++ (innL τ i (nM τ) ++ ((if (Hs τ i 128 && !anyN (nM τ) (Ov τ i)) = true then [(6, nI i, -1)] else []) ++ (if (Hs τ i 32 && decide (τ 1 t = 0)) = true then [(7, nI i, -1)] else []))) := by simp only [jdO, ownL, if_pos ht0]
        have hO : (jdO τ t (i + 1)).length ≤ 2400 := by have := jdO_le (τ := τ) (t := t) (nM τ) (i + 1) hi; omega
        have hlO := congrArg List.length eO
        have j152 : ∀ (L2 : List Ft) (w : St), Lg τ L2 w → L2 ++ (if (Hs τ i 32 && decide (τ 1 t = 0)) = true then [(7, nI i, -1)] else []) = jdO τ t (i + 1) → G p l e (rmo 6 136) s m ([.ref (b 0), .int (nI t)] : List Value).toArray below meth c D (va_A (pM b cI cZ τ) s.heap.size) 0 0 (Qe below ([.ref (b 0), .int (nI t)] : List Value).toArray s D (pM b cI cZ) τ (fun r v => r = none ∧ Lg τ (jdg τ t) v)) 5 (pM b cI cZ w) 152 [some (.ref (b 0)), some (.int (nI t)), some (.int (nI i)), none, none] [] := by
          intro L2 w hw he
          have hl := congrArg List.length he
          obtain ⟨A1, B1, C1, rfl, hA⟩ := id hw
          have hW1 : W0 (lgS τ A1 B1 C1 (nI (L2).length)) := hW
          refine g_aload_n C dX6_judge_152 rfl ?_
          refine g_iload_n C dX6_judge_153 rfl ?_
          refine g_bipush (v := 32) C dX6_judge_154 (by decide) ?_
          refine g_callVr 0 C (cr_X6_has (by omega)) mw_X6_has ml_X6_100 rfl rfl rfl rfl (Nat.le_of_ble_eq_true rfl) dX6_judge_156 ⟨Nat.le_of_ble_eq_true rfl, Nat.le_of_ble_eq_true rfl⟩ ⟨Nat.le_of_ble_eq_true rfl, Nat.le_of_ble_eq_true rfl⟩ ?_
          refine g_ifb_eq (tgt := 179) C dX6_judge_159 (by decide) (fun h159 => ?_) (fun h159 => ?_)
          · first | exact j179 hi _ (by have hK : (Hs τ i 32 && decide (τ 1 t = 0)) = true := (by simp [show Hs τ i 32 = true from h159, show τ 1 t = 0 from h168]); simp only [hK, Bool.false_eq_true, ↓reduceIte, List.append_nil, List.nil_append, List.append_assoc] at he; rw [← he]; exact hv) | exact j179 hi _ (by have hK : (Hs τ i 32 && decide (τ 1 t = 0)) = false := (by first | simp [show Hs τ i 32 = false from h159] | simp [show ¬ τ 1 t = 0 from h168]); simp only [hK, Bool.false_eq_true, ↓reduceIte, List.append_nil, List.nil_append, List.append_assoc] at he; rw [← he]; exact hw)
          · refine g_aload_n C dX6_judge_162 rfl ?_
            refine gf_X6_7 C dX6_judge_163 ?_
            refine g_iload_n C dX6_judge_166 rfl ?_
            refine gM_ln1 C (by omega) dX6_judge_167 ?_
            refine g_if_ne (tgt := 179) C dX6_judge_168 (by decide) (fun h168 => ?_) (fun h168 => ?_)
            · first | exact j179 hi _ (by have hK : (Hs τ i 32 && decide (τ 1 t = 0)) = true := (by simp [show Hs τ i 32 = true from h159, show τ 1 t = 0 from h168]); simp only [hK, Bool.false_eq_true, ↓reduceIte, List.append_nil, List.nil_append, List.append_assoc] at he; rw [← he]; exact hv) | exact j179 hi _ (by have hK : (Hs τ i 32 && decide (τ 1 t = 0)) = false := (by first | simp [show Hs τ i 32 = false from h159] | simp [show ¬ τ 1 t = 0 from h168]); simp only [hK, Bool.false_eq_true, ↓reduceIte, List.append_nil, List.nil_append, List.append_assoc] at he; rw [← he]; exact hw)
            · refine g_aload_n C dX6_judge_171 rfl ?_
              refine g_bipush (v := 7) C dX6_judge_172 (by decide) ?_
              refine g_iload_n C dX6_judge_174 rfl ?_
              refine g_iconst (v := -1) C dX6_judge_175 (by decide) ?_
              refine g_callV 0 C (ct_X6_note hw (by have hK : (Hs τ i 32 && decide (τ 1 t = 0)) = true := (by simp [show Hs τ i 32 = true from h159, show τ 1 t = 0 from h168]); simp only [hK, Bool.false_eq_true, ↓reduceIte, List.length_append, List.length_cons, List.length_nil] at hl; omega)) mw_X6_note ml_X6_147 rfl rfl rfl rfl (Nat.le_of_ble_eq_true rfl) dX6_judge_176 ⟨Nat.le_of_ble_eq_true rfl, Nat.le_of_ble_eq_true rfl⟩ ⟨Nat.le_of_ble_eq_true rfl, Nat.le_of_ble_eq_true rfl⟩ ?_
              intro r v hv
              obtain ⟨rfl, hv⟩ := hv
              first | exact j179 hi _ (by have hK : (Hs τ i 32 && decide (τ 1 t = 0)) = true := (by simp [show Hs τ i 32 = true from h159, show τ 1 t = 0 from h168]); simp only [hK, Bool.false_eq_true, ↓reduceIte, List.append_nil, List.nil_append, List.append_assoc] at he; rw [← he]; exact hv) | exact j179 hi _ (by have hK : (Hs τ i 32 && decide (τ 1 t = 0)) = false := (by first | simp [show Hs τ i 32 = false from h159] | simp [show ¬ τ 1 t = 0 from h168]); simp only [hK, Bool.false_eq_true, ↓reduceIte, List.append_nil, List.nil_append, List.append_assoc] at he; rw [← he]; exact hw)
        have j129 : ∀ (w : St) (q : Bool), q = anyN (nM τ) (Ov τ i) → Lg τ (jdO τ t i ++ innL τ i (nM τ)) w → G p l e (rmo 6 136) s m ([.ref (b 0), .int (nI t)] : List Value).toArray below meth c D (va_A (pM b cI cZ τ) s.heap.size) 0 0 (Qe below ([.ref (b 0), .int (nI t)] : List Value).toArray s D (pM b cI cZ) τ (fun r v => r = none ∧ Lg τ (jdg τ t) v)) 5 (pM b cI cZ w) 129 [some (.ref (b 0)), some (.int (nI t)), some (.int (nI i)), some (.int (b2i q)), none] [] := by
          intro w q hq hw
          obtain ⟨A1, B1, C1, rfl, hA⟩ := id hw
          have hW1 : W0 (lgS τ A1 B1 C1 (nI (jdO τ t i ++ innL τ i (nM τ)).length)) := hW
          refine g_aload_n C dX6_judge_129 rfl ?_
          refine g_iload_n C dX6_judge_130 rfl ?_
          refine g_sipush (v := 128) C dX6_judge_131 (by decide) ?_
          refine g_callVr 0 C (cr_X6_has (by omega)) mw_X6_has ml_X6_100 rfl rfl rfl rfl (Nat.le_of_ble_eq_true rfl) dX6_judge_134 ⟨Nat.le_of_ble_eq_true rfl, Nat.le_of_ble_eq_true rfl⟩ ⟨Nat.le_of_ble_eq_true rfl, Nat.le_of_ble_eq_true rfl⟩ ?_
          refine g_ifb_eq (tgt := 152) C dX6_judge_137 (by decide) (fun h137 => ?_) (fun h137 => ?_)
          · first | exact (j152 _ _ hv (by have hK : (Hs τ i 128 && !anyN (nM τ) (Ov τ i)) = true := (by simp [show Hs τ i 128 = true from h137, ← hq, h141]); rw [eO]; simp only [hK, Bool.false_eq_true, ↓reduceIte, List.append_nil, List.nil_append, List.append_assoc])).weak (by simp [lvle, lst]) | exact (j152 _ _ hw (by have hK : (Hs τ i 128 && !anyN (nM τ) (Ov τ i)) = false := (by first | simp [show Hs τ i 128 = false from h137] | simp [← hq, h141]); rw [eO]; simp only [hK, Bool.false_eq_true, ↓reduceIte, List.append_nil, List.nil_append, List.append_assoc])).weak (by simp [lvle, lst])
          · refine g_iload_n C dX6_judge_140 rfl ?_
            refine g_ifb_ne (tgt := 152) C dX6_judge_141 (by decide) (fun h141 => ?_) (fun h141 => ?_)
            · first | exact (j152 _ _ hv (by have hK : (Hs τ i 128 && !anyN (nM τ) (Ov τ i)) = true := (by simp [show Hs τ i 128 = true from h137, ← hq, h141]); rw [eO]; simp only [hK, Bool.false_eq_true, ↓reduceIte, List.append_nil, List.nil_append, List.append_assoc])).weak (by simp [lvle, lst]) | exact (j152 _ _ hw (by have hK : (Hs τ i 128 && !anyN (nM τ) (Ov τ i)) = false := (by first | simp [show Hs τ i 128 = false from h137] | simp [← hq, h141]); rw [eO]; simp only [hK, Bool.false_eq_true, ↓reduceIte, List.append_nil, List.nil_append, List.append_assoc])).weak (by simp [lvle, lst])
            · refine g_aload_n C dX6_judge_144 rfl ?_
              refine g_bipush (v := 6) C dX6_judge_145 (by decide) ?_
              refine g_iload_n C dX6_judge_147 rfl ?_
              refine g_iconst (v := -1) C dX6_judge_148 (by decide) ?_
              refine g_callV 0 C (ct_X6_note hw (by have hK : (Hs τ i 128 && !anyN (nM τ) (Ov τ i)) = true := (by simp [show Hs τ i 128 = true from h137, ← hq, h141]); simp only [hK, Bool.false_eq_true, ↓reduceIte, List.length_append, List.length_cons, List.length_nil] at hlO ⊢; omega)) mw_X6_note ml_X6_147 rfl rfl rfl rfl (Nat.le_of_ble_eq_true rfl) dX6_judge_149 ⟨Nat.le_of_ble_eq_true rfl, Nat.le_of_ble_eq_true rfl⟩ ⟨Nat.le_of_ble_eq_true rfl, Nat.le_of_ble_eq_true rfl⟩ ?_
              intro r v hv
              obtain ⟨rfl, hv⟩ := hv
              first | exact (j152 _ _ hv (by have hK : (Hs τ i 128 && !anyN (nM τ) (Ov τ i)) = true := (by simp [show Hs τ i 128 = true from h137, ← hq, h141]); rw [eO]; simp only [hK, Bool.false_eq_true, ↓reduceIte, List.append_nil, List.nil_append, List.append_assoc])).weak (by simp [lvle, lst]) | exact (j152 _ _ hw (by have hK : (Hs τ i 128 && !anyN (nM τ) (Ov τ i)) = false := (by first | simp [show Hs τ i 128 = false from h137] | simp [← hq, h141]); rw [eO]; simp only [hK, Bool.false_eq_true, ↓reduceIte, List.append_nil, List.nil_append, List.append_assoc])).weak (by simp [lvle, lst])
        have inner : ∀ (k j : Nat) (w : St) (q : Bool), j ≤ nM τ → nM τ + 1 ≤ j + k → q = anyN j (Ov τ i) → Lg τ (jdO τ t i ++ innL τ i j) w → G p l e (rmo 6 136) s m ([.ref (b 0), .int (nI t)] : List Value).toArray below meth c D (va_A (pM b cI cZ τ) s.heap.size) 0 0 (Qe below ([.ref (b 0), .int (nI t)] : List Value).toArray s D (pM b cI cZ) τ (fun r v => r = none ∧ Lg τ (jdg τ t) v)) 5 (pM b cI cZ w) 30 [some (.ref (b 0)), some (.int (nI t)), some (.int (nI i)), some (.int (b2i q)), some (.int (nI j))] [] := by
          intro k
          induction k with
          | zero => intro j w q h1 h2; omega
          | succ k ihk =>
            intro j w q hj1 hj2 hq hw
            have j123 : j < nM τ → ∀ (w : St) (q : Bool), q = anyN (j + 1) (Ov τ i) → Lg τ (jdO τ t i ++ innL τ i (j + 1)) w → G p l e (rmo 6 136) s m ([.ref (b 0), .int (nI t)] : List Value).toArray below meth c D (va_A (pM b cI cZ τ) s.heap.size) 0 0 (Qe below ([.ref (b 0), .int (nI t)] : List Value).toArray s D (pM b cI cZ) τ (fun r v => r = none ∧ Lg τ (jdg τ t) v)) 5 (pM b cI cZ w) 123 [some (.ref (b 0)), some (.int (nI t)), some (.int (nI i)), some (.int (b2i q)), some (.int (nI j))] [] := by
              intro hj w q hq hw
              refine g_iincN C dX6_judge_123 rfl (by decide) ?_
              refine g_goto (tgt := 30) C dX6_judge_126 (by decide) ?_
              exact ihk (j + 1) w q (by omega) (by omega) hq hw
            have hIn : j < nM τ → (jdO τ t i ++ innL τ i (j + 1)).length ≤ 2400 := by
              intro hj
              have := innL_le (τ := τ) (m := i) (nM τ) (j + 1) hj
              simp only [List.length_append] at hlO ⊢
              omega
            have j116 : j < nM τ → ∀ (L2 : List Ft) (w : St) (q : Bool), q = anyN (j + 1) (Ov τ i) → Lg τ L2 w → L2 ++ thrL τ i j = jdO τ t i ++ innL τ i (j + 1) → G p l e (rmo 6 136) s m ([.ref (b 0), .int (nI t)] : List Value).toArray below meth c D (va_A (pM b cI cZ τ) s.heap.size) 0 0 (Qe below ([.ref (b 0), .int (nI t)] : List Value).toArray s D (pM b cI cZ) τ (fun r v => r = none ∧ Lg τ (jdg τ t) v)) 5 (pM b cI cZ w) 116 [some (.ref (b 0)), some (.int (nI t)), some (.int (nI i)), some (.int (b2i q)), some (.int (nI j))] [] := by
              intro hj L2 w q hq hw he
              have hl := congrArg List.length he
              have hI := hIn hj
              refine g_aload_n C dX6_judge_116 rfl ?_
              refine g_iload_n C dX6_judge_117 rfl ?_
              refine g_iload C dX6_judge_118 rfl ?_
              refine g_callV 0 C (ct_X6_three hW hw hi hj (by omega)) mw_X6_three ml_X6_160 rfl rfl rfl rfl (Nat.le_of_ble_eq_true rfl) dX6_judge_120 ⟨Nat.le_of_ble_eq_true rfl, Nat.le_of_ble_eq_true rfl⟩ ⟨Nat.le_of_ble_eq_true rfl, Nat.le_of_ble_eq_true rfl⟩ ?_
              intro r v hv
              obtain ⟨rfl, hv⟩ := hv
              exact j123 hj _ q hq (by rw [← he]; exact hv)
            have j77 : j < nM τ → ∀ (L2 : List Ft) (w : St) (q : Bool), q = anyN (j + 1) (Ov τ i) → Lg τ L2 w → L2 ++ (if (Ov τ i j || Hid τ i j) = true then (if Hs τ j 16 = true then [(2, nI i, nI j)] else []) ++ thrL τ i j else []) = jdO τ t i ++ innL τ i (j + 1) → G p l e (rmo 6 136) s m ([.ref (b 0), .int (nI t)] : List Value).toArray below meth c D (va_A (pM b cI cZ τ) s.heap.size) 0 0 (Qe below ([.ref (b 0), .int (nI t)] : List Value).toArray s D (pM b cI cZ) τ (fun r v => r = none ∧ Lg τ (jdg τ t) v)) 5 (pM b cI cZ w) 77 [some (.ref (b 0)), some (.int (nI t)), some (.int (nI i)), some (.int (b2i q)), some (.int (nI j))] [] := by
              intro hj L2 w q hq hw he
              have hl := congrArg List.length he
              have hI := hIn hj
              have hof_j := w0_ofl hW hj
              obtain ⟨A1, B1, C1, rfl, hA⟩ := id hw
              have hW1 : W0 (lgS τ A1 B1 C1 (nI (L2).length)) := hW
              refine g_aload_n C dX6_judge_77 rfl ?_
              refine g_iload_n C dX6_judge_78 rfl ?_
              refine g_iload C dX6_judge_79 rfl ?_
              refine g_callVr 0 C (cr_X6_isOver hW1 (by omega) (by omega)) mw_X6_isOver ml_X6_129 rfl rfl rfl rfl (Nat.le_of_ble_eq_true rfl) dX6_judge_81 ⟨Nat.le_of_ble_eq_true rfl, Nat.le_of_ble_eq_true rfl⟩ ⟨Nat.le_of_ble_eq_true rfl, Nat.le_of_ble_eq_true rfl⟩ ?_
              refine g_ifb_ne (tgt := 97) C dX6_judge_84 (by decide) (fun h84 => ?_) (fun h84 => ?_)
              · refine g_aload_n C dX6_judge_97 rfl ?_
                refine g_iload C dX6_judge_98 rfl ?_
                refine g_bipush (v := 16) C dX6_judge_100 (by decide) ?_
                refine g_callVr 0 C (cr_X6_has (by omega)) mw_X6_has ml_X6_100 rfl rfl rfl rfl (Nat.le_of_ble_eq_true rfl) dX6_judge_102 ⟨Nat.le_of_ble_eq_true rfl, Nat.le_of_ble_eq_true rfl⟩ ⟨Nat.le_of_ble_eq_true rfl, Nat.le_of_ble_eq_true rfl⟩ ?_
                refine g_ifb_eq (tgt := 116) C dX6_judge_105 (by decide) (fun h105 => ?_) (fun h105 => ?_)
                · first | exact j116 hj _ _ q hq hv (by have hK : (Ov τ i j || Hid τ i j) = true := (by first | simp [show Ov τ i j = true from h84] | simp [show Hid τ i j = true from h94]); have hF : Hs τ j 16 = true := h105; simp only [hK, hF, Bool.false_eq_true, ↓reduceIte, List.append_nil, List.nil_append, List.append_assoc] at he ⊢; exact he) | exact j116 hj _ _ q hq hw (by have hK : (Ov τ i j || Hid τ i j) = true := (by first | simp [show Ov τ i j = true from h84] | simp [show Hid τ i j = true from h94]); have hF : Hs τ j 16 = false := h105; simp only [hK, hF, Bool.false_eq_true, ↓reduceIte, List.append_nil, List.nil_append, List.append_assoc] at he; exact he)
                · refine g_aload_n C dX6_judge_108 rfl ?_
                  refine g_iconst (v := 2) C dX6_judge_109 (by decide) ?_
                  refine g_iload_n C dX6_judge_110 rfl ?_
                  refine g_iload C dX6_judge_111 rfl ?_
                  refine g_callV 0 C (ct_X6_note hw (by have hK : (Ov τ i j || Hid τ i j) = true := (by first | simp [show Ov τ i j = true from h84] | simp [show Hid τ i j = true from h94]); have hF : Hs τ j 16 = true := h105; simp only [hK, hF, Bool.false_eq_true, ↓reduceIte, List.length_append, List.length_cons, List.length_nil] at hl hI; omega)) mw_X6_note ml_X6_147 rfl rfl rfl rfl (Nat.le_of_ble_eq_true rfl) dX6_judge_113 ⟨Nat.le_of_ble_eq_true rfl, Nat.le_of_ble_eq_true rfl⟩ ⟨Nat.le_of_ble_eq_true rfl, Nat.le_of_ble_eq_true rfl⟩ ?_
                  intro r v hv
                  obtain ⟨rfl, hv⟩ := hv
                  first | exact j116 hj _ _ q hq hv (by have hK : (Ov τ i j || Hid τ i j) = true := (by first | simp [show Ov τ i j = true from h84] | simp [show Hid τ i j = true from h94]); have hF : Hs τ j 16 = true := h105; simp only [hK, hF, Bool.false_eq_true, ↓reduceIte, List.append_nil, List.nil_append, List.append_assoc] at he ⊢; exact he) | exact j116 hj _ _ q hq hw (by have hK : (Ov τ i j || Hid τ i j) = true := (by first | simp [show Ov τ i j = true from h84] | simp [show Hid τ i j = true from h94]); have hF : Hs τ j 16 = false := h105; simp only [hK, hF, Bool.false_eq_true, ↓reduceIte, List.append_nil, List.nil_append, List.append_assoc] at he; exact he)
              · refine g_aload_n C dX6_judge_87 rfl ?_
                refine g_iload_n C dX6_judge_88 rfl ?_
                refine g_iload C dX6_judge_89 rfl ?_
                refine g_callVr 0 C (cr_X6_hidesIt hW1 (x := i) (o := j) hi hj) mw_X6_hidesIt ml_X6_132 rfl rfl rfl rfl (Nat.le_of_ble_eq_true rfl) dX6_judge_91 ⟨Nat.le_of_ble_eq_true rfl, Nat.le_of_ble_eq_true rfl⟩ ⟨Nat.le_of_ble_eq_true rfl, Nat.le_of_ble_eq_true rfl⟩ ?_
                refine g_ifb_eq (tgt := 123) C dX6_judge_94 (by decide) (fun h94 => ?_) (fun h94 => ?_)
                · exact j123 hj _ q hq (by have hK : (Ov τ i j || Hid τ i j) = false := (by simp [show Ov τ i j = false from h84, show Hid τ i j = false from h94]); simp only [hK, Bool.false_eq_true, ↓reduceIte, List.append_nil, List.nil_append, List.append_assoc] at he; rw [← he]; exact hw)
                · refine g_aload_n C dX6_judge_97 rfl ?_
                  refine g_iload C dX6_judge_98 rfl ?_
                  refine g_bipush (v := 16) C dX6_judge_100 (by decide) ?_
                  refine g_callVr 0 C (cr_X6_has (by omega)) mw_X6_has ml_X6_100 rfl rfl rfl rfl (Nat.le_of_ble_eq_true rfl) dX6_judge_102 ⟨Nat.le_of_ble_eq_true rfl, Nat.le_of_ble_eq_true rfl⟩ ⟨Nat.le_of_ble_eq_true rfl, Nat.le_of_ble_eq_true rfl⟩ ?_
                  refine g_ifb_eq (tgt := 116) C dX6_judge_105 (by decide) (fun h105 => ?_) (fun h105 => ?_)
                  · first | exact j116 hj _ _ q hq hv (by have hK : (Ov τ i j || Hid τ i j) = true := (by first | simp [show Ov τ i j = true from h84] | simp [show Hid τ i j = true from h94]); have hF : Hs τ j 16 = true := h105; simp only [hK, hF, Bool.false_eq_true, ↓reduceIte, List.append_nil, List.nil_append, List.append_assoc] at he ⊢; exact he) | exact j116 hj _ _ q hq hw (by have hK : (Ov τ i j || Hid τ i j) = true := (by first | simp [show Ov τ i j = true from h84] | simp [show Hid τ i j = true from h94]); have hF : Hs τ j 16 = false := h105; simp only [hK, hF, Bool.false_eq_true, ↓reduceIte, List.append_nil, List.nil_append, List.append_assoc] at he; exact he)
                  · refine g_aload_n C dX6_judge_108 rfl ?_
                    refine g_iconst (v := 2) C dX6_judge_109 (by decide) ?_
                    refine g_iload_n C dX6_judge_110 rfl ?_
                    refine g_iload C dX6_judge_111 rfl ?_
                    refine g_callV 0 C (ct_X6_note hw (by have hK : (Ov τ i j || Hid τ i j) = true := (by first | simp [show Ov τ i j = true from h84] | simp [show Hid τ i j = true from h94]); have hF : Hs τ j 16 = true := h105; simp only [hK, hF, Bool.false_eq_true, ↓reduceIte, List.length_append, List.length_cons, List.length_nil] at hl hI; omega)) mw_X6_note ml_X6_147 rfl rfl rfl rfl (Nat.le_of_ble_eq_true rfl) dX6_judge_113 ⟨Nat.le_of_ble_eq_true rfl, Nat.le_of_ble_eq_true rfl⟩ ⟨Nat.le_of_ble_eq_true rfl, Nat.le_of_ble_eq_true rfl⟩ ?_
                    intro r v hv
                    obtain ⟨rfl, hv⟩ := hv
                    first | exact j116 hj _ _ q hq hv (by have hK : (Ov τ i j || Hid τ i j) = true := (by first | simp [show Ov τ i j = true from h84] | simp [show Hid τ i j = true from h94]); have hF : Hs τ j 16 = true := h105; simp only [hK, hF, Bool.false_eq_true, ↓reduceIte, List.append_nil, List.nil_append, List.append_assoc] at he ⊢; exact he) | exact j116 hj _ _ q hq hw (by have hK : (Ov τ i j || Hid τ i j) = true := (by first | simp [show Ov τ i j = true from h84] | simp [show Hid τ i j = true from h94]); have hF : Hs τ j 16 = false := h105; simp only [hK, hF, Bool.false_eq_true, ↓reduceIte, List.append_nil, List.nil_append, List.append_assoc] at he; exact he)
            have j57 : j < nM τ → ∀ (L2 : List Ft) (w : St), Lg τ L2 w → L2 ++ (if (Ov τ i j || Hid τ i j) = true then (if Hs τ j 16 = true then [(2, nI i, nI j)] else []) ++ thrL τ i j else []) = jdO τ t i ++ innL τ i (j + 1) → G p l e (rmo 6 136) s m ([.ref (b 0), .int (nI t)] : List Value).toArray below meth c D (va_A (pM b cI cZ τ) s.heap.size) 0 0 (Qe below ([.ref (b 0), .int (nI t)] : List Value).toArray s D (pM b cI cZ) τ (fun r v => r = none ∧ Lg τ (jdg τ t) v)) 5 (pM b cI cZ w) 57 [some (.ref (b 0)), some (.int (nI t)), some (.int (nI i)), some (.int (b2i q)), some (.int (nI j))] [] := by
              intro hj L2 w hw he
              obtain ⟨A1, B1, C1, rfl, hA⟩ := id hw
              have hW1 : W0 (lgS τ A1 B1 C1 (nI (L2).length)) := hW
              refine g_iload_n C dX6_judge_57 rfl ?_
              refine g_ifb_ne (tgt := 71) C dX6_judge_58 (by decide) (fun h58 => ?_) (fun h58 => ?_)
              · refine g_iconst (v := 1) C dX6_judge_71 (by decide) ?_
                refine g_goto (tgt := 76) C dX6_judge_72 (by decide) ?_
                refine g_istore_n C dX6_judge_76 (by decide) ?_
                first | exact j77 hj _ _ true (by simp only [anyN]; rw [← hq]; first | (simp [h58]; done) | simp [show Ov τ i j = true from h68]) hw he | exact j77 hj _ _ false (by simp only [anyN]; rw [← hq]; simp [h58, show Ov τ i j = false from h68]) hw he
              · refine g_aload_n C dX6_judge_61 rfl ?_
                refine g_iload_n C dX6_judge_62 rfl ?_
                refine g_iload C dX6_judge_63 rfl ?_
                refine g_callVr 0 C (cr_X6_isOver hW1 (by omega) (by omega)) mw_X6_isOver ml_X6_129 rfl rfl rfl rfl (Nat.le_of_ble_eq_true rfl) dX6_judge_65 ⟨Nat.le_of_ble_eq_true rfl, Nat.le_of_ble_eq_true rfl⟩ ⟨Nat.le_of_ble_eq_true rfl, Nat.le_of_ble_eq_true rfl⟩ ?_
                refine g_ifb_eq (tgt := 75) C dX6_judge_68 (by decide) (fun h68 => ?_) (fun h68 => ?_)
                · refine g_iconst (v := 0) C dX6_judge_75 (by decide) ?_
                  refine g_istore_n C dX6_judge_76 (by decide) ?_
                  first | exact j77 hj _ _ true (by simp only [anyN]; rw [← hq]; first | (simp [h58]; done) | simp [show Ov τ i j = true from h68]) hw he | exact j77 hj _ _ false (by simp only [anyN]; rw [← hq]; simp [h58, show Ov τ i j = false from h68]) hw he
                · refine g_iconst (v := 1) C dX6_judge_71 (by decide) ?_
                  refine g_goto (tgt := 76) C dX6_judge_72 (by decide) ?_
                  refine g_istore_n C dX6_judge_76 (by decide) ?_
                  first | exact j77 hj _ _ true (by simp only [anyN]; rw [← hq]; first | (simp [h58]; done) | simp [show Ov τ i j = true from h68]) hw he | exact j77 hj _ _ false (by simp only [anyN]; rw [← hq]; simp [h58, show Ov τ i j = false from h68]) hw he
            obtain ⟨A1, B1, C1, rfl, hA⟩ := id hw
            have hW1 : W0 (lgS τ A1 B1 C1 (nI (jdO τ t i ++ innL τ i j).length)) := hW
            refine g_iload C dX6_judge_30 rfl ?_
            refine g_aload_n C dX6_judge_32 rfl ?_
            refine gn_X6_70 C (v := nI (nM τ)) (w0_m hW) dX6_judge_33 ?_
            refine g_icmpN_ge (tgt := 129) C (by omega) (by omega) dX6_judge_36 (by decide) (fun h36 => ?_) (fun h36 => ?_)
            · obtain rfl : j = nM τ := (by omega); exact (j129 _ q hq hw).weak (by simp [lvle, lst])
            · refine g_aload_n C dX6_judge_39 rfl ?_
              have hj : j < nM τ := ‹_›
              have hof_j := w0_ofl hW hj
              refine g_iload_n C dX6_judge_40 rfl ?_
              refine g_iload C dX6_judge_41 rfl ?_
              refine g_callVr 0 C (cr_X6_isMixed hW1 (x := i) (o := j) hi hj) mw_X6_isMixed ml_X6_157 rfl rfl rfl rfl (Nat.le_of_ble_eq_true rfl) dX6_judge_43 ⟨Nat.le_of_ble_eq_true rfl, Nat.le_of_ble_eq_true rfl⟩ ⟨Nat.le_of_ble_eq_true rfl, Nat.le_of_ble_eq_true rfl⟩ ?_
              refine g_ifb_eq (tgt := 57) C dX6_judge_46 (by decide) (fun h46 => ?_) (fun h46 => ?_)
              · first | exact j57 hj _ _ hv (by have hK : Mix τ i j = true := h46; simp only [innL, pairL, hK, ↓reduceIte, List.append_assoc]) | exact j57 hj _ _ hw (by have hK : Mix τ i j = false := h46; simp only [innL, pairL, hK, Bool.false_eq_true, ↓reduceIte, List.append_assoc, List.nil_append])
              · refine g_aload_n C dX6_judge_49 rfl ?_
                refine g_iconst (v := 1) C dX6_judge_50 (by decide) ?_
                refine g_iload_n C dX6_judge_51 rfl ?_
                refine g_iload C dX6_judge_52 rfl ?_
                refine g_callV 0 C (ct_X6_note hw (by have hK : Mix τ i j = true := h46; have hI := hIn hj; simp only [innL, pairL, hK, ↓reduceIte, List.length_append, List.length_cons, List.length_nil] at hI ⊢; omega)) mw_X6_note ml_X6_147 rfl rfl rfl rfl (Nat.le_of_ble_eq_true rfl) dX6_judge_54 ⟨Nat.le_of_ble_eq_true rfl, Nat.le_of_ble_eq_true rfl⟩ ⟨Nat.le_of_ble_eq_true rfl, Nat.le_of_ble_eq_true rfl⟩ ?_
                intro r v hv
                obtain ⟨rfl, hv⟩ := hv
                first | exact j57 hj _ _ hv (by have hK : Mix τ i j = true := h46; simp only [innL, pairL, hK, ↓reduceIte, List.append_assoc]) | exact j57 hj _ _ hw (by have hK : Mix τ i j = false := h46; simp only [innL, pairL, hK, Bool.false_eq_true, ↓reduceIte, List.append_assoc, List.nil_append])
        exact inner (nM τ + 1) 0 w0 false (by omega) (by omega) rfl (by simpa [innL] using hw0)
      obtain ⟨A1, B1, C1, rfl, hA⟩ := id hw
      have hW1 : W0 (lgS τ A1 B1 C1 (nI (jdO τ t i).length)) := hW
      refine g_iload_n C dX6_judge_7 rfl ?_
      refine g_aload_n C dX6_judge_8 rfl ?_
      refine gn_X6_70 C (v := nI (nM τ)) (w0_m hW) dX6_judge_9 ?_
      refine g_icmpN_ge (tgt := 185) C (by omega) (by omega) dX6_judge_12 (by decide) (fun h12 => ?_) (fun h12 => ?_)
      · refine g_iconstN 0 C dX6_judge_185 (by decide) ?_
        refine g_istore_n C dX6_judge_186 (by decide) ?_
        obtain rfl : i = nM τ := (by omega); exact (j187 _ hw).weak (by simp [lvle, lst])
      · refine g_aload_n C dX6_judge_15 rfl ?_
        have hi : i < nM τ := ‹_›
        have hof_i := w0_ofl hW hi
        refine gf_X6_35 C dX6_judge_16 ?_
        refine g_iload_n C dX6_judge_19 rfl ?_
        refine gM_lv9 C (by omega) (v := nI (Of τ _)) (w0_of hW (by omega)) dX6_judge_20 ?_
        refine g_iload_n C dX6_judge_21 rfl ?_
        refine g_icmpN_ne (tgt := 179) C (by omega) (by omega) dX6_judge_22 (by decide) (fun h22 => ?_) (fun h22 => ?_)
        · exact (j179 hi _ (by simp only [jdO, ownL]; rw [if_neg ‹_›, List.append_nil]; exact hw)).weak (by simp [lvle, lst])
        · refine g_iconst (v := 0) C dX6_judge_25 (by decide) ?_
          refine g_istore_n C dX6_judge_26 (by decide) ?_
          refine g_iconstN 0 C dX6_judge_27 (by decide) ?_
          refine g_istore C dX6_judge_28 (by decide) ?_
          exact own hi ‹_› _ hw
  refine g_aload_n C dX6_judge_0 rfl ?_
  refine g_iconst (v := 0) C dX6_judge_1 (by decide) ?_
  refine gp_X6_144 C dX6_judge_2 ?_
  refine g_iconstN 0 C dX6_judge_5 (by decide) ?_
  refine g_istore_n C dX6_judge_6 (by decide) ?_
  exact loop1 (nM τ + 1) 0 _ (by omega) (by omega) Lg_nil
end
section
/-! ===== the reference: what its public methods answer, those that change nothing but the noted faults ===== -/
theorem nI_lo {t n : Nat} (h : t < n) (hn : n ≤ 60) : inB (nI t) 0 (nI n - 1) = true := by
  have h1 : (0 : Int32) ≤ nI t := nI_pos' (by omega)
  have h2 : nI n - 1 = nI (n - 1) := by
    have := pk_sub (a := n) (b := 1) (by omega)
    exact this
  rw [inB, h2]
  simp [h1, nI_le (a := t) (b := n - 1) (by omega) (by omega)]
theorem inB_cases {x : Int32} {n : Nat} (hn : n ≤ 60) : inB x 0 (nI n - 1) = false ∨ ∃ t, t < n ∧ x = nI t := by
  by_cases h0 : x < 0
  · left
    simp [inB, Int32.not_le.mpr h0]
  · obtain ⟨j, hj, rfl⟩ := nI_of h0
    rcases Nat.lt_or_ge j n with q | q
    · exact Or.inr ⟨j, q, rfl⟩
    · left
      rcases Nat.eq_zero_or_pos n with h | h
      · subst h
        have : ¬ nI j ≤ nI 0 - 1 := by
          intro h2
          have h3 : nI 0 - 1 < (0 : Int32) := by decide
          exact absurd (Int32.lt_of_le_of_lt h2 h3) (nI_pos (n := j) hj)
        simp [inB, this]
      · have h2 : nI n - 1 = nI (n - 1) := pk_sub (a := n) (b := 1) (by omega)
        have : ¬ nI j ≤ nI (n - 1) := nI_ge (by omega) (by omega)
        simp [inB, h2, this]
theorem isT_nI {τ : St} (hW : W0 τ) {t : Nat} (h : t < nT τ) : isT τ (nI t) = true := by
  have := w0_tl hW
  rw [isT, w0_t hW]; exact nI_lo h (by omega)
theorem isM_nI {τ : St} (hW : W0 τ) {t : Nat} (h : t < nM τ) : isM τ (nI t) = true := by
  rw [isM, w0_m hW]; exact nI_lo h (w0_ml hW)
theorem isT_cases {τ : St} (hW : W0 τ) (x : Int32) : isT τ x = false ∨ ∃ t, t < nT τ ∧ x = nI t := by
  have := w0_tl hW
  rw [isT, w0_t hW]; exact inB_cases (by omega)
theorem isM_cases {τ : St} (hW : W0 τ) (x : Int32) : isM τ x = false ∨ ∃ t, t < nM τ ∧ x = nI t := by
  rw [isM, w0_m hW]; exact inB_cases (w0_ml hW)
def cntN : Nat → (Nat → Bool) → Nat
  | 0, _ => 0
  | n + 1, f => cntN n f + (bif f n then 1 else 0)
theorem cntN_le (f : Nat → Bool) : ∀ n, cntN n f ≤ n
  | 0 => Nat.le_refl 0
  | n + 1 => by have := cntN_le f n; simp only [cntN]; cases f n <;> simp <;> omega
def sumN : Nat → (Nat → Nat) → Nat
  | 0, _ => 0
  | n + 1, f => sumN n f + f n
theorem sumN_le (f : Nat → Nat) (B : Nat) (h : ∀ i, f i ≤ B) : ∀ n, sumN n f ≤ n * B
  | 0 => by simp [sumN]
  | n + 1 => by have := sumN_le f B h n; have := h n; simp only [sumN, Nat.succ_mul]; omega
abbrev nN (x : Int32) : Nat := x.toNatClampNeg
def aSub (τ : St) (x y : Int32) : Int32 := if (isT τ x && isT τ y) = true then b2i (SubB τ (nN x) (nN y)) else -2
def aOvr (τ : St) (x y : Int32) : Int32 := if (isM τ x && isM τ y) = true then b2i (Ov τ (nN x) (nN y)) else -2
def aHid (τ : St) (x y : Int32) : Int32 := if (isM τ x && isM τ y) = true then b2i (Hid τ (nN x) (nN y)) else -2
def aChs (τ : St) (x y : Int32) : Int32 := if (isT τ x && isM τ y) = true then (if (decide (τ 1 (nN x) = 2) || !Pln τ (nN y) || !SubB τ (nN x) (Of τ (nN y))) = true then -3 else Chs τ (nN x) (nN y)) else -2
def aChk (τ : St) (x : Int32) : Int32 := if isT τ x = true then nI (jdg τ (nN x)).length else -2
def fPick (w : Int32) (q : Ft) : Int32 := if w = 0 then q.1 else if w = 1 then q.2.1 else q.2.2
def aFlt (τ : St) (x i w : Int32) : Int32 := if isT τ x = true then (if inB w 0 2 = true then (if i < 0 then -1 else match (jdg τ (nN x))[nN i]? with
  | some q => fPick w q
  | none => -1) else -3) else -2
def brV (τ : St) (m v : Nat) : Nat → Bool := fun o => Ov τ m o && decide (Rs τ o = v)
def brW (τ : St) (m : Nat) : Nat → Bool := fun v => anyN (nM τ) (brV τ m v) && !decide (v = Rs τ m)
def brM (τ : St) (t : Nat) : Nat → Nat := fun m => bif decide (Of τ m = t) && !Hs τ m 8 && !Hs τ m 32 then cntN 20 (brW τ m) else 0
def aBrg (τ : St) (x : Int32) : Int32 := if isT τ x = true then nI (sumN (nM τ) (brM τ (nN x))) else -2
def fsC (τ : St) (t i : Nat) (a : Int32) : Bool := decide (Of τ i = t) && decide (a < nI (cntN (nM τ) (Ov τ i)))
def fsF (τ : St) (t : Nat) : Nat → Int32 × Int32
  | 0 => (-1, -1)
  | i + 1 => if fsC τ t i (fsF τ t i).2 = true then (nI i, nI (cntN (nM τ) (Ov τ i))) else fsF τ t i
def aFst (τ : St) (x : Int32) : Int32 := if isT τ x = true then (fsF τ (nN x) (nM τ)).1 else -2
def aTld (τ : St) (x : Int32) : Int32 := if x = 3 then nI (sumN (nT τ) (fun t => (jdg τ t).length)) else if x = 0 then τ 0 0 else if x = 1 then τ 0 1 else if x = 2 then τ 0 2 else -3
theorem brM_le {τ : St} {t : Nat} : ∀ i, brM τ t i ≤ 20 := by
  intro i
  have := cntN_le (brW τ i) 20
  simp only [brM]
  cases (decide (Of τ i = t) && !Hs τ i 8 && !Hs τ i 32) <;> simp <;> omega
set_option maxRecDepth 100000 in
set_option maxHeartbeats 4000000 in
theorem cr_X6_sub {l : Launch} {D : va_G} {cI cZ : ClassId} {b : Nat → Nat} {τ : St} (hW : W0 τ) {x y : Int32} : Cr l yX6_sub cX6_sub 3 (some .int) 2 44 D cI cZ (pM b cI cZ) [.ref (b 0), .int x, .int y] τ (aSub τ x y) := by
  have hTl := w0_tl hW
  have hMl := w0_ml hW
  have cl : ∀ {z : Nat}, z < 2400 → nN (nI z) = z := fun h => nI_clamp (by omega)
  rcases isT_cases hW x with hx | ⟨t, ht, rfl⟩
  · refine Ct.of 0 (by decide) (by simp [Value.category]) (Nat.le_of_ble_eq_true rfl) ?_
    intro p e s m below meth c C
    refine g_aload_n C dX6_sub_0 rfl ?_
    refine g_iload_n C dX6_sub_1 rfl ?_
    refine g_callVr 0 C (cr_X6_isType) mw_X6_isType ml_X6_83 rfl rfl rfl rfl (Nat.le_of_ble_eq_true rfl) dX6_sub_2 ⟨Nat.le_of_ble_eq_true rfl, Nat.le_of_ble_eq_true rfl⟩ ⟨Nat.le_of_ble_eq_true rfl, Nat.le_of_ble_eq_true rfl⟩ ?_
    refine g_ifb_eq (tgt := 16) C dX6_sub_5 (by decide) (fun h5 => ?_) (fun h5 => ?_)
    · refine g_bipush (v := -2) C dX6_sub_16 (by decide) ?_
      refine g_goto (tgt := 35) C dX6_sub_18 (by decide) ?_
      exact g_iret C dX6_sub_35 ⟨rt_i (by simp [aSub, hx]), rfl⟩
    · exact absurd h5 (by simp [hx])
  rcases isT_cases hW y with hy | ⟨u, hu, rfl⟩
  · refine Ct.of 0 (by decide) (by simp [Value.category]) (Nat.le_of_ble_eq_true rfl) ?_
    intro p e s m below meth c C
    refine g_aload_n C dX6_sub_0 rfl ?_
    refine g_iload_n C dX6_sub_1 rfl ?_
    refine g_callVr 0 C (cr_X6_isType) mw_X6_isType ml_X6_83 rfl rfl rfl rfl (Nat.le_of_ble_eq_true rfl) dX6_sub_2 ⟨Nat.le_of_ble_eq_true rfl, Nat.le_of_ble_eq_true rfl⟩ ⟨Nat.le_of_ble_eq_true rfl, Nat.le_of_ble_eq_true rfl⟩ ?_
    refine g_ifb_eq (tgt := 16) C dX6_sub_5 (by decide) (fun h5 => ?_) (fun h5 => ?_)
    · exact absurd h5 (by simp [isT_nI hW ht])
    · refine g_aload_n C dX6_sub_8 rfl ?_
      refine g_iload_n C dX6_sub_9 rfl ?_
      refine g_callVr 0 C (cr_X6_isType) mw_X6_isType ml_X6_83 rfl rfl rfl rfl (Nat.le_of_ble_eq_true rfl) dX6_sub_10 ⟨Nat.le_of_ble_eq_true rfl, Nat.le_of_ble_eq_true rfl⟩ ⟨Nat.le_of_ble_eq_true rfl, Nat.le_of_ble_eq_true rfl⟩ ?_
      refine g_ifb_ne (tgt := 21) C dX6_sub_13 (by decide) (fun h13 => ?_) (fun h13 => ?_)
      · exact absurd h13 (by simp [hy])
      · refine g_bipush (v := -2) C dX6_sub_16 (by decide) ?_
        refine g_goto (tgt := 35) C dX6_sub_18 (by decide) ?_
        exact g_iret C dX6_sub_35 ⟨rt_i (by simp [aSub, hy]), rfl⟩
  refine Ct.of 0 (by decide) (by simp [Value.category]) (Nat.le_of_ble_eq_true rfl) ?_
  intro p e s m below meth c C
  refine g_aload_n C dX6_sub_0 rfl ?_
  refine g_iload_n C dX6_sub_1 rfl ?_
  refine g_callVr 0 C (cr_X6_isType) mw_X6_isType ml_X6_83 rfl rfl rfl rfl (Nat.le_of_ble_eq_true rfl) dX6_sub_2 ⟨Nat.le_of_ble_eq_true rfl, Nat.le_of_ble_eq_true rfl⟩ ⟨Nat.le_of_ble_eq_true rfl, Nat.le_of_ble_eq_true rfl⟩ ?_
  refine g_ifb_eq (tgt := 16) C dX6_sub_5 (by decide) (fun h5 => ?_) (fun h5 => ?_)
  · exact absurd h5 (by simp [isT_nI hW ht])
  · refine g_aload_n C dX6_sub_8 rfl ?_
    refine g_iload_n C dX6_sub_9 rfl ?_
    refine g_callVr 0 C (cr_X6_isType) mw_X6_isType ml_X6_83 rfl rfl rfl rfl (Nat.le_of_ble_eq_true rfl) dX6_sub_10 ⟨Nat.le_of_ble_eq_true rfl, Nat.le_of_ble_eq_true rfl⟩ ⟨Nat.le_of_ble_eq_true rfl, Nat.le_of_ble_eq_true rfl⟩ ?_
    refine g_ifb_ne (tgt := 21) C dX6_sub_13 (by decide) (fun h13 => ?_) (fun h13 => ?_)
    · refine g_aload_n C dX6_sub_21 rfl ?_
      refine g_iload_n C dX6_sub_22 rfl ?_
      refine g_iload_n C dX6_sub_23 rfl ?_
      refine g_callVr 0 C (cr_X6_isSub hW (by omega) (by omega)) mw_X6_isSub ml_X6_94 rfl rfl rfl rfl (Nat.le_of_ble_eq_true rfl) dX6_sub_24 ⟨Nat.le_of_ble_eq_true rfl, Nat.le_of_ble_eq_true rfl⟩ ⟨Nat.le_of_ble_eq_true rfl, Nat.le_of_ble_eq_true rfl⟩ ?_
      refine g_ifb_eq (tgt := 34) C dX6_sub_27 (by decide) (fun h27 => ?_) (fun h27 => ?_)
      · refine g_iconst (v := 0) C dX6_sub_34 (by decide) ?_
        exact g_iret C dX6_sub_35 ⟨rt_i (by simp [aSub, isT_nI hW ht, isT_nI hW hu, cl (show t < 2400 by omega), cl (show u < 2400 by omega), h27, b2i]), rfl⟩
      · refine g_iconst (v := 1) C dX6_sub_30 (by decide) ?_
        refine g_goto (tgt := 35) C dX6_sub_31 (by decide) ?_
        exact g_iret C dX6_sub_35 ⟨rt_i (by simp [aSub, isT_nI hW ht, isT_nI hW hu, cl (show t < 2400 by omega), cl (show u < 2400 by omega), h27, b2i]), rfl⟩
    · exact absurd h13 (by simp [isT_nI hW hu])
set_option maxRecDepth 100000 in
set_option maxHeartbeats 4000000 in
theorem cr_X6_overrides {l : Launch} {D : va_G} {cI cZ : ClassId} {b : Nat → Nat} {τ : St} (hW : W0 τ) {x y : Int32} : Cr l yX6_overrides cX6_overrides 3 (some .int) 2 43 D cI cZ (pM b cI cZ) [.ref (b 0), .int x, .int y] τ (aOvr τ x y) := by
  have hTl := w0_tl hW
  have hMl := w0_ml hW
  have cl : ∀ {z : Nat}, z < 2400 → nN (nI z) = z := fun h => nI_clamp (by omega)
  rcases isM_cases hW x with hx | ⟨t, ht, rfl⟩
  · refine Ct.of 0 (by decide) (by simp [Value.category]) (Nat.le_of_ble_eq_true rfl) ?_
    intro p e s m below meth c C
    refine g_aload_n C dX6_overrides_0 rfl ?_
    refine g_iload_n C dX6_overrides_1 rfl ?_
    refine g_callVr 0 C (cr_X6_isMember) mw_X6_isMember ml_X6_97 rfl rfl rfl rfl (Nat.le_of_ble_eq_true rfl) dX6_overrides_2 ⟨Nat.le_of_ble_eq_true rfl, Nat.le_of_ble_eq_true rfl⟩ ⟨Nat.le_of_ble_eq_true rfl, Nat.le_of_ble_eq_true rfl⟩ ?_
    refine g_ifb_eq (tgt := 16) C dX6_overrides_5 (by decide) (fun h5 => ?_) (fun h5 => ?_)
    · refine g_bipush (v := -2) C dX6_overrides_16 (by decide) ?_
      refine g_goto (tgt := 35) C dX6_overrides_18 (by decide) ?_
      exact g_iret C dX6_overrides_35 ⟨rt_i (by simp [aOvr, hx]), rfl⟩
    · exact absurd h5 (by simp [hx])
  rcases isM_cases hW y with hy | ⟨u, hu, rfl⟩
  · refine Ct.of 0 (by decide) (by simp [Value.category]) (Nat.le_of_ble_eq_true rfl) ?_
    intro p e s m below meth c C
    refine g_aload_n C dX6_overrides_0 rfl ?_
    refine g_iload_n C dX6_overrides_1 rfl ?_
    refine g_callVr 0 C (cr_X6_isMember) mw_X6_isMember ml_X6_97 rfl rfl rfl rfl (Nat.le_of_ble_eq_true rfl) dX6_overrides_2 ⟨Nat.le_of_ble_eq_true rfl, Nat.le_of_ble_eq_true rfl⟩ ⟨Nat.le_of_ble_eq_true rfl, Nat.le_of_ble_eq_true rfl⟩ ?_
    refine g_ifb_eq (tgt := 16) C dX6_overrides_5 (by decide) (fun h5 => ?_) (fun h5 => ?_)
    · exact absurd h5 (by simp [isM_nI hW ht])
    · refine g_aload_n C dX6_overrides_8 rfl ?_
      refine g_iload_n C dX6_overrides_9 rfl ?_
      refine g_callVr 0 C (cr_X6_isMember) mw_X6_isMember ml_X6_97 rfl rfl rfl rfl (Nat.le_of_ble_eq_true rfl) dX6_overrides_10 ⟨Nat.le_of_ble_eq_true rfl, Nat.le_of_ble_eq_true rfl⟩ ⟨Nat.le_of_ble_eq_true rfl, Nat.le_of_ble_eq_true rfl⟩ ?_
      refine g_ifb_ne (tgt := 21) C dX6_overrides_13 (by decide) (fun h13 => ?_) (fun h13 => ?_)
      · exact absurd h13 (by simp [hy])
      · refine g_bipush (v := -2) C dX6_overrides_16 (by decide) ?_
        refine g_goto (tgt := 35) C dX6_overrides_18 (by decide) ?_
        exact g_iret C dX6_overrides_35 ⟨rt_i (by simp [aOvr, hy]), rfl⟩
  refine Ct.of 0 (by decide) (by simp [Value.category]) (Nat.le_of_ble_eq_true rfl) ?_
  intro p e s m below meth c C
  refine g_aload_n C dX6_overrides_0 rfl ?_
  refine g_iload_n C dX6_overrides_1 rfl ?_
  refine g_callVr 0 C (cr_X6_isMember) mw_X6_isMember ml_X6_97 rfl rfl rfl rfl (Nat.le_of_ble_eq_true rfl) dX6_overrides_2 ⟨Nat.le_of_ble_eq_true rfl, Nat.le_of_ble_eq_true rfl⟩ ⟨Nat.le_of_ble_eq_true rfl, Nat.le_of_ble_eq_true rfl⟩ ?_
  refine g_ifb_eq (tgt := 16) C dX6_overrides_5 (by decide) (fun h5 => ?_) (fun h5 => ?_)
  · exact absurd h5 (by simp [isM_nI hW ht])
  · refine g_aload_n C dX6_overrides_8 rfl ?_
    refine g_iload_n C dX6_overrides_9 rfl ?_
    refine g_callVr 0 C (cr_X6_isMember) mw_X6_isMember ml_X6_97 rfl rfl rfl rfl (Nat.le_of_ble_eq_true rfl) dX6_overrides_10 ⟨Nat.le_of_ble_eq_true rfl, Nat.le_of_ble_eq_true rfl⟩ ⟨Nat.le_of_ble_eq_true rfl, Nat.le_of_ble_eq_true rfl⟩ ?_
    refine g_ifb_ne (tgt := 21) C dX6_overrides_13 (by decide) (fun h13 => ?_) (fun h13 => ?_)
    · refine g_aload_n C dX6_overrides_21 rfl ?_
      refine g_iload_n C dX6_overrides_22 rfl ?_
      refine g_iload_n C dX6_overrides_23 rfl ?_
      refine g_callVr 0 C (cr_X6_isOver hW (by omega) (by omega)) mw_X6_isOver ml_X6_129 rfl rfl rfl rfl (Nat.le_of_ble_eq_true rfl) dX6_overrides_24 ⟨Nat.le_of_ble_eq_true rfl, Nat.le_of_ble_eq_true rfl⟩ ⟨Nat.le_of_ble_eq_true rfl, Nat.le_of_ble_eq_true rfl⟩ ?_
      refine g_ifb_eq (tgt := 34) C dX6_overrides_27 (by decide) (fun h27 => ?_) (fun h27 => ?_)
      · refine g_iconst (v := 0) C dX6_overrides_34 (by decide) ?_
        exact g_iret C dX6_overrides_35 ⟨rt_i (by simp [aOvr, isM_nI hW ht, isM_nI hW hu, cl (show t < 2400 by omega), cl (show u < 2400 by omega), h27, b2i]), rfl⟩
      · refine g_iconst (v := 1) C dX6_overrides_30 (by decide) ?_
        refine g_goto (tgt := 35) C dX6_overrides_31 (by decide) ?_
        exact g_iret C dX6_overrides_35 ⟨rt_i (by simp [aOvr, isM_nI hW ht, isM_nI hW hu, cl (show t < 2400 by omega), cl (show u < 2400 by omega), h27, b2i]), rfl⟩
    · exact absurd h13 (by simp [isM_nI hW hu])
set_option maxRecDepth 100000 in
set_option maxHeartbeats 4000000 in
theorem cr_X6_hides {l : Launch} {D : va_G} {cI cZ : ClassId} {b : Nat → Nat} {τ : St} (hW : W0 τ) {x y : Int32} : Cr l yX6_hides cX6_hides 3 (some .int) 4 87 D cI cZ (pM b cI cZ) [.ref (b 0), .int x, .int y] τ (aHid τ x y) := by
  have hTl := w0_tl hW
  have hMl := w0_ml hW
  have cl : ∀ {z : Nat}, z < 2400 → nN (nI z) = z := fun h => nI_clamp (by omega)
  rcases isM_cases hW x with hx | ⟨t, ht, rfl⟩
  · refine Ct.of 0 (by decide) (by simp [Value.category]) (Nat.le_of_ble_eq_true rfl) ?_
    intro p e s m below meth c C
    refine g_aload_n C dX6_hides_0 rfl ?_
    refine g_iload_n C dX6_hides_1 rfl ?_
    refine g_callVr 0 C (cr_X6_isMember) mw_X6_isMember ml_X6_97 rfl rfl rfl rfl (Nat.le_of_ble_eq_true rfl) dX6_hides_2 ⟨Nat.le_of_ble_eq_true rfl, Nat.le_of_ble_eq_true rfl⟩ ⟨Nat.le_of_ble_eq_true rfl, Nat.le_of_ble_eq_true rfl⟩ ?_
    refine g_ifb_eq (tgt := 16) C dX6_hides_5 (by decide) (fun h5 => ?_) (fun h5 => ?_)
    · refine g_bipush (v := -2) C dX6_hides_16 (by decide) ?_
      refine g_goto (tgt := 35) C dX6_hides_18 (by decide) ?_
      exact g_iret C dX6_hides_35 ⟨rt_i (by simp [aHid, hx]), rfl⟩
    · exact absurd h5 (by simp [hx])
  rcases isM_cases hW y with hy | ⟨u, hu, rfl⟩
  · refine Ct.of 0 (by decide) (by simp [Value.category]) (Nat.le_of_ble_eq_true rfl) ?_
    intro p e s m below meth c C
    refine g_aload_n C dX6_hides_0 rfl ?_
    refine g_iload_n C dX6_hides_1 rfl ?_
    refine g_callVr 0 C (cr_X6_isMember) mw_X6_isMember ml_X6_97 rfl rfl rfl rfl (Nat.le_of_ble_eq_true rfl) dX6_hides_2 ⟨Nat.le_of_ble_eq_true rfl, Nat.le_of_ble_eq_true rfl⟩ ⟨Nat.le_of_ble_eq_true rfl, Nat.le_of_ble_eq_true rfl⟩ ?_
    refine g_ifb_eq (tgt := 16) C dX6_hides_5 (by decide) (fun h5 => ?_) (fun h5 => ?_)
    · exact absurd h5 (by simp [isM_nI hW ht])
    · refine g_aload_n C dX6_hides_8 rfl ?_
      refine g_iload_n C dX6_hides_9 rfl ?_
      refine g_callVr 0 C (cr_X6_isMember) mw_X6_isMember ml_X6_97 rfl rfl rfl rfl (Nat.le_of_ble_eq_true rfl) dX6_hides_10 ⟨Nat.le_of_ble_eq_true rfl, Nat.le_of_ble_eq_true rfl⟩ ⟨Nat.le_of_ble_eq_true rfl, Nat.le_of_ble_eq_true rfl⟩ ?_
      refine g_ifb_ne (tgt := 21) C dX6_hides_13 (by decide) (fun h13 => ?_) (fun h13 => ?_)
      · exact absurd h13 (by simp [hy])
      · refine g_bipush (v := -2) C dX6_hides_16 (by decide) ?_
        refine g_goto (tgt := 35) C dX6_hides_18 (by decide) ?_
        exact g_iret C dX6_hides_35 ⟨rt_i (by simp [aHid, hy]), rfl⟩
  refine Ct.of 0 (by decide) (by simp [Value.category]) (Nat.le_of_ble_eq_true rfl) ?_
  intro p e s m below meth c C
  refine g_aload_n C dX6_hides_0 rfl ?_
  refine g_iload_n C dX6_hides_1 rfl ?_
  refine g_callVr 0 C (cr_X6_isMember) mw_X6_isMember ml_X6_97 rfl rfl rfl rfl (Nat.le_of_ble_eq_true rfl) dX6_hides_2 ⟨Nat.le_of_ble_eq_true rfl, Nat.le_of_ble_eq_true rfl⟩ ⟨Nat.le_of_ble_eq_true rfl, Nat.le_of_ble_eq_true rfl⟩ ?_
  refine g_ifb_eq (tgt := 16) C dX6_hides_5 (by decide) (fun h5 => ?_) (fun h5 => ?_)
  · exact absurd h5 (by simp [isM_nI hW ht])
  · refine g_aload_n C dX6_hides_8 rfl ?_
    refine g_iload_n C dX6_hides_9 rfl ?_
    refine g_callVr 0 C (cr_X6_isMember) mw_X6_isMember ml_X6_97 rfl rfl rfl rfl (Nat.le_of_ble_eq_true rfl) dX6_hides_10 ⟨Nat.le_of_ble_eq_true rfl, Nat.le_of_ble_eq_true rfl⟩ ⟨Nat.le_of_ble_eq_true rfl, Nat.le_of_ble_eq_true rfl⟩ ?_
    refine g_ifb_ne (tgt := 21) C dX6_hides_13 (by decide) (fun h13 => ?_) (fun h13 => ?_)
    · refine g_aload_n C dX6_hides_21 rfl ?_
      refine g_iload_n C dX6_hides_22 rfl ?_
      refine g_iload_n C dX6_hides_23 rfl ?_
      refine g_callVr 0 C (cr_X6_hidesIt hW (by omega) (by omega)) mw_X6_hidesIt ml_X6_132 rfl rfl rfl rfl (Nat.le_of_ble_eq_true rfl) dX6_hides_24 ⟨Nat.le_of_ble_eq_true rfl, Nat.le_of_ble_eq_true rfl⟩ ⟨Nat.le_of_ble_eq_true rfl, Nat.le_of_ble_eq_true rfl⟩ ?_
      refine g_ifb_eq (tgt := 34) C dX6_hides_27 (by decide) (fun h27 => ?_) (fun h27 => ?_)
      · refine g_iconst (v := 0) C dX6_hides_34 (by decide) ?_
        exact g_iret C dX6_hides_35 ⟨rt_i (by simp [aHid, isM_nI hW ht, isM_nI hW hu, cl (show t < 2400 by omega), cl (show u < 2400 by omega), h27, b2i]), rfl⟩
      · refine g_iconst (v := 1) C dX6_hides_30 (by decide) ?_
        refine g_goto (tgt := 35) C dX6_hides_31 (by decide) ?_
        exact g_iret C dX6_hides_35 ⟨rt_i (by simp [aHid, isM_nI hW ht, isM_nI hW hu, cl (show t < 2400 by omega), cl (show u < 2400 by omega), h27, b2i]), rfl⟩
    · exact absurd h13 (by simp [isM_nI hW hu])
set_option maxRecDepth 100000 in
set_option maxHeartbeats 4000000 in
theorem cr_X6_chosen {l : Launch} {D : va_G} {cI cZ : ClassId} {b : Nat → Nat} {τ : St} (hW : W0 τ) {x y : Int32} : Cr l yX6_chosen cX6_chosen 3 (some .int) 5 113 D cI cZ (pM b cI cZ) [.ref (b 0), .int x, .int y] τ (aChs τ x y) := by
  have hTl := w0_tl hW
  have hMl := w0_ml hW
  have cl : ∀ {z : Nat}, z < 2400 → nN (nI z) = z := fun h => nI_clamp (by omega)
  rcases isT_cases hW x with hx | ⟨t, ht, rfl⟩
  · refine Ct.of 0 (by decide) (by simp [Value.category]) (Nat.le_of_ble_eq_true rfl) ?_
    intro p e s m below meth c C
    refine g_aload_n C dX6_chosen_0 rfl ?_
    refine g_iload_n C dX6_chosen_1 rfl ?_
    refine g_callVr 0 C (cr_X6_isType) mw_X6_isType ml_X6_83 rfl rfl rfl rfl (Nat.le_of_ble_eq_true rfl) dX6_chosen_2 ⟨Nat.le_of_ble_eq_true rfl, Nat.le_of_ble_eq_true rfl⟩ ⟨Nat.le_of_ble_eq_true rfl, Nat.le_of_ble_eq_true rfl⟩ ?_
    refine g_ifb_eq (tgt := 16) C dX6_chosen_5 (by decide) (fun h5 => ?_) (fun h5 => ?_)
    · refine g_bipush (v := -2) C dX6_chosen_16 (by decide) ?_
      exact g_iret C dX6_chosen_18 ⟨rt_i (by simp [aChs, hx]), rfl⟩
    · exact absurd h5 (by simp [hx])
  rcases isM_cases hW y with hy | ⟨u, hu, rfl⟩
  · refine Ct.of 0 (by decide) (by simp [Value.category]) (Nat.le_of_ble_eq_true rfl) ?_
    intro p e s m below meth c C
    refine g_aload_n C dX6_chosen_0 rfl ?_
    refine g_iload_n C dX6_chosen_1 rfl ?_
    refine g_callVr 0 C (cr_X6_isType) mw_X6_isType ml_X6_83 rfl rfl rfl rfl (Nat.le_of_ble_eq_true rfl) dX6_chosen_2 ⟨Nat.le_of_ble_eq_true rfl, Nat.le_of_ble_eq_true rfl⟩ ⟨Nat.le_of_ble_eq_true rfl, Nat.le_of_ble_eq_true rfl⟩ ?_
    refine g_ifb_eq (tgt := 16) C dX6_chosen_5 (by decide) (fun h5 => ?_) (fun h5 => ?_)
    · exact absurd h5 (by simp [isT_nI hW ht])
    · refine g_aload_n C dX6_chosen_8 rfl ?_
      refine g_iload_n C dX6_chosen_9 rfl ?_
      refine g_callVr 0 C (cr_X6_isMember) mw_X6_isMember ml_X6_97 rfl rfl rfl rfl (Nat.le_of_ble_eq_true rfl) dX6_chosen_10 ⟨Nat.le_of_ble_eq_true rfl, Nat.le_of_ble_eq_true rfl⟩ ⟨Nat.le_of_ble_eq_true rfl, Nat.le_of_ble_eq_true rfl⟩ ?_
      refine g_ifb_ne (tgt := 19) C dX6_chosen_13 (by decide) (fun h13 => ?_) (fun h13 => ?_)
      · exact absurd h13 (by simp [hy])
      · refine g_bipush (v := -2) C dX6_chosen_16 (by decide) ?_
        exact g_iret C dX6_chosen_18 ⟨rt_i (by simp [aChs, hy]), rfl⟩
  refine Ct.of 0 (by decide) (by simp [Value.category]) (Nat.le_of_ble_eq_true rfl) ?_
  intro p e s m below meth c C
  have hof_u := w0_ofl hW hu
  refine g_aload_n C dX6_chosen_0 rfl ?_
  refine g_iload_n C dX6_chosen_1 rfl ?_
  refine g_callVr 0 C (cr_X6_isType) mw_X6_isType ml_X6_83 rfl rfl rfl rfl (Nat.le_of_ble_eq_true rfl) dX6_chosen_2 ⟨Nat.le_of_ble_eq_true rfl, Nat.le_of_ble_eq_true rfl⟩ ⟨Nat.le_of_ble_eq_true rfl, Nat.le_of_ble_eq_true rfl⟩ ?_
  refine g_ifb_eq (tgt := 16) C dX6_chosen_5 (by decide) (fun h5 => ?_) (fun h5 => ?_)
  · exact absurd h5 (by simp [isT_nI hW ht])
  · refine g_aload_n C dX6_chosen_8 rfl ?_
    refine g_iload_n C dX6_chosen_9 rfl ?_
    refine g_callVr 0 C (cr_X6_isMember) mw_X6_isMember ml_X6_97 rfl rfl rfl rfl (Nat.le_of_ble_eq_true rfl) dX6_chosen_10 ⟨Nat.le_of_ble_eq_true rfl, Nat.le_of_ble_eq_true rfl⟩ ⟨Nat.le_of_ble_eq_true rfl, Nat.le_of_ble_eq_true rfl⟩ ?_
    refine g_ifb_ne (tgt := 19) C dX6_chosen_13 (by decide) (fun h13 => ?_) (fun h13 => ?_)
    · refine g_aload_n C dX6_chosen_19 rfl ?_
      refine gf_X6_7 C dX6_chosen_20 ?_
      refine g_iload_n C dX6_chosen_23 rfl ?_
      refine gM_ln1 C (by omega) dX6_chosen_24 ?_
      refine g_iconst (v := 2) C dX6_chosen_25 (by decide) ?_
      refine g_icmp_eq (tgt := 51) C dX6_chosen_26 (by decide) (fun h26 => ?_) (fun h26 => ?_)
      · refine g_bipush (v := -3) C dX6_chosen_51 (by decide) ?_
        exact g_iret C dX6_chosen_53 ⟨rt_i (by simp [aChs, isT_nI hW ht, isM_nI hW hu, cl (show t < 2400 by omega), cl (show u < 2400 by omega), *]), rfl⟩
      · refine g_aload_n C dX6_chosen_29 rfl ?_
        refine g_iload_n C dX6_chosen_30 rfl ?_
        refine g_callVr 0 C (cr_X6_isPlain (by omega)) mw_X6_isPlain ml_X6_135 rfl rfl rfl rfl (Nat.le_of_ble_eq_true rfl) dX6_chosen_31 ⟨Nat.le_of_ble_eq_true rfl, Nat.le_of_ble_eq_true rfl⟩ ⟨Nat.le_of_ble_eq_true rfl, Nat.le_of_ble_eq_true rfl⟩ ?_
        refine g_ifb_eq (tgt := 51) C dX6_chosen_34 (by decide) (fun h34 => ?_) (fun h34 => ?_)
        · refine g_bipush (v := -3) C dX6_chosen_51 (by decide) ?_
          exact g_iret C dX6_chosen_53 ⟨rt_i (by simp [aChs, isT_nI hW ht, isM_nI hW hu, cl (show t < 2400 by omega), cl (show u < 2400 by omega), *]), rfl⟩
        · refine g_aload_n C dX6_chosen_37 rfl ?_
          refine g_iload_n C dX6_chosen_38 rfl ?_
          refine g_aload_n C dX6_chosen_39 rfl ?_
          refine gf_X6_35 C dX6_chosen_40 ?_
          refine g_iload_n C dX6_chosen_43 rfl ?_
          refine gM_lv9 C (by omega) (w0_of hW (by omega)) dX6_chosen_44 ?_
          refine g_callVr 0 C (cr_X6_isSub hW (by omega) (by omega)) mw_X6_isSub ml_X6_94 rfl rfl rfl rfl (Nat.le_of_ble_eq_true rfl) dX6_chosen_45 ⟨Nat.le_of_ble_eq_true rfl, Nat.le_of_ble_eq_true rfl⟩ ⟨Nat.le_of_ble_eq_true rfl, Nat.le_of_ble_eq_true rfl⟩ ?_
          refine g_ifb_ne (tgt := 54) C dX6_chosen_48 (by decide) (fun h48 => ?_) (fun h48 => ?_)
          · refine g_aload_n C dX6_chosen_54 rfl ?_
            refine g_iload_n C dX6_chosen_55 rfl ?_
            refine g_iload_n C dX6_chosen_56 rfl ?_
            refine g_callVr 0 C (cr_X6_choose hW ht hu) mw_X6_choose ml_X6_141 rfl rfl rfl rfl (Nat.le_of_ble_eq_true rfl) dX6_chosen_57 ⟨Nat.le_of_ble_eq_true rfl, Nat.le_of_ble_eq_true rfl⟩ ⟨Nat.le_of_ble_eq_true rfl, Nat.le_of_ble_eq_true rfl⟩ ?_
            exact g_iret C dX6_chosen_60 ⟨rt_i (by simp [aChs, isT_nI hW ht, isM_nI hW hu, cl (show t < 2400 by omega), cl (show u < 2400 by omega), *]), rfl⟩
          · refine g_bipush (v := -3) C dX6_chosen_51 (by decide) ?_
            exact g_iret C dX6_chosen_53 ⟨rt_i (by simp [aChs, isT_nI hW ht, isM_nI hW hu, cl (show t < 2400 by omega), cl (show u < 2400 by omega), *]), rfl⟩
    · exact absurd h13 (by simp [isM_nI hW hu])
set_option maxRecDepth 100000 in
set_option maxHeartbeats 4000000 in
theorem cr_X6_bridges {l : Launch} {D : va_G} {cI cZ : ClassId} {b : Nat → Nat} {τ : St} (hW : W0 τ) {x : Int32} : Cr l yX6_bridges cX6_bridges 7 (some .int) 2 43 D cI cZ (pM b cI cZ) [.ref (b 0), .int x] τ (aBrg τ x) := by
  have hTl := w0_tl hW
  have hMl := w0_ml hW
  have cl : ∀ {z : Nat}, z < 2400 → nN (nI z) = z := fun h => nI_clamp (by omega)
  rcases isT_cases hW x with hx | ⟨t, ht, rfl⟩
  · refine Ct.of 5 (by decide) (by simp [Value.category]) (Nat.le_of_ble_eq_true rfl) ?_
    intro p e s m below meth c C
    refine g_aload_n C dX6_bridges_0 rfl ?_
    refine g_iload_n C dX6_bridges_1 rfl ?_
    refine g_callVr 0 C (cr_X6_isType) mw_X6_isType ml_X6_83 rfl rfl rfl rfl (Nat.le_of_ble_eq_true rfl) dX6_bridges_2 ⟨Nat.le_of_ble_eq_true rfl, Nat.le_of_ble_eq_true rfl⟩ ⟨Nat.le_of_ble_eq_true rfl, Nat.le_of_ble_eq_true rfl⟩ ?_
    refine g_ifb_ne (tgt := 11) C dX6_bridges_5 (by decide) (fun h5 => ?_) (fun h5 => ?_)
    · exact absurd h5 (by simp [hx])
    · refine g_bipush (v := -2) C dX6_bridges_8 (by decide) ?_
      exact g_iret C dX6_bridges_10 ⟨rt_i (by simp [aBrg, hx]), rfl⟩
  refine Ct.of 5 (by decide) (by simp [Value.category]) (Nat.le_of_ble_eq_true rfl) ?_
  intro p e s m below meth c C
  have loop : ∀ (n i : Nat), i ≤ nM τ → nM τ + 1 ≤ i + n → G p l e (rmo 2 43) s m ([.ref (b 0), .int (nI t)] : List Value).toArray below meth c D (va_A (pM b cI cZ τ) s.heap.size) 0 0 (Qe below ([.ref (b 0), .int (nI t)] : List Value).toArray s D (pM b cI cZ) τ (fun r u => r = some (.int (aBrg τ (nI t))) ∧ u = τ)) 7 (pM b cI cZ τ) 15 [some (.ref (b 0)), some (.int (nI t)), some (.int (nI (sumN i (brM τ t)))), some (.int (nI i)), none, none, none] [] := by
    intro n
    induction n with
    | zero => intro i h1 h2; omega
    | succ n ih =>
      intro i h1 h2
      have hsl := sumN_le (brM τ t) 20 brM_le i
      have j146 : i < nM τ → G p l e (rmo 2 43) s m ([.ref (b 0), .int (nI t)] : List Value).toArray below meth c D (va_A (pM b cI cZ τ) s.heap.size) 0 0 (Qe below ([.ref (b 0), .int (nI t)] : List Value).toArray s D (pM b cI cZ) τ (fun r u => r = some (.int (aBrg τ (nI t))) ∧ u = τ)) 7 (pM b cI cZ τ) 146 [some (.ref (b 0)), some (.int (nI t)), some (.int (nI (sumN (i + 1) (brM τ t)))), some (.int (nI i)), none, none, none] [] := by
        intro hi
        refine g_iincN C dX6_bridges_146 rfl (by decide) ?_
        refine g_goto (tgt := 15) C dX6_bridges_149 (by decide) ?_
        exact ih (i + 1) (by omega) (by omega)
      have vl : i < nM τ → (decide (Of τ i = t) && !Hs τ i 8 && !Hs τ i 32) = true → ∀ (k v : Nat), v ≤ 20 → 21 ≤ v + k → G p l e (rmo 2 43) s m ([.ref (b 0), .int (nI t)] : List Value).toArray below meth c D (va_A (pM b cI cZ τ) s.heap.size) 0 0 (Qe below ([.ref (b 0), .int (nI t)] : List Value).toArray s D (pM b cI cZ) τ (fun r u => r = some (.int (aBrg τ (nI t))) ∧ u = τ)) 7 (pM b cI cZ τ) 54 [some (.ref (b 0)), some (.int (nI t)), some (.int (nI (sumN i (brM τ t) + cntN v (brW τ i)))), some (.int (nI i)), some (.int (nI v)), none, none] [] := by
        intro hi hb k
        induction k with
        | zero => intro v h1 h2; omega
        | succ k ihk =>
          intro v hv1 hv2
          have hcl := cntN_le (brW τ i) v
          have j140 : v < 20 → G p l e (rmo 2 43) s m ([.ref (b 0), .int (nI t)] : List Value).toArray below meth c D (va_A (pM b cI cZ τ) s.heap.size) 0 0 (Qe below ([.ref (b 0), .int (nI t)] : List Value).toArray s D (pM b cI cZ) τ (fun r u => r = some (.int (aBrg τ (nI t))) ∧ u = τ)) 7 (pM b cI cZ τ) 140 [some (.ref (b 0)), some (.int (nI t)), some (.int (nI (sumN i (brM τ t) + cntN (v + 1) (brW τ i)))), some (.int (nI i)), some (.int (nI v)), none, none] [] := by
            intro hv
            refine g_iincN C dX6_bridges_140 rfl (by decide) ?_
            refine g_goto (tgt := 54) C dX6_bridges_143 (by decide) ?_
            exact ihk (v + 1) (by omega) (by omega)
          have ol : v < 20 → ∀ (q : Nat) (o : Nat) (z : Bool), o ≤ nM τ → nM τ + 1 ≤ o + q → z = anyN o (brV τ i v) → G p l e (rmo 2 43) s m ([.ref (b 0), .int (nI t)] : List Value).toArray below meth c D (va_A (pM b cI cZ τ) s.heap.size) 0 0 (Qe below ([.ref (b 0), .int (nI t)] : List Value).toArray s D (pM b cI cZ) τ (fun r u => r = some (.int (aBrg τ (nI t))) ∧ u = τ)) 7 (pM b cI cZ τ) 67 [some (.ref (b 0)), some (.int (nI t)), some (.int (nI (sumN i (brM τ t) + cntN v (brW τ i)))), some (.int (nI i)), some (.int (nI v)), some (.int (b2i z)), some (.int (nI o))] [] := by
            intro hv q
            induction q with
            | zero => intro o z h1 h2; omega
            | succ q ihq =>
              intro o z ho1 ho2 hz
              have j110 : o < nM τ → ∀ (z : Bool), z = anyN (o + 1) (brV τ i v) → G p l e (rmo 2 43) s m ([.ref (b 0), .int (nI t)] : List Value).toArray below meth c D (va_A (pM b cI cZ τ) s.heap.size) 0 0 (Qe below ([.ref (b 0), .int (nI t)] : List Value).toArray s D (pM b cI cZ) τ (fun r u => r = some (.int (aBrg τ (nI t))) ∧ u = τ)) 7 (pM b cI cZ τ) 110 [some (.ref (b 0)), some (.int (nI t)), some (.int (nI (sumN i (brM τ t) + cntN v (brW τ i)))), some (.int (nI i)), some (.int (nI v)), some (.int (b2i z)), some (.int (nI o))] [] := by
                intro ho z hz
                refine g_iincN C dX6_bridges_110 rfl (by decide) ?_
                refine g_goto (tgt := 67) C dX6_bridges_113 (by decide) ?_
                exact ihq (o + 1) z (by omega) (by omega) hz
              refine g_iload C dX6_bridges_67 rfl ?_
              refine g_aload_n C dX6_bridges_69 rfl ?_
              refine gn_X6_70 C (w0_m hW) dX6_bridges_70 ?_
              refine g_icmpN_ge (tgt := 116) C (by omega) (by omega) dX6_bridges_73 (by decide) (fun h73 => ?_) (fun h73 => ?_)
              · refine g_iload_n C dX6_bridges_116 rfl ?_
                refine g_iload C dX6_bridges_117 rfl ?_
                refine g_ifb_eq (tgt := 137) C dX6_bridges_119 (by decide) (fun h119 => ?_) (fun h119 => ?_)
                · refine g_iconstN 0 C dX6_bridges_137 (by decide) ?_
                  refine g_iaddN C dX6_bridges_138 ?_
                  refine g_istore_n C dX6_bridges_139 (by decide) ?_
                  (obtain rfl : o = nM τ := (by omega)); have e1 : cntN (v + 1) (brW τ i) = cntN v (brW τ i) + 0 := (by simp [cntN, brW, ← hz, h119]); have h := j140 hv; rw [e1, ← Nat.add_assoc] at h; exact h.weak (by simp [lvle, lst])
                · refine g_iload C dX6_bridges_122 rfl ?_
                  refine g_aload_n C dX6_bridges_124 rfl ?_
                  have hri := w0_rsl hW hi
                  refine gf_X6_41 C dX6_bridges_125 ?_
                  refine g_iload_n C dX6_bridges_128 rfl ?_
                  refine gM_lv11 C (by omega) (w0_rs hW (by omega)) dX6_bridges_129 ?_
                  refine g_icmpN_eq (tgt := 137) C (by omega) (by omega) dX6_bridges_130 (by decide) (fun h130 => ?_) (fun h130 => ?_)
                  · refine g_iconstN 0 C dX6_bridges_137 (by decide) ?_
                    refine g_iaddN C dX6_bridges_138 ?_
                    refine g_istore_n C dX6_bridges_139 (by decide) ?_
                    (obtain rfl : o = nM τ := (by omega)); have e1 : cntN (v + 1) (brW τ i) = cntN v (brW τ i) + 0 := (by simp [cntN, brW, ← hz, h119, h130]); have h := j140 hv; rw [e1, ← Nat.add_assoc] at h; exact h.weak (by simp [lvle, lst])
                  · refine g_iconstN 1 C dX6_bridges_133 (by decide) ?_
                    refine g_goto (tgt := 138) C dX6_bridges_134 (by decide) ?_
                    refine g_iaddN C dX6_bridges_138 ?_
                    refine g_istore_n C dX6_bridges_139 (by decide) ?_
                    (obtain rfl : o = nM τ := (by omega)); have e1 : cntN (v + 1) (brW τ i) = cntN v (brW τ i) + 1 := (by simp [cntN, brW, ← hz, h119, h130]); have h := j140 hv; rw [e1, ← Nat.add_assoc] at h; exact h.weak (by simp [lvle, lst])
              · refine g_iload C dX6_bridges_76 rfl ?_
                refine g_ifb_ne (tgt := 103) C dX6_bridges_78 (by decide) (fun h78 => ?_) (fun h78 => ?_)
                · refine g_iconst (v := 1) C dX6_bridges_103 (by decide) ?_
                  refine g_goto (tgt := 108) C dX6_bridges_104 (by decide) ?_
                  refine g_istore C dX6_bridges_108 (by decide) ?_
                  first | exact j110 (by omega) true (by simp only [anyN, ← hz]; first | (simp [h78]; done) | simp_all [brV]) | exact j110 (by omega) false (by simp only [anyN, ← hz]; simp_all [brV])
                · refine g_aload_n C dX6_bridges_81 rfl ?_
                  refine g_iload_n C dX6_bridges_82 rfl ?_
                  refine g_iload C dX6_bridges_83 rfl ?_
                  refine g_callVr 0 C (cr_X6_isOver hW (by omega) (by omega)) mw_X6_isOver ml_X6_129 rfl rfl rfl rfl (Nat.le_of_ble_eq_true rfl) dX6_bridges_85 ⟨Nat.le_of_ble_eq_true rfl, Nat.le_of_ble_eq_true rfl⟩ ⟨Nat.le_of_ble_eq_true rfl, Nat.le_of_ble_eq_true rfl⟩ ?_
                  refine g_ifb_eq (tgt := 107) C dX6_bridges_88 (by decide) (fun h88 => ?_) (fun h88 => ?_)
                  · refine g_iconst (v := 0) C dX6_bridges_107 (by decide) ?_
                    refine g_istore C dX6_bridges_108 (by decide) ?_
                    first | exact j110 (by omega) true (by simp only [anyN, ← hz]; first | (simp [h78]; done) | simp_all [brV]) | exact j110 (by omega) false (by simp only [anyN, ← hz]; simp_all [brV])
                  · refine g_aload_n C dX6_bridges_91 rfl ?_
                    have hro := w0_rsl hW ‹o < nM τ›
                    refine gf_X6_41 C dX6_bridges_92 ?_
                    refine g_iload C dX6_bridges_95 rfl ?_
                    refine gM_lv11 C (by omega) (w0_rs hW (by omega)) dX6_bridges_97 ?_
                    refine g_iload C dX6_bridges_98 rfl ?_
                    refine g_icmpN_ne (tgt := 107) C (by omega) (by omega) dX6_bridges_100 (by decide) (fun h100 => ?_) (fun h100 => ?_)
                    · refine g_iconst (v := 0) C dX6_bridges_107 (by decide) ?_
                      refine g_istore C dX6_bridges_108 (by decide) ?_
                      first | exact j110 (by omega) true (by simp only [anyN, ← hz]; first | (simp [h78]; done) | simp_all [brV]) | exact j110 (by omega) false (by simp only [anyN, ← hz]; simp_all [brV])
                    · refine g_iconst (v := 1) C dX6_bridges_103 (by decide) ?_
                      refine g_goto (tgt := 108) C dX6_bridges_104 (by decide) ?_
                      refine g_istore C dX6_bridges_108 (by decide) ?_
                      first | exact j110 (by omega) true (by simp only [anyN, ← hz]; first | (simp [h78]; done) | simp_all [brV]) | exact j110 (by omega) false (by simp only [anyN, ← hz]; simp_all [brV])
          refine g_iload C dX6_bridges_54 rfl ?_
          refine g_bipushN 20 C dX6_bridges_56 (by decide) ?_
          refine g_icmpN_ge (tgt := 146) C (by omega) (by omega) dX6_bridges_58 (by decide) (fun h58 => ?_) (fun h58 => ?_)
          · (obtain rfl : v = 20 := (by omega)); have h := j146 hi; rw [show sumN (i + 1) (brM τ t) = sumN i (brM τ t) + cntN 20 (brW τ i) by simp only [sumN, brM, hb, cond_true]] at h; exact h.weak (by simp [lvle, lst])
          · refine g_iconst (v := 0) C dX6_bridges_61 (by decide) ?_
            refine g_istore C dX6_bridges_62 (by decide) ?_
            refine g_iconstN 0 C dX6_bridges_64 (by decide) ?_
            refine g_istore C dX6_bridges_65 (by decide) ?_
            exact ol (by omega) (nM τ + 1) 0 false (by omega) (by omega) rfl
      refine g_iload_n C dX6_bridges_15 rfl ?_
      refine g_aload_n C dX6_bridges_16 rfl ?_
      refine gn_X6_70 C (w0_m hW) dX6_bridges_17 ?_
      refine g_icmpN_ge (tgt := 152) C (by omega) (by omega) dX6_bridges_20 (by decide) (fun h20 => ?_) (fun h20 => ?_)
      · refine g_iload_n C dX6_bridges_152 rfl ?_
        exact g_iret C dX6_bridges_153 ⟨rt_i (by obtain rfl : i = nM τ := (by omega); simp [aBrg, isT_nI hW ht, cl (show t < 2400 by omega)]), rfl⟩
      · refine g_aload_n C dX6_bridges_23 rfl ?_
        have hi : i < nM τ := ‹_›
        have hof_i := w0_ofl hW hi
        refine gf_X6_35 C dX6_bridges_24 ?_
        refine g_iload_n C dX6_bridges_27 rfl ?_
        refine gM_lv9 C (by omega) (w0_of hW (by omega)) dX6_bridges_28 ?_
        refine g_iload_n C dX6_bridges_29 rfl ?_
        refine g_icmpN_ne (tgt := 146) C (by omega) (by omega) dX6_bridges_30 (by decide) (fun h30 => ?_) (fun h30 => ?_)
        · have h := j146 hi; rw [show sumN (i + 1) (brM τ t) = sumN i (brM τ t) by simp [sumN, brM, *]] at h; exact h
        · refine g_aload_n C dX6_bridges_33 rfl ?_
          refine g_iload_n C dX6_bridges_34 rfl ?_
          refine g_callVr 0 C (cr_X6_isStatic (by omega)) mw_X6_isStatic ml_X6_117 rfl rfl rfl rfl (Nat.le_of_ble_eq_true rfl) dX6_bridges_35 ⟨Nat.le_of_ble_eq_true rfl, Nat.le_of_ble_eq_true rfl⟩ ⟨Nat.le_of_ble_eq_true rfl, Nat.le_of_ble_eq_true rfl⟩ ?_
          refine g_ifb_ne (tgt := 146) C dX6_bridges_38 (by decide) (fun h38 => ?_) (fun h38 => ?_)
          · have h := j146 hi; rw [show sumN (i + 1) (brM τ t) = sumN i (brM τ t) by simp [sumN, brM, *]] at h; exact h
          · refine g_aload_n C dX6_bridges_41 rfl ?_
            refine g_iload_n C dX6_bridges_42 rfl ?_
            refine g_bipush (v := 32) C dX6_bridges_43 (by decide) ?_
            refine g_callVr 0 C (cr_X6_has (by omega)) mw_X6_has ml_X6_100 rfl rfl rfl rfl (Nat.le_of_ble_eq_true rfl) dX6_bridges_45 ⟨Nat.le_of_ble_eq_true rfl, Nat.le_of_ble_eq_true rfl⟩ ⟨Nat.le_of_ble_eq_true rfl, Nat.le_of_ble_eq_true rfl⟩ ?_
            refine g_ifb_ne (tgt := 146) C dX6_bridges_48 (by decide) (fun h48 => ?_) (fun h48 => ?_)
            · have h := j146 hi; rw [show sumN (i + 1) (brM τ t) = sumN i (brM τ t) by simp [sumN, brM, *]] at h; exact h
            · refine g_iconstN 0 C dX6_bridges_51 (by decide) ?_
              refine g_istore C dX6_bridges_52 (by decide) ?_
              exact vl hi (by simp [*]) 21 0 (by omega) (by omega)
  refine g_aload_n C dX6_bridges_0 rfl ?_
  refine g_iload_n C dX6_bridges_1 rfl ?_
  refine g_callVr 0 C (cr_X6_isType) mw_X6_isType ml_X6_83 rfl rfl rfl rfl (Nat.le_of_ble_eq_true rfl) dX6_bridges_2 ⟨Nat.le_of_ble_eq_true rfl, Nat.le_of_ble_eq_true rfl⟩ ⟨Nat.le_of_ble_eq_true rfl, Nat.le_of_ble_eq_true rfl⟩ ?_
  refine g_ifb_ne (tgt := 11) C dX6_bridges_5 (by decide) (fun h5 => ?_) (fun h5 => ?_)
  · refine g_iconstN 0 C dX6_bridges_11 (by decide) ?_
    refine g_istore_n C dX6_bridges_12 (by decide) ?_
    refine g_iconstN 0 C dX6_bridges_13 (by decide) ?_
    refine g_istore_n C dX6_bridges_14 (by decide) ?_
    exact loop (nM τ + 1) 0 (by omega) (by omega)
  · exact absurd h5 (by simp [isT_nI hW ht])
set_option maxRecDepth 100000 in
set_option maxHeartbeats 4000000 in
theorem cr_X6_first {l : Launch} {D : va_G} {cI cZ : ClassId} {b : Nat → Nat} {τ : St} (hW : W0 τ) {x : Int32} : Cr l yX6_first cX6_first 7 (some .int) 2 43 D cI cZ (pM b cI cZ) [.ref (b 0), .int x] τ (aFst τ x) := by
  have hTl := w0_tl hW
  have hMl := w0_ml hW
  have cl : ∀ {z : Nat}, z < 2400 → nN (nI z) = z := fun h => nI_clamp (by omega)
  rcases isT_cases hW x with hx | ⟨t, ht, rfl⟩
  · refine Ct.of 5 (by decide) (by simp [Value.category]) (Nat.le_of_ble_eq_true rfl) ?_
    intro p e s m below meth c C
    refine g_aload_n C dX6_first_0 rfl ?_
    refine g_iload_n C dX6_first_1 rfl ?_
    refine g_callVr 0 C (cr_X6_isType) mw_X6_isType ml_X6_83 rfl rfl rfl rfl (Nat.le_of_ble_eq_true rfl) dX6_first_2 ⟨Nat.le_of_ble_eq_true rfl, Nat.le_of_ble_eq_true rfl⟩ ⟨Nat.le_of_ble_eq_true rfl, Nat.le_of_ble_eq_true rfl⟩ ?_
    refine g_ifb_ne (tgt := 11) C dX6_first_5 (by decide) (fun h5 => ?_) (fun h5 => ?_)
    · exact absurd h5 (by simp [hx])
    · refine g_bipush (v := -2) C dX6_first_8 (by decide) ?_
      exact g_iret C dX6_first_10 ⟨rt_i (by simp [aFst, hx]), rfl⟩
  refine Ct.of 5 (by decide) (by simp [Value.category]) (Nat.le_of_ble_eq_true rfl) ?_
  intro p e s m below meth c C
  have loop : ∀ (n i : Nat), i ≤ nM τ → nM τ + 1 ≤ i + n → G p l e (rmo 2 43) s m ([.ref (b 0), .int (nI t)] : List Value).toArray below meth c D (va_A (pM b cI cZ τ) s.heap.size) 0 0 (Qe below ([.ref (b 0), .int (nI t)] : List Value).toArray s D (pM b cI cZ) τ (fun r u => r = some (.int (aFst τ (nI t))) ∧ u = τ)) 7 (pM b cI cZ τ) 18 [some (.ref (b 0)), some (.int (nI t)), some (.int ((fsF τ t i).1)), some (.int ((fsF τ t i).2)), some (.int (nI i)), none, none] [] := by
    intro n
    induction n with
    | zero => intro i h1 h2; omega
    | succ n ih =>
      intro i h1 h2
      have j92 : i < nM τ → ∀ (q : Int32 × Int32), q = fsF τ t (i + 1) → G p l e (rmo 2 43) s m ([.ref (b 0), .int (nI t)] : List Value).toArray below meth c D (va_A (pM b cI cZ τ) s.heap.size) 0 0 (Qe below ([.ref (b 0), .int (nI t)] : List Value).toArray s D (pM b cI cZ) τ (fun r u => r = some (.int (aFst τ (nI t))) ∧ u = τ)) 7 (pM b cI cZ τ) 92 [some (.ref (b 0)), some (.int (nI t)), some (.int (q.1)), some (.int (q.2)), some (.int (nI i)), none, none] [] := by
        intro hi q hq
        subst hq
        refine g_iincN C dX6_first_92 rfl (by decide) ?_
        refine g_goto (tgt := 18) C dX6_first_95 (by decide) ?_
        exact ih (i + 1) (by omega) (by omega)
      have ol : i < nM τ → ∀ (q o : Nat), o ≤ nM τ → nM τ + 1 ≤ o + q → G p l e (rmo 2 43) s m ([.ref (b 0), .int (nI t)] : List Value).toArray below meth c D (va_A (pM b cI cZ τ) s.heap.size) 0 0 (Qe below ([.ref (b 0), .int (nI t)] : List Value).toArray s D (pM b cI cZ) τ (fun r u => r = some (.int (aFst τ (nI t))) ∧ u = τ)) 7 (pM b cI cZ τ) 33 [some (.ref (b 0)), some (.int (nI t)), some (.int ((fsF τ t i).1)), some (.int ((fsF τ t i).2)), some (.int (nI i)), some (.int (nI (cntN o (Ov τ i)))), some (.int (nI o))] [] := by
        intro hi q
        have hof_i := w0_ofl hW hi
        induction q with
        | zero => intro o h1 h2; omega
        | succ q ihq =>
          intro o ho1 ho2
          have hcl := cntN_le (Ov τ i) o
          refine g_iload C dX6_first_33 rfl ?_
          refine g_aload_n C dX6_first_35 rfl ?_
          refine gn_X6_70 C (w0_m hW) dX6_first_36 ?_
          refine g_icmpN_ge (tgt := 69) C (by omega) (by omega) dX6_first_39 (by decide) (fun h39 => ?_) (fun h39 => ?_)
          · refine g_aload_n C dX6_first_69 rfl ?_
            refine gf_X6_35 C dX6_first_70 ?_
            refine g_iload C dX6_first_73 rfl ?_
            refine gM_lv9 C (by omega) (w0_of hW (by omega)) dX6_first_75 ?_
            refine g_iload_n C dX6_first_76 rfl ?_
            refine g_icmpN_ne (tgt := 92) C (by omega) (by omega) dX6_first_77 (by decide) (fun h77 => ?_) (fun h77 => ?_)
            · (obtain rfl : o = nM τ := (by omega)); exact (j92 hi (fsF τ t i) (by simp only [fsF]; rw [if_neg (by simp [fsC, h77])])).weak (by simp [lvle, lst])
            · refine g_iload C dX6_first_80 rfl ?_
              refine g_iload_n C dX6_first_82 rfl ?_
              refine g_icmp_le (tgt := 92) C dX6_first_83 (by decide) (fun h83 => ?_) (fun h83 => ?_)
              · (obtain rfl : o = nM τ := (by omega)); exact (j92 hi (fsF τ t i) (by simp only [fsF]; rw [if_neg (by simp [fsC, Int32.not_lt.mpr h83])])).weak (by simp [lvle, lst])
              · refine g_iload C dX6_first_86 rfl ?_
                refine g_istore_n C dX6_first_88 (by decide) ?_
                refine g_iload C dX6_first_89 rfl ?_
                refine g_istore_n C dX6_first_91 (by decide) ?_
                (obtain rfl : o = nM τ := (by omega)); exact (j92 hi (nI i, nI (cntN (nM τ) (Ov τ i))) (by simp only [fsF]; rw [if_pos (by simp [fsC, h77, Int32.not_le.mp h83])])).weak (by simp [lvle, lst])
          · refine g_iload C dX6_first_42 rfl ?_
            refine g_aload_n C dX6_first_44 rfl ?_
            refine g_iload C dX6_first_45 rfl ?_
            refine g_iload C dX6_first_47 rfl ?_
            refine g_callVr 0 C (cr_X6_isOver hW (by omega) (by omega)) mw_X6_isOver ml_X6_129 rfl rfl rfl rfl (Nat.le_of_ble_eq_true rfl) dX6_first_49 ⟨Nat.le_of_ble_eq_true rfl, Nat.le_of_ble_eq_true rfl⟩ ⟨Nat.le_of_ble_eq_true rfl, Nat.le_of_ble_eq_true rfl⟩ ?_
            refine g_ifb_eq (tgt := 59) C dX6_first_52 (by decide) (fun h52 => ?_) (fun h52 => ?_)
            · refine g_iconstN 0 C dX6_first_59 (by decide) ?_
              refine g_iaddN C dX6_first_60 ?_
              refine g_istore C dX6_first_61 (by decide) ?_
              refine g_iincN C dX6_first_63 rfl (by decide) ?_
              refine g_goto (tgt := 33) C dX6_first_66 (by decide) ?_
              first | (have h := ihq (o + 1) (by omega) (by omega); rw [show cntN (o + 1) (Ov τ i) = cntN o (Ov τ i) + 1 by simp [cntN, *]] at h; exact h) | (have h := ihq (o + 1) (by omega) (by omega); rw [show cntN (o + 1) (Ov τ i) = cntN o (Ov τ i) + 0 by simp [cntN, *]] at h; exact h)
            · refine g_iconstN 1 C dX6_first_55 (by decide) ?_
              refine g_goto (tgt := 60) C dX6_first_56 (by decide) ?_
              refine g_iaddN C dX6_first_60 ?_
              refine g_istore C dX6_first_61 (by decide) ?_
              refine g_iincN C dX6_first_63 rfl (by decide) ?_
              refine g_goto (tgt := 33) C dX6_first_66 (by decide) ?_
              first | (have h := ihq (o + 1) (by omega) (by omega); rw [show cntN (o + 1) (Ov τ i) = cntN o (Ov τ i) + 1 by simp [cntN, *]] at h; exact h) | (have h := ihq (o + 1) (by omega) (by omega); rw [show cntN (o + 1) (Ov τ i) = cntN o (Ov τ i) + 0 by simp [cntN, *]] at h; exact h)
      refine g_iload C dX6_first_18 rfl ?_
      refine g_aload_n C dX6_first_20 rfl ?_
      refine gn_X6_70 C (w0_m hW) dX6_first_21 ?_
      refine g_icmpN_ge (tgt := 98) C (by omega) (by omega) dX6_first_24 (by decide) (fun h24 => ?_) (fun h24 => ?_)
      · refine g_iload_n C dX6_first_98 rfl ?_
        exact g_iret C dX6_first_99 ⟨rt_i (by obtain rfl : i = nM τ := (by omega); simp [aFst, isT_nI hW ht, cl (show t < 2400 by omega)]), rfl⟩
      · refine g_iconstN 0 C dX6_first_27 (by decide) ?_
        refine g_istore C dX6_first_28 (by decide) ?_
        refine g_iconstN 0 C dX6_first_30 (by decide) ?_
        refine g_istore C dX6_first_31 (by decide) ?_
        exact ol (by omega) (nM τ + 1) 0 (by omega) (by omega)
  refine g_aload_n C dX6_first_0 rfl ?_
  refine g_iload_n C dX6_first_1 rfl ?_
  refine g_callVr 0 C (cr_X6_isType) mw_X6_isType ml_X6_83 rfl rfl rfl rfl (Nat.le_of_ble_eq_true rfl) dX6_first_2 ⟨Nat.le_of_ble_eq_true rfl, Nat.le_of_ble_eq_true rfl⟩ ⟨Nat.le_of_ble_eq_true rfl, Nat.le_of_ble_eq_true rfl⟩ ?_
  refine g_ifb_ne (tgt := 11) C dX6_first_5 (by decide) (fun h5 => ?_) (fun h5 => ?_)
  · refine g_iconst (v := -1) C dX6_first_11 (by decide) ?_
    refine g_istore_n C dX6_first_12 (by decide) ?_
    refine g_iconst (v := -1) C dX6_first_13 (by decide) ?_
    refine g_istore_n C dX6_first_14 (by decide) ?_
    refine g_iconstN 0 C dX6_first_15 (by decide) ?_
    refine g_istore C dX6_first_16 (by decide) ?_
    exact loop (nM τ + 1) 0 (by omega) (by omega)
  · exact absurd h5 (by simp [isT_nI hW ht])
end
section
/-! ===== the reference: check, fault, told ===== -/
def JOk (τ : St) : Prop := (∀ t, t < nT τ → τ 1 t < 2 → ∀ o, o < nM τ → inhC τ t o = true → ChOk τ t o) ∧ ∀ t, t < nT τ → (jdg τ t).length ≤ 2400
/-- the same but for the noted faults -/
def Sm (τ u : St) : Prop := ∃ A B C n, u = lgS τ A B C n
theorem Sm_refl (τ : St) : Sm τ τ := ⟨τ 15, τ 16, τ 17, τ 0 3, by
  rw [← lgS_up]
  funext k j
  by_cases h : k = 0
  · subst h
    show τ 0 j = upd (τ 0) 3 (τ 0 3) j
    by_cases hj : j = 3 <;> simp [upd, hj]
  · simp only [up2, nbeq h, cond_false]⟩
theorem Lg.sm {τ u : St} {L : List Ft} (h : Lg τ L u) : Sm τ u := by
  obtain ⟨A, B, C, e, -⟩ := h
  exact ⟨A, B, C, _, e⟩
theorem lgS_lgS {τ : St} {A B C A' B' C' : Nat → Int32} {n n' : Int32} : lgS (lgS τ A B C n) A' B' C' n' = lgS τ A' B' C' n' := by
  funext k
  by_cases h5 : k = 15
  · subst h5; rfl
  by_cases h6 : k = 16
  · subst h6; rfl
  by_cases h7 : k = 17
  · subst h7; rfl
  by_cases h : k = 0
  · subst h
    show upd (upd (τ 0) 3 n) 3 n' = upd (τ 0) 3 n'
    exact upd_upd
  simp only [lgS, nbeq h5, nbeq h6, nbeq h7, nbeq h, cond_false]
theorem innL_lg {τ : St} {A B C : Nat → Int32} {n : Int32} {m : Nat} : ∀ j, innL (lgS τ A B C n) m j = innL τ m j
  | 0 => rfl
  | j + 1 => by simp only [innL, innL_lg j]; rfl
theorem jdO_lg {τ : St} {A B C : Nat → Int32} {n : Int32} {t : Nat} : ∀ j, jdO (lgS τ A B C n) t j = jdO τ t j
  | 0 => rfl
  | j + 1 => by
    simp only [jdO, jdO_lg j, ownL, innL_lg]; rfl
theorem inhO_lg {τ : St} {A B C : Nat → Int32} {n : Int32} {t : Nat} : ∀ j, inhO (lgS τ A B C n) t j = inhO τ t j
  | 0 => rfl
  | j + 1 => by simp only [inhO, inhO_lg j]; rfl
theorem jdg_lg {τ : St} {A B C : Nat → Int32} {n : Int32} {t : Nat} : jdg (lgS τ A B C n) t = jdg τ t := by
  simp only [jdg, jdO_lg, inhO_lg]; rfl
theorem Lg_lg {τ u : St} {A B C : Nat → Int32} {n : Int32} {L : List Ft} (h : Lg (lgS τ A B C n) L u) : Lg τ L u := by
  obtain ⟨A', B', C', e, h⟩ := h
  exact ⟨A', B', C', by rw [e, lgS_lgS], h⟩
theorem JOk_lg {τ : St} {A B C : Nat → Int32} {n : Int32} (h : JOk τ) : JOk (lgS τ A B C n) := ⟨h.1, fun t ht => by rw [jdg_lg]; exact h.2 t ht⟩
theorem inB_casesL {x : Int32} {n : Nat} (hn : n ≤ 2400) : (inB x 0 (nI n - 1) = false ∧ (x < 0 ∨ n ≤ nN x)) ∨ ∃ t, t < n ∧ x = nI t ∧ inB x 0 (nI n - 1) = true := by
  by_cases h0 : x < 0
  · left
    exact ⟨by simp [inB, Int32.not_le.mpr h0], Or.inl h0⟩
  · obtain ⟨j, hj, rfl⟩ := nI_of h0
    rcases Nat.lt_or_ge j n with q | q
    · have h1 : (0 : Int32) ≤ nI j := nI_pos' (by omega)
      have h2 : nI n - 1 = nI (n - 1) := pk_sub (a := n) (b := 1) (by omega)
      exact Or.inr ⟨j, q, rfl, by rw [inB, h2]; simp [h1, nI_le (a := j) (b := n - 1) (by omega) (by omega)]⟩
    · left
      refine ⟨?_, Or.inr (by rw [nN, nI_clamp hj]; exact q)⟩
      rcases Nat.eq_zero_or_pos n with h | h
      · subst h
        have : ¬ nI j ≤ nI 0 - 1 := by
          intro h2
          have h3 : nI 0 - 1 < (0 : Int32) := by decide
          exact absurd (Int32.lt_of_le_of_lt h2 h3) (nI_pos (n := j) hj)
        simp [inB, this]
      · have h2 : nI n - 1 = nI (n - 1) := pk_sub (a := n) (b := 1) (by omega)
        have : ¬ nI j ≤ nI (n - 1) := nI_ge (by omega) (by omega)
        simp [inB, h2, this]
set_option maxRecDepth 100000 in
set_option maxHeartbeats 4000000 in
theorem ct_X6_check {l : Launch} {D : va_G} {cI cZ : ClassId} {b : Nat → Nat} {τ : St} (hW : W0 τ) (hJ : JOk τ) {x : Int32} : Ct l yX6_check cX6_check 2 (some .int) 7 160 D cI cZ (pM b cI cZ) [.ref (b 0), .int x] τ (fun r u => r = some (.int (aChk τ x)) ∧ Sm τ u) := by
  have hTl := w0_tl hW
  have hMl := w0_ml hW
  have cl : ∀ {z : Nat}, z < 2400 → nN (nI z) = z := fun h => nI_clamp (by omega)
  rcases isT_cases hW x with hx | ⟨t, ht, rfl⟩
  · refine Ct.of 0 (by decide) (by simp [Value.category]) (Nat.le_of_ble_eq_true rfl) ?_
    intro p e s m below meth c C
    refine g_aload_n C dX6_check_0 rfl ?_
    refine g_iload_n C dX6_check_1 rfl ?_
    refine g_callVr 0 C (cr_X6_isType) mw_X6_isType ml_X6_83 rfl rfl rfl rfl (Nat.le_of_ble_eq_true rfl) dX6_check_2 ⟨Nat.le_of_ble_eq_true rfl, Nat.le_of_ble_eq_true rfl⟩ ⟨Nat.le_of_ble_eq_true rfl, Nat.le_of_ble_eq_true rfl⟩ ?_
    refine g_ifb_ne (tgt := 11) C dX6_check_5 (by decide) (fun h5 => ?_) (fun h5 => ?_)
    · exact absurd h5 (by simp [hx])
    · refine g_bipush (v := -2) C dX6_check_8 (by decide) ?_
      exact g_iret C dX6_check_10 ⟨rt_i (by simp [aChk, hx]), Sm_refl τ⟩
  refine Ct.of 0 (by decide) (by simp [Value.category]) (Nat.le_of_ble_eq_true rfl) ?_
  intro p e s m below meth c C
  refine g_aload_n C dX6_check_0 rfl ?_
  refine g_iload_n C dX6_check_1 rfl ?_
  refine g_callVr 0 C (cr_X6_isType) mw_X6_isType ml_X6_83 rfl rfl rfl rfl (Nat.le_of_ble_eq_true rfl) dX6_check_2 ⟨Nat.le_of_ble_eq_true rfl, Nat.le_of_ble_eq_true rfl⟩ ⟨Nat.le_of_ble_eq_true rfl, Nat.le_of_ble_eq_true rfl⟩ ?_
  refine g_ifb_ne (tgt := 11) C dX6_check_5 (by decide) (fun h5 => ?_) (fun h5 => ?_)
  · refine g_aload_n C dX6_check_11 rfl ?_
    refine g_iload_n C dX6_check_12 rfl ?_
    refine g_callV 0 C (ct_X6_judge hW ht (hJ.1 t ht) (hJ.2 t ht)) mw_X6_judge ml_X6_166 rfl rfl rfl rfl (Nat.le_of_ble_eq_true rfl) dX6_check_13 ⟨Nat.le_of_ble_eq_true rfl, Nat.le_of_ble_eq_true rfl⟩ ⟨Nat.le_of_ble_eq_true rfl, Nat.le_of_ble_eq_true rfl⟩ ?_
    intro r v hv
    obtain ⟨rfl, hv⟩ := hv
    have hsm := hv.sm
    obtain ⟨A1, B1, C1, rfl, hA⟩ := hv
    refine g_aload_n C dX6_check_16 rfl ?_
    refine gn_X6_144 C (v := nI (jdg τ t).length) rfl dX6_check_17 ?_
    exact g_iret C dX6_check_20 ⟨rt_i (by simp [aChk, isT_nI hW ht, cl (show t < 2400 by omega)]), hsm⟩
  · exact absurd h5 (by simp [isT_nI hW ht])
set_option maxRecDepth 100000 in
set_option maxHeartbeats 4000000 in
theorem ct_X6_fault {l : Launch} {D : va_G} {cI cZ : ClassId} {b : Nat → Nat} {τ : St} (hW : W0 τ) (hJ : JOk τ) {x i w : Int32} : Ct l yX6_fault cX6_fault 4 (some .int) 7 160 D cI cZ (pM b cI cZ) [.ref (b 0), .int x, .int i, .int w] τ (fun r u => r = some (.int (aFlt τ x i w)) ∧ Sm τ u) := by
  have hTl := w0_tl hW
  have hMl := w0_ml hW
  have cl : ∀ {z : Nat}, z < 2400 → nN (nI z) = z := fun h => nI_clamp (by omega)
  rcases isT_cases hW x with hx | ⟨t, ht, rfl⟩
  · refine Ct.of 0 (by decide) (by simp [Value.category]) (Nat.le_of_ble_eq_true rfl) ?_
    intro p e s m below meth c C
    refine g_aload_n C dX6_fault_0 rfl ?_
    refine g_iload_n C dX6_fault_1 rfl ?_
    refine g_callVr 0 C (cr_X6_isType) mw_X6_isType ml_X6_83 rfl rfl rfl rfl (Nat.le_of_ble_eq_true rfl) dX6_fault_2 ⟨Nat.le_of_ble_eq_true rfl, Nat.le_of_ble_eq_true rfl⟩ ⟨Nat.le_of_ble_eq_true rfl, Nat.le_of_ble_eq_true rfl⟩ ?_
    refine g_ifb_ne (tgt := 11) C dX6_fault_5 (by decide) (fun h5 => ?_) (fun h5 => ?_)
    · exact absurd h5 (by simp [hx])
    · refine g_bipush (v := -2) C dX6_fault_8 (by decide) ?_
      exact g_iret C dX6_fault_10 ⟨rt_i (by simp [aFlt, hx]), Sm_refl τ⟩
  have hJl := hJ.2 t ht
  have hs : isT τ (nI t) = true := isT_nI hW ht
  have hc : nN (nI t) = t := cl (by omega)
  rcases inB_casesL (x := i) hJl with ⟨hi, hi2⟩ | ⟨j, hj, rfl, hi⟩
  · refine Ct.of 0 (by decide) (by simp [Value.category]) (Nat.le_of_ble_eq_true rfl) ?_
    intro p e s m below meth c C
    refine g_aload_n C dX6_fault_0 rfl ?_
    refine g_iload_n C dX6_fault_1 rfl ?_
    refine g_callVr 0 C (cr_X6_isType) mw_X6_isType ml_X6_83 rfl rfl rfl rfl (Nat.le_of_ble_eq_true rfl) dX6_fault_2 ⟨Nat.le_of_ble_eq_true rfl, Nat.le_of_ble_eq_true rfl⟩ ⟨Nat.le_of_ble_eq_true rfl, Nat.le_of_ble_eq_true rfl⟩ ?_
    refine g_ifb_ne (tgt := 11) C dX6_fault_5 (by decide) (fun h5 => ?_) (fun h5 => ?_)
    · refine g_iload_n C dX6_fault_11 rfl ?_
      refine g_iconst (v := 0) C dX6_fault_12 (by decide) ?_
      refine g_iconst (v := 2) C dX6_fault_13 (by decide) ?_
      refine g_callSr C (cr_X6_in) mw_X6_in ml_X6_66 rfl rfl (Nat.le_of_ble_eq_true rfl) dX6_fault_14 ⟨Nat.le_of_ble_eq_true rfl, Nat.le_of_ble_eq_true rfl⟩ ⟨Nat.le_of_ble_eq_true rfl, Nat.le_of_ble_eq_true rfl⟩ ?_
      refine g_ifb_ne (tgt := 23) C dX6_fault_17 (by decide) (fun h17 => ?_) (fun h17 => ?_)
      · refine g_aload_n C dX6_fault_23 rfl ?_
        refine g_iload_n C dX6_fault_24 rfl ?_
        refine g_callV 0 C (ct_X6_judge hW ht (hJ.1 t ht) (hJ.2 t ht)) mw_X6_judge ml_X6_166 rfl rfl rfl rfl (Nat.le_of_ble_eq_true rfl) dX6_fault_25 ⟨Nat.le_of_ble_eq_true rfl, Nat.le_of_ble_eq_true rfl⟩ ⟨Nat.le_of_ble_eq_true rfl, Nat.le_of_ble_eq_true rfl⟩ ?_
        intro r v hv
        obtain ⟨rfl, hv⟩ := hv
        have hsm := hv.sm
        obtain ⟨A1, B1, C1, rfl, hA⟩ := hv
        refine g_iload_n C dX6_fault_28 rfl ?_
        refine g_iconst (v := 0) C dX6_fault_29 (by decide) ?_
        refine g_aload_n C dX6_fault_30 rfl ?_
        refine gn_X6_144 C (v := nI (jdg τ t).length) rfl dX6_fault_31 ?_
        refine g_iconst (v := 1) C dX6_fault_34 (by decide) ?_
        refine g_isub C dX6_fault_35 ?_
        refine g_callSr C (cr_X6_in) mw_X6_in ml_X6_66 rfl rfl (Nat.le_of_ble_eq_true rfl) dX6_fault_36 ⟨Nat.le_of_ble_eq_true rfl, Nat.le_of_ble_eq_true rfl⟩ ⟨Nat.le_of_ble_eq_true rfl, Nat.le_of_ble_eq_true rfl⟩ ?_
        refine g_ifb_ne (tgt := 44) C dX6_fault_39 (by decide) (fun h39 => ?_) (fun h39 => ?_)
        · exact absurd h39 (by simp [hi])
        · refine g_iconst (v := -1) C dX6_fault_42 (by decide) ?_
          exact g_iret C dX6_fault_43 ⟨rt_i (by rcases hi2 with q | q <;> simp [aFlt, hs, h17, hc, q]), hsm⟩
      · refine g_bipush (v := -3) C dX6_fault_20 (by decide) ?_
        exact g_iret C dX6_fault_22 ⟨rt_i (by simp [aFlt, hs, h17]), Sm_refl τ⟩
    · exact absurd h5 (by simp [hs])
  refine Ct.of 0 (by decide) (by simp [Value.category]) (Nat.le_of_ble_eq_true rfl) ?_
  intro p e s m below meth c C
  have hjc : nN (nI j) = j := cl (by omega)
  have hjn : ¬ nI j < 0 := nI_pos (by omega)
  refine g_aload_n C dX6_fault_0 rfl ?_
  refine g_iload_n C dX6_fault_1 rfl ?_
  refine g_callVr 0 C (cr_X6_isType) mw_X6_isType ml_X6_83 rfl rfl rfl rfl (Nat.le_of_ble_eq_true rfl) dX6_fault_2 ⟨Nat.le_of_ble_eq_true rfl, Nat.le_of_ble_eq_true rfl⟩ ⟨Nat.le_of_ble_eq_true rfl, Nat.le_of_ble_eq_true rfl⟩ ?_
  refine g_ifb_ne (tgt := 11) C dX6_fault_5 (by decide) (fun h5 => ?_) (fun h5 => ?_)
  · refine g_iload_n C dX6_fault_11 rfl ?_
    refine g_iconst (v := 0) C dX6_fault_12 (by decide) ?_
    refine g_iconst (v := 2) C dX6_fault_13 (by decide) ?_
    refine g_callSr C (cr_X6_in) mw_X6_in ml_X6_66 rfl rfl (Nat.le_of_ble_eq_true rfl) dX6_fault_14 ⟨Nat.le_of_ble_eq_true rfl, Nat.le_of_ble_eq_true rfl⟩ ⟨Nat.le_of_ble_eq_true rfl, Nat.le_of_ble_eq_true rfl⟩ ?_
    refine g_ifb_ne (tgt := 23) C dX6_fault_17 (by decide) (fun h17 => ?_) (fun h17 => ?_)
    · refine g_aload_n C dX6_fault_23 rfl ?_
      refine g_iload_n C dX6_fault_24 rfl ?_
      refine g_callV 0 C (ct_X6_judge hW ht (hJ.1 t ht) (hJ.2 t ht)) mw_X6_judge ml_X6_166 rfl rfl rfl rfl (Nat.le_of_ble_eq_true rfl) dX6_fault_25 ⟨Nat.le_of_ble_eq_true rfl, Nat.le_of_ble_eq_true rfl⟩ ⟨Nat.le_of_ble_eq_true rfl, Nat.le_of_ble_eq_true rfl⟩ ?_
      intro r v hv
      obtain ⟨rfl, hv⟩ := hv
      have hsm := hv.sm
      obtain ⟨A1, B1, C1, rfl, hA⟩ := hv
      refine g_iload_n C dX6_fault_28 rfl ?_
      refine g_iconst (v := 0) C dX6_fault_29 (by decide) ?_
      refine g_aload_n C dX6_fault_30 rfl ?_
      refine gn_X6_144 C (v := nI (jdg τ t).length) rfl dX6_fault_31 ?_
      refine g_iconst (v := 1) C dX6_fault_34 (by decide) ?_
      refine g_isub C dX6_fault_35 ?_
      refine g_callSr C (cr_X6_in) mw_X6_in ml_X6_66 rfl rfl (Nat.le_of_ble_eq_true rfl) dX6_fault_36 ⟨Nat.le_of_ble_eq_true rfl, Nat.le_of_ble_eq_true rfl⟩ ⟨Nat.le_of_ble_eq_true rfl, Nat.le_of_ble_eq_true rfl⟩ ?_
      refine g_ifb_ne (tgt := 44) C dX6_fault_39 (by decide) (fun h39 => ?_) (fun h39 => ?_)
      · refine g_iload_n C dX6_fault_44 rfl ?_
        refine g_if_ne (tgt := 57) C dX6_fault_45 (by decide) (fun h45 => ?_) (fun h45 => ?_)
        · refine g_iload_n C dX6_fault_57 rfl ?_
          refine g_iconst (v := 1) C dX6_fault_58 (by decide) ?_
          refine g_icmp_ne (tgt := 71) C dX6_fault_59 (by decide) (fun h59 => ?_) (fun h59 => ?_)
          · refine g_aload_n C dX6_fault_71 rfl ?_
            refine gf_X6_59 C dX6_fault_72 ?_
            refine g_iload_n C dX6_fault_75 rfl ?_
            refine gM_ln17 C (by omega) dX6_fault_76 ?_
            exact g_iret C dX6_fault_77 ⟨rt_i (by have hq := hA j hj; simp [aFlt, hs, h17, hc, hjc, hjn, hq, fPick, h45, h59]; try rfl), hsm⟩
          · refine g_aload_n C dX6_fault_62 rfl ?_
            refine gf_X6_56 C dX6_fault_63 ?_
            refine g_iload_n C dX6_fault_66 rfl ?_
            refine gM_ln16 C (by omega) dX6_fault_67 ?_
            refine g_goto (tgt := 77) C dX6_fault_68 (by decide) ?_
            exact g_iret C dX6_fault_77 ⟨rt_i (by have hq := hA j hj; simp [aFlt, hs, h17, hc, hjc, hjn, hq, fPick, h45, h59]; try rfl), hsm⟩
        · refine g_aload_n C dX6_fault_48 rfl ?_
          refine gf_X6_53 C dX6_fault_49 ?_
          refine g_iload_n C dX6_fault_52 rfl ?_
          refine gM_ln15 C (by omega) dX6_fault_53 ?_
          refine g_goto (tgt := 77) C dX6_fault_54 (by decide) ?_
          exact g_iret C dX6_fault_77 ⟨rt_i (by have hq := hA j hj; simp [aFlt, hs, h17, hc, hjc, hjn, hq, fPick, h45]; try rfl), hsm⟩
      · exact absurd h39 (by simp [hi])
    · refine g_bipush (v := -3) C dX6_fault_20 (by decide) ?_
      exact g_iret C dX6_fault_22 ⟨rt_i (by simp [aFlt, hs, h17]), Sm_refl τ⟩
  · exact absurd h5 (by simp [hs])
set_option maxRecDepth 100000 in
set_option maxHeartbeats 4000000 in
theorem ct_X6_told {l : Launch} {D : va_G} {cI cZ : ClassId} {b : Nat → Nat} {τ : St} (hW : W0 τ) (hJ : JOk τ) {x : Int32} : Ct l yX6_told cX6_told 4 (some .int) 7 160 D cI cZ (pM b cI cZ) [.ref (b 0), .int x] τ (fun r u => r = some (.int (aTld τ x)) ∧ Sm τ u) := by
  have hTl := w0_tl hW
  have hMl := w0_ml hW
  refine Ct.of 2 (by decide) (by simp [Value.category]) (Nat.le_of_ble_eq_true rfl) ?_
  intro p e s m below meth c C
  have loop : x = 3 → ∀ (n i : Nat) (w : St), i ≤ nT τ → nT τ + 1 ≤ i + n → Sm τ w → G p l e (rmo 7 160) s m ([.ref (b 0), .int x] : List Value).toArray below meth c D (va_A (pM b cI cZ τ) s.heap.size) 0 0 (Qe below ([.ref (b 0), .int x] : List Value).toArray s D (pM b cI cZ) τ (fun r u => r = some (.int (aTld τ x)) ∧ Sm τ u)) 4 (pM b cI cZ w) 9 [some (.ref (b 0)), some (.int (x)), some (.int (nI (sumN i (fun t => (jdg τ t).length)))), some (.int (nI i))] [] := by
    intro hx n
    induction n with
    | zero => intro i w h1 h2; omega
    | succ n ih =>
      intro i w h1 h2 hw
      obtain ⟨A0, B0, C0, n0, rfl⟩ := hw
      refine g_iload_n C dX6_told_9 rfl ?_
      refine g_aload_n C dX6_told_10 rfl ?_
      refine gn_X6_62 C (v := nI (nT τ)) (w0_t hW) dX6_told_11 ?_
      refine g_icmpN_ge (tgt := 35) C (by omega) (by omega) dX6_told_14 (by decide) (fun h14 => ?_) (fun h14 => ?_)
      · refine g_iload_n C dX6_told_35 rfl ?_
        exact g_iret C dX6_told_36 ⟨rt_i (by obtain rfl : i = nT τ := (by omega); simp [aTld, hx]), A0, B0, C0, n0, rfl⟩
      · refine g_aload_n C dX6_told_17 rfl ?_
        refine g_iload_n C dX6_told_18 rfl ?_
        refine g_callV 0 C (ct_X6_judge (τ := lgS τ A0 B0 C0 n0) (t := i) hW (show i < nT τ by omega) (hJ.1 i (by omega)) (by rw [jdg_lg]; exact hJ.2 i (by omega))) mw_X6_judge ml_X6_166 rfl rfl rfl rfl (Nat.le_of_ble_eq_true rfl) dX6_told_19 ⟨Nat.le_of_ble_eq_true rfl, Nat.le_of_ble_eq_true rfl⟩ ⟨Nat.le_of_ble_eq_true rfl, Nat.le_of_ble_eq_true rfl⟩ ?_
        intro r v hv
        obtain ⟨rfl, hv⟩ := hv
        rw [jdg_lg] at hv
        have hv := Lg_lg hv
        have hsm := hv.sm
        obtain ⟨A1, B1, C1, rfl, hA⟩ := hv
        refine g_iload_n C dX6_told_22 rfl ?_
        refine g_aload_n C dX6_told_23 rfl ?_
        refine gn_X6_144 C (v := nI (jdg τ i).length) rfl dX6_told_24 ?_
        refine g_iaddN C dX6_told_27 ?_
        refine g_istore_n C dX6_told_28 (by decide) ?_
        refine g_iincN C dX6_told_29 rfl (by decide) ?_
        refine g_goto (tgt := 9) C dX6_told_32 (by decide) ?_
        exact ih (i + 1) _ (by omega) (by omega) hsm
  refine g_iload_n C dX6_told_0 rfl ?_
  refine g_iconst (v := 3) C dX6_told_1 (by decide) ?_
  refine g_icmp_ne (tgt := 37) C dX6_told_2 (by decide) (fun h2 => ?_) (fun h2 => ?_)
  · refine g_iload_n C dX6_told_37 rfl ?_
    refine g_if_ne (tgt := 48) C dX6_told_38 (by decide) (fun h38 => ?_) (fun h38 => ?_)
    · refine g_iload_n C dX6_told_48 rfl ?_
      refine g_iconst (v := 1) C dX6_told_49 (by decide) ?_
      refine g_icmp_ne (tgt := 60) C dX6_told_50 (by decide) (fun h50 => ?_) (fun h50 => ?_)
      · refine g_iload_n C dX6_told_60 rfl ?_
        refine g_iconst (v := 2) C dX6_told_61 (by decide) ?_
        refine g_icmp_ne (tgt := 72) C dX6_told_62 (by decide) (fun h62 => ?_) (fun h62 => ?_)
        · refine g_bipush (v := -3) C dX6_told_72 (by decide) ?_
          exact g_iret C dX6_told_74 ⟨rt_i (by simp [aTld, h2, h38, h50, h62]), Sm_refl τ⟩
        · refine g_aload_n C dX6_told_65 rfl ?_
          refine gf_X6_70 C dX6_told_66 ?_
          refine g_goto (tgt := 74) C dX6_told_69 (by decide) ?_
          exact g_iret C dX6_told_74 ⟨rt_i (by simp [aTld, h2, h38, h50, h62]), Sm_refl τ⟩
      · refine g_aload_n C dX6_told_53 rfl ?_
        refine gf_X6_73 C dX6_told_54 ?_
        refine g_goto (tgt := 74) C dX6_told_57 (by decide) ?_
        exact g_iret C dX6_told_74 ⟨rt_i (by simp [aTld, h2, h38, h50]), Sm_refl τ⟩
    · refine g_aload_n C dX6_told_41 rfl ?_
      refine gf_X6_62 C dX6_told_42 ?_
      refine g_goto (tgt := 74) C dX6_told_45 (by decide) ?_
      exact g_iret C dX6_told_74 ⟨rt_i (by simp [aTld, h2, h38]), Sm_refl τ⟩
  · refine g_iconstN 0 C dX6_told_5 (by decide) ?_
    refine g_istore_n C dX6_told_6 (by decide) ?_
    refine g_iconstN 0 C dX6_told_7 (by decide) ?_
    refine g_istore_n C dX6_told_8 (by decide) ?_
    exact loop h2 (nT τ + 1) 0 τ (by omega) (by omega) (Sm_refl τ)
end
section
/-! ===== the reference: what is above, who overrides ===== -/
def rwR (r : Nat) (τ : St) (A : Nat → Int32) : St := fun k => bif Nat.beq k r then A else τ k
theorem rwR_up {r : Nat} {τ : St} {A : Nat → Int32} {j : Nat} {x : Int32} : up2 (rwR r τ A) r j x = rwR r τ (upd A j x) := by
  funext k
  by_cases h : k = r
  · subst h
    have e : Nat.beq k k = true := Nat.beq_refl k
    simp only [up2, rwR, e, cond_true]
  · simp only [up2, rwR, nbeq h, cond_false]
theorem rwR_self {r : Nat} {τ : St} : rwR r τ (τ r) = τ := by
  funext k
  by_cases h : k = r
  · subst h
    have e : Nat.beq k k = true := Nat.beq_refl k
    simp only [rwR, e, cond_true]
  · simp only [rwR, nbeq h, cond_false]
def bool01 (A : Nat → Int32) : Prop := ∀ j, A j = 0 ∨ A j = 1
theorem bool01_upd {A : Nat → Int32} (h : bool01 A) {j : Nat} {x : Int32} (hx : x = 0 ∨ x = 1) : bool01 (upd A j x) := by
  intro k
  by_cases e : k = j
  · subst e; simpa [upd] using hx
  · simpa [upd, e] using h k
theorem W0_6 {τ : St} {A : Nat → Int32} (h : W0 τ) (hA : bool01 A) : W0 (rwR 6 τ A) := ⟨h.1, h.2.1, h.2.2.1, h.2.2.2.1, h.2.2.2.2.1, h.2.2.2.2.2.1, hA, h.2.2.2.2.2.2.2.1, h.2.2.2.2.2.2.2.2⟩
theorem W0_14 {τ : St} {A : Nat → Int32} (h : W0 τ) (hA : bool01 A) : W0 (rwR 14 τ A) := ⟨h.1, h.2.1, h.2.2.1, h.2.2.2.1, h.2.2.2.2.1, h.2.2.2.2.2.1, h.2.2.2.2.2.2.1, h.2.2.2.2.2.2.2.1, hA⟩
theorem anyN_congr {n : Nat} {f g : Nat → Bool} (h : ∀ x, x < n → f x = g x) : anyN n f = anyN n g := by
  induction n with
  | zero => rfl
  | succ n ih => simp only [anyN, ih (fun x hx => h x (by omega)), h n (by omega)]
def nz (x : Int32) : Bool := decide (¬ x = 0)
theorem nz_b2i (b : Bool) : nz (b2i b) = b := by cases b <;> decide
def lftV (A : Nat → Int32) (t o u : Nat) : Bool := nz (A (16 * t + u)) || decide (u = o) || nz (A (16 * o + u))
def LInv (A A1 : Nat → Int32) (t o i : Nat) : Prop := bool01 A1 ∧ (∀ j, (j < 16 * t ∨ 16 * t + 16 ≤ j) → A1 j = A j) ∧ (∀ u, u < i → u < 16 → A1 (16 * t + u) = b2i (lftV A t o u)) ∧ ∀ u, i ≤ u → u < 16 → A1 (16 * t + u) = if u = o then 1 else A (16 * t + u)
theorem LInv_step {A A1 : Nat → Int32} {t o i : Nat} (h : LInv A A1 t o i) (hi : i < 16) {x : Int32} (hx : x = b2i (lftV A t o i)) : LInv A (upd A1 (16 * t + i) x) t o (i + 1) := by
  obtain ⟨h1, h2, h3, h4⟩ := h
  refine ⟨bool01_upd h1 (by rw [hx]; cases lftV A t o i <;> simp [b2i]), fun j hj => ?_, fun u hu hu2 => ?_, fun u hu hu2 => ?_⟩
  · rw [show upd A1 (16 * t + i) x j = A1 j by simp [upd, show ¬ j = 16 * t + i by omega]]; exact h2 j hj
  · by_cases e : u = i
    · subst e; simp [upd, hx]
    · rw [show upd A1 (16 * t + i) x (16 * t + u) = A1 (16 * t + u) by simp [upd, e]]; exact h3 u (by omega) hu2
  · rw [show upd A1 (16 * t + i) x (16 * t + u) = A1 (16 * t + u) by simp [upd, show ¬ u = i by omega]]; exact h4 u (by omega) hu2
theorem LInv_val {A A1 : Nat → Int32} {t o i : Nat} (h : LInv A A1 t o i) (hi : i < 16) (ho : o < 16) (hto : o ≠ t) : (nz (A1 (16 * t + i)) || nz (A1 (16 * o + i))) = lftV A t o i := by
  obtain ⟨h1, h2, h3, h4⟩ := h
  rw [h4 i (Nat.le_refl i) hi, h2 (16 * o + i) (by omega)]
  by_cases e : i = o
  · subst e; simp [lftV, nz]
  · simp [lftV, e]
theorem LInv_0 {A : Nat → Int32} {t o : Nat} (hA : bool01 A) (ho : o < 16) : LInv A (upd A (16 * t + o) 1) t o 0 := by
  refine ⟨bool01_upd hA (Or.inr rfl), fun j hj => by simp [upd, show ¬ j = 16 * t + o by omega], fun u hu => by omega, fun u _ hu => ?_⟩
  by_cases e : u = o
  · subst e; simp [upd]
  · simp [upd, e]
/-- what lift does to the table -/
def LOk (A A' : Nat → Int32) (t o : Nat) : Prop := bool01 A' ∧ (∀ j, (j < 16 * t ∨ 16 * t + 16 ≤ j) → A' j = A j) ∧ ∀ u, u < 16 → A' (16 * t + u) = b2i (lftV A t o u)
theorem LInv.ok {A A1 : Nat → Int32} {t o i : Nat} (h : LInv A A1 t o i) (hi : 16 ≤ i) : LOk A A1 t o := ⟨h.1, h.2.1, fun u hu => h.2.2.1 u (by omega) hu⟩
/-- ABOVE, out of parents and faces -/
def AbF (pa : Nat → Int32) (nf : Nat → Nat) (fc : Nat → Nat → Nat) : Nat → Nat → Nat → Bool
  | 0, _, _ => false
  | d + 1, t, u => (if pa t = -1 then false else (decide (u = nN (pa t)) || AbF pa nf fc d (nN (pa t)) u)) || anyN (nf t) (fun q => decide (u = fc t q) || AbF pa nf fc d (fc t q) u)
theorem AbF_succ (pa : Nat → Int32) (nf : Nat → Nat) (fc : Nat → Nat → Nat) (d t u : Nat) : AbF pa nf fc (d + 1) t u = ((if pa t = -1 then false else (decide (u = nN (pa t)) || AbF pa nf fc d (nN (pa t)) u)) || anyN (nf t) (fun q => decide (u = fc t q) || AbF pa nf fc d (fc t q) u)) := rfl
def BelS (τ : St) (t u : Nat) : Bool := AbF (τ 3) (nF τ) (Fc τ) 17 t u
def upF (τ : St) (t u : Nat) : Bool := if τ 3 t = -1 then false else (decide (u = nN (τ 3 t)) || BelS τ (nN (τ 3 t)) u)
def fcF (τ : St) (t u : Nat) : Nat → Bool := fun q => decide (u = Fc τ t q) || BelS τ (Fc τ t q) u
theorem AbF_st {τ : St} (hW : W0 τ) {u : Nat} : ∀ (t : Nat), t < nT τ → ∀ n m, t < n → t < m → AbF (τ 3) (nF τ) (Fc τ) n t u = AbF (τ 3) (nF τ) (Fc τ) m t u := by
  intro t
  have hTl := w0_tl hW
  induction t using Nat.strongRecOn with
  | ind t ih =>
    intro ht n m hn hm
    match n, m, hn, hm with
    | n + 1, m + 1, hn, hm =>
      rw [AbF_succ, AbF_succ]
      congr 1
      · rcases w0_pa hW ht with q | ⟨p, hp, q⟩
        · simp [q]
        · have h1 : ¬ τ 3 t = -1 := by rw [q]; exact nI_m1 (by omega)
          rw [if_neg h1, if_neg h1, q, nN, nI_clamp (by omega), ih p hp (by omega) n m (by omega) (by omega)]
      · refine anyN_congr (fun k hk => ?_)
        have := w0_fcl hW ht hk
        rw [ih _ this (by omega) n m (by omega) (by omega)]
theorem BelS_eq {τ : St} (hW : W0 τ) {t u : Nat} (ht : t < nT τ) : BelS τ t u = (upF τ t u || anyN (nF τ t) (fcF τ t u)) := by
  have hTl := w0_tl hW
  obtain ⟨k, hk⟩ : ∃ k, k = 16 := ⟨_, rfl⟩
  have e : BelS τ t u = AbF (τ 3) (nF τ) (Fc τ) (k + 1) t u := by rw [hk]; rfl
  rw [e, AbF_succ]
  congr 1
  · rcases w0_pa hW ht with q | ⟨p, hp, q⟩
    · simp [upF, q]
    · have h1 : ¬ τ 3 t = -1 := by rw [q]; exact nI_m1 (by omega)
      have e1 : AbF (τ 3) (nF τ) (Fc τ) k p u = BelS τ p u := AbF_st hW p (by omega) k 17 (by omega) (by omega)
      rw [if_neg h1, upF, if_neg h1, q, nN, nI_clamp (by omega), e1]
  · refine anyN_congr (fun x hx => ?_)
    have := w0_fcl hW ht hx
    have e1 : AbF (τ 3) (nF τ) (Fc τ) k (Fc τ t x) u = BelS τ (Fc τ t x) u := AbF_st hW _ (by omega) k 17 (by omega) (by omega)
    simp only [fcF, e1]
theorem BelS_lt {τ : St} (hW : W0 τ) {u : Nat} : ∀ (t : Nat), t < nT τ → BelS τ t u = true → u < t := by
  intro t
  have hTl := w0_tl hW
  induction t using Nat.strongRecOn with
  | ind t ih =>
    intro ht h
    rw [BelS_eq hW ht, Bool.or_eq_true] at h
    rcases h with h | h
    · rcases w0_pa hW ht with q | ⟨p, hp, q⟩
      · simp [upF, q] at h
      · have h1 : ¬ τ 3 t = -1 := by rw [q]; exact nI_m1 (by omega)
        rw [upF, if_neg h1, q, nN, nI_clamp (by omega)] at h
        simp only [Bool.or_eq_true, decide_eq_true_eq] at h
        rcases h with rfl | h
        · exact hp
        · have := ih p hp (by omega) h; omega
    · obtain ⟨k, hk, hf⟩ := anyN_iff.mp h
      have hl := w0_fcl hW ht hk
      simp only [fcF, Bool.or_eq_true, decide_eq_true_eq] at hf
      rcases hf with rfl | hf
      · exact hl
      · have := ih _ hl (by omega) hf; omega
/-- OVERRIDES, by itself -/
def OvF (n : Nat) (base easy : Nat → Nat → Bool) (btw : Nat → Nat → Nat → Bool) : Nat → Nat → Nat → Bool
  | 0, _, _ => false
  | d + 1, m, o => base m o && (easy m o || anyN n (fun z => btw m o z && OvF n base easy btw d m z && OvF n base easy btw d z o))
theorem OvF_succ (n : Nat) (base easy : Nat → Nat → Bool) (btw : Nat → Nat → Nat → Bool) (d m o : Nat) : OvF n base easy btw (d + 1) m o = (base m o && (easy m o || anyN n (fun z => btw m o z && OvF n base easy btw d m z && OvF n base easy btw d z o))) := rfl
def ovB (τ : St) (m o : Nat) : Bool := Bel τ (Of τ m) (Of τ o) && decide (τ 10 m = τ 10 o) && !Hs τ m 8 && !Hs τ o 8 && !Hs τ o 4
def ovE (τ : St) (m o : Nat) : Bool := Ifc τ o || Seen τ m o
def ovW (τ : St) (m o z : Nat) : Bool := decide (τ 10 z = τ 10 m) && Bel τ (Of τ z) (Of τ o) && Bel τ (Of τ m) (Of τ z)
def OvS (τ : St) (m o : Nat) : Bool := OvF (nM τ) (ovB τ) (ovE τ) (ovW τ) 17 m o
def BelDn (τ : St) : Prop := ∀ t u, t < nT τ → u < 16 → Bel τ t u = true → u < t
theorem OvF_st {τ : St} (hW : W0 τ) (hB : BelDn τ) : ∀ (k m o : Nat), m < nM τ → o < nM τ → Of τ m - Of τ o ≤ k → ∀ n n', Of τ m - Of τ o < n → Of τ m - Of τ o < n' → OvF (nM τ) (ovB τ) (ovE τ) (ovW τ) n m o = OvF (nM τ) (ovB τ) (ovE τ) (ovW τ) n' m o := by
  intro k
  have hTl := w0_tl hW
  induction k with
  | zero =>
    intro m o hm ho hk n n' hn hn'
    have h1 := w0_ofl hW hm
    have h2 := w0_ofl hW ho
    have hb : ovB τ m o = false := by
      cases h : Bel τ (Of τ m) (Of τ o) with
      | false => simp [ovB, h]
      | true => have := hB _ _ h1 (by omega) h; omega
    match n, n', hn, hn' with
    | n + 1, n' + 1, _, _ => rw [OvF_succ, OvF_succ, hb, Bool.false_and, Bool.false_and]
  | succ k ih =>
    intro m o hm ho hk n n' hn hn'
    have h1 := w0_ofl hW hm
    have h2 := w0_ofl hW ho
    match n, n', hn, hn' with
    | n + 1, n' + 1, hn, hn' =>
      rw [OvF_succ, OvF_succ]
      congr 2
      refine anyN_congr (fun z hz => ?_)
      have h3 := w0_ofl hW hz
      cases hw : ovW τ m o z with
      | false => simp
      | true =>
        have hw2 := hw
        simp only [ovW, Bool.and_eq_true] at hw2
        have a1 := hB _ _ h3 (by omega) hw2.1.2
        have a2 := hB _ _ h1 (by omega) hw2.2
        rw [ih m z hm hz (by omega) n n' (by omega) (by omega), ih z o hz ho (by omega) n n' (by omega) (by omega)]
def ovX (τ : St) (m o z : Nat) : Bool := ovW τ m o z && OvS τ m z && OvS τ z o
theorem OvS_eq {τ : St} (hW : W0 τ) (hB : BelDn τ) {m o : Nat} (hm : m < nM τ) (ho : o < nM τ) : OvS τ m o = (ovB τ m o && (ovE τ m o || anyN (nM τ) (ovX τ m o))) := by
  have hTl := w0_tl hW
  have h1 := w0_ofl hW hm
  have h2 := w0_ofl hW ho
  obtain ⟨k, hk⟩ : ∃ k, k = 16 := ⟨_, rfl⟩
  have e : OvS τ m o = OvF (nM τ) (ovB τ) (ovE τ) (ovW τ) (k + 1) m o := by rw [hk]; rfl
  rw [e, OvF_succ]
  congr 2
  refine anyN_congr (fun z hz => ?_)
  have h3 := w0_ofl hW hz
  cases hw : ovW τ m o z with
  | false => simp [ovX, hw]
  | true =>
    have hw2 := hw
    simp only [ovW, Bool.and_eq_true] at hw2
    have a1 := hB _ _ h3 (by omega) hw2.1.2
    have a2 := hB _ _ h1 (by omega) hw2.2
    have e1 : OvF (nM τ) (ovB τ) (ovE τ) (ovW τ) k m z = OvS τ m z := OvF_st hW hB 16 m z hm hz (by omega) k 17 (by omega) (by omega)
    have e2 : OvF (nM τ) (ovB τ) (ovE τ) (ovW τ) k z o = OvS τ z o := OvF_st hW hB 16 z o hz ho (by omega) k 17 (by omega) (by omega)
    simp only [ovX, hw, e1, e2]
/-- the table of overridings, as far as pr says -/
def WInv (τ : St) (Ot : Nat → Int32) (pr : Nat → Nat → Bool) : Prop := bool01 Ot ∧ ∀ m o, m < nM τ → o < nM τ → Ot (60 * m + o) = b2i (OvS τ m o && pr m o)
theorem WInv.to {τ : St} {Ot : Nat → Int32} {pr pr' : Nat → Nat → Bool} (h : WInv τ Ot pr) (hp : ∀ m o, m < nM τ → o < nM τ → OvS τ m o = true → pr m o = pr' m o) : WInv τ Ot pr' := by
  refine ⟨h.1, fun m o hm ho => ?_⟩
  rw [h.2 m o hm ho]
  cases hv : OvS τ m o with
  | false => rfl
  | true => rw [hp m o hm ho hv]
theorem WInv_put {τ : St} {Ot : Nat → Int32} {pr : Nat → Nat → Bool} (h : WInv τ Ot pr) {m o : Nat} (hm : m < 60) (ho : o < 60) (hl : nM τ ≤ 60) {x : Int32} (hx : x = b2i (OvS τ m o)) : WInv τ (upd Ot (60 * m + o) x) (fun a c => pr a c || (decide (a = m) && decide (c = o))) := by
  refine ⟨bool01_upd h.1 (by rw [hx]; cases OvS τ m o <;> simp [b2i]), fun a c ha hc => ?_⟩
  by_cases e : a = m ∧ c = o
  · obtain ⟨rfl, rfl⟩ := e
    simp [upd, hx]
  · have : ¬ 60 * a + c = 60 * m + o := by omega
    rw [show upd Ot (60 * m + o) x (60 * a + c) = Ot (60 * a + c) by simp [upd, this], h.2 a c ha hc]
    have e2 : (decide (a = m) && decide (c = o)) = false := by
      cases h1 : (decide (a = m) && decide (c = o)) with
      | false => rfl
      | true => simp at h1; exact absurd h1 e
    show b2i (OvS τ a c && pr a c) = b2i (OvS τ a c && (pr a c || (decide (a = m) && decide (c = o))))
    rw [e2, Bool.or_false]
theorem nz_W {τ : St} {Ot : Nat → Int32} {pr : Nat → Nat → Bool} (h : WInv τ Ot pr) {m o : Nat} (hm : m < nM τ) (ho : o < nM τ) : Ov (rwR 14 τ Ot) m o = (OvS τ m o && pr m o) := by
  show nz (Ot (60 * m + o)) = _
  rw [h.2 m o hm ho, nz_b2i]
/-- what goesOver answers while the table grows -/
theorem GoB_W {τ : St} (hW : W0 τ) (hB : BelDn τ) {Ot : Nat → Int32} {pr : Nat → Nat → Bool} (h : WInv τ Ot pr) {m o : Nat} (hm : m < nM τ) (ho : o < nM τ) (hb : Bel τ (Of τ m) (Of τ o) = true) (h1 : ∀ z, z < nM τ → Of τ o < Of τ z → Of τ z < Of τ m → pr m z = true ∧ pr z o = true) :
    OvS τ m o = (decide (τ 10 m = τ 10 o) && !Hs τ m 8 && !Hs τ o 8 && !Hs τ o 4 && GoB (rwR 14 τ Ot) m o) := by
  have hTl := w0_tl hW
  have hm1 := w0_ofl hW hm
  have ho1 := w0_ofl hW ho
  have key : GoB (rwR 14 τ Ot) m o = (ovE τ m o || anyN (nM τ) (ovX τ m o)) := by
    show (ovE τ m o || anyN (nM τ) (GoX (rwR 14 τ Ot) m o)) = _
    congr 1
    refine anyN_congr (fun z hz => ?_)
    have hz1 := w0_ofl hW hz
    show (ovW τ m o z && Ov (rwR 14 τ Ot) m z && Ov (rwR 14 τ Ot) z o) = _
    rw [nz_W h hm hz, nz_W h hz ho, ovX]
    cases hw : ovW τ m o z with
    | false => simp
    | true =>
      have hw2 := hw
      simp only [ovW, Bool.and_eq_true] at hw2
      have a1 := hB _ _ hz1 (by omega) hw2.1.2
      have a2 := hB _ _ hm1 (by omega) hw2.2
      obtain ⟨b1, b2⟩ := h1 z hz a1 a2
      rw [b1, b2]; simp
  rw [key, OvS_eq hW hB hm ho, ovB, hb, Bool.true_and]
set_option maxRecDepth 100000 in
set_option maxHeartbeats 4000000 in
theorem ct_X6_lift {l : Launch} {D : va_G} {cI cZ : ClassId} {b : Nat → Nat} {τ : St} {A0 : Nat → Int32} (hA : bool01 A0) {t o : Nat} (ht : t < 16) (ho : o < 16) (hto : o ≠ t) : Ct l yX6_lift cX6_lift 4 none 0 0 D cI cZ (pM b cI cZ) [.ref (b 0), .int (nI t), .int (nI o)] (rwR 6 τ A0) (fun r v => r = none ∧ ∃ A1, v = rwR 6 τ A1 ∧ LOk A0 A1 t o) := by
  refine Ct.of 1 (by decide) (by simp [Value.category]) (Nat.le_of_ble_eq_true rfl) ?_
  intro p e s m below meth c C
  have loop : ∀ (n i : Nat) (A1 : Nat → Int32), i ≤ 16 → 17 ≤ i + n → LInv A0 A1 t o i → G p l e (rmo 0 0) s m ([.ref (b 0), .int (nI t), .int (nI o)] : List Value).toArray below meth c D (va_A (pM b cI cZ (rwR 6 τ A0)) s.heap.size) 0 0 (Qe below ([.ref (b 0), .int (nI t), .int (nI o)] : List Value).toArray s D (pM b cI cZ) (rwR 6 τ A0) (fun r v => r = none ∧ ∃ A1, v = rwR 6 τ A1 ∧ LOk A0 A1 t o)) 4 (pM b cI cZ (rwR 6 τ A1)) 14 [some (.ref (b 0)), some (.int (nI t)), some (.int (nI o)), some (.int (nI i))] [] := by
    intro n
    induction n with
    | zero => intro i A1 h1 h2; omega
    | succ n ih =>
      intro i A1 h1 h2 hI
      refine g_iload_n C dX6_lift_14 rfl ?_
      refine g_bipushN 16 C dX6_lift_15 (by decide) ?_
      refine g_icmpN_ge (tgt := 70) C (by omega) (by omega) dX6_lift_17 (by decide) (fun h17 => ?_) (fun h17 => ?_)
      · exact g_vret C dX6_lift_70 ⟨rfl, A1, rfl, hI.ok (by omega)⟩
      · refine g_aload_n C dX6_lift_20 rfl ?_
        refine gf_X6_25 C dX6_lift_21 ?_
        refine g_bipushN 16 C dX6_lift_24 (by decide) ?_
        refine g_iload_n C dX6_lift_26 rfl ?_
        refine g_imulN C dX6_lift_27 ?_
        refine g_iload_n C dX6_lift_28 rfl ?_
        refine g_iaddN C dX6_lift_29 ?_
        refine g_aload_n C dX6_lift_30 rfl ?_
        refine gf_X6_25 C dX6_lift_31 ?_
        refine g_bipushN 16 C dX6_lift_34 (by decide) ?_
        refine g_iload_n C dX6_lift_36 rfl ?_
        refine g_imulN C dX6_lift_37 ?_
        refine g_iload_n C dX6_lift_38 rfl ?_
        refine g_iaddN C dX6_lift_39 ?_
        refine gM_lv6 C (by omega) (bz (hI.1 _)) dX6_lift_40 ?_
        refine g_ifb_ne (tgt := 58) C dX6_lift_41 (by decide) (fun h41 => ?_) (fun h41 => ?_)
        · refine g_iconst (v := 1) C dX6_lift_58 (by decide) ?_
          refine g_goto (tgt := 63) C dX6_lift_59 (by decide) ?_
          refine gM_sn6 C (by omega) (by decide +kernel) dX6_lift_63 ?_
          rw [rwR_up]
          refine g_iincN C dX6_lift_64 rfl (by decide) ?_
          refine g_goto (tgt := 14) C dX6_lift_67 (by decide) ?_
          exact ih (i + 1) _ (by omega) (by omega) (LInv_step hI (by omega) (by rw [← LInv_val hI (by omega) ho hto]; rw [show nz (A1 (16 * t + i)) = true from h41]; rfl))
        · refine g_aload_n C dX6_lift_44 rfl ?_
          refine gf_X6_25 C dX6_lift_45 ?_
          refine g_bipushN 16 C dX6_lift_48 (by decide) ?_
          refine g_iload_n C dX6_lift_50 rfl ?_
          refine g_imulN C dX6_lift_51 ?_
          refine g_iload_n C dX6_lift_52 rfl ?_
          refine g_iaddN C dX6_lift_53 ?_
          refine gM_lv6 C (by omega) (bz (hI.1 _)) dX6_lift_54 ?_
          refine g_ifb_eq (tgt := 62) C dX6_lift_55 (by decide) (fun h55 => ?_) (fun h55 => ?_)
          · refine g_iconst (v := 0) C dX6_lift_62 (by decide) ?_
            refine gM_sn6 C (by omega) (by decide +kernel) dX6_lift_63 ?_
            rw [rwR_up]
            refine g_iincN C dX6_lift_64 rfl (by decide) ?_
            refine g_goto (tgt := 14) C dX6_lift_67 (by decide) ?_
            exact ih (i + 1) _ (by omega) (by omega) (LInv_step hI (by omega) (by rw [← LInv_val hI (by omega) ho hto]; rw [show nz (A1 (16 * t + i)) = false from h41, show nz (A1 (16 * o + i)) = false from h55]; rfl))
          · refine g_iconst (v := 1) C dX6_lift_58 (by decide) ?_
            refine g_goto (tgt := 63) C dX6_lift_59 (by decide) ?_
            refine gM_sn6 C (by omega) (by decide +kernel) dX6_lift_63 ?_
            rw [rwR_up]
            refine g_iincN C dX6_lift_64 rfl (by decide) ?_
            refine g_goto (tgt := 14) C dX6_lift_67 (by decide) ?_
            exact ih (i + 1) _ (by omega) (by omega) (LInv_step hI (by omega) (by rw [← LInv_val hI (by omega) ho hto]; rw [show nz (A1 (16 * t + i)) = false from h41, show nz (A1 (16 * o + i)) = true from h55]; rfl))
  refine g_aload_n C dX6_lift_0 rfl ?_
  refine gf_X6_25 C dX6_lift_1 ?_
  refine g_bipushN 16 C dX6_lift_4 (by decide) ?_
  refine g_iload_n C dX6_lift_6 rfl ?_
  refine g_imulN C dX6_lift_7 ?_
  refine g_iload_n C dX6_lift_8 rfl ?_
  refine g_iaddN C dX6_lift_9 ?_
  refine g_iconst (v := 1) C dX6_lift_10 (by decide) ?_
  refine gM_sn6 C (by omega) (by decide +kernel) dX6_lift_11 ?_
  rw [rwR_up]
  refine g_iconstN 0 C dX6_lift_12 (by decide) ?_
  refine g_istore_n C dX6_lift_13 (by decide) ?_
  exact loop 17 0 _ (by omega) (by omega) (LInv_0 hA ho)
set_option maxRecDepth 100000 in
set_option maxHeartbeats 4000000 in
theorem ct_X6_work {l : Launch} {D : va_G} {cI cZ : ClassId} {b : Nat → Nat} {τ : St} (hW : W0 τ) (hB : BelDn τ) : Ct l yX6_work cX6_work 5 none 4 88 D cI cZ (pM b cI cZ) [.ref (b 0)] τ (fun r v => r = none ∧ ∃ Ot, v = rwR 14 τ Ot ∧ bool01 Ot ∧ ∀ m o, m < nM τ → o < nM τ → Ot (60 * m + o) = b2i (OvS τ m o)) := by
  refine Ct.of 4 (by decide) (by simp [Value.category]) (Nat.le_of_ble_eq_true rfl) ?_
  intro p e s m below meth c C
  have hTl := w0_tl hW
  have hMl := w0_ml hW
  have lt : ∀ (n t : Nat) (O1 : Nat → Int32), t ≤ nT τ → nT τ + 1 ≤ t + n → WInv τ O1 (fun a c => decide (Of τ a < t)) → G p l e (rmo 4 88) s m ([.ref (b 0)] : List Value).toArray below meth c D (va_A (pM b cI cZ τ) s.heap.size) 0 0 (Qe below ([.ref (b 0)] : List Value).toArray s D (pM b cI cZ) τ (fun r v => r = none ∧ ∃ Ot, v = rwR 14 τ Ot ∧ bool01 Ot ∧ ∀ m o, m < nM τ → o < nM τ → Ot (60 * m + o) = b2i (OvS τ m o))) 5 (pM b cI cZ (rwR 14 τ O1)) 24 [some (.ref (b 0)), some (.int (nI t)), none, none, none] [] := by
    intro n
    induction n with
    | zero => intro t O1 h1 h2; omega
    | succ n ih =>
      intro t O1 ht1 ht2 hI
      have lu : t < nT τ → ∀ (u : Nat) (O1 : Nat → Int32), u ≤ t → WInv τ O1 (fun a c => decide (Of τ a < t) || (decide (Of τ a = t) && decide (u ≤ Of τ c))) → G p l e (rmo 4 88) s m ([.ref (b 0)] : List Value).toArray below meth c D (va_A (pM b cI cZ τ) s.heap.size) 0 0 (Qe below ([.ref (b 0)] : List Value).toArray s D (pM b cI cZ) τ (fun r v => r = none ∧ ∃ Ot, v = rwR 14 τ Ot ∧ bool01 Ot ∧ ∀ m o, m < nM τ → o < nM τ → Ot (60 * m + o) = b2i (OvS τ m o))) 5 (pM b cI cZ (rwR 14 τ O1)) 36 [some (.ref (b 0)), some (.int (nI t)), some (.int (nI u - 1)), none, none] [] := by
        intro ht u
        induction u with
        | zero =>
          intro O1 hu hI
          refine g_iload_n C dX6_work_36 rfl ?_
          refine g_if_lt (tgt := 179) C dX6_work_37 (by decide) (fun h37 => ?_) (fun h37 => ?_)
          · refine g_iincN C dX6_work_179 rfl (by decide) ?_
            refine g_goto (tgt := 24) C dX6_work_182 (by decide) ?_
            exact (ih (t + 1) O1 (by omega) (by omega) (hI.to (fun a c ha hc _ => by have := w0_ofl hW ha; simp; by_cases h : Of τ a < t <;> by_cases h2 : Of τ a = t <;> simp [h, h2] <;> omega))).weak (by simp [lvle, lst])
          · exact absurd (by decide) h37
        | succ u ihu =>
          intro O1 hu hI
          rw [show nI (u + 1) - 1 = nI u from nI_pred u]
          have lm : ∀ (k m1 : Nat) (O1 : Nat → Int32), m1 ≤ nM τ → nM τ + 1 ≤ m1 + k → WInv τ O1 (fun a c => decide (Of τ a < t) || (decide (Of τ a = t) && decide (u < Of τ c)) || (decide (Of τ a = t) && decide (Of τ c = u) && decide (a < m1))) → G p l e (rmo 4 88) s m ([.ref (b 0)] : List Value).toArray below meth c D (va_A (pM b cI cZ τ) s.heap.size) 0 0 (Qe below ([.ref (b 0)] : List Value).toArray s D (pM b cI cZ) τ (fun r v => r = none ∧ ∃ Ot, v = rwR 14 τ Ot ∧ bool01 Ot ∧ ∀ m o, m < nM τ → o < nM τ → Ot (60 * m + o) = b2i (OvS τ m o))) 5 (pM b cI cZ (rwR 14 τ O1)) 42 [some (.ref (b 0)), some (.int (nI t)), some (.int (nI u)), some (.int (nI m1)), none] [] := by
            intro k
            induction k with
            | zero => intro m1 O1 h1 h2; omega
            | succ k ihk =>
              intro m1 O1 hm1 hm2 hI
              have hW1 : W0 (rwR 14 τ O1) := W0_14 hW hI.1
              have j173 : WInv τ O1 (fun a c => decide (Of τ a < t) || (decide (Of τ a = t) && decide (u ≤ Of τ c))) → G p l e (rmo 4 88) s m ([.ref (b 0)] : List Value).toArray below meth c D (va_A (pM b cI cZ τ) s.heap.size) 0 0 (Qe below ([.ref (b 0)] : List Value).toArray s D (pM b cI cZ) τ (fun r v => r = none ∧ ∃ Ot, v = rwR 14 τ Ot ∧ bool01 Ot ∧ ∀ m o, m < nM τ → o < nM τ → Ot (60 * m + o) = b2i (OvS τ m o))) 5 (pM b cI cZ (rwR 14 τ O1)) 173 [some (.ref (b 0)), some (.int (nI t)), some (.int (nI u)), none, none] [] := by
                intro hI
                refine g_iinc (v := -1) C dX6_work_173 rfl (by decide) (by decide) ?_
                rw [show nI u + -1 = nI u - 1 from (Int32.sub_eq_add_neg ..).symm]
                refine g_goto (tgt := 36) C dX6_work_176 (by decide) ?_
                exact ihu O1 (by omega) hI
              have lo : m1 < nM τ → Bel τ t u = true → ∀ (q o1 : Nat) (O1 : Nat → Int32), o1 ≤ nM τ → nM τ + 1 ≤ o1 + q → WInv τ O1 (fun a c => decide (Of τ a < t) || (decide (Of τ a = t) && decide (u < Of τ c)) || (decide (Of τ a = t) && decide (Of τ c = u) && decide (a < m1)) || (decide (a = m1) && decide (Of τ a = t) && decide (Of τ c = u) && decide (c < o1))) → G p l e (rmo 4 88) s m ([.ref (b 0)] : List Value).toArray below meth c D (va_A (pM b cI cZ τ) s.heap.size) 0 0 (Qe below ([.ref (b 0)] : List Value).toArray s D (pM b cI cZ) τ (fun r v => r = none ∧ ∃ Ot, v = rwR 14 τ Ot ∧ bool01 Ot ∧ ∀ m o, m < nM τ → o < nM τ → Ot (60 * m + o) = b2i (OvS τ m o))) 5 (pM b cI cZ (rwR 14 τ O1)) 62 [some (.ref (b 0)), some (.int (nI t)), some (.int (nI u)), some (.int (nI m1)), some (.int (nI o1))] [] := by
                intro hm hb q
                have hofm := w0_ofl hW hm
                induction q with
                | zero => intro o1 O1 h1 h2; omega
                | succ q ihq =>
                  intro o1 O1 ho1 ho2 hI
                  have hW1 : W0 (rwR 14 τ O1) := W0_14 hW hI.1
                  have j167 : (Of τ m1 = t → o1 = nM τ) → G p l e (rmo 4 88) s m ([.ref (b 0)] : List Value).toArray below meth c D (va_A (pM b cI cZ τ) s.heap.size) 0 0 (Qe below ([.ref (b 0)] : List Value).toArray s D (pM b cI cZ) τ (fun r v => r = none ∧ ∃ Ot, v = rwR 14 τ Ot ∧ bool01 Ot ∧ ∀ m o, m < nM τ → o < nM τ → Ot (60 * m + o) = b2i (OvS τ m o))) 5 (pM b cI cZ (rwR 14 τ O1)) 167 [some (.ref (b 0)), some (.int (nI t)), some (.int (nI u)), some (.int (nI m1)), none] [] := by
                    intro he
                    refine g_iincN C dX6_work_167 rfl (by decide) ?_
                    refine g_goto (tgt := 42) C dX6_work_170 (by decide) ?_
                    exact ihk (m1 + 1) O1 (by omega) (by omega) (hI.to (fun a c ha hc _ => by rw [Bool.eq_iff_iff]; simp only [Bool.or_eq_true, Bool.and_eq_true, decide_eq_true_eq]; constructor <;> intro hh <;> (rcases (show a = m1 ∨ a ≠ m1 by omega) with h5 | h5) <;> first | (subst h5; omega) | omega))
                  have j161 : o1 < nM τ → ∀ (O2 : Nat → Int32), WInv τ O2 (fun a c => decide (Of τ a < t) || (decide (Of τ a = t) && decide (u < Of τ c)) || (decide (Of τ a = t) && decide (Of τ c = u) && decide (a < m1)) || (decide (a = m1) && decide (Of τ a = t) && decide (Of τ c = u) && decide (c < (o1 + 1)))) → G p l e (rmo 4 88) s m ([.ref (b 0)] : List Value).toArray below meth c D (va_A (pM b cI cZ τ) s.heap.size) 0 0 (Qe below ([.ref (b 0)] : List Value).toArray s D (pM b cI cZ) τ (fun r v => r = none ∧ ∃ Ot, v = rwR 14 τ Ot ∧ bool01 Ot ∧ ∀ m o, m < nM τ → o < nM τ → Ot (60 * m + o) = b2i (OvS τ m o))) 5 (pM b cI cZ (rwR 14 τ O2)) 161 [some (.ref (b 0)), some (.int (nI t)), some (.int (nI u)), some (.int (nI m1)), some (.int (nI o1))] [] := by
                    intro ho O2 hI
                    refine g_iincN C dX6_work_161 rfl (by decide) ?_
                    refine g_goto (tgt := 62) C dX6_work_164 (by decide) ?_
                    exact ihq (o1 + 1) O2 (by omega) (by omega) hI
                  refine g_iload C dX6_work_62 rfl ?_
                  refine g_aload_n C dX6_work_64 rfl ?_
                  refine gn_X6_70 C (v := nI (nM τ)) (show τ 0 2 = _ from w0_m hW) dX6_work_65 ?_
                  refine g_icmpN_ge (tgt := 167) C (by omega) (by omega) dX6_work_68 (by decide) (fun h68 => ?_) (fun h68 => ?_)
                  · exact (j167 (fun _ => by omega)).weak (by simp [lvle, lst])
                  · refine g_aload_n C dX6_work_71 rfl ?_
                    have ho : o1 < nM τ := ‹_›
                    have hofo := w0_ofl hW ho
                    refine gf_X6_35 C dX6_work_72 ?_
                    refine g_iload_n C dX6_work_75 rfl ?_
                    refine gM_lv9 C (by omega) (v := nI (Of τ _)) (show τ 9 _ = nI (Of τ _) from w0_of hW (by omega)) dX6_work_76 ?_
                    refine g_iload_n C dX6_work_77 rfl ?_
                    refine g_icmpN_ne (tgt := 167) C (by omega) (by omega) dX6_work_78 (by decide) (fun h78 => ?_) (fun h78 => ?_)
                    · exact (j167 (fun h => absurd h h78)).weak (by simp [lvle, lst])
                    · refine g_aload_n C dX6_work_81 rfl ?_
                      refine gf_X6_35 C dX6_work_82 ?_
                      refine g_iload C dX6_work_85 rfl ?_
                      refine gM_lv9 C (by omega) (v := nI (Of τ _)) (show τ 9 _ = nI (Of τ _) from w0_of hW (by omega)) dX6_work_87 ?_
                      refine g_iload_n C dX6_work_88 rfl ?_
                      refine g_icmpN_ne (tgt := 161) C (by omega) (by omega) dX6_work_89 (by decide) (fun h89 => ?_) (fun h89 => ?_)
                      · exact j161 ho O1 (hI.to (fun a c ha hc _ => by rw [Bool.eq_iff_iff]; simp only [Bool.or_eq_true, Bool.and_eq_true, decide_eq_true_eq]; constructor <;> intro hh <;> (rcases (show c = o1 ∨ c ≠ o1 by omega) with h5 | h5) <;> first | (subst h5; omega) | omega))
                      · refine g_aload_n C dX6_work_92 rfl ?_
                        refine gf_X6_50 C dX6_work_93 ?_
                        refine g_bipushN 60 C dX6_work_96 (by decide) ?_
                        refine g_iload_n C dX6_work_98 rfl ?_
                        refine g_imulN C dX6_work_99 ?_
                        refine g_iload C dX6_work_100 rfl ?_
                        refine g_iaddN C dX6_work_102 ?_
                        refine g_aload_n C dX6_work_103 rfl ?_
                        refine gf_X6_38 C dX6_work_104 ?_
                        refine g_iload_n C dX6_work_107 rfl ?_
                        refine gM_ln10 C (by omega) dX6_work_108 ?_
                        refine g_aload_n C dX6_work_109 rfl ?_
                        refine gf_X6_38 C dX6_work_110 ?_
                        refine g_iload C dX6_work_113 rfl ?_
                        refine gM_ln10 C (by omega) dX6_work_115 ?_
                        refine g_icmp_ne (tgt := 159) C dX6_work_116 (by decide) (fun h116 => ?_) (fun h116 => ?_)
                        · refine g_iconst (v := 0) C dX6_work_159 (by decide) ?_
                          refine gM_sn14 C (by omega) (by decide +kernel) dX6_work_160 ?_
                          rw [rwR_up]
                          exact j161 ho _ ((WInv_put hI (m := m1) (o := o1) (by omega) (by omega) hMl (by rw [GoB_W hW hB hI hm ho (by rw [show Of τ m1 = t from h78, show Of τ o1 = u from h89]; exact hb) (fun z hz h1 h2 => by rw [show Of τ m1 = t from h78] at h2 ⊢; rw [show Of τ o1 = u from h89] at h1 ⊢; simp [h1, h2, show Of τ m1 = t from h78])]; simp [show ¬ τ 10 m1 = τ 10 o1 from h116, b2i])).to (fun a c ha hc _ => by rw [Bool.eq_iff_iff]; simp only [Bool.or_eq_true, Bool.and_eq_true, decide_eq_true_eq]; have e1 : Of τ m1 = t := h78; have e2 : Of τ o1 = u := h89; constructor <;> intro hh <;> (rcases (show c = o1 ∨ c ≠ o1 by omega) with h5 | h5) <;> (rcases (show a = m1 ∨ a ≠ m1 by omega) with h6 | h6) <;> first | (subst h5; subst h6; omega) | (subst h5; omega) | (subst h6; omega) | omega))
                        · refine g_aload_n C dX6_work_119 rfl ?_
                          refine g_iload_n C dX6_work_120 rfl ?_
                          refine g_callVr 0 C (cr_X6_isStatic (by omega)) mw_X6_isStatic ml_X6_117 rfl rfl rfl rfl (Nat.le_of_ble_eq_true rfl) dX6_work_121 ⟨Nat.le_of_ble_eq_true rfl, Nat.le_of_ble_eq_true rfl⟩ ⟨Nat.le_of_ble_eq_true rfl, Nat.le_of_ble_eq_true rfl⟩ ?_
                          refine g_ifb_ne (tgt := 159) C dX6_work_124 (by decide) (fun h124 => ?_) (fun h124 => ?_)
                          · refine g_iconst (v := 0) C dX6_work_159 (by decide) ?_
                            refine gM_sn14 C (by omega) (by decide +kernel) dX6_work_160 ?_
                            rw [rwR_up]
                            exact j161 ho _ ((WInv_put hI (m := m1) (o := o1) (by omega) (by omega) hMl (by rw [GoB_W hW hB hI hm ho (by rw [show Of τ m1 = t from h78, show Of τ o1 = u from h89]; exact hb) (fun z hz h1 h2 => by rw [show Of τ m1 = t from h78] at h2 ⊢; rw [show Of τ o1 = u from h89] at h1 ⊢; simp [h1, h2, show Of τ m1 = t from h78])]; simp [show τ 10 m1 = τ 10 o1 from h116, show Hs τ m1 8 = true from h124, b2i])).to (fun a c ha hc _ => by rw [Bool.eq_iff_iff]; simp only [Bool.or_eq_true, Bool.and_eq_true, decide_eq_true_eq]; have e1 : Of τ m1 = t := h78; have e2 : Of τ o1 = u := h89; constructor <;> intro hh <;> (rcases (show c = o1 ∨ c ≠ o1 by omega) with h5 | h5) <;> (rcases (show a = m1 ∨ a ≠ m1 by omega) with h6 | h6) <;> first | (subst h5; subst h6; omega) | (subst h5; omega) | (subst h6; omega) | omega))
                          · refine g_aload_n C dX6_work_127 rfl ?_
                            refine g_iload C dX6_work_128 rfl ?_
                            refine g_callVr 0 C (cr_X6_isStatic (by omega)) mw_X6_isStatic ml_X6_117 rfl rfl rfl rfl (Nat.le_of_ble_eq_true rfl) dX6_work_130 ⟨Nat.le_of_ble_eq_true rfl, Nat.le_of_ble_eq_true rfl⟩ ⟨Nat.le_of_ble_eq_true rfl, Nat.le_of_ble_eq_true rfl⟩ ?_
                            refine g_ifb_ne (tgt := 159) C dX6_work_133 (by decide) (fun h133 => ?_) (fun h133 => ?_)
                            · refine g_iconst (v := 0) C dX6_work_159 (by decide) ?_
                              refine gM_sn14 C (by omega) (by decide +kernel) dX6_work_160 ?_
                              rw [rwR_up]
                              exact j161 ho _ ((WInv_put hI (m := m1) (o := o1) (by omega) (by omega) hMl (by rw [GoB_W hW hB hI hm ho (by rw [show Of τ m1 = t from h78, show Of τ o1 = u from h89]; exact hb) (fun z hz h1 h2 => by rw [show Of τ m1 = t from h78] at h2 ⊢; rw [show Of τ o1 = u from h89] at h1 ⊢; simp [h1, h2, show Of τ m1 = t from h78])]; simp [show τ 10 m1 = τ 10 o1 from h116, show Hs τ m1 8 = false from h124, show Hs τ o1 8 = true from h133, b2i])).to (fun a c ha hc _ => by rw [Bool.eq_iff_iff]; simp only [Bool.or_eq_true, Bool.and_eq_true, decide_eq_true_eq]; have e1 : Of τ m1 = t := h78; have e2 : Of τ o1 = u := h89; constructor <;> intro hh <;> (rcases (show c = o1 ∨ c ≠ o1 by omega) with h5 | h5) <;> (rcases (show a = m1 ∨ a ≠ m1 by omega) with h6 | h6) <;> first | (subst h5; subst h6; omega) | (subst h5; omega) | (subst h6; omega) | omega))
                            · refine g_aload_n C dX6_work_136 rfl ?_
                              refine g_iload C dX6_work_137 rfl ?_
                              refine g_callVr 0 C (cr_X6_isPrivate (by omega)) mw_X6_isPrivate ml_X6_120 rfl rfl rfl rfl (Nat.le_of_ble_eq_true rfl) dX6_work_139 ⟨Nat.le_of_ble_eq_true rfl, Nat.le_of_ble_eq_true rfl⟩ ⟨Nat.le_of_ble_eq_true rfl, Nat.le_of_ble_eq_true rfl⟩ ?_
                              refine g_ifb_ne (tgt := 159) C dX6_work_142 (by decide) (fun h142 => ?_) (fun h142 => ?_)
                              · refine g_iconst (v := 0) C dX6_work_159 (by decide) ?_
                                refine gM_sn14 C (by omega) (by decide +kernel) dX6_work_160 ?_
                                rw [rwR_up]
                                exact j161 ho _ ((WInv_put hI (m := m1) (o := o1) (by omega) (by omega) hMl (by rw [GoB_W hW hB hI hm ho (by rw [show Of τ m1 = t from h78, show Of τ o1 = u from h89]; exact hb) (fun z hz h1 h2 => by rw [show Of τ m1 = t from h78] at h2 ⊢; rw [show Of τ o1 = u from h89] at h1 ⊢; simp [h1, h2, show Of τ m1 = t from h78])]; simp [show τ 10 m1 = τ 10 o1 from h116, show Hs τ m1 8 = false from h124, show Hs τ o1 8 = false from h133, show Hs τ o1 4 = true from h142, b2i])).to (fun a c ha hc _ => by rw [Bool.eq_iff_iff]; simp only [Bool.or_eq_true, Bool.and_eq_true, decide_eq_true_eq]; have e1 : Of τ m1 = t := h78; have e2 : Of τ o1 = u := h89; constructor <;> intro hh <;> (rcases (show c = o1 ∨ c ≠ o1 by omega) with h5 | h5) <;> (rcases (show a = m1 ∨ a ≠ m1 by omega) with h6 | h6) <;> first | (subst h5; subst h6; omega) | (subst h5; omega) | (subst h6; omega) | omega))
                              · refine g_aload_n C dX6_work_145 rfl ?_
                                refine g_iload_n C dX6_work_146 rfl ?_
                                refine g_iload C dX6_work_147 rfl ?_
                                refine g_callVr 0 C (cr_X6_goesOver hW1 (x := m1) (o := o1) hm ho) mw_X6_goesOver ml_X6_123 rfl rfl rfl rfl (Nat.le_of_ble_eq_true rfl) dX6_work_149 ⟨Nat.le_of_ble_eq_true rfl, Nat.le_of_ble_eq_true rfl⟩ ⟨Nat.le_of_ble_eq_true rfl, Nat.le_of_ble_eq_true rfl⟩ ?_
                                refine g_ifb_eq (tgt := 159) C dX6_work_152 (by decide) (fun h152 => ?_) (fun h152 => ?_)
                                · refine g_iconst (v := 0) C dX6_work_159 (by decide) ?_
                                  refine gM_sn14 C (by omega) (by decide +kernel) dX6_work_160 ?_
                                  rw [rwR_up]
                                  exact j161 ho _ ((WInv_put hI (m := m1) (o := o1) (by omega) (by omega) hMl (by rw [GoB_W hW hB hI hm ho (by rw [show Of τ m1 = t from h78, show Of τ o1 = u from h89]; exact hb) (fun z hz h1 h2 => by rw [show Of τ m1 = t from h78] at h2 ⊢; rw [show Of τ o1 = u from h89] at h1 ⊢; simp [h1, h2, show Of τ m1 = t from h78])]; simp [show τ 10 m1 = τ 10 o1 from h116, show Hs τ m1 8 = false from h124, show Hs τ o1 8 = false from h133, show Hs τ o1 4 = false from h142, show GoB (rwR 14 τ O1) m1 o1 = false from h152, b2i])).to (fun a c ha hc _ => by rw [Bool.eq_iff_iff]; simp only [Bool.or_eq_true, Bool.and_eq_true, decide_eq_true_eq]; have e1 : Of τ m1 = t := h78; have e2 : Of τ o1 = u := h89; constructor <;> intro hh <;> (rcases (show c = o1 ∨ c ≠ o1 by omega) with h5 | h5) <;> (rcases (show a = m1 ∨ a ≠ m1 by omega) with h6 | h6) <;> first | (subst h5; subst h6; omega) | (subst h5; omega) | (subst h6; omega) | omega))
                                · refine g_iconst (v := 1) C dX6_work_155 (by decide) ?_
                                  refine g_goto (tgt := 160) C dX6_work_156 (by decide) ?_
                                  refine gM_sn14 C (by omega) (by decide +kernel) dX6_work_160 ?_
                                  rw [rwR_up]
                                  exact j161 ho _ ((WInv_put hI (m := m1) (o := o1) (by omega) (by omega) hMl (by rw [GoB_W hW hB hI hm ho (by rw [show Of τ m1 = t from h78, show Of τ o1 = u from h89]; exact hb) (fun z hz h1 h2 => by rw [show Of τ m1 = t from h78] at h2 ⊢; rw [show Of τ o1 = u from h89] at h1 ⊢; simp [h1, h2, show Of τ m1 = t from h78])]; simp [show τ 10 m1 = τ 10 o1 from h116, show Hs τ m1 8 = false from h124, show Hs τ o1 8 = false from h133, show Hs τ o1 4 = false from h142, show GoB (rwR 14 τ O1) m1 o1 = true from h152, b2i])).to (fun a c ha hc _ => by rw [Bool.eq_iff_iff]; simp only [Bool.or_eq_true, Bool.and_eq_true, decide_eq_true_eq]; have e1 : Of τ m1 = t := h78; have e2 : Of τ o1 = u := h89; constructor <;> intro hh <;> (rcases (show c = o1 ∨ c ≠ o1 by omega) with h5 | h5) <;> (rcases (show a = m1 ∨ a ≠ m1 by omega) with h6 | h6) <;> first | (subst h5; subst h6; omega) | (subst h5; omega) | (subst h6; omega) | omega))
              refine g_iload_n C dX6_work_42 rfl ?_
              refine g_aload_n C dX6_work_43 rfl ?_
              refine gn_X6_70 C (v := nI (nM τ)) (show τ 0 2 = _ from w0_m hW) dX6_work_44 ?_
              refine g_icmpN_ge (tgt := 173) C (by omega) (by omega) dX6_work_47 (by decide) (fun h47 => ?_) (fun h47 => ?_)
              · exact (j173 (hI.to (fun a c ha hc _ => by rw [Bool.eq_iff_iff]; simp only [Bool.or_eq_true, Bool.and_eq_true, decide_eq_true_eq]; omega))).weak (by simp [lvle, lst])
              · refine g_aload_n C dX6_work_50 rfl ?_
                refine g_iload_n C dX6_work_51 rfl ?_
                refine g_iload_n C dX6_work_52 rfl ?_
                refine g_callVr 0 C (cr_X6_isBelow hW1 (t := t) (u := u) (by omega) (by omega)) mw_X6_isBelow ml_X6_90 rfl rfl rfl rfl (Nat.le_of_ble_eq_true rfl) dX6_work_53 ⟨Nat.le_of_ble_eq_true rfl, Nat.le_of_ble_eq_true rfl⟩ ⟨Nat.le_of_ble_eq_true rfl, Nat.le_of_ble_eq_true rfl⟩ ?_
                refine g_ifb_eq (tgt := 173) C dX6_work_56 (by decide) (fun h56 => ?_) (fun h56 => ?_)
                · exact (j173 (hI.to (fun a c ha hc hv => by have h1 := w0_ofl hW ha; have h2 := w0_ofl hW hc; rw [OvS_eq hW hB ha hc] at hv; simp only [ovB, Bool.and_eq_true] at hv; have hv := hv.1.1.1.1.1; rw [Bool.eq_iff_iff]; simp only [Bool.or_eq_true, Bool.and_eq_true, decide_eq_true_eq]; have : ¬ (Of τ a = t ∧ Of τ c = u) := (fun h => by rw [h.1, h.2, show Bel τ t u = false from h56] at hv; cases hv); omega))).weak (by simp [lvle, lst])
                · refine g_iconstN 0 C dX6_work_59 (by decide) ?_
                  refine g_istore C dX6_work_60 (by decide) ?_
                  exact lo (by omega) (show Bel τ t u = true from h56) (nM τ + 1) 0 O1 (by omega) (by omega) (hI.to (fun a c ha hc _ => by simp))
          refine g_iload_n C dX6_work_36 rfl ?_
          refine g_if_lt (tgt := 179) C dX6_work_37 (by decide) (fun h37 => ?_) (fun h37 => ?_)
          · exact absurd h37 (nI_pos (by omega))
          · refine g_iconstN 0 C dX6_work_40 (by decide) ?_
            refine g_istore_n C dX6_work_41 (by decide) ?_
            exact (lm (nM τ + 1) 0 O1 (by omega) (by omega) (hI.to (fun a c ha hc _ => by rw [Bool.eq_iff_iff]; simp only [Bool.or_eq_true, Bool.and_eq_true, decide_eq_true_eq]; omega))).weak (by simp [lvle, lst])
      refine g_iload_n C dX6_work_24 rfl ?_
      refine g_aload_n C dX6_work_25 rfl ?_
      refine gn_X6_62 C (v := nI (nT τ)) (show τ 0 0 = _ from w0_t hW) dX6_work_26 ?_
      refine g_icmpN_ge (tgt := 185) C (by omega) (by omega) dX6_work_29 (by decide) (fun h29 => ?_) (fun h29 => ?_)
      · exact g_vret C dX6_work_185 ⟨rfl, O1, rfl, hI.1, fun a c ha hc => by rw [hI.2 a c ha hc]; have := w0_ofl hW ha; simp [show Of τ a < t by omega]⟩
      · refine g_iload_n C dX6_work_32 rfl ?_
        refine g_iconst (v := 1) C dX6_work_33 (by decide) ?_
        refine g_isub C dX6_work_34 ?_
        refine g_istore_n C dX6_work_35 (by decide) ?_
        exact lu (by omega) t O1 (by omega) (hI.to (fun a c ha hc hv => by have h1 := w0_ofl hW ha; have h2 := w0_ofl hW hc; rw [OvS_eq hW hB ha hc] at hv; simp only [ovB, Bool.and_eq_true] at hv; have hv := hB _ _ h1 (by omega) hv.1.1.1.1.1; rw [Bool.eq_iff_iff]; simp only [Bool.or_eq_true, Bool.and_eq_true, decide_eq_true_eq]; omega))
  have lz : ∀ (n i : Nat) (O1 : Nat → Int32), i ≤ 3600 → 3601 ≤ i + n → bool01 O1 → (∀ j, j < i → O1 j = 0) → G p l e (rmo 4 88) s m ([.ref (b 0)] : List Value).toArray below meth c D (va_A (pM b cI cZ τ) s.heap.size) 0 0 (Qe below ([.ref (b 0)] : List Value).toArray s D (pM b cI cZ) τ (fun r v => r = none ∧ ∃ Ot, v = rwR 14 τ Ot ∧ bool01 Ot ∧ ∀ m o, m < nM τ → o < nM τ → Ot (60 * m + o) = b2i (OvS τ m o))) 5 (pM b cI cZ (rwR 14 τ O1)) 2 [some (.ref (b 0)), some (.int (nI i)), none, none, none] [] := by
    intro n
    induction n with
    | zero => intro i O1 h1 h2; omega
    | succ n ih =>
      intro i O1 h1 h2 hb hz
      refine g_iload_n C dX6_work_2 rfl ?_
      refine g_sipushN 3600 C dX6_work_3 (by decide) ?_
      refine g_icmpN_ge (tgt := 22) C (by omega) (by omega) dX6_work_6 (by decide) (fun h6 => ?_) (fun h6 => ?_)
      · refine g_iconstN 0 C dX6_work_22 (by decide) ?_
        refine g_istore_n C dX6_work_23 (by decide) ?_
        exact lt (nT τ + 1) 0 O1 (by omega) (by omega) ⟨hb, fun a c ha hc => by rw [hz _ (by omega)]; simp [b2i]⟩
      · refine g_aload_n C dX6_work_9 rfl ?_
        refine gf_X6_50 C dX6_work_10 ?_
        refine g_iload_n C dX6_work_13 rfl ?_
        refine g_iconst (v := 0) C dX6_work_14 (by decide) ?_
        refine gM_sn14 C (by omega) (by decide +kernel) dX6_work_15 ?_
        rw [rwR_up]
        refine g_iincN C dX6_work_16 rfl (by decide) ?_
        refine g_goto (tgt := 2) C dX6_work_19 (by decide) ?_
        exact ih (i + 1) _ (by omega) (by omega) (bool01_upd hb (Or.inl rfl)) (fun j hj => by by_cases e : j = i <;> simp [upd, e]; exact hz j (by omega))
  have h0 : pM b cI cZ τ = pM b cI cZ (rwR 14 τ (τ 14)) := by rw [rwR_self]
  have hz0 := lz 3601 0 (τ 14) (by omega) (by omega) hW.2.2.2.2.2.2.2.2 (fun j hj => by omega)
  rw [← h0] at hz0
  refine g_iconstN 0 C dX6_work_0 (by decide) ?_
  refine g_istore_n C dX6_work_1 (by decide) ?_
  exact hz0
end

-- ===== PART A: goes FIRST, ahead of the names: the tables' words, and 'selects' of the private methods out of them =====
/-- a private method of a class that the tables say can be made, by its rows of tables_1 -/
def lw_okq (q : MethodName × Nat) : Prop := (q.1.cls ≠ "java/lang/invoke/MethodHandle" ∧ q.1.cls ≠ "java/lang/invoke/VarHandle") ∧ Cond.instantiable q.1.cls q.2 ∈ tables_1 ∧ Cond.privateMethod q.1 ∈ tables_1 ∧ Cond.instanceMethod q.1 ∈ tables_1
theorem lw_p0 : lw_okq (⟨"OverrideRules$Types", "findAbove", "(I)V"⟩, 6) := ⟨⟨by decide +kernel, by decide +kernel⟩, List.mem_of_getElem? (i := 19) (by decide +kernel), List.mem_of_getElem? (i := 195) (by decide +kernel), List.mem_of_getElem? (i := 196) (by decide +kernel)⟩
theorem lw_p1 : lw_okq (⟨"OverrideRules", "isMissingType", "(I)Z"⟩, 5) := ⟨⟨by decide +kernel, by decide +kernel⟩, List.mem_of_getElem? (i := 11) (by decide +kernel), List.mem_of_getElem? (i := 245) (by decide +kernel), List.mem_of_getElem? (i := 246) (by decide +kernel)⟩
theorem lw_p2 : lw_okq (⟨"OverrideRules$Members", "isOfNameBelow", "(II)Z"⟩, 8) := ⟨⟨by decide +kernel, by decide +kernel⟩, List.mem_of_getElem? (i := 61) (by decide +kernel), List.mem_of_getElem? (i := 296) (by decide +kernel), List.mem_of_getElem? (i := 297) (by decide +kernel)⟩
theorem lw_p3 : lw_okq (⟨"OverrideRules$Members", "isReached", "(II)Z"⟩, 8) := ⟨⟨by decide +kernel, by decide +kernel⟩, List.mem_of_getElem? (i := 61) (by decide +kernel), List.mem_of_getElem? (i := 312) (by decide +kernel), List.mem_of_getElem? (i := 313) (by decide +kernel)⟩
theorem lw_p4 : lw_okq (⟨"OverrideRules$Members", "isSeen", "(II)Z"⟩, 8) := ⟨⟨by decide +kernel, by decide +kernel⟩, List.mem_of_getElem? (i := 61) (by decide +kernel), List.mem_of_getElem? (i := 333) (by decide +kernel), List.mem_of_getElem? (i := 334) (by decide +kernel)⟩
theorem lw_p5 : lw_okq (⟨"OverrideRules$Choice", "chooseOfInterfaces", "(II)I"⟩, 2) := ⟨⟨by decide +kernel, by decide +kernel⟩, List.mem_of_getElem? (i := 92) (by decide +kernel), List.mem_of_getElem? (i := 364) (by decide +kernel), List.mem_of_getElem? (i := 365) (by decide +kernel)⟩
theorem lw_p6 : lw_okq (⟨"OverrideRules$Choice", "leastOrFight", "(II)I"⟩, 2) := ⟨⟨by decide +kernel, by decide +kernel⟩, List.mem_of_getElem? (i := 92) (by decide +kernel), List.mem_of_getElem? (i := 373) (by decide +kernel), List.mem_of_getElem? (i := 374) (by decide +kernel)⟩
theorem lw_p7 : lw_okq (⟨"OverrideRules$Faults", "walkOwn", "(I)V"⟩, 9) := ⟨⟨by decide +kernel, by decide +kernel⟩, List.mem_of_getElem? (i := 105) (by decide +kernel), List.mem_of_getElem? (i := 401) (by decide +kernel), List.mem_of_getElem? (i := 402) (by decide +kernel)⟩
theorem lw_p8 : lw_okq (⟨"OverrideRules$Faults", "noteIf", "(ZIII)V"⟩, 9) := ⟨⟨by decide +kernel, by decide +kernel⟩, List.mem_of_getElem? (i := 105) (by decide +kernel), List.mem_of_getElem? (i := 410) (by decide +kernel), List.mem_of_getElem? (i := 411) (by decide +kernel)⟩
theorem lw_p9 : lw_okq (⟨"OverrideRules$Faults", "note", "(III)V"⟩, 9) := ⟨⟨by decide +kernel, by decide +kernel⟩, List.mem_of_getElem? (i := 105) (by decide +kernel), List.mem_of_getElem? (i := 414) (by decide +kernel), List.mem_of_getElem? (i := 415) (by decide +kernel)⟩
theorem lw_p10 : lw_okq (⟨"OverrideRules$Faults", "compare", "(II)V"⟩, 9) := ⟨⟨by decide +kernel, by decide +kernel⟩, List.mem_of_getElem? (i := 105) (by decide +kernel), List.mem_of_getElem? (i := 420) (by decide +kernel), List.mem_of_getElem? (i := 421) (by decide +kernel)⟩
theorem lw_p11 : lw_okq (⟨"OverrideRules$Faults", "suits", "(II)Z"⟩, 9) := ⟨⟨by decide +kernel, by decide +kernel⟩, List.mem_of_getElem? (i := 105) (by decide +kernel), List.mem_of_getElem? (i := 432) (by decide +kernel), List.mem_of_getElem? (i := 433) (by decide +kernel)⟩
theorem lw_p12 : lw_okq (⟨"OverrideRules$Faults", "walkInherited", "(I)V"⟩, 9) := ⟨⟨by decide +kernel, by decide +kernel⟩, List.mem_of_getElem? (i := 105) (by decide +kernel), List.mem_of_getElem? (i := 452) (by decide +kernel), List.mem_of_getElem? (i := 453) (by decide +kernel)⟩
theorem lw_p13 : lw_okq (⟨"OverrideRules$Faults", "noteChosen", "(III)V"⟩, 9) := ⟨⟨by decide +kernel, by decide +kernel⟩, List.mem_of_getElem? (i := 105) (by decide +kernel), List.mem_of_getElem? (i := 459) (by decide +kernel), List.mem_of_getElem? (i := 460) (by decide +kernel)⟩
theorem lw_p14 : lw_okq (⟨"OverrideRules$Faults", "isMetByChance", "(II)Z"⟩, 9) := ⟨⟨by decide +kernel, by decide +kernel⟩, List.mem_of_getElem? (i := 105) (by decide +kernel), List.mem_of_getElem? (i := 463) (by decide +kernel), List.mem_of_getElem? (i := 464) (by decide +kernel)⟩
theorem lw_p15 : lw_okq (⟨"OverrideRulesModel", "isType", "(I)Z"⟩, 21) := ⟨⟨by decide +kernel, by decide +kernel⟩, List.mem_of_getElem? (i := 504) (by decide +kernel), List.mem_of_getElem? (i := 583) (by decide +kernel), List.mem_of_getElem? (i := 584) (by decide +kernel)⟩
def lw_privs_1 : List (MethodName × Nat) := [(⟨"OverrideRules$Types", "findAbove", "(I)V"⟩, 6), (⟨"OverrideRules", "isMissingType", "(I)Z"⟩, 5), (⟨"OverrideRules$Members", "isOfNameBelow", "(II)Z"⟩, 8), (⟨"OverrideRules$Members", "isReached", "(II)Z"⟩, 8), (⟨"OverrideRules$Members", "isSeen", "(II)Z"⟩, 8), (⟨"OverrideRules$Choice", "chooseOfInterfaces", "(II)I"⟩, 2), (⟨"OverrideRules$Choice", "leastOrFight", "(II)I"⟩, 2), (⟨"OverrideRules$Faults", "walkOwn", "(I)V"⟩, 9), (⟨"OverrideRules$Faults", "noteIf", "(ZIII)V"⟩, 9), (⟨"OverrideRules$Faults", "note", "(III)V"⟩, 9), (⟨"OverrideRules$Faults", "compare", "(II)V"⟩, 9), (⟨"OverrideRules$Faults", "suits", "(II)Z"⟩, 9), (⟨"OverrideRules$Faults", "walkInherited", "(I)V"⟩, 9), (⟨"OverrideRules$Faults", "noteChosen", "(III)V"⟩, 9), (⟨"OverrideRules$Faults", "isMetByChance", "(II)Z"⟩, 9), (⟨"OverrideRulesModel", "isType", "(I)Z"⟩, 21)]
theorem lw_r1 : ∀ q ∈ lw_privs_1, lw_okq q := List.forall_mem_cons.mpr ⟨lw_p0, List.forall_mem_cons.mpr ⟨lw_p1, List.forall_mem_cons.mpr ⟨lw_p2, List.forall_mem_cons.mpr ⟨lw_p3, List.forall_mem_cons.mpr ⟨lw_p4, List.forall_mem_cons.mpr ⟨lw_p5, List.forall_mem_cons.mpr ⟨lw_p6, List.forall_mem_cons.mpr ⟨lw_p7, List.forall_mem_cons.mpr ⟨lw_p8, List.forall_mem_cons.mpr ⟨lw_p9, List.forall_mem_cons.mpr ⟨lw_p10, List.forall_mem_cons.mpr ⟨lw_p11, List.forall_mem_cons.mpr ⟨lw_p12, List.forall_mem_cons.mpr ⟨lw_p13, List.forall_mem_cons.mpr ⟨lw_p14, List.forall_mem_cons.mpr ⟨lw_p15, fun _ h => absurd h List.not_mem_nil⟩⟩⟩⟩⟩⟩⟩⟩⟩⟩⟩⟩⟩⟩⟩⟩
theorem lw_p16 : lw_okq (⟨"OverrideRulesModel", "rise", "()V"⟩, 21) := ⟨⟨by decide +kernel, by decide +kernel⟩, List.mem_of_getElem? (i := 504) (by decide +kernel), List.mem_of_getElem? (i := 590) (by decide +kernel), List.mem_of_getElem? (i := 591) (by decide +kernel)⟩
theorem lw_p17 : lw_okq (⟨"OverrideRulesModel", "lift", "(II)V"⟩, 21) := ⟨⟨by decide +kernel, by decide +kernel⟩, List.mem_of_getElem? (i := 504) (by decide +kernel), List.mem_of_getElem? (i := 594) (by decide +kernel), List.mem_of_getElem? (i := 595) (by decide +kernel)⟩
theorem lw_p18 : lw_okq (⟨"OverrideRulesModel", "work", "()V"⟩, 21) := ⟨⟨by decide +kernel, by decide +kernel⟩, List.mem_of_getElem? (i := 504) (by decide +kernel), List.mem_of_getElem? (i := 598) (by decide +kernel), List.mem_of_getElem? (i := 599) (by decide +kernel)⟩
theorem lw_p19 : lw_okq (⟨"OverrideRulesModel", "isBelow", "(II)Z"⟩, 21) := ⟨⟨by decide +kernel, by decide +kernel⟩, List.mem_of_getElem? (i := 504) (by decide +kernel), List.mem_of_getElem? (i := 602) (by decide +kernel), List.mem_of_getElem? (i := 603) (by decide +kernel)⟩
theorem lw_p20 : lw_okq (⟨"OverrideRulesModel", "isStatic", "(I)Z"⟩, 21) := ⟨⟨by decide +kernel, by decide +kernel⟩, List.mem_of_getElem? (i := 504) (by decide +kernel), List.mem_of_getElem? (i := 606) (by decide +kernel), List.mem_of_getElem? (i := 607) (by decide +kernel)⟩
theorem lw_p21 : lw_okq (⟨"OverrideRulesModel", "has", "(II)Z"⟩, 21) := ⟨⟨by decide +kernel, by decide +kernel⟩, List.mem_of_getElem? (i := 504) (by decide +kernel), List.mem_of_getElem? (i := 610) (by decide +kernel), List.mem_of_getElem? (i := 611) (by decide +kernel)⟩
theorem lw_p22 : lw_okq (⟨"OverrideRulesModel", "isPrivate", "(I)Z"⟩, 21) := ⟨⟨by decide +kernel, by decide +kernel⟩, List.mem_of_getElem? (i := 504) (by decide +kernel), List.mem_of_getElem? (i := 614) (by decide +kernel), List.mem_of_getElem? (i := 615) (by decide +kernel)⟩
theorem lw_p23 : lw_okq (⟨"OverrideRulesModel", "goesOver", "(II)Z"⟩, 21) := ⟨⟨by decide +kernel, by decide +kernel⟩, List.mem_of_getElem? (i := 504) (by decide +kernel), List.mem_of_getElem? (i := 618) (by decide +kernel), List.mem_of_getElem? (i := 619) (by decide +kernel)⟩
theorem lw_p24 : lw_okq (⟨"OverrideRulesModel", "isInterface", "(I)Z"⟩, 21) := ⟨⟨by decide +kernel, by decide +kernel⟩, List.mem_of_getElem? (i := 504) (by decide +kernel), List.mem_of_getElem? (i := 622) (by decide +kernel), List.mem_of_getElem? (i := 623) (by decide +kernel)⟩
theorem lw_p25 : lw_okq (⟨"OverrideRulesModel", "isSeen", "(II)Z"⟩, 21) := ⟨⟨by decide +kernel, by decide +kernel⟩, List.mem_of_getElem? (i := 504) (by decide +kernel), List.mem_of_getElem? (i := 626) (by decide +kernel), List.mem_of_getElem? (i := 627) (by decide +kernel)⟩
theorem lw_p26 : lw_okq (⟨"OverrideRulesModel", "access", "(I)I"⟩, 21) := ⟨⟨by decide +kernel, by decide +kernel⟩, List.mem_of_getElem? (i := 504) (by decide +kernel), List.mem_of_getElem? (i := 630) (by decide +kernel), List.mem_of_getElem? (i := 631) (by decide +kernel)⟩
theorem lw_p27 : lw_okq (⟨"OverrideRulesModel", "isSub", "(II)Z"⟩, 21) := ⟨⟨by decide +kernel, by decide +kernel⟩, List.mem_of_getElem? (i := 504) (by decide +kernel), List.mem_of_getElem? (i := 642) (by decide +kernel), List.mem_of_getElem? (i := 643) (by decide +kernel)⟩
theorem lw_p28 : lw_okq (⟨"OverrideRulesModel", "isMember", "(I)Z"⟩, 21) := ⟨⟨by decide +kernel, by decide +kernel⟩, List.mem_of_getElem? (i := 504) (by decide +kernel), List.mem_of_getElem? (i := 654) (by decide +kernel), List.mem_of_getElem? (i := 655) (by decide +kernel)⟩
theorem lw_p29 : lw_okq (⟨"OverrideRulesModel", "isOver", "(II)Z"⟩, 21) := ⟨⟨by decide +kernel, by decide +kernel⟩, List.mem_of_getElem? (i := 504) (by decide +kernel), List.mem_of_getElem? (i := 672) (by decide +kernel), List.mem_of_getElem? (i := 673) (by decide +kernel)⟩
theorem lw_p30 : lw_okq (⟨"OverrideRulesModel", "hidesIt", "(II)Z"⟩, 21) := ⟨⟨by decide +kernel, by decide +kernel⟩, List.mem_of_getElem? (i := 504) (by decide +kernel), List.mem_of_getElem? (i := 680) (by decide +kernel), List.mem_of_getElem? (i := 681) (by decide +kernel)⟩
theorem lw_p31 : lw_okq (⟨"OverrideRulesModel", "isPlain", "(I)Z"⟩, 21) := ⟨⟨by decide +kernel, by decide +kernel⟩, List.mem_of_getElem? (i := 504) (by decide +kernel), List.mem_of_getElem? (i := 688) (by decide +kernel), List.mem_of_getElem? (i := 689) (by decide +kernel)⟩
def lw_privs_2 : List (MethodName × Nat) := [(⟨"OverrideRulesModel", "rise", "()V"⟩, 21), (⟨"OverrideRulesModel", "lift", "(II)V"⟩, 21), (⟨"OverrideRulesModel", "work", "()V"⟩, 21), (⟨"OverrideRulesModel", "isBelow", "(II)Z"⟩, 21), (⟨"OverrideRulesModel", "isStatic", "(I)Z"⟩, 21), (⟨"OverrideRulesModel", "has", "(II)Z"⟩, 21), (⟨"OverrideRulesModel", "isPrivate", "(I)Z"⟩, 21), (⟨"OverrideRulesModel", "goesOver", "(II)Z"⟩, 21), (⟨"OverrideRulesModel", "isInterface", "(I)Z"⟩, 21), (⟨"OverrideRulesModel", "isSeen", "(II)Z"⟩, 21), (⟨"OverrideRulesModel", "access", "(I)I"⟩, 21), (⟨"OverrideRulesModel", "isSub", "(II)Z"⟩, 21), (⟨"OverrideRulesModel", "isMember", "(I)Z"⟩, 21), (⟨"OverrideRulesModel", "isOver", "(II)Z"⟩, 21), (⟨"OverrideRulesModel", "hidesIt", "(II)Z"⟩, 21), (⟨"OverrideRulesModel", "isPlain", "(I)Z"⟩, 21)]
theorem lw_r2 : ∀ q ∈ lw_privs_2, lw_okq q := List.forall_mem_cons.mpr ⟨lw_p16, List.forall_mem_cons.mpr ⟨lw_p17, List.forall_mem_cons.mpr ⟨lw_p18, List.forall_mem_cons.mpr ⟨lw_p19, List.forall_mem_cons.mpr ⟨lw_p20, List.forall_mem_cons.mpr ⟨lw_p21, List.forall_mem_cons.mpr ⟨lw_p22, List.forall_mem_cons.mpr ⟨lw_p23, List.forall_mem_cons.mpr ⟨lw_p24, List.forall_mem_cons.mpr ⟨lw_p25, List.forall_mem_cons.mpr ⟨lw_p26, List.forall_mem_cons.mpr ⟨lw_p27, List.forall_mem_cons.mpr ⟨lw_p28, List.forall_mem_cons.mpr ⟨lw_p29, List.forall_mem_cons.mpr ⟨lw_p30, List.forall_mem_cons.mpr ⟨lw_p31, fun _ h => absurd h List.not_mem_nil⟩⟩⟩⟩⟩⟩⟩⟩⟩⟩⟩⟩⟩⟩⟩⟩
theorem lw_p32 : lw_okq (⟨"OverrideRulesModel", "choose", "(II)I"⟩, 21) := ⟨⟨by decide +kernel, by decide +kernel⟩, List.mem_of_getElem? (i := 504) (by decide +kernel), List.mem_of_getElem? (i := 692) (by decide +kernel), List.mem_of_getElem? (i := 693) (by decide +kernel)⟩
theorem lw_p33 : lw_okq (⟨"OverrideRulesModel", "isLast", "(II)Z"⟩, 21) := ⟨⟨by decide +kernel, by decide +kernel⟩, List.mem_of_getElem? (i := 504) (by decide +kernel), List.mem_of_getElem? (i := 696) (by decide +kernel), List.mem_of_getElem? (i := 697) (by decide +kernel)⟩
theorem lw_p34 : lw_okq (⟨"OverrideRulesModel", "judge", "(I)V"⟩, 21) := ⟨⟨by decide +kernel, by decide +kernel⟩, List.mem_of_getElem? (i := 504) (by decide +kernel), List.mem_of_getElem? (i := 704) (by decide +kernel), List.mem_of_getElem? (i := 705) (by decide +kernel)⟩
theorem lw_p35 : lw_okq (⟨"OverrideRulesModel", "isMixed", "(II)Z"⟩, 21) := ⟨⟨by decide +kernel, by decide +kernel⟩, List.mem_of_getElem? (i := 504) (by decide +kernel), List.mem_of_getElem? (i := 708) (by decide +kernel), List.mem_of_getElem? (i := 709) (by decide +kernel)⟩
theorem lw_p36 : lw_okq (⟨"OverrideRulesModel", "note", "(III)V"⟩, 21) := ⟨⟨by decide +kernel, by decide +kernel⟩, List.mem_of_getElem? (i := 504) (by decide +kernel), List.mem_of_getElem? (i := 712) (by decide +kernel), List.mem_of_getElem? (i := 713) (by decide +kernel)⟩
theorem lw_p37 : lw_okq (⟨"OverrideRulesModel", "three", "(II)V"⟩, 21) := ⟨⟨by decide +kernel, by decide +kernel⟩, List.mem_of_getElem? (i := 504) (by decide +kernel), List.mem_of_getElem? (i := 716) (by decide +kernel), List.mem_of_getElem? (i := 717) (by decide +kernel)⟩
theorem lw_p38 : lw_okq (⟨"OverrideRulesModel", "suits", "(II)Z"⟩, 21) := ⟨⟨by decide +kernel, by decide +kernel⟩, List.mem_of_getElem? (i := 504) (by decide +kernel), List.mem_of_getElem? (i := 720) (by decide +kernel), List.mem_of_getElem? (i := 721) (by decide +kernel)⟩
theorem lw_p39 : lw_okq (⟨"OverrideRulesModel", "throwsMore", "(II)Z"⟩, 21) := ⟨⟨by decide +kernel, by decide +kernel⟩, List.mem_of_getElem? (i := 504) (by decide +kernel), List.mem_of_getElem? (i := 724) (by decide +kernel), List.mem_of_getElem? (i := 725) (by decide +kernel)⟩
theorem lw_p40 : lw_okq (⟨"OverrideRulesModel", "inherited", "(II)V"⟩, 21) := ⟨⟨by decide +kernel, by decide +kernel⟩, List.mem_of_getElem? (i := 504) (by decide +kernel), List.mem_of_getElem? (i := 728) (by decide +kernel), List.mem_of_getElem? (i := 729) (by decide +kernel)⟩
def lw_privs_3 : List (MethodName × Nat) := [(⟨"OverrideRulesModel", "choose", "(II)I"⟩, 21), (⟨"OverrideRulesModel", "isLast", "(II)Z"⟩, 21), (⟨"OverrideRulesModel", "judge", "(I)V"⟩, 21), (⟨"OverrideRulesModel", "isMixed", "(II)Z"⟩, 21), (⟨"OverrideRulesModel", "note", "(III)V"⟩, 21), (⟨"OverrideRulesModel", "three", "(II)V"⟩, 21), (⟨"OverrideRulesModel", "suits", "(II)Z"⟩, 21), (⟨"OverrideRulesModel", "throwsMore", "(II)Z"⟩, 21), (⟨"OverrideRulesModel", "inherited", "(II)V"⟩, 21)]
theorem lw_r3 : ∀ q ∈ lw_privs_3, lw_okq q := List.forall_mem_cons.mpr ⟨lw_p32, List.forall_mem_cons.mpr ⟨lw_p33, List.forall_mem_cons.mpr ⟨lw_p34, List.forall_mem_cons.mpr ⟨lw_p35, List.forall_mem_cons.mpr ⟨lw_p36, List.forall_mem_cons.mpr ⟨lw_p37, List.forall_mem_cons.mpr ⟨lw_p38, List.forall_mem_cons.mpr ⟨lw_p39, List.forall_mem_cons.mpr ⟨lw_p40, fun _ h => absurd h List.not_mem_nil⟩⟩⟩⟩⟩⟩⟩⟩⟩
def lw_privs : List (MethodName × Nat) := lw_privs_1 ++ (lw_privs_2 ++ (lw_privs_3))
def lw_tbl : List Cond := k2_sels lw_privs ++ tables_1
theorem lw_privs_ok : ∀ q ∈ lw_privs, lw_okq q := by
  show ∀ q ∈ lw_privs_1 ++ (lw_privs_2 ++ (lw_privs_3)), lw_okq q
  exact List.forall_mem_append.mpr ⟨lw_r1, List.forall_mem_append.mpr ⟨lw_r2, lw_r3⟩⟩
/-! ===== BEGIN printed: names, fields, word lists, decode rows ===== -/
def RX0 : String := "OverrideRules$Choice"
def TX0 : u_T := fun k => match k with
  | 0 => ("OverrideRules$Choice", "types", "LOverrideRules$Types;", true)
  | _ => ("OverrideRules$Choice", "members", "LOverrideRules$Members;", true)
def tyX0 : Nat → FieldType := fun k => match k with
  | 0 => .object "OverrideRules$Types"
  | _ => .object "OverrideRules$Members"
abbrev wsX00 : List Cond := u_ws RX0 TX0 2
theorem nmX0 : ∀ a, a < 2 → ∀ b, b < 2 → a ≠ b → (TX0 a).2.1 ≠ (TX0 b).2.1 := by decide +kernel
theorem tyX0_ok : ∀ k, k < 2 → parseFieldDescriptor (TX0 k).2.2.1 = some (tyX0 k) := by decide +kernel
abbrev cX0_init : ByteArray := prog_2_method_1_code
def yX0_init : MethodName := ⟨RX0, "<init>", "(LOverrideRules$Types;LOverrideRules$Members;)V"⟩
abbrev cX0_choose : ByteArray := prog_2_method_2_code
def yX0_choose : MethodName := ⟨RX0, "choose", "(II)I"⟩
abbrev cX0_chooseOfInterfaces : ByteArray := prog_2_method_3_code
def yX0_chooseOfInterfaces : MethodName := ⟨RX0, "chooseOfInterfaces", "(II)I"⟩
abbrev cX0_leastOrFight : ByteArray := prog_2_method_4_code
def yX0_leastOrFight : MethodName := ⟨RX0, "leastOrFight", "(II)I"⟩
def RX1 : String := "OverrideRules$Faults"
def TX1 : u_T := fun k => match k with
  | 0 => ("OverrideRules$Faults", "types", "LOverrideRules$Types;", true)
  | 1 => ("OverrideRules$Faults", "thrown", "LOverrideRules$Throws;", true)
  | 2 => ("OverrideRules$Faults", "members", "LOverrideRules$Members;", true)
  | 3 => ("OverrideRules$Faults", "choice", "LOverrideRules$Choice;", true)
  | 4 => ("OverrideRules$Faults", "wanted", "I", false)
  | 5 => ("OverrideRules$Faults", "count", "I", false)
  | 6 => ("OverrideRules$Faults", "pickedCode", "I", false)
  | 7 => ("OverrideRules$Faults", "pickedM", "I", false)
  | _ => ("OverrideRules$Faults", "pickedO", "I", false)
def tyX1 : Nat → FieldType := fun k => match k with
  | 0 => .object "OverrideRules$Types"
  | 1 => .object "OverrideRules$Throws"
  | 2 => .object "OverrideRules$Members"
  | 3 => .object "OverrideRules$Choice"
  | 4 => .int
  | 5 => .int
  | 6 => .int
  | 7 => .int
  | _ => .int
abbrev wsX10 : List Cond := u_ws RX1 TX1 9
theorem nmX1 : ∀ a, a < 9 → ∀ b, b < 9 → a ≠ b → (TX1 a).2.1 ≠ (TX1 b).2.1 := by decide +kernel
theorem tyX1_ok : ∀ k, k < 9 → parseFieldDescriptor (TX1 k).2.2.1 = some (tyX1 k) := by decide +kernel
abbrev cX1_init : ByteArray := prog_3_method_1_code
def yX1_init : MethodName := ⟨RX1, "<init>", "(LOverrideRules$Types;LOverrideRules$Throws;LOverrideRules$Members;LOverrideRules$Choice;)V"⟩
abbrev cX1_walk : ByteArray := prog_3_method_2_code
def yX1_walk : MethodName := ⟨RX1, "walk", "(II)I"⟩
abbrev cX1_pickedPart : ByteArray := prog_3_method_3_code
def yX1_pickedPart : MethodName := ⟨RX1, "pickedPart", "(I)I"⟩
abbrev cX1_note : ByteArray := prog_3_method_4_code
def yX1_note : MethodName := ⟨RX1, "note", "(III)V"⟩
abbrev cX1_noteIf : ByteArray := prog_3_method_5_code
def yX1_noteIf : MethodName := ⟨RX1, "noteIf", "(ZIII)V"⟩
abbrev cX1_walkOwn : ByteArray := prog_3_method_6_code
def yX1_walkOwn : MethodName := ⟨RX1, "walkOwn", "(I)V"⟩
abbrev cX1_compare : ByteArray := prog_3_method_7_code
def yX1_compare : MethodName := ⟨RX1, "compare", "(II)V"⟩
abbrev cX1_suits : ByteArray := prog_3_method_8_code
def yX1_suits : MethodName := ⟨RX1, "suits", "(II)Z"⟩
abbrev cX1_walkInherited : ByteArray := prog_3_method_9_code
def yX1_walkInherited : MethodName := ⟨RX1, "walkInherited", "(I)V"⟩
abbrev cX1_noteChosen : ByteArray := prog_3_method_10_code
def yX1_noteChosen : MethodName := ⟨RX1, "noteChosen", "(III)V"⟩
abbrev cX1_isMetByChance : ByteArray := prog_3_method_11_code
def yX1_isMetByChance : MethodName := ⟨RX1, "isMetByChance", "(II)Z"⟩
def RX2 : String := "OverrideRules$Members"
def TX2 : u_T := fun k => match k with
  | 0 => ("OverrideRules$Members", "types", "LOverrideRules$Types;", true)
  | 1 => ("OverrideRules$Members", "owners", "[I", true)
  | 2 => ("OverrideRules$Members", "names", "[I", true)
  | 3 => ("OverrideRules$Members", "results", "[I", true)
  | 4 => ("OverrideRules$Members", "marks", "[I", true)
  | 5 => ("OverrideRules$Members", "throwSets", "[I", true)
  | 6 => ("OverrideRules$Members", "slots", "[I", true)
  | _ => ("OverrideRules$Members", "count", "I", false)
def tyX2 : Nat → FieldType := fun k => match k with
  | 0 => .object "OverrideRules$Types"
  | 1 => .array .int
  | 2 => .array .int
  | 3 => .array .int
  | 4 => .array .int
  | 5 => .array .int
  | 6 => .array .int
  | _ => .int
abbrev wsX20 : List Cond := u_ws RX2 TX2 8
theorem nmX2 : ∀ a, a < 8 → ∀ b, b < 8 → a ≠ b → (TX2 a).2.1 ≠ (TX2 b).2.1 := by decide +kernel
theorem tyX2_ok : ∀ k, k < 8 → parseFieldDescriptor (TX2 k).2.2.1 = some (tyX2 k) := by decide +kernel
abbrev cX2_init : ByteArray := prog_4_method_1_code
def yX2_init : MethodName := ⟨RX2, "<init>", "(LOverrideRules$Types;)V"⟩
abbrev cX2_forget : ByteArray := prog_4_method_2_code
def yX2_forget : MethodName := ⟨RX2, "forget", "()V"⟩
abbrev cX2_size : ByteArray := prog_4_method_3_code
def yX2_size : MethodName := ⟨RX2, "size", "()I"⟩
abbrev cX2_has : ByteArray := prog_4_method_4_code
def yX2_has : MethodName := ⟨RX2, "has", "(I)Z"⟩
abbrev cX2_isFull : ByteArray := prog_4_method_5_code
def yX2_isFull : MethodName := ⟨RX2, "isFull", "()Z"⟩
abbrev cX2_add : ByteArray := prog_4_method_6_code
def yX2_add : MethodName := ⟨RX2, "add", "(IIII)I"⟩
abbrev cX2_addThrow : ByteArray := prog_4_method_7_code
def yX2_addThrow : MethodName := ⟨RX2, "addThrow", "(II)Z"⟩
abbrev cX2_at : ByteArray := prog_4_method_8_code
def yX2_at : MethodName := ⟨RX2, "at", "(II)I"⟩
abbrev cX2_typeOf : ByteArray := prog_4_method_9_code
def yX2_typeOf : MethodName := ⟨RX2, "typeOf", "(I)I"⟩
abbrev cX2_nameOf : ByteArray := prog_4_method_10_code
def yX2_nameOf : MethodName := ⟨RX2, "nameOf", "(I)I"⟩
abbrev cX2_resultOf : ByteArray := prog_4_method_11_code
def yX2_resultOf : MethodName := ⟨RX2, "resultOf", "(I)I"⟩
abbrev cX2_thrownBy : ByteArray := prog_4_method_12_code
def yX2_thrownBy : MethodName := ⟨RX2, "thrownBy", "(I)I"⟩
abbrev cX2_hasMark : ByteArray := prog_4_method_13_code
def yX2_hasMark : MethodName := ⟨RX2, "hasMark", "(II)Z"⟩
abbrev cX2_isInheritable : ByteArray := prog_4_method_14_code
def yX2_isInheritable : MethodName := ⟨RX2, "isInheritable", "(I)Z"⟩
abbrev cX2_accessOf : ByteArray := prog_4_method_15_code
def yX2_accessOf : MethodName := ⟨RX2, "accessOf", "(I)I"⟩
abbrev cX2_isOverriding : ByteArray := prog_4_method_16_code
def yX2_isOverriding : MethodName := ⟨RX2, "isOverriding", "(II)Z"⟩
abbrev cX2_isHiding : ByteArray := prog_4_method_17_code
def yX2_isHiding : MethodName := ⟨RX2, "isHiding", "(II)Z"⟩
abbrev cX2_isMixed : ByteArray := prog_4_method_18_code
def yX2_isMixed : MethodName := ⟨RX2, "isMixed", "(II)Z"⟩
abbrev cX2_isOfNameBelow : ByteArray := prog_4_method_19_code
def yX2_isOfNameBelow : MethodName := ⟨RX2, "isOfNameBelow", "(II)Z"⟩
abbrev cX2_isSeen : ByteArray := prog_4_method_20_code
def yX2_isSeen : MethodName := ⟨RX2, "isSeen", "(II)Z"⟩
abbrev cX2_isReached : ByteArray := prog_4_method_21_code
def yX2_isReached : MethodName := ⟨RX2, "isReached", "(II)Z"⟩
abbrev cX2_countOverridden : ByteArray := prog_4_method_22_code
def yX2_countOverridden : MethodName := ⟨RX2, "countOverridden", "(I)I"⟩
abbrev cX2_countBridges : ByteArray := prog_4_method_23_code
def yX2_countBridges : MethodName := ⟨RX2, "countBridges", "(I)I"⟩
def RX3 : String := "OverrideRules$Throws"
def TX3 : u_T := fun k => match k with
  | 0 => ("OverrideRules$Throws", "subTo", "[I", true)
  | 1 => ("OverrideRules$Throws", "checkedOnes", "I", false)
  | _ => ("OverrideRules$Throws", "count", "I", false)
def tyX3 : Nat → FieldType := fun k => match k with
  | 0 => .array .int
  | 1 => .int
  | _ => .int
abbrev wsX30 : List Cond := u_ws RX3 TX3 3
theorem nmX3 : ∀ a, a < 3 → ∀ b, b < 3 → a ≠ b → (TX3 a).2.1 ≠ (TX3 b).2.1 := by decide +kernel
theorem tyX3_ok : ∀ k, k < 3 → parseFieldDescriptor (TX3 k).2.2.1 = some (tyX3 k) := by decide +kernel
abbrev cX3_init : ByteArray := prog_5_method_1_code
def yX3_init : MethodName := ⟨RX3, "<init>", "()V"⟩
abbrev cX3_forget : ByteArray := prog_5_method_2_code
def yX3_forget : MethodName := ⟨RX3, "forget", "()V"⟩
abbrev cX3_size : ByteArray := prog_5_method_3_code
def yX3_size : MethodName := ⟨RX3, "size", "()I"⟩
abbrev cX3_has : ByteArray := prog_5_method_4_code
def yX3_has : MethodName := ⟨RX3, "has", "(I)Z"⟩
abbrev cX3_isFull : ByteArray := prog_5_method_5_code
def yX3_isFull : MethodName := ⟨RX3, "isFull", "()Z"⟩
abbrev cX3_add : ByteArray := prog_5_method_6_code
def yX3_add : MethodName := ⟨RX3, "add", "(IZ)I"⟩
abbrev cX3_areAllowed : ByteArray := prog_5_method_7_code
def yX3_areAllowed : MethodName := ⟨RX3, "areAllowed", "(II)Z"⟩
def RX4 : String := "OverrideRules$Types"
def TX4 : u_T := fun k => match k with
  | 0 => ("OverrideRules$Types", "kinds", "[I", true)
  | 1 => ("OverrideRules$Types", "packets", "[I", true)
  | 2 => ("OverrideRules$Types", "parents", "[I", true)
  | 3 => ("OverrideRules$Types", "faces", "[I", true)
  | 4 => ("OverrideRules$Types", "above", "[I", true)
  | _ => ("OverrideRules$Types", "count", "I", false)
def tyX4 : Nat → FieldType := fun k => match k with
  | 0 => .array .int
  | 1 => .array .int
  | 2 => .array .int
  | 3 => .array .int
  | 4 => .array .int
  | _ => .int
abbrev wsX40 : List Cond := u_ws RX4 TX4 6
theorem nmX4 : ∀ a, a < 6 → ∀ b, b < 6 → a ≠ b → (TX4 a).2.1 ≠ (TX4 b).2.1 := by decide +kernel
theorem tyX4_ok : ∀ k, k < 6 → parseFieldDescriptor (TX4 k).2.2.1 = some (tyX4 k) := by decide +kernel
abbrev cX4_init : ByteArray := prog_6_method_1_code
def yX4_init : MethodName := ⟨RX4, "<init>", "()V"⟩
abbrev cX4_forget : ByteArray := prog_6_method_2_code
def yX4_forget : MethodName := ⟨RX4, "forget", "()V"⟩
abbrev cX4_size : ByteArray := prog_6_method_3_code
def yX4_size : MethodName := ⟨RX4, "size", "()I"⟩
abbrev cX4_has : ByteArray := prog_6_method_4_code
def yX4_has : MethodName := ⟨RX4, "has", "(I)Z"⟩
abbrev cX4_isFull : ByteArray := prog_6_method_5_code
def yX4_isFull : MethodName := ⟨RX4, "isFull", "()Z"⟩
abbrev cX4_add : ByteArray := prog_6_method_6_code
def yX4_add : MethodName := ⟨RX4, "add", "(III)I"⟩
abbrev cX4_addFace : ByteArray := prog_6_method_7_code
def yX4_addFace : MethodName := ⟨RX4, "addFace", "(II)I"⟩
abbrev cX4_findAbove : ByteArray := prog_6_method_8_code
def yX4_findAbove : MethodName := ⟨RX4, "findAbove", "(I)V"⟩
abbrev cX4_hasFace : ByteArray := prog_6_method_9_code
def yX4_hasFace : MethodName := ⟨RX4, "hasFace", "(II)Z"⟩
abbrev cX4_countFaces : ByteArray := prog_6_method_10_code
def yX4_countFaces : MethodName := ⟨RX4, "countFaces", "(I)I"⟩
abbrev cX4_isInterface : ByteArray := prog_6_method_11_code
def yX4_isInterface : MethodName := ⟨RX4, "isInterface", "(I)Z"⟩
abbrev cX4_isPlainClass : ByteArray := prog_6_method_12_code
def yX4_isPlainClass : MethodName := ⟨RX4, "isPlainClass", "(I)Z"⟩
abbrev cX4_parentOf : ByteArray := prog_6_method_13_code
def yX4_parentOf : MethodName := ⟨RX4, "parentOf", "(I)I"⟩
abbrev cX4_packetOf : ByteArray := prog_6_method_14_code
def yX4_packetOf : MethodName := ⟨RX4, "packetOf", "(I)I"⟩
abbrev cX4_allAbove : ByteArray := prog_6_method_15_code
def yX4_allAbove : MethodName := ⟨RX4, "allAbove", "(I)I"⟩
abbrev cX4_isBelow : ByteArray := prog_6_method_16_code
def yX4_isBelow : MethodName := ⟨RX4, "isBelow", "(II)Z"⟩
abbrev cX4_isSub : ByteArray := prog_6_method_17_code
def yX4_isSub : MethodName := ⟨RX4, "isSub", "(II)Z"⟩
def RX5 : String := "OverrideRules"
def TX5 : u_T := fun k => match k with
  | 0 => ("OverrideRules", "types", "LOverrideRules$Types;", true)
  | 1 => ("OverrideRules", "thrown", "LOverrideRules$Throws;", true)
  | 2 => ("OverrideRules", "members", "LOverrideRules$Members;", true)
  | 3 => ("OverrideRules", "choice", "LOverrideRules$Choice;", true)
  | _ => ("OverrideRules", "faults", "LOverrideRules$Faults;", true)
def tyX5 : Nat → FieldType := fun k => match k with
  | 0 => .object "OverrideRules$Types"
  | 1 => .object "OverrideRules$Throws"
  | 2 => .object "OverrideRules$Members"
  | 3 => .object "OverrideRules$Choice"
  | _ => .object "OverrideRules$Faults"
abbrev wsX50 : List Cond := u_ws RX5 TX5 5
theorem nmX5 : ∀ a, a < 5 → ∀ b, b < 5 → a ≠ b → (TX5 a).2.1 ≠ (TX5 b).2.1 := by decide +kernel
theorem tyX5_ok : ∀ k, k < 5 → parseFieldDescriptor (TX5 k).2.2.1 = some (tyX5 k) := by decide +kernel
abbrev cX5_init : ByteArray := prog_1_method_1_code
def yX5_init : MethodName := ⟨RX5, "<init>", "()V"⟩
abbrev cX5_clear : ByteArray := prog_1_method_2_code
def yX5_clear : MethodName := ⟨RX5, "clear", "()I"⟩
abbrev cX5_type : ByteArray := prog_1_method_3_code
def yX5_type : MethodName := ⟨RX5, "type", "(III)I"⟩
abbrev cX5_face : ByteArray := prog_1_method_4_code
def yX5_face : MethodName := ⟨RX5, "face", "(II)I"⟩
abbrev cX5_thrown0 : ByteArray := prog_1_method_5_code
def yX5_thrown0 : MethodName := ⟨RX5, "thrown0", "(IZ)I"⟩
abbrev cX5_member : ByteArray := prog_1_method_6_code
def yX5_member : MethodName := ⟨RX5, "member", "(IIII)I"⟩
abbrev cX5_throws0 : ByteArray := prog_1_method_7_code
def yX5_throws0 : MethodName := ⟨RX5, "throws0", "(II)I"⟩
abbrev cX5_overrides : ByteArray := prog_1_method_8_code
def yX5_overrides : MethodName := ⟨RX5, "overrides", "(II)I"⟩
abbrev cX5_hides : ByteArray := prog_1_method_9_code
def yX5_hides : MethodName := ⟨RX5, "hides", "(II)I"⟩
abbrev cX5_chosen : ByteArray := prog_1_method_10_code
def yX5_chosen : MethodName := ⟨RX5, "chosen", "(II)I"⟩
abbrev cX5_sub : ByteArray := prog_1_method_11_code
def yX5_sub : MethodName := ⟨RX5, "sub", "(II)I"⟩
abbrev cX5_check : ByteArray := prog_1_method_12_code
def yX5_check : MethodName := ⟨RX5, "check", "(I)I"⟩
abbrev cX5_fault : ByteArray := prog_1_method_13_code
def yX5_fault : MethodName := ⟨RX5, "fault", "(III)I"⟩
abbrev cX5_bridges : ByteArray := prog_1_method_14_code
def yX5_bridges : MethodName := ⟨RX5, "bridges", "(I)I"⟩
abbrev cX5_first : ByteArray := prog_1_method_15_code
def yX5_first : MethodName := ⟨RX5, "first", "(I)I"⟩
abbrev cX5_told : ByteArray := prog_1_method_16_code
def yX5_told : MethodName := ⟨RX5, "told", "(I)I"⟩
abbrev cX5_isMissingType : ByteArray := prog_1_method_17_code
def yX5_isMissingType : MethodName := ⟨RX5, "isMissingType", "(I)Z"⟩
abbrev cX5_areMarks : ByteArray := prog_1_method_18_code
def yX5_areMarks : MethodName := ⟨RX5, "areMarks", "(ZI)Z"⟩
abbrev cX5_areClassMarks : ByteArray := prog_1_method_19_code
def yX5_areClassMarks : MethodName := ⟨RX5, "areClassMarks", "(I)Z"⟩
abbrev cX5_areInterfaceMarks : ByteArray := prog_1_method_20_code
def yX5_areInterfaceMarks : MethodName := ⟨RX5, "areInterfaceMarks", "(I)Z"⟩
abbrev cX5_oneIf : ByteArray := prog_1_method_21_code
def yX5_oneIf : MethodName := ⟨RX5, "oneIf", "(Z)I"⟩
abbrev cX5_hasBit : ByteArray := prog_1_method_22_code
def yX5_hasBit : MethodName := ⟨RX5, "hasBit", "(II)Z"⟩
def RX6 : String := "OverrideRulesModel"
def TX6 : u_T := fun k => match k with
  | 0 => ("OverrideRulesModel", "types", "I", false)
  | 1 => ("OverrideRulesModel", "kind", "[I", true)
  | 2 => ("OverrideRulesModel", "packet", "[I", true)
  | 3 => ("OverrideRulesModel", "parent", "[I", true)
  | 4 => ("OverrideRulesModel", "faces", "[I", true)
  | 5 => ("OverrideRulesModel", "face", "[I", true)
  | 6 => ("OverrideRulesModel", "above", "[Z", true)
  | 7 => ("OverrideRulesModel", "throwsMany", "I", false)
  | 8 => ("OverrideRulesModel", "throwParent", "[I", true)
  | 9 => ("OverrideRulesModel", "checked", "[Z", true)
  | 10 => ("OverrideRulesModel", "members", "I", false)
  | 11 => ("OverrideRulesModel", "of", "[I", true)
  | 12 => ("OverrideRulesModel", "name", "[I", true)
  | 13 => ("OverrideRulesModel", "result", "[I", true)
  | 14 => ("OverrideRulesModel", "marks", "[I", true)
  | 15 => ("OverrideRulesModel", "thrownBy", "[I", true)
  | 16 => ("OverrideRulesModel", "over", "[Z", true)
  | 17 => ("OverrideRulesModel", "faults", "I", false)
  | 18 => ("OverrideRulesModel", "faultCode", "[I", true)
  | 19 => ("OverrideRulesModel", "faultOne", "[I", true)
  | _ => ("OverrideRulesModel", "faultOther", "[I", true)
def tyX6 : Nat → FieldType := fun k => match k with
  | 0 => .int
  | 1 => .array .int
  | 2 => .array .int
  | 3 => .array .int
  | 4 => .array .int
  | 5 => .array .int
  | 6 => .array .boolean
  | 7 => .int
  | 8 => .array .int
  | 9 => .array .boolean
  | 10 => .int
  | 11 => .array .int
  | 12 => .array .int
  | 13 => .array .int
  | 14 => .array .int
  | 15 => .array .int
  | 16 => .array .boolean
  | 17 => .int
  | 18 => .array .int
  | 19 => .array .int
  | _ => .array .int
abbrev wsX60 : List Cond := u_ws RX6 TX6 21
theorem nmX6 : ∀ a, a < 21 → ∀ b, b < 21 → a ≠ b → (TX6 a).2.1 ≠ (TX6 b).2.1 := by decide +kernel
theorem tyX6_ok : ∀ k, k < 21 → parseFieldDescriptor (TX6 k).2.2.1 = some (tyX6 k) := by decide +kernel
abbrev cX6_init : ByteArray := prog_8_method_1_code
def yX6_init : MethodName := ⟨RX6, "<init>", "()V"⟩
abbrev cX6_in : ByteArray := prog_8_method_2_code
def yX6_in : MethodName := ⟨RX6, "in", "(III)Z"⟩
abbrev cX6_isType : ByteArray := prog_8_method_3_code
def yX6_isType : MethodName := ⟨RX6, "isType", "(I)Z"⟩
abbrev cX6_isMember : ByteArray := prog_8_method_4_code
def yX6_isMember : MethodName := ⟨RX6, "isMember", "(I)Z"⟩
abbrev cX6_clear : ByteArray := prog_8_method_5_code
def yX6_clear : MethodName := ⟨RX6, "clear", "()I"⟩
abbrev cX6_rise : ByteArray := prog_8_method_6_code
def yX6_rise : MethodName := ⟨RX6, "rise", "()V"⟩
abbrev cX6_lift : ByteArray := prog_8_method_7_code
def yX6_lift : MethodName := ⟨RX6, "lift", "(II)V"⟩
abbrev cX6_type : ByteArray := prog_8_method_8_code
def yX6_type : MethodName := ⟨RX6, "type", "(III)I"⟩
abbrev cX6_face : ByteArray := prog_8_method_9_code
def yX6_face : MethodName := ⟨RX6, "face", "(II)I"⟩
abbrev cX6_isBelow : ByteArray := prog_8_method_10_code
def yX6_isBelow : MethodName := ⟨RX6, "isBelow", "(II)Z"⟩
abbrev cX6_isSub : ByteArray := prog_8_method_11_code
def yX6_isSub : MethodName := ⟨RX6, "isSub", "(II)Z"⟩
abbrev cX6_sub : ByteArray := prog_8_method_12_code
def yX6_sub : MethodName := ⟨RX6, "sub", "(II)I"⟩
abbrev cX6_thrown0 : ByteArray := prog_8_method_13_code
def yX6_thrown0 : MethodName := ⟨RX6, "thrown0", "(IZ)I"⟩
abbrev cX6_throws0 : ByteArray := prog_8_method_14_code
def yX6_throws0 : MethodName := ⟨RX6, "throws0", "(II)I"⟩
abbrev cX6_throwsMore : ByteArray := prog_8_method_15_code
def yX6_throwsMore : MethodName := ⟨RX6, "throwsMore", "(II)Z"⟩
abbrev cX6_has : ByteArray := prog_8_method_16_code
def yX6_has : MethodName := ⟨RX6, "has", "(II)Z"⟩
abbrev cX6_isStatic : ByteArray := prog_8_method_17_code
def yX6_isStatic : MethodName := ⟨RX6, "isStatic", "(I)Z"⟩
abbrev cX6_isPrivate : ByteArray := prog_8_method_18_code
def yX6_isPrivate : MethodName := ⟨RX6, "isPrivate", "(I)Z"⟩
abbrev cX6_isInterface : ByteArray := prog_8_method_19_code
def yX6_isInterface : MethodName := ⟨RX6, "isInterface", "(I)Z"⟩
abbrev cX6_one : ByteArray := prog_8_method_20_code
def yX6_one : MethodName := ⟨RX6, "one", "(II)I"⟩
abbrev cX6_mayBe : ByteArray := prog_8_method_21_code
def yX6_mayBe : MethodName := ⟨RX6, "mayBe", "(II)Z"⟩
abbrev cX6_member : ByteArray := prog_8_method_22_code
def yX6_member : MethodName := ⟨RX6, "member", "(IIII)I"⟩
abbrev cX6_access : ByteArray := prog_8_method_23_code
def yX6_access : MethodName := ⟨RX6, "access", "(I)I"⟩
abbrev cX6_suits : ByteArray := prog_8_method_24_code
def yX6_suits : MethodName := ⟨RX6, "suits", "(II)Z"⟩
abbrev cX6_isSeen : ByteArray := prog_8_method_25_code
def yX6_isSeen : MethodName := ⟨RX6, "isSeen", "(II)Z"⟩
abbrev cX6_work : ByteArray := prog_8_method_26_code
def yX6_work : MethodName := ⟨RX6, "work", "()V"⟩
abbrev cX6_goesOver : ByteArray := prog_8_method_27_code
def yX6_goesOver : MethodName := ⟨RX6, "goesOver", "(II)Z"⟩
abbrev cX6_isOver : ByteArray := prog_8_method_28_code
def yX6_isOver : MethodName := ⟨RX6, "isOver", "(II)Z"⟩
abbrev cX6_hidesIt : ByteArray := prog_8_method_29_code
def yX6_hidesIt : MethodName := ⟨RX6, "hidesIt", "(II)Z"⟩
abbrev cX6_isMixed : ByteArray := prog_8_method_30_code
def yX6_isMixed : MethodName := ⟨RX6, "isMixed", "(II)Z"⟩
abbrev cX6_overrides : ByteArray := prog_8_method_31_code
def yX6_overrides : MethodName := ⟨RX6, "overrides", "(II)I"⟩
abbrev cX6_hides : ByteArray := prog_8_method_32_code
def yX6_hides : MethodName := ⟨RX6, "hides", "(II)I"⟩
abbrev cX6_isPlain : ByteArray := prog_8_method_33_code
def yX6_isPlain : MethodName := ⟨RX6, "isPlain", "(I)Z"⟩
abbrev cX6_isLast : ByteArray := prog_8_method_34_code
def yX6_isLast : MethodName := ⟨RX6, "isLast", "(II)Z"⟩
abbrev cX6_choose : ByteArray := prog_8_method_35_code
def yX6_choose : MethodName := ⟨RX6, "choose", "(II)I"⟩
abbrev cX6_chosen : ByteArray := prog_8_method_36_code
def yX6_chosen : MethodName := ⟨RX6, "chosen", "(II)I"⟩
abbrev cX6_note : ByteArray := prog_8_method_37_code
def yX6_note : MethodName := ⟨RX6, "note", "(III)V"⟩
abbrev cX6_three : ByteArray := prog_8_method_38_code
def yX6_three : MethodName := ⟨RX6, "three", "(II)V"⟩
abbrev cX6_judge : ByteArray := prog_8_method_39_code
def yX6_judge : MethodName := ⟨RX6, "judge", "(I)V"⟩
abbrev cX6_inherited : ByteArray := prog_8_method_40_code
def yX6_inherited : MethodName := ⟨RX6, "inherited", "(II)V"⟩
abbrev cX6_check : ByteArray := prog_8_method_41_code
def yX6_check : MethodName := ⟨RX6, "check", "(I)I"⟩
abbrev cX6_fault : ByteArray := prog_8_method_42_code
def yX6_fault : MethodName := ⟨RX6, "fault", "(III)I"⟩
abbrev cX6_bridges : ByteArray := prog_8_method_43_code
def yX6_bridges : MethodName := ⟨RX6, "bridges", "(I)I"⟩
abbrev cX6_first : ByteArray := prog_8_method_44_code
def yX6_first : MethodName := ⟨RX6, "first", "(I)I"⟩
abbrev cX6_told : ByteArray := prog_8_method_45_code
def yX6_told : MethodName := ⟨RX6, "told", "(I)I"⟩
def RJ6 : String := "java/lang/Integer"
def TJ6 : u_T := fun k => match k with
  | _ => ("", "", "", false)
def tyJ6 : Nat → FieldType := fun k => match k with
  | _ => .int
abbrev wsJ60 : List Cond := u_ws RJ6 TJ6 0
theorem nmJ6 : ∀ a, a < 0 → ∀ b, b < 0 → a ≠ b → (TJ6 a).2.1 ≠ (TJ6 b).2.1 := by decide +kernel
theorem tyJ6_ok : ∀ k, k < 0 → parseFieldDescriptor (TJ6 k).2.2.1 = some (tyJ6 k) := by decide +kernel
abbrev cJ6_bitCount_0f7a4 : ByteArray := prog_9_method_49_code
def yJ6_bitCount_0f7a4 : MethodName := ⟨RJ6, "bitCount", "(I)I"⟩
def RJ9 : String := "java/lang/Math"
def TJ9 : u_T := fun k => match k with
  | _ => ("", "", "", false)
def tyJ9 : Nat → FieldType := fun k => match k with
  | _ => .int
abbrev wsJ90 : List Cond := u_ws RJ9 TJ9 0
theorem nmJ9 : ∀ a, a < 0 → ∀ b, b < 0 → a ≠ b → (TJ9 a).2.1 ≠ (TJ9 b).2.1 := by decide +kernel
theorem tyJ9_ok : ∀ k, k < 0 → parseFieldDescriptor (TJ9 k).2.2.1 = some (tyJ9 k) := by decide +kernel
abbrev cJ9_min_7cf53 : ByteArray := prog_10_method_69_code
def yJ9_min_7cf53 : MethodName := ⟨RJ9, "min", "(II)I"⟩
def RL : String := "OverrideRulesLaw"
abbrev cL_law : ByteArray := code
def yL_law : MethodName := ⟨RL, "law", "([I)Z"⟩
abbrev vwCl : List vw_C := [(RX0, TX0, 2), (RX1, TX1, 9), (RX2, TX2, 8), (RX3, TX3, 3), (RX4, TX4, 6), (RX5, TX5, 5), (RX6, TX6, 21)]

theorem dX2_isReached_105 : decode cX2_isReached 105 = .ok (.istore 8, 2) := by decide +kernel
theorem dX2_isReached_107 : decode cX2_isReached 107 = .ok (.iload 6, 2) := by decide +kernel
theorem dX2_isReached_109 : decode cX2_isReached 109 = .ok (.iload_n 2, 1) := by decide +kernel
theorem dX2_isReached_110 : decode cX2_isReached 110 = .ok (.if_icmp .ne 6, 3) := by decide +kernel
theorem dX2_isReached_113 : decode cX2_isReached 113 = .ok (.iload 8, 2) := by decide +kernel
theorem dX2_isReached_115 : decode cX2_isReached 115 = .ok (.ireturn, 1) := by decide +kernel
theorem dX2_isReached_116 : decode cX2_isReached 116 = .ok (.iload 8, 2) := by decide +kernel
theorem dX2_isReached_118 : decode cX2_isReached 118 = .ok (.ifCond .eq 10, 3) := by decide +kernel
theorem dX2_isReached_121 : decode cX2_isReached 121 = .ok (.iload_n 3, 1) := by decide +kernel
theorem dX2_isReached_122 : decode cX2_isReached 122 = .ok (.iconst 1, 1) := by decide +kernel
theorem dX2_isReached_123 : decode cX2_isReached 123 = .ok (.iload 7, 2) := by decide +kernel
theorem dX2_isReached_125 : decode cX2_isReached 125 = .ok (.ishl, 1) := by decide +kernel
theorem dX2_isReached_126 : decode cX2_isReached 126 = .ok (.ior, 1) := by decide +kernel
theorem dX2_isReached_127 : decode cX2_isReached 127 = .ok (.istore_n 3, 1) := by decide +kernel
theorem dX2_isReached_128 : decode cX2_isReached 128 = .ok (.aload_n 0, 1) := by decide +kernel
theorem dX2_isReached_129 : decode cX2_isReached 129 = .ok (.getfield 34, 3) := by decide +kernel
theorem dX2_isReached_132 : decode cX2_isReached 132 = .ok (.iload 4, 2) := by decide +kernel
theorem dX2_isReached_134 : decode cX2_isReached 134 = .ok (.invokevirtual 70, 3) := by decide +kernel
theorem dX2_isReached_137 : decode cX2_isReached 137 = .ok (.istore 4, 2) := by decide +kernel
theorem dX2_isReached_139 : decode cX2_isReached 139 = .ok (.iinc 5 1, 3) := by decide +kernel
theorem dX2_isReached_142 : decode cX2_isReached 142 = .ok (.goto (-108), 3) := by decide +kernel
theorem dX2_isReached_145 : decode cX2_isReached 145 = .ok (.iconst 0, 1) := by decide +kernel
theorem dX2_isReached_146 : decode cX2_isReached 146 = .ok (.ireturn, 1) := by decide +kernel
theorem dX2_countOverridden_0 : decode cX2_countOverridden 0 = .ok (.iconst 0, 1) := by decide +kernel
theorem dX2_countOverridden_1 : decode cX2_countOverridden 1 = .ok (.istore_n 2, 1) := by decide +kernel
theorem dX2_countOverridden_2 : decode cX2_countOverridden 2 = .ok (.iconst 0, 1) := by decide +kernel
theorem dX2_countOverridden_3 : decode cX2_countOverridden 3 = .ok (.istore_n 3, 1) := by decide +kernel
theorem dX2_countOverridden_4 : decode cX2_countOverridden 4 = .ok (.iload_n 3, 1) := by decide +kernel
theorem dX2_countOverridden_5 : decode cX2_countOverridden 5 = .ok (.aload_n 0, 1) := by decide +kernel
theorem dX2_countOverridden_6 : decode cX2_countOverridden 6 = .ok (.getfield 30, 3) := by decide +kernel
theorem dX2_countOverridden_9 : decode cX2_countOverridden 9 = .ok (.if_icmp .ge 21, 3) := by decide +kernel
theorem dX2_countOverridden_12 : decode cX2_countOverridden 12 = .ok (.iload_n 2, 1) := by decide +kernel
theorem dX2_countOverridden_13 : decode cX2_countOverridden 13 = .ok (.aload_n 0, 1) := by decide +kernel
theorem dX2_countOverridden_14 : decode cX2_countOverridden 14 = .ok (.iload_n 1, 1) := by decide +kernel
theorem dX2_countOverridden_15 : decode cX2_countOverridden 15 = .ok (.iload_n 3, 1) := by decide +kernel
theorem dX2_countOverridden_16 : decode cX2_countOverridden 16 = .ok (.invokevirtual 77, 3) := by decide +kernel
theorem dX2_countOverridden_19 : decode cX2_countOverridden 19 = .ok (.invokestatic 80, 3) := by decide +kernel
theorem dX2_countOverridden_22 : decode cX2_countOverridden 22 = .ok (.iadd, 1) := by decide +kernel
theorem dX2_countOverridden_23 : decode cX2_countOverridden 23 = .ok (.istore_n 2, 1) := by decide +kernel
theorem dX2_countOverridden_24 : decode cX2_countOverridden 24 = .ok (.iinc 3 1, 3) := by decide +kernel
theorem dX2_countOverridden_27 : decode cX2_countOverridden 27 = .ok (.goto (-23), 3) := by decide +kernel
theorem dX2_countOverridden_30 : decode cX2_countOverridden 30 = .ok (.iload_n 2, 1) := by decide +kernel
theorem dX2_countOverridden_31 : decode cX2_countOverridden 31 = .ok (.ireturn, 1) := by decide +kernel
theorem dX2_countBridges_0 : decode cX2_countBridges 0 = .ok (.iconst 0, 1) := by decide +kernel
theorem dX2_countBridges_1 : decode cX2_countBridges 1 = .ok (.istore_n 2, 1) := by decide +kernel
theorem dX2_countBridges_2 : decode cX2_countBridges 2 = .ok (.iconst 0, 1) := by decide +kernel
theorem dX2_countBridges_3 : decode cX2_countBridges 3 = .ok (.istore_n 3, 1) := by decide +kernel
theorem dX2_countBridges_4 : decode cX2_countBridges 4 = .ok (.iload_n 3, 1) := by decide +kernel
theorem dX2_countBridges_5 : decode cX2_countBridges 5 = .ok (.aload_n 0, 1) := by decide +kernel
theorem dX2_countBridges_6 : decode cX2_countBridges 6 = .ok (.getfield 30, 3) := by decide +kernel
theorem dX2_countBridges_9 : decode cX2_countBridges 9 = .ok (.if_icmp .ge 44, 3) := by decide +kernel
theorem dX2_countBridges_12 : decode cX2_countBridges 12 = .ok (.aload_n 0, 1) := by decide +kernel
theorem dX2_countBridges_13 : decode cX2_countBridges 13 = .ok (.getfield 18, 3) := by decide +kernel
theorem dX2_countBridges_16 : decode cX2_countBridges 16 = .ok (.iload_n 3, 1) := by decide +kernel
theorem dX2_countBridges_17 : decode cX2_countBridges 17 = .ok (.iaload, 1) := by decide +kernel
theorem dX2_countBridges_18 : decode cX2_countBridges 18 = .ok (.aload_n 0, 1) := by decide +kernel
theorem dX2_countBridges_19 : decode cX2_countBridges 19 = .ok (.getfield 18, 3) := by decide +kernel
theorem dX2_countBridges_22 : decode cX2_countBridges 22 = .ok (.iload_n 1, 1) := by decide +kernel
theorem dX2_countBridges_23 : decode cX2_countBridges 23 = .ok (.iaload, 1) := by decide +kernel
theorem dX2_countBridges_24 : decode cX2_countBridges 24 = .ok (.if_icmp .eq 23, 3) := by decide +kernel
theorem dX2_countBridges_27 : decode cX2_countBridges 27 = .ok (.aload_n 0, 1) := by decide +kernel
theorem dX2_countBridges_28 : decode cX2_countBridges 28 = .ok (.iload_n 1, 1) := by decide +kernel
theorem dX2_countBridges_29 : decode cX2_countBridges 29 = .ok (.iload_n 3, 1) := by decide +kernel
theorem dX2_countBridges_30 : decode cX2_countBridges 30 = .ok (.invokevirtual 77, 3) := by decide +kernel
theorem dX2_countBridges_33 : decode cX2_countBridges 33 = .ok (.ifCond .eq 14, 3) := by decide +kernel
theorem dX2_countBridges_36 : decode cX2_countBridges 36 = .ok (.iload_n 2, 1) := by decide +kernel
theorem dX2_countBridges_37 : decode cX2_countBridges 37 = .ok (.iconst 1, 1) := by decide +kernel
theorem dX2_countBridges_38 : decode cX2_countBridges 38 = .ok (.aload_n 0, 1) := by decide +kernel
theorem dX2_countBridges_39 : decode cX2_countBridges 39 = .ok (.getfield 18, 3) := by decide +kernel
theorem dX2_countBridges_42 : decode cX2_countBridges 42 = .ok (.iload_n 3, 1) := by decide +kernel
theorem dX2_countBridges_43 : decode cX2_countBridges 43 = .ok (.iaload, 1) := by decide +kernel
theorem dX2_countBridges_44 : decode cX2_countBridges 44 = .ok (.ishl, 1) := by decide +kernel
theorem dX2_countBridges_45 : decode cX2_countBridges 45 = .ok (.ior, 1) := by decide +kernel
theorem dX2_countBridges_46 : decode cX2_countBridges 46 = .ok (.istore_n 2, 1) := by decide +kernel
theorem dX2_countBridges_47 : decode cX2_countBridges 47 = .ok (.iinc 3 1, 3) := by decide +kernel
theorem dX2_countBridges_50 : decode cX2_countBridges 50 = .ok (.goto (-46), 3) := by decide +kernel
theorem dX2_countBridges_53 : decode cX2_countBridges 53 = .ok (.iload_n 2, 1) := by decide +kernel
theorem dX2_countBridges_54 : decode cX2_countBridges 54 = .ok (.invokestatic 84, 3) := by decide +kernel
theorem dX2_countBridges_57 : decode cX2_countBridges 57 = .ok (.ireturn, 1) := by decide +kernel
theorem dX0_init_0 : decode cX0_init 0 = .ok (.aload_n 0, 1) := by decide +kernel
theorem dX0_init_1 : decode cX0_init 1 = .ok (.invokespecial 3, 3) := by decide +kernel
theorem dX0_init_4 : decode cX0_init 4 = .ok (.aload_n 0, 1) := by decide +kernel
theorem dX0_init_5 : decode cX0_init 5 = .ok (.aload_n 1, 1) := by decide +kernel
theorem dX0_init_6 : decode cX0_init 6 = .ok (.putfield 9, 3) := by decide +kernel
theorem dX0_init_9 : decode cX0_init 9 = .ok (.aload_n 0, 1) := by decide +kernel
theorem dX0_init_10 : decode cX0_init 10 = .ok (.aload_n 2, 1) := by decide +kernel
theorem dX0_init_11 : decode cX0_init 11 = .ok (.putfield 15, 3) := by decide +kernel
theorem dX0_init_14 : decode cX0_init 14 = .ok (.return_, 1) := by decide +kernel
theorem dX0_choose_0 : decode cX0_choose 0 = .ok (.aload_n 0, 1) := by decide +kernel
theorem dX0_choose_1 : decode cX0_choose 1 = .ok (.getfield 15, 3) := by decide +kernel
theorem dX0_choose_4 : decode cX0_choose 4 = .ok (.iload_n 2, 1) := by decide +kernel
theorem dX0_choose_5 : decode cX0_choose 5 = .ok (.invokevirtual 19, 3) := by decide +kernel
theorem dX0_choose_8 : decode cX0_choose 8 = .ok (.istore_n 3, 1) := by decide +kernel
theorem dX0_choose_9 : decode cX0_choose 9 = .ok (.aload_n 0, 1) := by decide +kernel
theorem dX0_choose_10 : decode cX0_choose 10 = .ok (.getfield 9, 3) := by decide +kernel
theorem dX0_choose_13 : decode cX0_choose 13 = .ok (.aload_n 0, 1) := by decide +kernel
theorem dX0_choose_14 : decode cX0_choose 14 = .ok (.getfield 15, 3) := by decide +kernel
theorem dX0_choose_17 : decode cX0_choose 17 = .ok (.iload_n 2, 1) := by decide +kernel
theorem dX0_choose_18 : decode cX0_choose 18 = .ok (.invokevirtual 25, 3) := by decide +kernel
theorem dX0_choose_21 : decode cX0_choose 21 = .ok (.invokevirtual 28, 3) := by decide +kernel
theorem dX0_choose_24 : decode cX0_choose 24 = .ok (.istore 4, 2) := by decide +kernel
theorem dX0_choose_26 : decode cX0_choose 26 = .ok (.iload_n 1, 1) := by decide +kernel
theorem dX0_choose_27 : decode cX0_choose 27 = .ok (.istore 5, 2) := by decide +kernel
theorem dX0_choose_29 : decode cX0_choose 29 = .ok (.iconst 0, 1) := by decide +kernel
theorem dX0_choose_30 : decode cX0_choose 30 = .ok (.istore 6, 2) := by decide +kernel
theorem dX0_choose_32 : decode cX0_choose 32 = .ok (.iload 6, 2) := by decide +kernel
theorem dX0_choose_34 : decode cX0_choose 34 = .ok (.bipush 16, 2) := by decide +kernel
theorem dX0_choose_36 : decode cX0_choose 36 = .ok (.if_icmp .ge 77, 3) := by decide +kernel
theorem dX0_choose_39 : decode cX0_choose 39 = .ok (.iload 5, 2) := by decide +kernel
theorem dX0_choose_41 : decode cX0_choose 41 = .ok (.iconst (-1), 1) := by decide +kernel
theorem dX0_choose_42 : decode cX0_choose 42 = .ok (.if_icmp .eq 71, 3) := by decide +kernel
theorem dX0_choose_45 : decode cX0_choose 45 = .ok (.aload_n 0, 1) := by decide +kernel
theorem dX0_choose_46 : decode cX0_choose 46 = .ok (.getfield 15, 3) := by decide +kernel
theorem dX0_choose_49 : decode cX0_choose 49 = .ok (.iload 5, 2) := by decide +kernel
theorem dX0_choose_51 : decode cX0_choose 51 = .ok (.iload_n 3, 1) := by decide +kernel
theorem dX0_choose_52 : decode cX0_choose 52 = .ok (.invokevirtual 34, 3) := by decide +kernel
theorem dX0_choose_55 : decode cX0_choose 55 = .ok (.istore 7, 2) := by decide +kernel
theorem dX0_choose_57 : decode cX0_choose 57 = .ok (.aload_n 0, 1) := by decide +kernel
theorem dX0_choose_58 : decode cX0_choose 58 = .ok (.getfield 15, 3) := by decide +kernel
theorem dX0_choose_61 : decode cX0_choose 61 = .ok (.iload 7, 2) := by decide +kernel
theorem dX0_choose_63 : decode cX0_choose 63 = .ok (.invokevirtual 38, 3) := by decide +kernel
theorem dX0_choose_66 : decode cX0_choose 66 = .ok (.ifCond .eq 30, 3) := by decide +kernel
theorem dX0_choose_69 : decode cX0_choose 69 = .ok (.iload 4, 2) := by decide +kernel
theorem dX0_choose_71 : decode cX0_choose 71 = .ok (.ifCond .ne 22, 3) := by decide +kernel
theorem dX0_choose_74 : decode cX0_choose 74 = .ok (.iload 7, 2) := by decide +kernel
theorem dX0_choose_76 : decode cX0_choose 76 = .ok (.iload_n 2, 1) := by decide +kernel
theorem dX0_choose_77 : decode cX0_choose 77 = .ok (.if_icmp .eq 16, 3) := by decide +kernel
theorem dX0_choose_80 : decode cX0_choose 80 = .ok (.aload_n 0, 1) := by decide +kernel
theorem dX0_choose_81 : decode cX0_choose 81 = .ok (.getfield 15, 3) := by decide +kernel
theorem dX0_choose_84 : decode cX0_choose 84 = .ok (.iload 7, 2) := by decide +kernel
theorem dX0_choose_86 : decode cX0_choose 86 = .ok (.iload_n 2, 1) := by decide +kernel
theorem dX0_choose_87 : decode cX0_choose 87 = .ok (.invokevirtual 41, 3) := by decide +kernel
theorem dX0_choose_90 : decode cX0_choose 90 = .ok (.ifCond .eq 6, 3) := by decide +kernel
theorem dX0_choose_93 : decode cX0_choose 93 = .ok (.iload 7, 2) := by decide +kernel
theorem dX0_choose_95 : decode cX0_choose 95 = .ok (.ireturn, 1) := by decide +kernel
theorem dX0_choose_96 : decode cX0_choose 96 = .ok (.aload_n 0, 1) := by decide +kernel
theorem dX0_choose_97 : decode cX0_choose 97 = .ok (.getfield 9, 3) := by decide +kernel
theorem dX0_choose_100 : decode cX0_choose 100 = .ok (.iload 5, 2) := by decide +kernel
theorem dX0_choose_102 : decode cX0_choose 102 = .ok (.invokevirtual 45, 3) := by decide +kernel
theorem dX0_choose_105 : decode cX0_choose 105 = .ok (.istore 5, 2) := by decide +kernel
theorem dX0_choose_107 : decode cX0_choose 107 = .ok (.iinc 6 1, 3) := by decide +kernel
theorem dX0_choose_110 : decode cX0_choose 110 = .ok (.goto (-78), 3) := by decide +kernel
theorem dX0_choose_113 : decode cX0_choose 113 = .ok (.aload_n 0, 1) := by decide +kernel
theorem dX0_choose_114 : decode cX0_choose 114 = .ok (.iload_n 1, 1) := by decide +kernel
theorem dX0_choose_115 : decode cX0_choose 115 = .ok (.iload_n 3, 1) := by decide +kernel
theorem dX0_choose_116 : decode cX0_choose 116 = .ok (.invokevirtual 48, 3) := by decide +kernel
theorem dX0_choose_119 : decode cX0_choose 119 = .ok (.ireturn, 1) := by decide +kernel
theorem dX0_chooseOfInterfaces_0 : decode cX0_chooseOfInterfaces 0 = .ok (.iconst 0, 1) := by decide +kernel
theorem dX0_chooseOfInterfaces_1 : decode cX0_chooseOfInterfaces 1 = .ok (.istore_n 3, 1) := by decide +kernel
theorem dX0_chooseOfInterfaces_2 : decode cX0_chooseOfInterfaces 2 = .ok (.iconst 0, 1) := by decide +kernel
theorem dX0_chooseOfInterfaces_3 : decode cX0_chooseOfInterfaces 3 = .ok (.istore 4, 2) := by decide +kernel
theorem dX0_chooseOfInterfaces_5 : decode cX0_chooseOfInterfaces 5 = .ok (.iconst 0, 1) := by decide +kernel
theorem dX0_chooseOfInterfaces_6 : decode cX0_chooseOfInterfaces 6 = .ok (.istore 5, 2) := by decide +kernel
theorem dX0_chooseOfInterfaces_8 : decode cX0_chooseOfInterfaces 8 = .ok (.iload 5, 2) := by decide +kernel
theorem dX0_chooseOfInterfaces_10 : decode cX0_chooseOfInterfaces 10 = .ok (.iload_n 1, 1) := by decide +kernel
theorem dX0_chooseOfInterfaces_11 : decode cX0_chooseOfInterfaces 11 = .ok (.if_icmp .ge 75, 3) := by decide +kernel
theorem dX0_chooseOfInterfaces_14 : decode cX0_chooseOfInterfaces 14 = .ok (.aload_n 0, 1) := by decide +kernel
theorem dX0_chooseOfInterfaces_15 : decode cX0_chooseOfInterfaces 15 = .ok (.getfield 9, 3) := by decide +kernel
theorem dX0_chooseOfInterfaces_18 : decode cX0_chooseOfInterfaces 18 = .ok (.iload 5, 2) := by decide +kernel
theorem dX0_chooseOfInterfaces_20 : decode cX0_chooseOfInterfaces 20 = .ok (.invokevirtual 28, 3) := by decide +kernel
theorem dX0_chooseOfInterfaces_23 : decode cX0_chooseOfInterfaces 23 = .ok (.ifCond .eq 57, 3) := by decide +kernel
theorem dX0_chooseOfInterfaces_26 : decode cX0_chooseOfInterfaces 26 = .ok (.aload_n 0, 1) := by decide +kernel
theorem dX0_chooseOfInterfaces_27 : decode cX0_chooseOfInterfaces 27 = .ok (.getfield 9, 3) := by decide +kernel
theorem dX0_chooseOfInterfaces_30 : decode cX0_chooseOfInterfaces 30 = .ok (.iload_n 1, 1) := by decide +kernel
theorem dX0_chooseOfInterfaces_31 : decode cX0_chooseOfInterfaces 31 = .ok (.iload 5, 2) := by decide +kernel
theorem dX0_chooseOfInterfaces_33 : decode cX0_chooseOfInterfaces 33 = .ok (.invokevirtual 51, 3) := by decide +kernel
theorem dX0_chooseOfInterfaces_36 : decode cX0_chooseOfInterfaces 36 = .ok (.ifCond .eq 44, 3) := by decide +kernel
theorem dX0_chooseOfInterfaces_39 : decode cX0_chooseOfInterfaces 39 = .ok (.aload_n 0, 1) := by decide +kernel
theorem dX0_chooseOfInterfaces_40 : decode cX0_chooseOfInterfaces 40 = .ok (.getfield 15, 3) := by decide +kernel
theorem dX0_chooseOfInterfaces_43 : decode cX0_chooseOfInterfaces 43 = .ok (.aload_n 0, 1) := by decide +kernel
theorem dX0_chooseOfInterfaces_44 : decode cX0_chooseOfInterfaces 44 = .ok (.getfield 15, 3) := by decide +kernel
theorem dX0_chooseOfInterfaces_47 : decode cX0_chooseOfInterfaces 47 = .ok (.iload 5, 2) := by decide +kernel
theorem dX0_chooseOfInterfaces_49 : decode cX0_chooseOfInterfaces 49 = .ok (.iload_n 2, 1) := by decide +kernel
theorem dX0_chooseOfInterfaces_50 : decode cX0_chooseOfInterfaces 50 = .ok (.invokevirtual 34, 3) := by decide +kernel
theorem dX0_chooseOfInterfaces_53 : decode cX0_chooseOfInterfaces 53 = .ok (.invokevirtual 38, 3) := by decide +kernel
theorem dX0_chooseOfInterfaces_56 : decode cX0_chooseOfInterfaces 56 = .ok (.ifCond .eq 24, 3) := by decide +kernel
theorem dX0_chooseOfInterfaces_59 : decode cX0_chooseOfInterfaces 59 = .ok (.iload_n 3, 1) := by decide +kernel
theorem dX0_chooseOfInterfaces_60 : decode cX0_chooseOfInterfaces 60 = .ok (.iconst 1, 1) := by decide +kernel
theorem dX0_chooseOfInterfaces_61 : decode cX0_chooseOfInterfaces 61 = .ok (.iload 5, 2) := by decide +kernel
theorem dX0_chooseOfInterfaces_63 : decode cX0_chooseOfInterfaces 63 = .ok (.ishl, 1) := by decide +kernel
theorem dX0_chooseOfInterfaces_64 : decode cX0_chooseOfInterfaces 64 = .ok (.ior, 1) := by decide +kernel
theorem dX0_chooseOfInterfaces_65 : decode cX0_chooseOfInterfaces 65 = .ok (.istore_n 3, 1) := by decide +kernel
theorem dX0_chooseOfInterfaces_66 : decode cX0_chooseOfInterfaces 66 = .ok (.iload 4, 2) := by decide +kernel
theorem dX0_chooseOfInterfaces_68 : decode cX0_chooseOfInterfaces 68 = .ok (.aload_n 0, 1) := by decide +kernel
theorem dX0_chooseOfInterfaces_69 : decode cX0_chooseOfInterfaces 69 = .ok (.getfield 9, 3) := by decide +kernel
theorem dX0_chooseOfInterfaces_72 : decode cX0_chooseOfInterfaces 72 = .ok (.iload 5, 2) := by decide +kernel
theorem dX0_chooseOfInterfaces_74 : decode cX0_chooseOfInterfaces 74 = .ok (.invokevirtual 54, 3) := by decide +kernel
theorem dX0_chooseOfInterfaces_77 : decode cX0_chooseOfInterfaces 77 = .ok (.ior, 1) := by decide +kernel
theorem dX0_chooseOfInterfaces_78 : decode cX0_chooseOfInterfaces 78 = .ok (.istore 4, 2) := by decide +kernel
theorem dX0_chooseOfInterfaces_80 : decode cX0_chooseOfInterfaces 80 = .ok (.iinc 5 1, 3) := by decide +kernel
theorem dX0_chooseOfInterfaces_83 : decode cX0_chooseOfInterfaces 83 = .ok (.goto (-75), 3) := by decide +kernel
theorem dX0_chooseOfInterfaces_86 : decode cX0_chooseOfInterfaces 86 = .ok (.aload_n 0, 1) := by decide +kernel
theorem dX0_chooseOfInterfaces_87 : decode cX0_chooseOfInterfaces 87 = .ok (.iload_n 3, 1) := by decide +kernel
theorem dX0_chooseOfInterfaces_88 : decode cX0_chooseOfInterfaces 88 = .ok (.iload 4, 2) := by decide +kernel
theorem dX0_chooseOfInterfaces_90 : decode cX0_chooseOfInterfaces 90 = .ok (.iconst (-1), 1) := by decide +kernel
theorem dX0_chooseOfInterfaces_91 : decode cX0_chooseOfInterfaces 91 = .ok (.ixor, 1) := by decide +kernel
theorem dX0_chooseOfInterfaces_92 : decode cX0_chooseOfInterfaces 92 = .ok (.iand, 1) := by decide +kernel
theorem dX0_chooseOfInterfaces_93 : decode cX0_chooseOfInterfaces 93 = .ok (.iload_n 2, 1) := by decide +kernel
theorem dX0_chooseOfInterfaces_94 : decode cX0_chooseOfInterfaces 94 = .ok (.invokevirtual 57, 3) := by decide +kernel
theorem dX0_chooseOfInterfaces_97 : decode cX0_chooseOfInterfaces 97 = .ok (.ireturn, 1) := by decide +kernel
theorem dX0_leastOrFight_0 : decode cX0_leastOrFight 0 = .ok (.iconst (-1), 1) := by decide +kernel
theorem dX0_leastOrFight_1 : decode cX0_leastOrFight 1 = .ok (.istore_n 3, 1) := by decide +kernel
theorem dX0_leastOrFight_2 : decode cX0_leastOrFight 2 = .ok (.iconst 0, 1) := by decide +kernel
theorem dX0_leastOrFight_3 : decode cX0_leastOrFight 3 = .ok (.istore 4, 2) := by decide +kernel
theorem dX0_leastOrFight_5 : decode cX0_leastOrFight 5 = .ok (.iconst 0, 1) := by decide +kernel
theorem dX0_leastOrFight_6 : decode cX0_leastOrFight 6 = .ok (.istore 5, 2) := by decide +kernel
theorem dX0_leastOrFight_8 : decode cX0_leastOrFight 8 = .ok (.iload 5, 2) := by decide +kernel
theorem dX0_leastOrFight_10 : decode cX0_leastOrFight 10 = .ok (.aload_n 0, 1) := by decide +kernel
theorem dX0_leastOrFight_11 : decode cX0_leastOrFight 11 = .ok (.getfield 9, 3) := by decide +kernel
theorem dX0_leastOrFight_14 : decode cX0_leastOrFight 14 = .ok (.invokevirtual 60, 3) := by decide +kernel
theorem dX0_leastOrFight_17 : decode cX0_leastOrFight 17 = .ok (.if_icmp .ge 83, 3) := by decide +kernel
theorem dX0_leastOrFight_20 : decode cX0_leastOrFight 20 = .ok (.iload_n 1, 1) := by decide +kernel
theorem dX0_leastOrFight_21 : decode cX0_leastOrFight 21 = .ok (.iload 5, 2) := by decide +kernel
theorem dX0_leastOrFight_23 : decode cX0_leastOrFight 23 = .ok (.invokestatic 64, 3) := by decide +kernel
theorem dX0_leastOrFight_26 : decode cX0_leastOrFight 26 = .ok (.ifCond .eq 16, 3) := by decide +kernel
theorem dX0_leastOrFight_29 : decode cX0_leastOrFight 29 = .ok (.aload_n 0, 1) := by decide +kernel
theorem dX0_leastOrFight_30 : decode cX0_leastOrFight 30 = .ok (.getfield 15, 3) := by decide +kernel
theorem dX0_leastOrFight_33 : decode cX0_leastOrFight 33 = .ok (.iload 5, 2) := by decide +kernel
theorem dX0_leastOrFight_35 : decode cX0_leastOrFight 35 = .ok (.iload_n 2, 1) := by decide +kernel
theorem dX0_leastOrFight_36 : decode cX0_leastOrFight 36 = .ok (.invokevirtual 34, 3) := by decide +kernel
theorem dX0_leastOrFight_39 : decode cX0_leastOrFight 39 = .ok (.goto 4, 3) := by decide +kernel
theorem dX0_leastOrFight_42 : decode cX0_leastOrFight 42 = .ok (.iconst (-1), 1) := by decide +kernel
theorem dX0_leastOrFight_43 : decode cX0_leastOrFight 43 = .ok (.istore 6, 2) := by decide +kernel
theorem dX0_leastOrFight_45 : decode cX0_leastOrFight 45 = .ok (.iload 6, 2) := by decide +kernel
theorem dX0_leastOrFight_47 : decode cX0_leastOrFight 47 = .ok (.iconst (-1), 1) := by decide +kernel
theorem dX0_leastOrFight_48 : decode cX0_leastOrFight 48 = .ok (.if_icmp .eq 46, 3) := by decide +kernel
theorem dX0_leastOrFight_51 : decode cX0_leastOrFight 51 = .ok (.iload_n 3, 1) := by decide +kernel
theorem dX0_leastOrFight_52 : decode cX0_leastOrFight 52 = .ok (.iconst (-1), 1) := by decide +kernel
theorem dX0_leastOrFight_53 : decode cX0_leastOrFight 53 = .ok (.if_icmp .ne 8, 3) := by decide +kernel
theorem dX0_leastOrFight_56 : decode cX0_leastOrFight 56 = .ok (.iload 6, 2) := by decide +kernel
theorem dX0_leastOrFight_58 : decode cX0_leastOrFight 58 = .ok (.goto 9, 3) := by decide +kernel
theorem dX0_leastOrFight_61 : decode cX0_leastOrFight 61 = .ok (.iload_n 3, 1) := by decide +kernel
theorem dX0_leastOrFight_62 : decode cX0_leastOrFight 62 = .ok (.iload 6, 2) := by decide +kernel
theorem dX0_leastOrFight_64 : decode cX0_leastOrFight 64 = .ok (.invokestatic 67, 3) := by decide +kernel
theorem dX0_leastOrFight_67 : decode cX0_leastOrFight 67 = .ok (.istore_n 3, 1) := by decide +kernel
theorem dX0_leastOrFight_68 : decode cX0_leastOrFight 68 = .ok (.iload 4, 2) := by decide +kernel
theorem dX0_leastOrFight_70 : decode cX0_leastOrFight 70 = .ok (.ifCond .ne 17, 3) := by decide +kernel
theorem dX0_leastOrFight_73 : decode cX0_leastOrFight 73 = .ok (.aload_n 0, 1) := by decide +kernel
theorem dX0_leastOrFight_74 : decode cX0_leastOrFight 74 = .ok (.getfield 15, 3) := by decide +kernel
theorem dX0_leastOrFight_77 : decode cX0_leastOrFight 77 = .ok (.iload 6, 2) := by decide +kernel
theorem dX0_leastOrFight_79 : decode cX0_leastOrFight 79 = .ok (.bipush 64, 2) := by decide +kernel
theorem dX0_leastOrFight_81 : decode cX0_leastOrFight 81 = .ok (.invokevirtual 72, 3) := by decide +kernel
theorem dX0_leastOrFight_84 : decode cX0_leastOrFight 84 = .ok (.ifCond .eq 7, 3) := by decide +kernel
theorem dX0_leastOrFight_87 : decode cX0_leastOrFight 87 = .ok (.iconst 1, 1) := by decide +kernel
theorem dX0_leastOrFight_88 : decode cX0_leastOrFight 88 = .ok (.goto 4, 3) := by decide +kernel
theorem dX0_leastOrFight_91 : decode cX0_leastOrFight 91 = .ok (.iconst 0, 1) := by decide +kernel
theorem dX0_leastOrFight_92 : decode cX0_leastOrFight 92 = .ok (.istore 4, 2) := by decide +kernel
theorem dX0_leastOrFight_94 : decode cX0_leastOrFight 94 = .ok (.iinc 5 1, 3) := by decide +kernel
theorem dX0_leastOrFight_97 : decode cX0_leastOrFight 97 = .ok (.goto (-89), 3) := by decide +kernel
theorem dX0_leastOrFight_100 : decode cX0_leastOrFight 100 = .ok (.iload 4, 2) := by decide +kernel
theorem dX0_leastOrFight_102 : decode cX0_leastOrFight 102 = .ok (.ifCond .eq 16, 3) := by decide +kernel
theorem dX0_leastOrFight_105 : decode cX0_leastOrFight 105 = .ok (.iload_n 1, 1) := by decide +kernel
theorem dX0_leastOrFight_106 : decode cX0_leastOrFight 106 = .ok (.invokestatic 75, 3) := by decide +kernel
theorem dX0_leastOrFight_109 : decode cX0_leastOrFight 109 = .ok (.iconst 1, 1) := by decide +kernel
theorem dX0_leastOrFight_110 : decode cX0_leastOrFight 110 = .ok (.if_icmp .le 8, 3) := by decide +kernel
theorem dX0_leastOrFight_113 : decode cX0_leastOrFight 113 = .ok (.bipush (-5), 2) := by decide +kernel
theorem dX0_leastOrFight_115 : decode cX0_leastOrFight 115 = .ok (.goto 4, 3) := by decide +kernel
theorem dX0_leastOrFight_118 : decode cX0_leastOrFight 118 = .ok (.iload_n 3, 1) := by decide +kernel
theorem dX0_leastOrFight_119 : decode cX0_leastOrFight 119 = .ok (.ireturn, 1) := by decide +kernel
theorem dX1_init_0 : decode cX1_init 0 = .ok (.aload_n 0, 1) := by decide +kernel
theorem dX1_init_1 : decode cX1_init 1 = .ok (.invokespecial 3, 3) := by decide +kernel
theorem dX1_init_4 : decode cX1_init 4 = .ok (.aload_n 0, 1) := by decide +kernel
theorem dX1_init_5 : decode cX1_init 5 = .ok (.iconst (-1), 1) := by decide +kernel
theorem dX1_init_6 : decode cX1_init 6 = .ok (.putfield 9, 3) := by decide +kernel
theorem dX1_init_9 : decode cX1_init 9 = .ok (.aload_n 0, 1) := by decide +kernel
theorem dX1_init_10 : decode cX1_init 10 = .ok (.iconst 0, 1) := by decide +kernel
theorem dX1_init_11 : decode cX1_init 11 = .ok (.putfield 15, 3) := by decide +kernel
theorem dX1_init_14 : decode cX1_init 14 = .ok (.aload_n 0, 1) := by decide +kernel
theorem dX1_init_15 : decode cX1_init 15 = .ok (.iconst (-1), 1) := by decide +kernel
theorem dX1_init_16 : decode cX1_init 16 = .ok (.putfield 18, 3) := by decide +kernel
theorem dX1_init_19 : decode cX1_init 19 = .ok (.aload_n 0, 1) := by decide +kernel
theorem dX1_init_20 : decode cX1_init 20 = .ok (.iconst (-1), 1) := by decide +kernel
theorem dX1_init_21 : decode cX1_init 21 = .ok (.putfield 21, 3) := by decide +kernel
theorem dX1_init_24 : decode cX1_init 24 = .ok (.aload_n 0, 1) := by decide +kernel
theorem dX1_init_25 : decode cX1_init 25 = .ok (.iconst (-1), 1) := by decide +kernel
theorem dX1_init_26 : decode cX1_init 26 = .ok (.putfield 24, 3) := by decide +kernel
theorem dX1_init_29 : decode cX1_init 29 = .ok (.aload_n 0, 1) := by decide +kernel
theorem dX1_init_30 : decode cX1_init 30 = .ok (.aload_n 1, 1) := by decide +kernel
theorem dX1_init_31 : decode cX1_init 31 = .ok (.putfield 27, 3) := by decide +kernel
theorem dX1_init_34 : decode cX1_init 34 = .ok (.aload_n 0, 1) := by decide +kernel
theorem dX1_init_35 : decode cX1_init 35 = .ok (.aload_n 2, 1) := by decide +kernel
theorem dX1_init_36 : decode cX1_init 36 = .ok (.putfield 31, 3) := by decide +kernel
theorem dX1_init_39 : decode cX1_init 39 = .ok (.aload_n 0, 1) := by decide +kernel
theorem dX1_init_40 : decode cX1_init 40 = .ok (.aload_n 3, 1) := by decide +kernel
theorem dX1_init_41 : decode cX1_init 41 = .ok (.putfield 35, 3) := by decide +kernel
theorem dX1_init_44 : decode cX1_init 44 = .ok (.aload_n 0, 1) := by decide +kernel
theorem dX1_init_45 : decode cX1_init 45 = .ok (.aload 4, 2) := by decide +kernel
theorem dX1_init_47 : decode cX1_init 47 = .ok (.putfield 39, 3) := by decide +kernel
theorem dX1_init_50 : decode cX1_init 50 = .ok (.return_, 1) := by decide +kernel
theorem dX1_walk_0 : decode cX1_walk 0 = .ok (.aload_n 0, 1) := by decide +kernel
theorem dX1_walk_1 : decode cX1_walk 1 = .ok (.iload_n 2, 1) := by decide +kernel
theorem dX1_walk_2 : decode cX1_walk 2 = .ok (.putfield 9, 3) := by decide +kernel
theorem dX1_walk_5 : decode cX1_walk 5 = .ok (.aload_n 0, 1) := by decide +kernel
theorem dX1_walk_6 : decode cX1_walk 6 = .ok (.iconst 0, 1) := by decide +kernel
theorem dX1_walk_7 : decode cX1_walk 7 = .ok (.putfield 15, 3) := by decide +kernel
theorem dX1_walk_10 : decode cX1_walk 10 = .ok (.aload_n 0, 1) := by decide +kernel
theorem dX1_walk_11 : decode cX1_walk 11 = .ok (.iconst (-1), 1) := by decide +kernel
theorem dX1_walk_12 : decode cX1_walk 12 = .ok (.putfield 18, 3) := by decide +kernel
theorem dX1_walk_15 : decode cX1_walk 15 = .ok (.aload_n 0, 1) := by decide +kernel
theorem dX1_walk_16 : decode cX1_walk 16 = .ok (.iconst (-1), 1) := by decide +kernel
theorem dX1_walk_17 : decode cX1_walk 17 = .ok (.putfield 21, 3) := by decide +kernel
theorem dX1_walk_20 : decode cX1_walk 20 = .ok (.aload_n 0, 1) := by decide +kernel
theorem dX1_walk_21 : decode cX1_walk 21 = .ok (.iconst (-1), 1) := by decide +kernel
theorem dX1_walk_22 : decode cX1_walk 22 = .ok (.putfield 24, 3) := by decide +kernel
theorem dX1_walk_25 : decode cX1_walk 25 = .ok (.iconst 0, 1) := by decide +kernel
theorem dX1_walk_26 : decode cX1_walk 26 = .ok (.istore_n 3, 1) := by decide +kernel
theorem dX1_walk_27 : decode cX1_walk 27 = .ok (.iload_n 3, 1) := by decide +kernel
theorem dX1_walk_28 : decode cX1_walk 28 = .ok (.aload_n 0, 1) := by decide +kernel
theorem dX1_walk_29 : decode cX1_walk 29 = .ok (.getfield 35, 3) := by decide +kernel
theorem dX1_walk_32 : decode cX1_walk 32 = .ok (.invokevirtual 43, 3) := by decide +kernel
theorem dX1_walk_35 : decode cX1_walk 35 = .ok (.if_icmp .ge 26, 3) := by decide +kernel
theorem dX1_walk_38 : decode cX1_walk 38 = .ok (.aload_n 0, 1) := by decide +kernel
theorem dX1_walk_39 : decode cX1_walk 39 = .ok (.getfield 35, 3) := by decide +kernel
theorem dX1_walk_42 : decode cX1_walk 42 = .ok (.iload_n 3, 1) := by decide +kernel
theorem dX1_walk_43 : decode cX1_walk 43 = .ok (.invokevirtual 49, 3) := by decide +kernel
theorem dX1_walk_46 : decode cX1_walk 46 = .ok (.iload_n 1, 1) := by decide +kernel
theorem dX1_walk_47 : decode cX1_walk 47 = .ok (.if_icmp .ne 8, 3) := by decide +kernel
theorem dX1_walk_50 : decode cX1_walk 50 = .ok (.aload_n 0, 1) := by decide +kernel
theorem dX1_walk_51 : decode cX1_walk 51 = .ok (.iload_n 3, 1) := by decide +kernel
theorem dX1_walk_52 : decode cX1_walk 52 = .ok (.invokevirtual 53, 3) := by decide +kernel
theorem dX1_walk_55 : decode cX1_walk 55 = .ok (.iinc 3 1, 3) := by decide +kernel
theorem dX1_walk_58 : decode cX1_walk 58 = .ok (.goto (-31), 3) := by decide +kernel
theorem dX1_walk_61 : decode cX1_walk 61 = .ok (.aload_n 0, 1) := by decide +kernel
theorem dX1_walk_62 : decode cX1_walk 62 = .ok (.getfield 27, 3) := by decide +kernel
theorem dX1_walk_65 : decode cX1_walk 65 = .ok (.iload_n 1, 1) := by decide +kernel
theorem dX1_walk_66 : decode cX1_walk 66 = .ok (.invokevirtual 57, 3) := by decide +kernel
theorem dX1_walk_69 : decode cX1_walk 69 = .ok (.ifCond .ne 8, 3) := by decide +kernel
theorem dX1_walk_72 : decode cX1_walk 72 = .ok (.aload_n 0, 1) := by decide +kernel
theorem dX1_walk_73 : decode cX1_walk 73 = .ok (.iload_n 1, 1) := by decide +kernel
theorem dX1_walk_74 : decode cX1_walk 74 = .ok (.invokevirtual 63, 3) := by decide +kernel
theorem dX1_walk_77 : decode cX1_walk 77 = .ok (.aload_n 0, 1) := by decide +kernel
theorem dX1_walk_78 : decode cX1_walk 78 = .ok (.getfield 15, 3) := by decide +kernel
theorem dX1_walk_81 : decode cX1_walk 81 = .ok (.ireturn, 1) := by decide +kernel
theorem dX1_pickedPart_0 : decode cX1_pickedPart 0 = .ok (.iload_n 1, 1) := by decide +kernel
theorem dX1_pickedPart_1 : decode cX1_pickedPart 1 = .ok (.ifCond .ne 8, 3) := by decide +kernel
theorem dX1_pickedPart_4 : decode cX1_pickedPart 4 = .ok (.aload_n 0, 1) := by decide +kernel
theorem dX1_pickedPart_5 : decode cX1_pickedPart 5 = .ok (.getfield 18, 3) := by decide +kernel
theorem dX1_pickedPart_8 : decode cX1_pickedPart 8 = .ok (.ireturn, 1) := by decide +kernel
theorem dX1_pickedPart_9 : decode cX1_pickedPart 9 = .ok (.iload_n 1, 1) := by decide +kernel
theorem dX1_pickedPart_10 : decode cX1_pickedPart 10 = .ok (.iconst 1, 1) := by decide +kernel
theorem dX1_pickedPart_11 : decode cX1_pickedPart 11 = .ok (.if_icmp .ne 10, 3) := by decide +kernel
theorem dX1_pickedPart_14 : decode cX1_pickedPart 14 = .ok (.aload_n 0, 1) := by decide +kernel
theorem dX1_pickedPart_15 : decode cX1_pickedPart 15 = .ok (.getfield 21, 3) := by decide +kernel
theorem dX1_pickedPart_18 : decode cX1_pickedPart 18 = .ok (.goto 7, 3) := by decide +kernel
theorem dX1_pickedPart_21 : decode cX1_pickedPart 21 = .ok (.aload_n 0, 1) := by decide +kernel
theorem dX1_pickedPart_22 : decode cX1_pickedPart 22 = .ok (.getfield 24, 3) := by decide +kernel
theorem dX1_pickedPart_25 : decode cX1_pickedPart 25 = .ok (.ireturn, 1) := by decide +kernel
theorem dX1_note_0 : decode cX1_note 0 = .ok (.aload_n 0, 1) := by decide +kernel
theorem dX1_note_1 : decode cX1_note 1 = .ok (.getfield 15, 3) := by decide +kernel
theorem dX1_note_4 : decode cX1_note 4 = .ok (.aload_n 0, 1) := by decide +kernel
theorem dX1_note_5 : decode cX1_note 5 = .ok (.getfield 9, 3) := by decide +kernel
theorem dX1_note_8 : decode cX1_note 8 = .ok (.if_icmp .ne 18, 3) := by decide +kernel
theorem dX1_note_11 : decode cX1_note 11 = .ok (.aload_n 0, 1) := by decide +kernel
theorem dX1_note_12 : decode cX1_note 12 = .ok (.iload_n 1, 1) := by decide +kernel
theorem dX1_note_13 : decode cX1_note 13 = .ok (.putfield 18, 3) := by decide +kernel
theorem dX1_note_16 : decode cX1_note 16 = .ok (.aload_n 0, 1) := by decide +kernel
theorem dX1_note_17 : decode cX1_note 17 = .ok (.iload_n 2, 1) := by decide +kernel
theorem dX1_note_18 : decode cX1_note 18 = .ok (.putfield 21, 3) := by decide +kernel
theorem dX1_note_21 : decode cX1_note 21 = .ok (.aload_n 0, 1) := by decide +kernel
theorem dX1_note_22 : decode cX1_note 22 = .ok (.iload_n 3, 1) := by decide +kernel
theorem dX1_note_23 : decode cX1_note 23 = .ok (.putfield 24, 3) := by decide +kernel
theorem dX1_note_26 : decode cX1_note 26 = .ok (.aload_n 0, 1) := by decide +kernel
theorem dX1_note_27 : decode cX1_note 27 = .ok (.dup, 1) := by decide +kernel
theorem dX1_note_28 : decode cX1_note 28 = .ok (.getfield 15, 3) := by decide +kernel
theorem dX1_note_31 : decode cX1_note 31 = .ok (.iconst 1, 1) := by decide +kernel
theorem dX1_note_32 : decode cX1_note 32 = .ok (.iadd, 1) := by decide +kernel
theorem dX1_note_33 : decode cX1_note 33 = .ok (.putfield 15, 3) := by decide +kernel
theorem dX1_note_36 : decode cX1_note 36 = .ok (.return_, 1) := by decide +kernel
theorem dX1_noteIf_0 : decode cX1_noteIf 0 = .ok (.iload_n 1, 1) := by decide +kernel
theorem dX1_noteIf_1 : decode cX1_noteIf 1 = .ok (.ifCond .eq 11, 3) := by decide +kernel
theorem dX1_noteIf_4 : decode cX1_noteIf 4 = .ok (.aload_n 0, 1) := by decide +kernel
theorem dX1_noteIf_5 : decode cX1_noteIf 5 = .ok (.iload_n 2, 1) := by decide +kernel
theorem dX1_noteIf_6 : decode cX1_noteIf 6 = .ok (.iload_n 3, 1) := by decide +kernel
theorem dX1_noteIf_7 : decode cX1_noteIf 7 = .ok (.iload 4, 2) := by decide +kernel
theorem dX1_noteIf_9 : decode cX1_noteIf 9 = .ok (.invokevirtual 66, 3) := by decide +kernel
theorem dX1_noteIf_12 : decode cX1_noteIf 12 = .ok (.return_, 1) := by decide +kernel
theorem dX1_walkOwn_0 : decode cX1_walkOwn 0 = .ok (.iconst 0, 1) := by decide +kernel
theorem dX1_walkOwn_1 : decode cX1_walkOwn 1 = .ok (.istore_n 2, 1) := by decide +kernel
theorem dX1_walkOwn_2 : decode cX1_walkOwn 2 = .ok (.iconst 0, 1) := by decide +kernel
theorem dX1_walkOwn_3 : decode cX1_walkOwn 3 = .ok (.istore_n 3, 1) := by decide +kernel
theorem dX1_walkOwn_4 : decode cX1_walkOwn 4 = .ok (.iload_n 3, 1) := by decide +kernel
theorem dX1_walkOwn_5 : decode cX1_walkOwn 5 = .ok (.aload_n 0, 1) := by decide +kernel
theorem dX1_walkOwn_6 : decode cX1_walkOwn 6 = .ok (.getfield 35, 3) := by decide +kernel
theorem dX1_walkOwn_9 : decode cX1_walkOwn 9 = .ok (.invokevirtual 43, 3) := by decide +kernel
theorem dX1_walkOwn_12 : decode cX1_walkOwn 12 = .ok (.if_icmp .ge 91, 3) := by decide +kernel
theorem dX1_walkOwn_15 : decode cX1_walkOwn 15 = .ok (.aload_n 0, 1) := by decide +kernel
theorem dX1_walkOwn_16 : decode cX1_walkOwn 16 = .ok (.getfield 35, 3) := by decide +kernel
theorem dX1_walkOwn_19 : decode cX1_walkOwn 19 = .ok (.iload_n 1, 1) := by decide +kernel
theorem dX1_walkOwn_20 : decode cX1_walkOwn 20 = .ok (.iload_n 3, 1) := by decide +kernel
theorem dX1_walkOwn_21 : decode cX1_walkOwn 21 = .ok (.invokevirtual 70, 3) := by decide +kernel
theorem dX1_walkOwn_24 : decode cX1_walkOwn 24 = .ok (.istore 4, 2) := by decide +kernel
theorem dX1_walkOwn_26 : decode cX1_walkOwn 26 = .ok (.iload_n 2, 1) := by decide +kernel
theorem dX1_walkOwn_27 : decode cX1_walkOwn 27 = .ok (.ifCond .ne 8, 3) := by decide +kernel
theorem dX1_walkOwn_30 : decode cX1_walkOwn 30 = .ok (.iload 4, 2) := by decide +kernel
theorem dX1_walkOwn_32 : decode cX1_walkOwn 32 = .ok (.ifCond .eq 7, 3) := by decide +kernel
theorem dX1_walkOwn_35 : decode cX1_walkOwn 35 = .ok (.iconst 1, 1) := by decide +kernel
theorem dX1_walkOwn_36 : decode cX1_walkOwn 36 = .ok (.goto 4, 3) := by decide +kernel
theorem dX1_walkOwn_39 : decode cX1_walkOwn 39 = .ok (.iconst 0, 1) := by decide +kernel
theorem dX1_walkOwn_40 : decode cX1_walkOwn 40 = .ok (.istore_n 2, 1) := by decide +kernel
theorem dX1_walkOwn_41 : decode cX1_walkOwn 41 = .ok (.aload_n 0, 1) := by decide +kernel
theorem dX1_walkOwn_42 : decode cX1_walkOwn 42 = .ok (.aload_n 0, 1) := by decide +kernel
theorem dX1_walkOwn_43 : decode cX1_walkOwn 43 = .ok (.getfield 35, 3) := by decide +kernel
theorem dX1_walkOwn_46 : decode cX1_walkOwn 46 = .ok (.iload_n 1, 1) := by decide +kernel
theorem dX1_walkOwn_47 : decode cX1_walkOwn 47 = .ok (.iload_n 3, 1) := by decide +kernel
theorem dX1_walkOwn_48 : decode cX1_walkOwn 48 = .ok (.invokevirtual 74, 3) := by decide +kernel
theorem dX1_walkOwn_51 : decode cX1_walkOwn 51 = .ok (.iconst 1, 1) := by decide +kernel
theorem dX1_walkOwn_52 : decode cX1_walkOwn 52 = .ok (.iload_n 1, 1) := by decide +kernel
theorem dX1_walkOwn_53 : decode cX1_walkOwn 53 = .ok (.iload_n 3, 1) := by decide +kernel
theorem dX1_walkOwn_54 : decode cX1_walkOwn 54 = .ok (.invokevirtual 77, 3) := by decide +kernel
theorem dX1_walkOwn_57 : decode cX1_walkOwn 57 = .ok (.iload 4, 2) := by decide +kernel
theorem dX1_walkOwn_59 : decode cX1_walkOwn 59 = .ok (.ifCond .ne 15, 3) := by decide +kernel
theorem dX1_walkOwn_62 : decode cX1_walkOwn 62 = .ok (.aload_n 0, 1) := by decide +kernel
theorem dX1_walkOwn_63 : decode cX1_walkOwn 63 = .ok (.getfield 35, 3) := by decide +kernel
theorem dX1_walkOwn_66 : decode cX1_walkOwn 66 = .ok (.iload_n 1, 1) := by decide +kernel
theorem dX1_walkOwn_67 : decode cX1_walkOwn 67 = .ok (.iload_n 3, 1) := by decide +kernel
theorem dX1_walkOwn_68 : decode cX1_walkOwn 68 = .ok (.invokevirtual 81, 3) := by decide +kernel
theorem dX1_walkOwn_71 : decode cX1_walkOwn 71 = .ok (.ifCond .eq 26, 3) := by decide +kernel
theorem dX1_walkOwn_74 : decode cX1_walkOwn 74 = .ok (.aload_n 0, 1) := by decide +kernel
theorem dX1_walkOwn_75 : decode cX1_walkOwn 75 = .ok (.aload_n 0, 1) := by decide +kernel
theorem dX1_walkOwn_76 : decode cX1_walkOwn 76 = .ok (.getfield 35, 3) := by decide +kernel
theorem dX1_walkOwn_79 : decode cX1_walkOwn 79 = .ok (.iload_n 3, 1) := by decide +kernel
theorem dX1_walkOwn_80 : decode cX1_walkOwn 80 = .ok (.bipush 16, 2) := by decide +kernel
theorem dX1_walkOwn_82 : decode cX1_walkOwn 82 = .ok (.invokevirtual 84, 3) := by decide +kernel
theorem dX1_walkOwn_85 : decode cX1_walkOwn 85 = .ok (.iconst 2, 1) := by decide +kernel
theorem dX1_walkOwn_86 : decode cX1_walkOwn 86 = .ok (.iload_n 1, 1) := by decide +kernel
theorem dX1_walkOwn_87 : decode cX1_walkOwn 87 = .ok (.iload_n 3, 1) := by decide +kernel
theorem dX1_walkOwn_88 : decode cX1_walkOwn 88 = .ok (.invokevirtual 77, 3) := by decide +kernel
theorem dX1_walkOwn_91 : decode cX1_walkOwn 91 = .ok (.aload_n 0, 1) := by decide +kernel
theorem dX1_walkOwn_92 : decode cX1_walkOwn 92 = .ok (.iload_n 1, 1) := by decide +kernel
theorem dX1_walkOwn_93 : decode cX1_walkOwn 93 = .ok (.iload_n 3, 1) := by decide +kernel
theorem dX1_walkOwn_94 : decode cX1_walkOwn 94 = .ok (.invokevirtual 87, 3) := by decide +kernel
theorem dX1_walkOwn_97 : decode cX1_walkOwn 97 = .ok (.iinc 3 1, 3) := by decide +kernel
theorem dX1_walkOwn_100 : decode cX1_walkOwn 100 = .ok (.goto (-96), 3) := by decide +kernel
theorem dX1_walkOwn_103 : decode cX1_walkOwn 103 = .ok (.aload_n 0, 1) := by decide +kernel
theorem dX1_walkOwn_104 : decode cX1_walkOwn 104 = .ok (.aload_n 0, 1) := by decide +kernel
theorem dX1_walkOwn_105 : decode cX1_walkOwn 105 = .ok (.getfield 35, 3) := by decide +kernel
theorem dX1_walkOwn_108 : decode cX1_walkOwn 108 = .ok (.iload_n 1, 1) := by decide +kernel
theorem dX1_walkOwn_109 : decode cX1_walkOwn 109 = .ok (.sipush 128, 3) := by decide +kernel
theorem dX1_walkOwn_112 : decode cX1_walkOwn 112 = .ok (.invokevirtual 84, 3) := by decide +kernel
theorem dX1_walkOwn_115 : decode cX1_walkOwn 115 = .ok (.ifCond .eq 11, 3) := by decide +kernel
theorem dX1_walkOwn_118 : decode cX1_walkOwn 118 = .ok (.iload_n 2, 1) := by decide +kernel
theorem dX1_walkOwn_119 : decode cX1_walkOwn 119 = .ok (.ifCond .ne 7, 3) := by decide +kernel
theorem dX1_walkOwn_122 : decode cX1_walkOwn 122 = .ok (.iconst 1, 1) := by decide +kernel
theorem dX1_walkOwn_123 : decode cX1_walkOwn 123 = .ok (.goto 4, 3) := by decide +kernel
theorem dX1_walkOwn_126 : decode cX1_walkOwn 126 = .ok (.iconst 0, 1) := by decide +kernel
theorem dX1_walkOwn_127 : decode cX1_walkOwn 127 = .ok (.bipush 6, 2) := by decide +kernel
theorem dX1_walkOwn_129 : decode cX1_walkOwn 129 = .ok (.iload_n 1, 1) := by decide +kernel
theorem dX1_walkOwn_130 : decode cX1_walkOwn 130 = .ok (.iconst (-1), 1) := by decide +kernel
theorem dX1_walkOwn_131 : decode cX1_walkOwn 131 = .ok (.invokevirtual 77, 3) := by decide +kernel
theorem dX1_walkOwn_134 : decode cX1_walkOwn 134 = .ok (.aload_n 0, 1) := by decide +kernel
theorem dX1_walkOwn_135 : decode cX1_walkOwn 135 = .ok (.aload_n 0, 1) := by decide +kernel
theorem dX1_walkOwn_136 : decode cX1_walkOwn 136 = .ok (.getfield 35, 3) := by decide +kernel
theorem dX1_walkOwn_139 : decode cX1_walkOwn 139 = .ok (.iload_n 1, 1) := by decide +kernel
theorem dX1_walkOwn_140 : decode cX1_walkOwn 140 = .ok (.bipush 32, 2) := by decide +kernel
theorem dX1_walkOwn_142 : decode cX1_walkOwn 142 = .ok (.invokevirtual 84, 3) := by decide +kernel
theorem dX1_walkOwn_145 : decode cX1_walkOwn 145 = .ok (.ifCond .eq 25, 3) := by decide +kernel
theorem dX1_walkOwn_148 : decode cX1_walkOwn 148 = .ok (.aload_n 0, 1) := by decide +kernel
theorem dX1_walkOwn_149 : decode cX1_walkOwn 149 = .ok (.getfield 27, 3) := by decide +kernel
theorem dX1_walkOwn_152 : decode cX1_walkOwn 152 = .ok (.aload_n 0, 1) := by decide +kernel
theorem dX1_walkOwn_153 : decode cX1_walkOwn 153 = .ok (.getfield 35, 3) := by decide +kernel
theorem dX1_walkOwn_156 : decode cX1_walkOwn 156 = .ok (.iload_n 1, 1) := by decide +kernel
theorem dX1_walkOwn_157 : decode cX1_walkOwn 157 = .ok (.invokevirtual 49, 3) := by decide +kernel
theorem dX1_walkOwn_160 : decode cX1_walkOwn 160 = .ok (.invokevirtual 91, 3) := by decide +kernel
theorem dX1_walkOwn_163 : decode cX1_walkOwn 163 = .ok (.ifCond .eq 7, 3) := by decide +kernel
theorem dX1_walkOwn_166 : decode cX1_walkOwn 166 = .ok (.iconst 1, 1) := by decide +kernel
theorem dX1_walkOwn_167 : decode cX1_walkOwn 167 = .ok (.goto 4, 3) := by decide +kernel
theorem dX1_walkOwn_170 : decode cX1_walkOwn 170 = .ok (.iconst 0, 1) := by decide +kernel
theorem dX1_walkOwn_171 : decode cX1_walkOwn 171 = .ok (.bipush 7, 2) := by decide +kernel
theorem dX1_walkOwn_173 : decode cX1_walkOwn 173 = .ok (.iload_n 1, 1) := by decide +kernel
theorem dX1_walkOwn_174 : decode cX1_walkOwn 174 = .ok (.iconst (-1), 1) := by decide +kernel
theorem dX1_walkOwn_175 : decode cX1_walkOwn 175 = .ok (.invokevirtual 77, 3) := by decide +kernel
theorem dX1_walkOwn_178 : decode cX1_walkOwn 178 = .ok (.return_, 1) := by decide +kernel
theorem dX1_compare_0 : decode cX1_compare 0 = .ok (.aload_n 0, 1) := by decide +kernel
theorem dX1_compare_1 : decode cX1_compare 1 = .ok (.aload_n 0, 1) := by decide +kernel
theorem dX1_compare_2 : decode cX1_compare 2 = .ok (.getfield 35, 3) := by decide +kernel
theorem dX1_compare_5 : decode cX1_compare 5 = .ok (.iload_n 1, 1) := by decide +kernel
theorem dX1_compare_6 : decode cX1_compare 6 = .ok (.invokevirtual 94, 3) := by decide +kernel
theorem dX1_compare_9 : decode cX1_compare 9 = .ok (.aload_n 0, 1) := by decide +kernel
theorem dX1_compare_10 : decode cX1_compare 10 = .ok (.getfield 35, 3) := by decide +kernel
theorem dX1_compare_13 : decode cX1_compare 13 = .ok (.iload_n 2, 1) := by decide +kernel
theorem dX1_compare_14 : decode cX1_compare 14 = .ok (.invokevirtual 94, 3) := by decide +kernel
theorem dX1_compare_17 : decode cX1_compare 17 = .ok (.if_icmp .ge 7, 3) := by decide +kernel
theorem dX1_compare_20 : decode cX1_compare 20 = .ok (.iconst 1, 1) := by decide +kernel
theorem dX1_compare_21 : decode cX1_compare 21 = .ok (.goto 4, 3) := by decide +kernel
theorem dX1_compare_24 : decode cX1_compare 24 = .ok (.iconst 0, 1) := by decide +kernel
theorem dX1_compare_25 : decode cX1_compare 25 = .ok (.iconst 3, 1) := by decide +kernel
theorem dX1_compare_26 : decode cX1_compare 26 = .ok (.iload_n 1, 1) := by decide +kernel
theorem dX1_compare_27 : decode cX1_compare 27 = .ok (.iload_n 2, 1) := by decide +kernel
theorem dX1_compare_28 : decode cX1_compare 28 = .ok (.invokevirtual 77, 3) := by decide +kernel
theorem dX1_compare_31 : decode cX1_compare 31 = .ok (.aload_n 0, 1) := by decide +kernel
theorem dX1_compare_32 : decode cX1_compare 32 = .ok (.aload_n 0, 1) := by decide +kernel
theorem dX1_compare_33 : decode cX1_compare 33 = .ok (.aload_n 0, 1) := by decide +kernel
theorem dX1_compare_34 : decode cX1_compare 34 = .ok (.getfield 35, 3) := by decide +kernel
theorem dX1_compare_37 : decode cX1_compare 37 = .ok (.iload_n 1, 1) := by decide +kernel
theorem dX1_compare_38 : decode cX1_compare 38 = .ok (.invokevirtual 97, 3) := by decide +kernel
theorem dX1_compare_41 : decode cX1_compare 41 = .ok (.aload_n 0, 1) := by decide +kernel
theorem dX1_compare_42 : decode cX1_compare 42 = .ok (.getfield 35, 3) := by decide +kernel
theorem dX1_compare_45 : decode cX1_compare 45 = .ok (.iload_n 2, 1) := by decide +kernel
theorem dX1_compare_46 : decode cX1_compare 46 = .ok (.invokevirtual 97, 3) := by decide +kernel
theorem dX1_compare_49 : decode cX1_compare 49 = .ok (.invokevirtual 100, 3) := by decide +kernel
theorem dX1_compare_52 : decode cX1_compare 52 = .ok (.ifCond .ne 7, 3) := by decide +kernel
theorem dX1_compare_55 : decode cX1_compare 55 = .ok (.iconst 1, 1) := by decide +kernel
theorem dX1_compare_56 : decode cX1_compare 56 = .ok (.goto 4, 3) := by decide +kernel
theorem dX1_compare_59 : decode cX1_compare 59 = .ok (.iconst 0, 1) := by decide +kernel
theorem dX1_compare_60 : decode cX1_compare 60 = .ok (.iconst 4, 1) := by decide +kernel
theorem dX1_compare_61 : decode cX1_compare 61 = .ok (.iload_n 1, 1) := by decide +kernel
theorem dX1_compare_62 : decode cX1_compare 62 = .ok (.iload_n 2, 1) := by decide +kernel
theorem dX1_compare_63 : decode cX1_compare 63 = .ok (.invokevirtual 77, 3) := by decide +kernel
theorem dX1_compare_66 : decode cX1_compare 66 = .ok (.aload_n 0, 1) := by decide +kernel
theorem dX1_compare_67 : decode cX1_compare 67 = .ok (.aload_n 0, 1) := by decide +kernel
theorem dX1_compare_68 : decode cX1_compare 68 = .ok (.getfield 31, 3) := by decide +kernel
theorem dX1_compare_71 : decode cX1_compare 71 = .ok (.aload_n 0, 1) := by decide +kernel
theorem dX1_compare_72 : decode cX1_compare 72 = .ok (.getfield 35, 3) := by decide +kernel
theorem dX1_compare_75 : decode cX1_compare 75 = .ok (.iload_n 1, 1) := by decide +kernel
theorem dX1_compare_76 : decode cX1_compare 76 = .ok (.invokevirtual 103, 3) := by decide +kernel
theorem dX1_compare_79 : decode cX1_compare 79 = .ok (.aload_n 0, 1) := by decide +kernel
theorem dX1_compare_80 : decode cX1_compare 80 = .ok (.getfield 35, 3) := by decide +kernel
theorem dX1_compare_83 : decode cX1_compare 83 = .ok (.iload_n 2, 1) := by decide +kernel
theorem dX1_compare_84 : decode cX1_compare 84 = .ok (.invokevirtual 103, 3) := by decide +kernel
theorem dX1_compare_87 : decode cX1_compare 87 = .ok (.invokevirtual 106, 3) := by decide +kernel
theorem dX1_compare_90 : decode cX1_compare 90 = .ok (.ifCond .ne 7, 3) := by decide +kernel
theorem dX1_compare_93 : decode cX1_compare 93 = .ok (.iconst 1, 1) := by decide +kernel
theorem dX1_compare_94 : decode cX1_compare 94 = .ok (.goto 4, 3) := by decide +kernel
theorem dX1_compare_97 : decode cX1_compare 97 = .ok (.iconst 0, 1) := by decide +kernel
theorem dX1_compare_98 : decode cX1_compare 98 = .ok (.iconst 5, 1) := by decide +kernel
theorem dX1_compare_99 : decode cX1_compare 99 = .ok (.iload_n 1, 1) := by decide +kernel
theorem dX1_compare_100 : decode cX1_compare 100 = .ok (.iload_n 2, 1) := by decide +kernel
theorem dX1_compare_101 : decode cX1_compare 101 = .ok (.invokevirtual 77, 3) := by decide +kernel
theorem dX1_compare_104 : decode cX1_compare 104 = .ok (.return_, 1) := by decide +kernel
theorem dX1_suits_0 : decode cX1_suits 0 = .ok (.iload_n 1, 1) := by decide +kernel
theorem dX1_suits_1 : decode cX1_suits 1 = .ok (.iload_n 2, 1) := by decide +kernel
theorem dX1_suits_2 : decode cX1_suits 2 = .ok (.if_icmp .ne 5, 3) := by decide +kernel
theorem dX1_suits_5 : decode cX1_suits 5 = .ok (.iconst 1, 1) := by decide +kernel
theorem dX1_suits_6 : decode cX1_suits 6 = .ok (.ireturn, 1) := by decide +kernel
theorem dX1_suits_7 : decode cX1_suits 7 = .ok (.aload_n 0, 1) := by decide +kernel
theorem dX1_suits_8 : decode cX1_suits 8 = .ok (.getfield 27, 3) := by decide +kernel
theorem dX1_suits_11 : decode cX1_suits 11 = .ok (.iload_n 1, 1) := by decide +kernel
theorem dX1_suits_12 : decode cX1_suits 12 = .ok (.invokevirtual 111, 3) := by decide +kernel
theorem dX1_suits_15 : decode cX1_suits 15 = .ok (.ifCond .eq 30, 3) := by decide +kernel
theorem dX1_suits_18 : decode cX1_suits 18 = .ok (.aload_n 0, 1) := by decide +kernel
theorem dX1_suits_19 : decode cX1_suits 19 = .ok (.getfield 27, 3) := by decide +kernel
theorem dX1_suits_22 : decode cX1_suits 22 = .ok (.iload_n 2, 1) := by decide +kernel
theorem dX1_suits_23 : decode cX1_suits 23 = .ok (.invokevirtual 111, 3) := by decide +kernel
theorem dX1_suits_26 : decode cX1_suits 26 = .ok (.ifCond .eq 19, 3) := by decide +kernel
theorem dX1_suits_29 : decode cX1_suits 29 = .ok (.aload_n 0, 1) := by decide +kernel
theorem dX1_suits_30 : decode cX1_suits 30 = .ok (.getfield 27, 3) := by decide +kernel
theorem dX1_suits_33 : decode cX1_suits 33 = .ok (.iload_n 1, 1) := by decide +kernel
theorem dX1_suits_34 : decode cX1_suits 34 = .ok (.iload_n 2, 1) := by decide +kernel
theorem dX1_suits_35 : decode cX1_suits 35 = .ok (.invokevirtual 114, 3) := by decide +kernel
theorem dX1_suits_38 : decode cX1_suits 38 = .ok (.ifCond .eq 7, 3) := by decide +kernel
theorem dX1_suits_41 : decode cX1_suits 41 = .ok (.iconst 1, 1) := by decide +kernel
theorem dX1_suits_42 : decode cX1_suits 42 = .ok (.goto 4, 3) := by decide +kernel
theorem dX1_suits_45 : decode cX1_suits 45 = .ok (.iconst 0, 1) := by decide +kernel
theorem dX1_suits_46 : decode cX1_suits 46 = .ok (.ireturn, 1) := by decide +kernel
theorem dX1_walkInherited_0 : decode cX1_walkInherited 0 = .ok (.iconst 0, 1) := by decide +kernel
theorem dX1_walkInherited_1 : decode cX1_walkInherited 1 = .ok (.istore_n 2, 1) := by decide +kernel
theorem dX1_walkInherited_2 : decode cX1_walkInherited 2 = .ok (.iload_n 2, 1) := by decide +kernel
theorem dX1_walkInherited_3 : decode cX1_walkInherited 3 = .ok (.aload_n 0, 1) := by decide +kernel
theorem dX1_walkInherited_4 : decode cX1_walkInherited 4 = .ok (.getfield 35, 3) := by decide +kernel
theorem dX1_walkInherited_7 : decode cX1_walkInherited 7 = .ok (.invokevirtual 43, 3) := by decide +kernel
theorem dX1_walkInherited_10 : decode cX1_walkInherited 10 = .ok (.if_icmp .ge 67, 3) := by decide +kernel
theorem dX1_walkInherited_13 : decode cX1_walkInherited 13 = .ok (.aload_n 0, 1) := by decide +kernel
theorem dX1_walkInherited_14 : decode cX1_walkInherited 14 = .ok (.getfield 35, 3) := by decide +kernel
theorem dX1_walkInherited_17 : decode cX1_walkInherited 17 = .ok (.iload_n 2, 1) := by decide +kernel
theorem dX1_walkInherited_18 : decode cX1_walkInherited 18 = .ok (.invokevirtual 117, 3) := by decide +kernel
theorem dX1_walkInherited_21 : decode cX1_walkInherited 21 = .ok (.ifCond .eq 50, 3) := by decide +kernel
theorem dX1_walkInherited_24 : decode cX1_walkInherited 24 = .ok (.aload_n 0, 1) := by decide +kernel
theorem dX1_walkInherited_25 : decode cX1_walkInherited 25 = .ok (.getfield 35, 3) := by decide +kernel
theorem dX1_walkInherited_28 : decode cX1_walkInherited 28 = .ok (.iload_n 2, 1) := by decide +kernel
theorem dX1_walkInherited_29 : decode cX1_walkInherited 29 = .ok (.bipush 96, 2) := by decide +kernel
theorem dX1_walkInherited_31 : decode cX1_walkInherited 31 = .ok (.invokevirtual 84, 3) := by decide +kernel
theorem dX1_walkInherited_34 : decode cX1_walkInherited 34 = .ok (.ifCond .eq 37, 3) := by decide +kernel
theorem dX1_walkInherited_37 : decode cX1_walkInherited 37 = .ok (.aload_n 0, 1) := by decide +kernel
theorem dX1_walkInherited_38 : decode cX1_walkInherited 38 = .ok (.getfield 27, 3) := by decide +kernel
theorem dX1_walkInherited_41 : decode cX1_walkInherited 41 = .ok (.iload_n 1, 1) := by decide +kernel
theorem dX1_walkInherited_42 : decode cX1_walkInherited 42 = .ok (.aload_n 0, 1) := by decide +kernel
theorem dX1_walkInherited_43 : decode cX1_walkInherited 43 = .ok (.getfield 35, 3) := by decide +kernel
theorem dX1_walkInherited_46 : decode cX1_walkInherited 46 = .ok (.iload_n 2, 1) := by decide +kernel
theorem dX1_walkInherited_47 : decode cX1_walkInherited 47 = .ok (.invokevirtual 49, 3) := by decide +kernel
theorem dX1_walkInherited_50 : decode cX1_walkInherited 50 = .ok (.invokevirtual 120, 3) := by decide +kernel
theorem dX1_walkInherited_53 : decode cX1_walkInherited 53 = .ok (.ifCond .eq 18, 3) := by decide +kernel
theorem dX1_walkInherited_56 : decode cX1_walkInherited 56 = .ok (.aload_n 0, 1) := by decide +kernel
theorem dX1_walkInherited_57 : decode cX1_walkInherited 57 = .ok (.iload_n 1, 1) := by decide +kernel
theorem dX1_walkInherited_58 : decode cX1_walkInherited 58 = .ok (.aload_n 0, 1) := by decide +kernel
theorem dX1_walkInherited_59 : decode cX1_walkInherited 59 = .ok (.getfield 39, 3) := by decide +kernel
theorem dX1_walkInherited_62 : decode cX1_walkInherited 62 = .ok (.iload_n 1, 1) := by decide +kernel
theorem dX1_walkInherited_63 : decode cX1_walkInherited 63 = .ok (.iload_n 2, 1) := by decide +kernel
theorem dX1_walkInherited_64 : decode cX1_walkInherited 64 = .ok (.invokevirtual 123, 3) := by decide +kernel
theorem dX1_walkInherited_67 : decode cX1_walkInherited 67 = .ok (.iload_n 2, 1) := by decide +kernel
theorem dX1_walkInherited_68 : decode cX1_walkInherited 68 = .ok (.invokevirtual 129, 3) := by decide +kernel
theorem dX1_walkInherited_71 : decode cX1_walkInherited 71 = .ok (.iinc 2 1, 3) := by decide +kernel
theorem dX1_walkInherited_74 : decode cX1_walkInherited 74 = .ok (.goto (-72), 3) := by decide +kernel
theorem dX1_walkInherited_77 : decode cX1_walkInherited 77 = .ok (.return_, 1) := by decide +kernel
theorem dX1_noteChosen_0 : decode cX1_noteChosen 0 = .ok (.iload_n 2, 1) := by decide +kernel
theorem dX1_noteChosen_1 : decode cX1_noteChosen 1 = .ok (.bipush (-5), 2) := by decide +kernel
theorem dX1_noteChosen_3 : decode cX1_noteChosen 3 = .ok (.if_icmp .ne 14, 3) := by decide +kernel
theorem dX1_noteChosen_6 : decode cX1_noteChosen 6 = .ok (.aload_n 0, 1) := by decide +kernel
theorem dX1_noteChosen_7 : decode cX1_noteChosen 7 = .ok (.bipush 8, 2) := by decide +kernel
theorem dX1_noteChosen_9 : decode cX1_noteChosen 9 = .ok (.iconst (-1), 1) := by decide +kernel
theorem dX1_noteChosen_10 : decode cX1_noteChosen 10 = .ok (.iload_n 3, 1) := by decide +kernel
theorem dX1_noteChosen_11 : decode cX1_noteChosen 11 = .ok (.invokevirtual 66, 3) := by decide +kernel
theorem dX1_noteChosen_14 : decode cX1_noteChosen 14 = .ok (.goto 72, 3) := by decide +kernel
theorem dX1_noteChosen_17 : decode cX1_noteChosen 17 = .ok (.iload_n 2, 1) := by decide +kernel
theorem dX1_noteChosen_18 : decode cX1_noteChosen 18 = .ok (.iconst (-1), 1) := by decide +kernel
theorem dX1_noteChosen_19 : decode cX1_noteChosen 19 = .ok (.if_icmp .eq 67, 3) := by decide +kernel
theorem dX1_noteChosen_22 : decode cX1_noteChosen 22 = .ok (.aload_n 0, 1) := by decide +kernel
theorem dX1_noteChosen_23 : decode cX1_noteChosen 23 = .ok (.getfield 35, 3) := by decide +kernel
theorem dX1_noteChosen_26 : decode cX1_noteChosen 26 = .ok (.iload_n 2, 1) := by decide +kernel
theorem dX1_noteChosen_27 : decode cX1_noteChosen 27 = .ok (.invokevirtual 49, 3) := by decide +kernel
theorem dX1_noteChosen_30 : decode cX1_noteChosen 30 = .ok (.iload_n 1, 1) := by decide +kernel
theorem dX1_noteChosen_31 : decode cX1_noteChosen 31 = .ok (.if_icmp .eq 55, 3) := by decide +kernel
theorem dX1_noteChosen_34 : decode cX1_noteChosen 34 = .ok (.aload_n 0, 1) := by decide +kernel
theorem dX1_noteChosen_35 : decode cX1_noteChosen 35 = .ok (.aload_n 0, 1) := by decide +kernel
theorem dX1_noteChosen_36 : decode cX1_noteChosen 36 = .ok (.getfield 27, 3) := by decide +kernel
theorem dX1_noteChosen_39 : decode cX1_noteChosen 39 = .ok (.iload_n 1, 1) := by decide +kernel
theorem dX1_noteChosen_40 : decode cX1_noteChosen 40 = .ok (.invokevirtual 91, 3) := by decide +kernel
theorem dX1_noteChosen_43 : decode cX1_noteChosen 43 = .ok (.ifCond .eq 20, 3) := by decide +kernel
theorem dX1_noteChosen_46 : decode cX1_noteChosen 46 = .ok (.aload_n 0, 1) := by decide +kernel
theorem dX1_noteChosen_47 : decode cX1_noteChosen 47 = .ok (.getfield 35, 3) := by decide +kernel
theorem dX1_noteChosen_50 : decode cX1_noteChosen 50 = .ok (.iload_n 2, 1) := by decide +kernel
theorem dX1_noteChosen_51 : decode cX1_noteChosen 51 = .ok (.bipush 32, 2) := by decide +kernel
theorem dX1_noteChosen_53 : decode cX1_noteChosen 53 = .ok (.invokevirtual 84, 3) := by decide +kernel
theorem dX1_noteChosen_56 : decode cX1_noteChosen 56 = .ok (.ifCond .eq 7, 3) := by decide +kernel
theorem dX1_noteChosen_59 : decode cX1_noteChosen 59 = .ok (.iconst 1, 1) := by decide +kernel
theorem dX1_noteChosen_60 : decode cX1_noteChosen 60 = .ok (.goto 4, 3) := by decide +kernel
theorem dX1_noteChosen_63 : decode cX1_noteChosen 63 = .ok (.iconst 0, 1) := by decide +kernel
theorem dX1_noteChosen_64 : decode cX1_noteChosen 64 = .ok (.bipush 9, 2) := by decide +kernel
theorem dX1_noteChosen_66 : decode cX1_noteChosen 66 = .ok (.iload_n 2, 1) := by decide +kernel
theorem dX1_noteChosen_67 : decode cX1_noteChosen 67 = .ok (.iload_n 3, 1) := by decide +kernel
theorem dX1_noteChosen_68 : decode cX1_noteChosen 68 = .ok (.invokevirtual 77, 3) := by decide +kernel
theorem dX1_noteChosen_71 : decode cX1_noteChosen 71 = .ok (.aload_n 0, 1) := by decide +kernel
theorem dX1_noteChosen_72 : decode cX1_noteChosen 72 = .ok (.iload_n 2, 1) := by decide +kernel
theorem dX1_noteChosen_73 : decode cX1_noteChosen 73 = .ok (.iload_n 3, 1) := by decide +kernel
theorem dX1_noteChosen_74 : decode cX1_noteChosen 74 = .ok (.invokevirtual 132, 3) := by decide +kernel
theorem dX1_noteChosen_77 : decode cX1_noteChosen 77 = .ok (.ifCond .eq 9, 3) := by decide +kernel
theorem dX1_noteChosen_80 : decode cX1_noteChosen 80 = .ok (.aload_n 0, 1) := by decide +kernel
theorem dX1_noteChosen_81 : decode cX1_noteChosen 81 = .ok (.iload_n 2, 1) := by decide +kernel
theorem dX1_noteChosen_82 : decode cX1_noteChosen 82 = .ok (.iload_n 3, 1) := by decide +kernel
theorem dX1_noteChosen_83 : decode cX1_noteChosen 83 = .ok (.invokevirtual 87, 3) := by decide +kernel
theorem dX1_noteChosen_86 : decode cX1_noteChosen 86 = .ok (.return_, 1) := by decide +kernel
theorem dX1_isMetByChance_0 : decode cX1_isMetByChance 0 = .ok (.aload_n 0, 1) := by decide +kernel
theorem dX1_isMetByChance_1 : decode cX1_isMetByChance 1 = .ok (.getfield 35, 3) := by decide +kernel
theorem dX1_isMetByChance_4 : decode cX1_isMetByChance 4 = .ok (.iload_n 1, 1) := by decide +kernel
theorem dX1_isMetByChance_5 : decode cX1_isMetByChance 5 = .ok (.invokevirtual 49, 3) := by decide +kernel
theorem dX1_isMetByChance_8 : decode cX1_isMetByChance 8 = .ok (.istore_n 3, 1) := by decide +kernel
theorem dX1_isMetByChance_9 : decode cX1_isMetByChance 9 = .ok (.aload_n 0, 1) := by decide +kernel
theorem dX1_isMetByChance_10 : decode cX1_isMetByChance 10 = .ok (.getfield 35, 3) := by decide +kernel
theorem dX1_isMetByChance_13 : decode cX1_isMetByChance 13 = .ok (.iload_n 2, 1) := by decide +kernel
theorem dX1_isMetByChance_14 : decode cX1_isMetByChance 14 = .ok (.invokevirtual 49, 3) := by decide +kernel
theorem dX1_isMetByChance_17 : decode cX1_isMetByChance 17 = .ok (.istore 4, 2) := by decide +kernel
theorem dX1_isMetByChance_19 : decode cX1_isMetByChance 19 = .ok (.aload_n 0, 1) := by decide +kernel
theorem dX1_isMetByChance_20 : decode cX1_isMetByChance 20 = .ok (.getfield 27, 3) := by decide +kernel
theorem dX1_isMetByChance_23 : decode cX1_isMetByChance 23 = .ok (.iload 4, 2) := by decide +kernel
theorem dX1_isMetByChance_25 : decode cX1_isMetByChance 25 = .ok (.invokevirtual 57, 3) := by decide +kernel
theorem dX1_isMetByChance_28 : decode cX1_isMetByChance 28 = .ok (.ifCond .eq 31, 3) := by decide +kernel
theorem dX1_isMetByChance_31 : decode cX1_isMetByChance 31 = .ok (.aload_n 0, 1) := by decide +kernel
theorem dX1_isMetByChance_32 : decode cX1_isMetByChance 32 = .ok (.getfield 27, 3) := by decide +kernel
theorem dX1_isMetByChance_35 : decode cX1_isMetByChance 35 = .ok (.iload_n 3, 1) := by decide +kernel
theorem dX1_isMetByChance_36 : decode cX1_isMetByChance 36 = .ok (.invokevirtual 57, 3) := by decide +kernel
theorem dX1_isMetByChance_39 : decode cX1_isMetByChance 39 = .ok (.ifCond .ne 20, 3) := by decide +kernel
theorem dX1_isMetByChance_42 : decode cX1_isMetByChance 42 = .ok (.aload_n 0, 1) := by decide +kernel
theorem dX1_isMetByChance_43 : decode cX1_isMetByChance 43 = .ok (.getfield 27, 3) := by decide +kernel
theorem dX1_isMetByChance_46 : decode cX1_isMetByChance 46 = .ok (.iload_n 3, 1) := by decide +kernel
theorem dX1_isMetByChance_47 : decode cX1_isMetByChance 47 = .ok (.iload 4, 2) := by decide +kernel
theorem dX1_isMetByChance_49 : decode cX1_isMetByChance 49 = .ok (.invokevirtual 120, 3) := by decide +kernel
theorem dX1_isMetByChance_52 : decode cX1_isMetByChance 52 = .ok (.ifCond .ne 7, 3) := by decide +kernel
theorem dX1_isMetByChance_55 : decode cX1_isMetByChance 55 = .ok (.iconst 1, 1) := by decide +kernel
theorem dX1_isMetByChance_56 : decode cX1_isMetByChance 56 = .ok (.goto 4, 3) := by decide +kernel
theorem dX1_isMetByChance_59 : decode cX1_isMetByChance 59 = .ok (.iconst 0, 1) := by decide +kernel
theorem dX1_isMetByChance_60 : decode cX1_isMetByChance 60 = .ok (.ireturn, 1) := by decide +kernel
theorem dX5_init_0 : decode cX5_init 0 = .ok (.aload_n 0, 1) := by decide +kernel
theorem dX5_init_1 : decode cX5_init 1 = .ok (.invokespecial 1, 3) := by decide +kernel
theorem dX5_init_4 : decode cX5_init 4 = .ok (.aload_n 0, 1) := by decide +kernel
theorem dX5_init_5 : decode cX5_init 5 = .ok (.new 7, 3) := by decide +kernel
theorem dX5_init_8 : decode cX5_init 8 = .ok (.dup, 1) := by decide +kernel
theorem dX5_init_9 : decode cX5_init 9 = .ok (.invokespecial 9, 3) := by decide +kernel
theorem dX5_init_12 : decode cX5_init 12 = .ok (.putfield 10, 3) := by decide +kernel
theorem dX5_init_15 : decode cX5_init 15 = .ok (.aload_n 0, 1) := by decide +kernel
theorem dX5_init_16 : decode cX5_init 16 = .ok (.new 16, 3) := by decide +kernel
theorem dX5_init_19 : decode cX5_init 19 = .ok (.dup, 1) := by decide +kernel
theorem dX5_init_20 : decode cX5_init 20 = .ok (.invokespecial 18, 3) := by decide +kernel
theorem dX5_init_23 : decode cX5_init 23 = .ok (.putfield 19, 3) := by decide +kernel
theorem dX5_init_26 : decode cX5_init 26 = .ok (.aload_n 0, 1) := by decide +kernel
theorem dX5_init_27 : decode cX5_init 27 = .ok (.new 23, 3) := by decide +kernel
theorem dX5_init_30 : decode cX5_init 30 = .ok (.dup, 1) := by decide +kernel
theorem dX5_init_31 : decode cX5_init 31 = .ok (.aload_n 0, 1) := by decide +kernel
theorem dX5_init_32 : decode cX5_init 32 = .ok (.getfield 10, 3) := by decide +kernel
theorem dX5_init_35 : decode cX5_init 35 = .ok (.invokespecial 25, 3) := by decide +kernel
theorem dX5_init_38 : decode cX5_init 38 = .ok (.putfield 28, 3) := by decide +kernel
theorem dX5_init_41 : decode cX5_init 41 = .ok (.aload_n 0, 1) := by decide +kernel
theorem dX5_init_42 : decode cX5_init 42 = .ok (.new 32, 3) := by decide +kernel
theorem dX5_init_45 : decode cX5_init 45 = .ok (.dup, 1) := by decide +kernel
theorem dX5_init_46 : decode cX5_init 46 = .ok (.aload_n 0, 1) := by decide +kernel
theorem dX5_init_47 : decode cX5_init 47 = .ok (.getfield 10, 3) := by decide +kernel
theorem dX5_init_50 : decode cX5_init 50 = .ok (.aload_n 0, 1) := by decide +kernel
theorem dX5_init_51 : decode cX5_init 51 = .ok (.getfield 28, 3) := by decide +kernel
theorem dX5_init_54 : decode cX5_init 54 = .ok (.invokespecial 34, 3) := by decide +kernel
theorem dX5_init_57 : decode cX5_init 57 = .ok (.putfield 37, 3) := by decide +kernel
theorem dX5_init_60 : decode cX5_init 60 = .ok (.aload_n 0, 1) := by decide +kernel
theorem dX5_init_61 : decode cX5_init 61 = .ok (.new 41, 3) := by decide +kernel
theorem dX5_init_64 : decode cX5_init 64 = .ok (.dup, 1) := by decide +kernel
theorem dX5_init_65 : decode cX5_init 65 = .ok (.aload_n 0, 1) := by decide +kernel
theorem dX5_init_66 : decode cX5_init 66 = .ok (.getfield 10, 3) := by decide +kernel
theorem dX5_init_69 : decode cX5_init 69 = .ok (.aload_n 0, 1) := by decide +kernel
theorem dX5_init_70 : decode cX5_init 70 = .ok (.getfield 19, 3) := by decide +kernel
theorem dX5_init_73 : decode cX5_init 73 = .ok (.aload_n 0, 1) := by decide +kernel
theorem dX5_init_74 : decode cX5_init 74 = .ok (.getfield 28, 3) := by decide +kernel
theorem dX5_init_77 : decode cX5_init 77 = .ok (.aload_n 0, 1) := by decide +kernel
theorem dX5_init_78 : decode cX5_init 78 = .ok (.getfield 37, 3) := by decide +kernel
theorem dX5_init_81 : decode cX5_init 81 = .ok (.invokespecial 43, 3) := by decide +kernel
theorem dX5_init_84 : decode cX5_init 84 = .ok (.putfield 46, 3) := by decide +kernel
theorem dX5_init_87 : decode cX5_init 87 = .ok (.return_, 1) := by decide +kernel
theorem dX5_clear_0 : decode cX5_clear 0 = .ok (.aload_n 0, 1) := by decide +kernel
theorem dX5_clear_1 : decode cX5_clear 1 = .ok (.getfield 28, 3) := by decide +kernel
theorem dX5_clear_4 : decode cX5_clear 4 = .ok (.invokevirtual 50, 3) := by decide +kernel
theorem dX5_clear_7 : decode cX5_clear 7 = .ok (.istore_n 1, 1) := by decide +kernel
theorem dX5_clear_8 : decode cX5_clear 8 = .ok (.aload_n 0, 1) := by decide +kernel
theorem dX5_clear_9 : decode cX5_clear 9 = .ok (.getfield 10, 3) := by decide +kernel
theorem dX5_clear_12 : decode cX5_clear 12 = .ok (.invokevirtual 54, 3) := by decide +kernel
theorem dX5_clear_15 : decode cX5_clear 15 = .ok (.aload_n 0, 1) := by decide +kernel
theorem dX5_clear_16 : decode cX5_clear 16 = .ok (.getfield 19, 3) := by decide +kernel
theorem dX5_clear_19 : decode cX5_clear 19 = .ok (.invokevirtual 57, 3) := by decide +kernel
theorem dX5_clear_22 : decode cX5_clear 22 = .ok (.aload_n 0, 1) := by decide +kernel
theorem dX5_clear_23 : decode cX5_clear 23 = .ok (.getfield 28, 3) := by decide +kernel
theorem dX5_clear_26 : decode cX5_clear 26 = .ok (.invokevirtual 58, 3) := by decide +kernel
theorem dX5_clear_29 : decode cX5_clear 29 = .ok (.iload_n 1, 1) := by decide +kernel
theorem dX5_clear_30 : decode cX5_clear 30 = .ok (.ireturn, 1) := by decide +kernel
theorem dX5_type_0 : decode cX5_type 0 = .ok (.iload_n 3, 1) := by decide +kernel
theorem dX5_type_1 : decode cX5_type 1 = .ok (.iconst (-1), 1) := by decide +kernel
theorem dX5_type_2 : decode cX5_type 2 = .ok (.if_icmp .eq 17, 3) := by decide +kernel
theorem dX5_type_5 : decode cX5_type 5 = .ok (.aload_n 0, 1) := by decide +kernel
theorem dX5_type_6 : decode cX5_type 6 = .ok (.getfield 10, 3) := by decide +kernel
theorem dX5_type_9 : decode cX5_type 9 = .ok (.iload_n 3, 1) := by decide +kernel
theorem dX5_type_10 : decode cX5_type 10 = .ok (.invokevirtual 59, 3) := by decide +kernel
theorem dX5_type_13 : decode cX5_type 13 = .ok (.ifCond .ne 6, 3) := by decide +kernel
theorem dX5_type_16 : decode cX5_type 16 = .ok (.bipush (-2), 2) := by decide +kernel
theorem dX5_type_18 : decode cX5_type 18 = .ok (.ireturn, 1) := by decide +kernel
theorem dX5_type_19 : decode cX5_type 19 = .ok (.iload_n 1, 1) := by decide +kernel
theorem dX5_type_20 : decode cX5_type 20 = .ok (.ifCond .lt 17, 3) := by decide +kernel
theorem dX5_type_23 : decode cX5_type 23 = .ok (.iload_n 1, 1) := by decide +kernel
theorem dX5_type_24 : decode cX5_type 24 = .ok (.iconst 2, 1) := by decide +kernel
theorem dX5_type_25 : decode cX5_type 25 = .ok (.if_icmp .gt 12, 3) := by decide +kernel
theorem dX5_type_28 : decode cX5_type 28 = .ok (.iload_n 2, 1) := by decide +kernel
theorem dX5_type_29 : decode cX5_type 29 = .ok (.ifCond .lt 8, 3) := by decide +kernel
theorem dX5_type_32 : decode cX5_type 32 = .ok (.iload_n 2, 1) := by decide +kernel
theorem dX5_type_33 : decode cX5_type 33 = .ok (.iconst 4, 1) := by decide +kernel
theorem dX5_type_34 : decode cX5_type 34 = .ok (.if_icmp .lt 6, 3) := by decide +kernel
theorem dX5_type_37 : decode cX5_type 37 = .ok (.bipush (-3), 2) := by decide +kernel
theorem dX5_type_39 : decode cX5_type 39 = .ok (.ireturn, 1) := by decide +kernel
theorem dX5_type_40 : decode cX5_type 40 = .ok (.iload_n 3, 1) := by decide +kernel
theorem dX5_type_41 : decode cX5_type 41 = .ok (.iconst (-1), 1) := by decide +kernel
theorem dX5_type_42 : decode cX5_type 42 = .ok (.if_icmp .eq 22, 3) := by decide +kernel
theorem dX5_type_45 : decode cX5_type 45 = .ok (.iload_n 1, 1) := by decide +kernel
theorem dX5_type_46 : decode cX5_type 46 = .ok (.iconst 2, 1) := by decide +kernel
theorem dX5_type_47 : decode cX5_type 47 = .ok (.if_icmp .eq 14, 3) := by decide +kernel
theorem dX5_type_50 : decode cX5_type 50 = .ok (.aload_n 0, 1) := by decide +kernel
theorem dX5_type_51 : decode cX5_type 51 = .ok (.getfield 10, 3) := by decide +kernel
theorem dX5_type_54 : decode cX5_type 54 = .ok (.iload_n 3, 1) := by decide +kernel
theorem dX5_type_55 : decode cX5_type 55 = .ok (.invokevirtual 63, 3) := by decide +kernel
theorem dX5_type_58 : decode cX5_type 58 = .ok (.ifCond .eq 6, 3) := by decide +kernel
theorem dX5_type_61 : decode cX5_type 61 = .ok (.bipush (-3), 2) := by decide +kernel
theorem dX5_type_63 : decode cX5_type 63 = .ok (.ireturn, 1) := by decide +kernel
theorem dX5_type_64 : decode cX5_type 64 = .ok (.aload_n 0, 1) := by decide +kernel
theorem dX5_type_65 : decode cX5_type 65 = .ok (.getfield 10, 3) := by decide +kernel
theorem dX5_type_68 : decode cX5_type 68 = .ok (.invokevirtual 66, 3) := by decide +kernel
theorem dX5_type_71 : decode cX5_type 71 = .ok (.ifCond .eq 8, 3) := by decide +kernel
theorem dX5_type_74 : decode cX5_type 74 = .ok (.bipush (-4), 2) := by decide +kernel
theorem dX5_type_76 : decode cX5_type 76 = .ok (.goto 13, 3) := by decide +kernel
theorem dX5_type_79 : decode cX5_type 79 = .ok (.aload_n 0, 1) := by decide +kernel
theorem dX5_type_80 : decode cX5_type 80 = .ok (.getfield 10, 3) := by decide +kernel
theorem dX5_type_83 : decode cX5_type 83 = .ok (.iload_n 1, 1) := by decide +kernel
theorem dX5_type_84 : decode cX5_type 84 = .ok (.iload_n 2, 1) := by decide +kernel
theorem dX5_type_85 : decode cX5_type 85 = .ok (.iload_n 3, 1) := by decide +kernel
theorem dX5_type_86 : decode cX5_type 86 = .ok (.invokevirtual 70, 3) := by decide +kernel
theorem dX5_type_89 : decode cX5_type 89 = .ok (.ireturn, 1) := by decide +kernel
theorem dX5_face_0 : decode cX5_face 0 = .ok (.aload_n 0, 1) := by decide +kernel
theorem dX5_face_1 : decode cX5_face 1 = .ok (.getfield 10, 3) := by decide +kernel
theorem dX5_face_4 : decode cX5_face 4 = .ok (.iload_n 1, 1) := by decide +kernel
theorem dX5_face_5 : decode cX5_face 5 = .ok (.invokevirtual 59, 3) := by decide +kernel
theorem dX5_face_8 : decode cX5_face 8 = .ok (.ifCond .eq 14, 3) := by decide +kernel
theorem dX5_face_11 : decode cX5_face 11 = .ok (.aload_n 0, 1) := by decide +kernel
theorem dX5_face_12 : decode cX5_face 12 = .ok (.getfield 10, 3) := by decide +kernel
theorem dX5_face_15 : decode cX5_face 15 = .ok (.iload_n 2, 1) := by decide +kernel
theorem dX5_face_16 : decode cX5_face 16 = .ok (.invokevirtual 59, 3) := by decide +kernel
theorem dX5_face_19 : decode cX5_face 19 = .ok (.ifCond .ne 6, 3) := by decide +kernel
theorem dX5_face_22 : decode cX5_face 22 = .ok (.bipush (-2), 2) := by decide +kernel
theorem dX5_face_24 : decode cX5_face 24 = .ok (.ireturn, 1) := by decide +kernel
theorem dX5_face_25 : decode cX5_face 25 = .ok (.aload_n 0, 1) := by decide +kernel
theorem dX5_face_26 : decode cX5_face 26 = .ok (.getfield 10, 3) := by decide +kernel
theorem dX5_face_29 : decode cX5_face 29 = .ok (.iload_n 2, 1) := by decide +kernel
theorem dX5_face_30 : decode cX5_face 30 = .ok (.invokevirtual 63, 3) := by decide +kernel
theorem dX5_face_33 : decode cX5_face 33 = .ok (.ifCond .eq 20, 3) := by decide +kernel
theorem dX5_face_36 : decode cX5_face 36 = .ok (.iload_n 2, 1) := by decide +kernel
theorem dX5_face_37 : decode cX5_face 37 = .ok (.iload_n 1, 1) := by decide +kernel
theorem dX5_face_38 : decode cX5_face 38 = .ok (.if_icmp .ge 15, 3) := by decide +kernel
theorem dX5_face_41 : decode cX5_face 41 = .ok (.aload_n 0, 1) := by decide +kernel
theorem dX5_face_42 : decode cX5_face 42 = .ok (.getfield 10, 3) := by decide +kernel
theorem dX5_face_45 : decode cX5_face 45 = .ok (.iload_n 1, 1) := by decide +kernel
theorem dX5_face_46 : decode cX5_face 46 = .ok (.iload_n 2, 1) := by decide +kernel
theorem dX5_face_47 : decode cX5_face 47 = .ok (.invokevirtual 74, 3) := by decide +kernel

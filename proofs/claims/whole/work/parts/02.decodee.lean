theorem dX6_isMixed_4 : decode cX6_isMixed 4 = .ok (.iload_n 1, 1) := by decide +kernel
theorem dX6_isMixed_5 : decode cX6_isMixed 5 = .ok (.iaload, 1) := by decide +kernel
theorem dX6_isMixed_6 : decode cX6_isMixed 6 = .ok (.aload_n 0, 1) := by decide +kernel
theorem dX6_isMixed_7 : decode cX6_isMixed 7 = .ok (.getfield 38, 3) := by decide +kernel
theorem dX6_isMixed_10 : decode cX6_isMixed 10 = .ok (.iload_n 2, 1) := by decide +kernel
theorem dX6_isMixed_11 : decode cX6_isMixed 11 = .ok (.iaload, 1) := by decide +kernel
theorem dX6_isMixed_12 : decode cX6_isMixed 12 = .ok (.if_icmp .ne 47, 3) := by decide +kernel
theorem dX6_isMixed_15 : decode cX6_isMixed 15 = .ok (.aload_n 0, 1) := by decide +kernel
theorem dX6_isMixed_16 : decode cX6_isMixed 16 = .ok (.iload_n 1, 1) := by decide +kernel
theorem dX6_isMixed_17 : decode cX6_isMixed 17 = .ok (.invokevirtual 117, 3) := by decide +kernel
theorem dX6_isMixed_20 : decode cX6_isMixed 20 = .ok (.aload_n 0, 1) := by decide +kernel
theorem dX6_isMixed_21 : decode cX6_isMixed 21 = .ok (.iload_n 2, 1) := by decide +kernel
theorem dX6_isMixed_22 : decode cX6_isMixed 22 = .ok (.invokevirtual 117, 3) := by decide +kernel
theorem dX6_isMixed_25 : decode cX6_isMixed 25 = .ok (.if_icmp .eq 34, 3) := by decide +kernel
theorem dX6_isMixed_28 : decode cX6_isMixed 28 = .ok (.aload_n 0, 1) := by decide +kernel
theorem dX6_isMixed_29 : decode cX6_isMixed 29 = .ok (.aload_n 0, 1) := by decide +kernel
theorem dX6_isMixed_30 : decode cX6_isMixed 30 = .ok (.getfield 35, 3) := by decide +kernel
theorem dX6_isMixed_33 : decode cX6_isMixed 33 = .ok (.iload_n 1, 1) := by decide +kernel
theorem dX6_isMixed_34 : decode cX6_isMixed 34 = .ok (.iaload, 1) := by decide +kernel
theorem dX6_isMixed_35 : decode cX6_isMixed 35 = .ok (.aload_n 0, 1) := by decide +kernel
theorem dX6_isMixed_36 : decode cX6_isMixed 36 = .ok (.getfield 35, 3) := by decide +kernel
theorem dX6_isMixed_39 : decode cX6_isMixed 39 = .ok (.iload_n 2, 1) := by decide +kernel
theorem dX6_isMixed_40 : decode cX6_isMixed 40 = .ok (.iaload, 1) := by decide +kernel
theorem dX6_isMixed_41 : decode cX6_isMixed 41 = .ok (.invokevirtual 90, 3) := by decide +kernel
theorem dX6_isMixed_44 : decode cX6_isMixed 44 = .ok (.ifCond .eq 15, 3) := by decide +kernel
theorem dX6_isMixed_47 : decode cX6_isMixed 47 = .ok (.aload_n 0, 1) := by decide +kernel
theorem dX6_isMixed_48 : decode cX6_isMixed 48 = .ok (.iload_n 2, 1) := by decide +kernel
theorem dX6_isMixed_49 : decode cX6_isMixed 49 = .ok (.invokevirtual 120, 3) := by decide +kernel
theorem dX6_isMixed_52 : decode cX6_isMixed 52 = .ok (.ifCond .ne 7, 3) := by decide +kernel
theorem dX6_isMixed_55 : decode cX6_isMixed 55 = .ok (.iconst 1, 1) := by decide +kernel
theorem dX6_isMixed_56 : decode cX6_isMixed 56 = .ok (.goto 4, 3) := by decide +kernel
theorem dX6_isMixed_59 : decode cX6_isMixed 59 = .ok (.iconst 0, 1) := by decide +kernel
theorem dX6_isMixed_60 : decode cX6_isMixed 60 = .ok (.istore_n 3, 1) := by decide +kernel
theorem dX6_isMixed_61 : decode cX6_isMixed 61 = .ok (.iload_n 3, 1) := by decide +kernel
theorem dX6_isMixed_62 : decode cX6_isMixed 62 = .ok (.ifCond .eq 35, 3) := by decide +kernel
theorem dX6_isMixed_65 : decode cX6_isMixed 65 = .ok (.aload_n 0, 1) := by decide +kernel
theorem dX6_isMixed_66 : decode cX6_isMixed 66 = .ok (.iload_n 2, 1) := by decide +kernel
theorem dX6_isMixed_67 : decode cX6_isMixed 67 = .ok (.invokevirtual 110, 3) := by decide +kernel
theorem dX6_isMixed_70 : decode cX6_isMixed 70 = .ok (.ifCond .eq 14, 3) := by decide +kernel
theorem dX6_isMixed_73 : decode cX6_isMixed 73 = .ok (.aload_n 0, 1) := by decide +kernel
theorem dX6_isMixed_74 : decode cX6_isMixed 74 = .ok (.iload_n 2, 1) := by decide +kernel
theorem dX6_isMixed_75 : decode cX6_isMixed 75 = .ok (.invokevirtual 117, 3) := by decide +kernel
theorem dX6_isMixed_78 : decode cX6_isMixed 78 = .ok (.ifCond .ne 19, 3) := by decide +kernel
theorem dX6_isMixed_81 : decode cX6_isMixed 81 = .ok (.goto 12, 3) := by decide +kernel
theorem dX6_isMixed_84 : decode cX6_isMixed 84 = .ok (.aload_n 0, 1) := by decide +kernel
theorem dX6_isMixed_85 : decode cX6_isMixed 85 = .ok (.iload_n 1, 1) := by decide +kernel
theorem dX6_isMixed_86 : decode cX6_isMixed 86 = .ok (.iload_n 2, 1) := by decide +kernel
theorem dX6_isMixed_87 : decode cX6_isMixed 87 = .ok (.invokevirtual 126, 3) := by decide +kernel
theorem dX6_isMixed_90 : decode cX6_isMixed 90 = .ok (.ifCond .eq 7, 3) := by decide +kernel
theorem dX6_isMixed_93 : decode cX6_isMixed 93 = .ok (.iconst 1, 1) := by decide +kernel
theorem dX6_isMixed_94 : decode cX6_isMixed 94 = .ok (.goto 4, 3) := by decide +kernel
theorem dX6_isMixed_97 : decode cX6_isMixed 97 = .ok (.iconst 0, 1) := by decide +kernel
theorem dX6_isMixed_98 : decode cX6_isMixed 98 = .ok (.ireturn, 1) := by decide +kernel
theorem dX6_overrides_0 : decode cX6_overrides 0 = .ok (.aload_n 0, 1) := by decide +kernel
theorem dX6_overrides_1 : decode cX6_overrides 1 = .ok (.iload_n 1, 1) := by decide +kernel
theorem dX6_overrides_2 : decode cX6_overrides 2 = .ok (.invokevirtual 97, 3) := by decide +kernel
theorem dX6_overrides_5 : decode cX6_overrides 5 = .ok (.ifCond .eq 11, 3) := by decide +kernel
theorem dX6_overrides_8 : decode cX6_overrides 8 = .ok (.aload_n 0, 1) := by decide +kernel
theorem dX6_overrides_9 : decode cX6_overrides 9 = .ok (.iload_n 2, 1) := by decide +kernel
theorem dX6_overrides_10 : decode cX6_overrides 10 = .ok (.invokevirtual 97, 3) := by decide +kernel
theorem dX6_overrides_13 : decode cX6_overrides 13 = .ok (.ifCond .ne 8, 3) := by decide +kernel
theorem dX6_overrides_16 : decode cX6_overrides 16 = .ok (.bipush (-2), 2) := by decide +kernel
theorem dX6_overrides_18 : decode cX6_overrides 18 = .ok (.goto 17, 3) := by decide +kernel
theorem dX6_overrides_21 : decode cX6_overrides 21 = .ok (.aload_n 0, 1) := by decide +kernel
theorem dX6_overrides_22 : decode cX6_overrides 22 = .ok (.iload_n 1, 1) := by decide +kernel
theorem dX6_overrides_23 : decode cX6_overrides 23 = .ok (.iload_n 2, 1) := by decide +kernel
theorem dX6_overrides_24 : decode cX6_overrides 24 = .ok (.invokevirtual 129, 3) := by decide +kernel
theorem dX6_overrides_27 : decode cX6_overrides 27 = .ok (.ifCond .eq 7, 3) := by decide +kernel
theorem dX6_overrides_30 : decode cX6_overrides 30 = .ok (.iconst 1, 1) := by decide +kernel
theorem dX6_overrides_31 : decode cX6_overrides 31 = .ok (.goto 4, 3) := by decide +kernel
theorem dX6_overrides_34 : decode cX6_overrides 34 = .ok (.iconst 0, 1) := by decide +kernel
theorem dX6_overrides_35 : decode cX6_overrides 35 = .ok (.ireturn, 1) := by decide +kernel
theorem dX6_hides_0 : decode cX6_hides 0 = .ok (.aload_n 0, 1) := by decide +kernel
theorem dX6_hides_1 : decode cX6_hides 1 = .ok (.iload_n 1, 1) := by decide +kernel
theorem dX6_hides_2 : decode cX6_hides 2 = .ok (.invokevirtual 97, 3) := by decide +kernel
theorem dX6_hides_5 : decode cX6_hides 5 = .ok (.ifCond .eq 11, 3) := by decide +kernel
theorem dX6_hides_8 : decode cX6_hides 8 = .ok (.aload_n 0, 1) := by decide +kernel
theorem dX6_hides_9 : decode cX6_hides 9 = .ok (.iload_n 2, 1) := by decide +kernel
theorem dX6_hides_10 : decode cX6_hides 10 = .ok (.invokevirtual 97, 3) := by decide +kernel
theorem dX6_hides_13 : decode cX6_hides 13 = .ok (.ifCond .ne 8, 3) := by decide +kernel
theorem dX6_hides_16 : decode cX6_hides 16 = .ok (.bipush (-2), 2) := by decide +kernel
theorem dX6_hides_18 : decode cX6_hides 18 = .ok (.goto 17, 3) := by decide +kernel
theorem dX6_hides_21 : decode cX6_hides 21 = .ok (.aload_n 0, 1) := by decide +kernel
theorem dX6_hides_22 : decode cX6_hides 22 = .ok (.iload_n 1, 1) := by decide +kernel
theorem dX6_hides_23 : decode cX6_hides 23 = .ok (.iload_n 2, 1) := by decide +kernel
theorem dX6_hides_24 : decode cX6_hides 24 = .ok (.invokevirtual 132, 3) := by decide +kernel
theorem dX6_hides_27 : decode cX6_hides 27 = .ok (.ifCond .eq 7, 3) := by decide +kernel
theorem dX6_hides_30 : decode cX6_hides 30 = .ok (.iconst 1, 1) := by decide +kernel
theorem dX6_hides_31 : decode cX6_hides 31 = .ok (.goto 4, 3) := by decide +kernel
theorem dX6_hides_34 : decode cX6_hides 34 = .ok (.iconst 0, 1) := by decide +kernel
theorem dX6_hides_35 : decode cX6_hides 35 = .ok (.ireturn, 1) := by decide +kernel
theorem dX6_isPlain_0 : decode cX6_isPlain 0 = .ok (.aload_n 0, 1) := by decide +kernel
theorem dX6_isPlain_1 : decode cX6_isPlain 1 = .ok (.iload_n 1, 1) := by decide +kernel
theorem dX6_isPlain_2 : decode cX6_isPlain 2 = .ok (.invokevirtual 117, 3) := by decide +kernel
theorem dX6_isPlain_5 : decode cX6_isPlain 5 = .ok (.ifCond .ne 15, 3) := by decide +kernel
theorem dX6_isPlain_8 : decode cX6_isPlain 8 = .ok (.aload_n 0, 1) := by decide +kernel
theorem dX6_isPlain_9 : decode cX6_isPlain 9 = .ok (.iload_n 1, 1) := by decide +kernel
theorem dX6_isPlain_10 : decode cX6_isPlain 10 = .ok (.invokevirtual 120, 3) := by decide +kernel
theorem dX6_isPlain_13 : decode cX6_isPlain 13 = .ok (.ifCond .ne 7, 3) := by decide +kernel
theorem dX6_isPlain_16 : decode cX6_isPlain 16 = .ok (.iconst 1, 1) := by decide +kernel
theorem dX6_isPlain_17 : decode cX6_isPlain 17 = .ok (.goto 4, 3) := by decide +kernel
theorem dX6_isPlain_20 : decode cX6_isPlain 20 = .ok (.iconst 0, 1) := by decide +kernel
theorem dX6_isPlain_21 : decode cX6_isPlain 21 = .ok (.ireturn, 1) := by decide +kernel
theorem dX6_isLast_0 : decode cX6_isLast 0 = .ok (.iconst 0, 1) := by decide +kernel
theorem dX6_isLast_1 : decode cX6_isLast 1 = .ok (.istore_n 3, 1) := by decide +kernel
theorem dX6_isLast_2 : decode cX6_isLast 2 = .ok (.iload_n 3, 1) := by decide +kernel
theorem dX6_isLast_3 : decode cX6_isLast 3 = .ok (.aload_n 0, 1) := by decide +kernel
theorem dX6_isLast_4 : decode cX6_isLast 4 = .ok (.getfield 70, 3) := by decide +kernel
theorem dX6_isLast_7 : decode cX6_isLast 7 = .ok (.if_icmp .ge 75, 3) := by decide +kernel
theorem dX6_isLast_10 : decode cX6_isLast 10 = .ok (.aload_n 0, 1) := by decide +kernel
theorem dX6_isLast_11 : decode cX6_isLast 11 = .ok (.getfield 38, 3) := by decide +kernel
theorem dX6_isLast_14 : decode cX6_isLast 14 = .ok (.iload_n 3, 1) := by decide +kernel
theorem dX6_isLast_15 : decode cX6_isLast 15 = .ok (.iaload, 1) := by decide +kernel
theorem dX6_isLast_16 : decode cX6_isLast 16 = .ok (.aload_n 0, 1) := by decide +kernel
theorem dX6_isLast_17 : decode cX6_isLast 17 = .ok (.getfield 38, 3) := by decide +kernel
theorem dX6_isLast_20 : decode cX6_isLast 20 = .ok (.iload_n 2, 1) := by decide +kernel
theorem dX6_isLast_21 : decode cX6_isLast 21 = .ok (.iaload, 1) := by decide +kernel
theorem dX6_isLast_22 : decode cX6_isLast 22 = .ok (.if_icmp .ne 54, 3) := by decide +kernel
theorem dX6_isLast_25 : decode cX6_isLast 25 = .ok (.aload_n 0, 1) := by decide +kernel
theorem dX6_isLast_26 : decode cX6_isLast 26 = .ok (.iload_n 3, 1) := by decide +kernel
theorem dX6_isLast_27 : decode cX6_isLast 27 = .ok (.invokevirtual 135, 3) := by decide +kernel
theorem dX6_isLast_30 : decode cX6_isLast 30 = .ok (.ifCond .eq 46, 3) := by decide +kernel
theorem dX6_isLast_33 : decode cX6_isLast 33 = .ok (.aload_n 0, 1) := by decide +kernel
theorem dX6_isLast_34 : decode cX6_isLast 34 = .ok (.iload_n 3, 1) := by decide +kernel
theorem dX6_isLast_35 : decode cX6_isLast 35 = .ok (.invokevirtual 110, 3) := by decide +kernel
theorem dX6_isLast_38 : decode cX6_isLast 38 = .ok (.ifCond .eq 38, 3) := by decide +kernel
theorem dX6_isLast_41 : decode cX6_isLast 41 = .ok (.aload_n 0, 1) := by decide +kernel
theorem dX6_isLast_42 : decode cX6_isLast 42 = .ok (.iload_n 1, 1) := by decide +kernel
theorem dX6_isLast_43 : decode cX6_isLast 43 = .ok (.aload_n 0, 1) := by decide +kernel
theorem dX6_isLast_44 : decode cX6_isLast 44 = .ok (.getfield 35, 3) := by decide +kernel
theorem dX6_isLast_47 : decode cX6_isLast 47 = .ok (.iload_n 3, 1) := by decide +kernel
theorem dX6_isLast_48 : decode cX6_isLast 48 = .ok (.iaload, 1) := by decide +kernel
theorem dX6_isLast_49 : decode cX6_isLast 49 = .ok (.invokevirtual 90, 3) := by decide +kernel
theorem dX6_isLast_52 : decode cX6_isLast 52 = .ok (.ifCond .eq 24, 3) := by decide +kernel
theorem dX6_isLast_55 : decode cX6_isLast 55 = .ok (.aload_n 0, 1) := by decide +kernel
theorem dX6_isLast_56 : decode cX6_isLast 56 = .ok (.aload_n 0, 1) := by decide +kernel
theorem dX6_isLast_57 : decode cX6_isLast 57 = .ok (.getfield 35, 3) := by decide +kernel
theorem dX6_isLast_60 : decode cX6_isLast 60 = .ok (.iload_n 3, 1) := by decide +kernel
theorem dX6_isLast_61 : decode cX6_isLast 61 = .ok (.iaload, 1) := by decide +kernel
theorem dX6_isLast_62 : decode cX6_isLast 62 = .ok (.aload_n 0, 1) := by decide +kernel
theorem dX6_isLast_63 : decode cX6_isLast 63 = .ok (.getfield 35, 3) := by decide +kernel
theorem dX6_isLast_66 : decode cX6_isLast 66 = .ok (.iload_n 2, 1) := by decide +kernel
theorem dX6_isLast_67 : decode cX6_isLast 67 = .ok (.iaload, 1) := by decide +kernel
theorem dX6_isLast_68 : decode cX6_isLast 68 = .ok (.invokevirtual 90, 3) := by decide +kernel
theorem dX6_isLast_71 : decode cX6_isLast 71 = .ok (.ifCond .eq 5, 3) := by decide +kernel
theorem dX6_isLast_74 : decode cX6_isLast 74 = .ok (.iconst 0, 1) := by decide +kernel
theorem dX6_isLast_75 : decode cX6_isLast 75 = .ok (.ireturn, 1) := by decide +kernel
theorem dX6_isLast_76 : decode cX6_isLast 76 = .ok (.iinc 3 1, 3) := by decide +kernel
theorem dX6_isLast_79 : decode cX6_isLast 79 = .ok (.goto (-77), 3) := by decide +kernel
theorem dX6_isLast_82 : decode cX6_isLast 82 = .ok (.iconst 1, 1) := by decide +kernel
theorem dX6_isLast_83 : decode cX6_isLast 83 = .ok (.ireturn, 1) := by decide +kernel
theorem dX6_choose_0 : decode cX6_choose 0 = .ok (.iload_n 1, 1) := by decide +kernel
theorem dX6_choose_1 : decode cX6_choose 1 = .ok (.istore_n 3, 1) := by decide +kernel
theorem dX6_choose_2 : decode cX6_choose 2 = .ok (.iload_n 3, 1) := by decide +kernel
theorem dX6_choose_3 : decode cX6_choose 3 = .ok (.iconst (-1), 1) := by decide +kernel
theorem dX6_choose_4 : decode cX6_choose 4 = .ok (.if_icmp .eq 94, 3) := by decide +kernel
theorem dX6_choose_7 : decode cX6_choose 7 = .ok (.iconst 0, 1) := by decide +kernel
theorem dX6_choose_8 : decode cX6_choose 8 = .ok (.istore 4, 2) := by decide +kernel
theorem dX6_choose_10 : decode cX6_choose 10 = .ok (.iload 4, 2) := by decide +kernel
theorem dX6_choose_12 : decode cX6_choose 12 = .ok (.aload_n 0, 1) := by decide +kernel
theorem dX6_choose_13 : decode cX6_choose 13 = .ok (.getfield 70, 3) := by decide +kernel
theorem dX6_choose_16 : decode cX6_choose 16 = .ok (.if_icmp .ge 72, 3) := by decide +kernel
theorem dX6_choose_19 : decode cX6_choose 19 = .ok (.aload_n 0, 1) := by decide +kernel
theorem dX6_choose_20 : decode cX6_choose 20 = .ok (.getfield 35, 3) := by decide +kernel
theorem dX6_choose_23 : decode cX6_choose 23 = .ok (.iload 4, 2) := by decide +kernel
theorem dX6_choose_25 : decode cX6_choose 25 = .ok (.iaload, 1) := by decide +kernel
theorem dX6_choose_26 : decode cX6_choose 26 = .ok (.iload_n 3, 1) := by decide +kernel
theorem dX6_choose_27 : decode cX6_choose 27 = .ok (.if_icmp .ne 55, 3) := by decide +kernel
theorem dX6_choose_30 : decode cX6_choose 30 = .ok (.aload_n 0, 1) := by decide +kernel
theorem dX6_choose_31 : decode cX6_choose 31 = .ok (.getfield 38, 3) := by decide +kernel
theorem dX6_choose_34 : decode cX6_choose 34 = .ok (.iload 4, 2) := by decide +kernel
theorem dX6_choose_36 : decode cX6_choose 36 = .ok (.iaload, 1) := by decide +kernel
theorem dX6_choose_37 : decode cX6_choose 37 = .ok (.aload_n 0, 1) := by decide +kernel
theorem dX6_choose_38 : decode cX6_choose 38 = .ok (.getfield 38, 3) := by decide +kernel
theorem dX6_choose_41 : decode cX6_choose 41 = .ok (.iload_n 2, 1) := by decide +kernel
theorem dX6_choose_42 : decode cX6_choose 42 = .ok (.iaload, 1) := by decide +kernel
theorem dX6_choose_43 : decode cX6_choose 43 = .ok (.if_icmp .ne 39, 3) := by decide +kernel
theorem dX6_choose_46 : decode cX6_choose 46 = .ok (.aload_n 0, 1) := by decide +kernel
theorem dX6_choose_47 : decode cX6_choose 47 = .ok (.iload 4, 2) := by decide +kernel
theorem dX6_choose_49 : decode cX6_choose 49 = .ok (.invokevirtual 135, 3) := by decide +kernel
theorem dX6_choose_52 : decode cX6_choose 52 = .ok (.ifCond .eq 30, 3) := by decide +kernel
theorem dX6_choose_55 : decode cX6_choose 55 = .ok (.iload 4, 2) := by decide +kernel
theorem dX6_choose_57 : decode cX6_choose 57 = .ok (.iload_n 2, 1) := by decide +kernel
theorem dX6_choose_58 : decode cX6_choose 58 = .ok (.if_icmp .eq 21, 3) := by decide +kernel
theorem dX6_choose_61 : decode cX6_choose 61 = .ok (.aload_n 0, 1) := by decide +kernel
theorem dX6_choose_62 : decode cX6_choose 62 = .ok (.iload 4, 2) := by decide +kernel
theorem dX6_choose_64 : decode cX6_choose 64 = .ok (.iload_n 2, 1) := by decide +kernel
theorem dX6_choose_65 : decode cX6_choose 65 = .ok (.invokevirtual 129, 3) := by decide +kernel
theorem dX6_choose_68 : decode cX6_choose 68 = .ok (.ifCond .ne 11, 3) := by decide +kernel
theorem dX6_choose_71 : decode cX6_choose 71 = .ok (.aload_n 0, 1) := by decide +kernel
theorem dX6_choose_72 : decode cX6_choose 72 = .ok (.iload_n 2, 1) := by decide +kernel
theorem dX6_choose_73 : decode cX6_choose 73 = .ok (.invokevirtual 110, 3) := by decide +kernel
theorem dX6_choose_76 : decode cX6_choose 76 = .ok (.ifCond .eq 6, 3) := by decide +kernel
theorem dX6_choose_79 : decode cX6_choose 79 = .ok (.iload 4, 2) := by decide +kernel
theorem dX6_choose_81 : decode cX6_choose 81 = .ok (.ireturn, 1) := by decide +kernel
theorem dX6_choose_82 : decode cX6_choose 82 = .ok (.iinc 4 1, 3) := by decide +kernel
theorem dX6_choose_85 : decode cX6_choose 85 = .ok (.goto (-75), 3) := by decide +kernel
theorem dX6_choose_88 : decode cX6_choose 88 = .ok (.aload_n 0, 1) := by decide +kernel
theorem dX6_choose_89 : decode cX6_choose 89 = .ok (.getfield 16, 3) := by decide +kernel
theorem dX6_choose_92 : decode cX6_choose 92 = .ok (.iload_n 3, 1) := by decide +kernel
theorem dX6_choose_93 : decode cX6_choose 93 = .ok (.iaload, 1) := by decide +kernel
theorem dX6_choose_94 : decode cX6_choose 94 = .ok (.istore_n 3, 1) := by decide +kernel
theorem dX6_choose_95 : decode cX6_choose 95 = .ok (.goto (-93), 3) := by decide +kernel
theorem dX6_choose_98 : decode cX6_choose 98 = .ok (.iconst 0, 1) := by decide +kernel
theorem dX6_choose_99 : decode cX6_choose 99 = .ok (.istore_n 3, 1) := by decide +kernel
theorem dX6_choose_100 : decode cX6_choose 100 = .ok (.iconst (-1), 1) := by decide +kernel
theorem dX6_choose_101 : decode cX6_choose 101 = .ok (.istore 4, 2) := by decide +kernel
theorem dX6_choose_103 : decode cX6_choose 103 = .ok (.iconst 0, 1) := by decide +kernel
theorem dX6_choose_104 : decode cX6_choose 104 = .ok (.istore 5, 2) := by decide +kernel
theorem dX6_choose_106 : decode cX6_choose 106 = .ok (.iconst 0, 1) := by decide +kernel
theorem dX6_choose_107 : decode cX6_choose 107 = .ok (.istore 6, 2) := by decide +kernel
theorem dX6_choose_109 : decode cX6_choose 109 = .ok (.iload 6, 2) := by decide +kernel
theorem dX6_choose_111 : decode cX6_choose 111 = .ok (.aload_n 0, 1) := by decide +kernel
theorem dX6_choose_112 : decode cX6_choose 112 = .ok (.getfield 70, 3) := by decide +kernel
theorem dX6_choose_115 : decode cX6_choose 115 = .ok (.if_icmp .ge 109, 3) := by decide +kernel
theorem dX6_choose_118 : decode cX6_choose 118 = .ok (.aload_n 0, 1) := by decide +kernel
theorem dX6_choose_119 : decode cX6_choose 119 = .ok (.getfield 38, 3) := by decide +kernel
theorem dX6_choose_122 : decode cX6_choose 122 = .ok (.iload 6, 2) := by decide +kernel
theorem dX6_choose_124 : decode cX6_choose 124 = .ok (.iaload, 1) := by decide +kernel
theorem dX6_choose_125 : decode cX6_choose 125 = .ok (.aload_n 0, 1) := by decide +kernel
theorem dX6_choose_126 : decode cX6_choose 126 = .ok (.getfield 38, 3) := by decide +kernel
theorem dX6_choose_129 : decode cX6_choose 129 = .ok (.iload_n 2, 1) := by decide +kernel
theorem dX6_choose_130 : decode cX6_choose 130 = .ok (.iaload, 1) := by decide +kernel
theorem dX6_choose_131 : decode cX6_choose 131 = .ok (.if_icmp .ne 87, 3) := by decide +kernel
theorem dX6_choose_134 : decode cX6_choose 134 = .ok (.aload_n 0, 1) := by decide +kernel
theorem dX6_choose_135 : decode cX6_choose 135 = .ok (.iload 6, 2) := by decide +kernel
theorem dX6_choose_137 : decode cX6_choose 137 = .ok (.invokevirtual 135, 3) := by decide +kernel
theorem dX6_choose_140 : decode cX6_choose 140 = .ok (.ifCond .eq 78, 3) := by decide +kernel
theorem dX6_choose_143 : decode cX6_choose 143 = .ok (.aload_n 0, 1) := by decide +kernel
theorem dX6_choose_144 : decode cX6_choose 144 = .ok (.iload 6, 2) := by decide +kernel
theorem dX6_choose_146 : decode cX6_choose 146 = .ok (.invokevirtual 110, 3) := by decide +kernel
theorem dX6_choose_149 : decode cX6_choose 149 = .ok (.ifCond .eq 69, 3) := by decide +kernel
theorem dX6_choose_152 : decode cX6_choose 152 = .ok (.aload_n 0, 1) := by decide +kernel
theorem dX6_choose_153 : decode cX6_choose 153 = .ok (.iload_n 1, 1) := by decide +kernel
theorem dX6_choose_154 : decode cX6_choose 154 = .ok (.aload_n 0, 1) := by decide +kernel
theorem dX6_choose_155 : decode cX6_choose 155 = .ok (.getfield 35, 3) := by decide +kernel
theorem dX6_choose_158 : decode cX6_choose 158 = .ok (.iload 6, 2) := by decide +kernel
theorem dX6_choose_160 : decode cX6_choose 160 = .ok (.iaload, 1) := by decide +kernel
theorem dX6_choose_161 : decode cX6_choose 161 = .ok (.invokevirtual 90, 3) := by decide +kernel
theorem dX6_choose_164 : decode cX6_choose 164 = .ok (.ifCond .eq 54, 3) := by decide +kernel
theorem dX6_choose_167 : decode cX6_choose 167 = .ok (.aload_n 0, 1) := by decide +kernel
theorem dX6_choose_168 : decode cX6_choose 168 = .ok (.iload_n 1, 1) := by decide +kernel
theorem dX6_choose_169 : decode cX6_choose 169 = .ok (.iload 6, 2) := by decide +kernel
theorem dX6_choose_171 : decode cX6_choose 171 = .ok (.invokevirtual 138, 3) := by decide +kernel
theorem dX6_choose_174 : decode cX6_choose 174 = .ok (.ifCond .eq 44, 3) := by decide +kernel
theorem dX6_choose_177 : decode cX6_choose 177 = .ok (.iinc 3 1, 3) := by decide +kernel
theorem dX6_choose_180 : decode cX6_choose 180 = .ok (.iload 4, 2) := by decide +kernel
theorem dX6_choose_182 : decode cX6_choose 182 = .ok (.iconst (-1), 1) := by decide +kernel
theorem dX6_choose_183 : decode cX6_choose 183 = .ok (.if_icmp .ne 8, 3) := by decide +kernel
theorem dX6_choose_186 : decode cX6_choose 186 = .ok (.iload 6, 2) := by decide +kernel
theorem dX6_choose_188 : decode cX6_choose 188 = .ok (.goto 5, 3) := by decide +kernel
theorem dX6_choose_191 : decode cX6_choose 191 = .ok (.iload 4, 2) := by decide +kernel
theorem dX6_choose_193 : decode cX6_choose 193 = .ok (.istore 4, 2) := by decide +kernel
theorem dX6_choose_195 : decode cX6_choose 195 = .ok (.iload 5, 2) := by decide +kernel
theorem dX6_choose_197 : decode cX6_choose 197 = .ok (.ifCond .ne 14, 3) := by decide +kernel
theorem dX6_choose_200 : decode cX6_choose 200 = .ok (.aload_n 0, 1) := by decide +kernel
theorem dX6_choose_201 : decode cX6_choose 201 = .ok (.iload 6, 2) := by decide +kernel
theorem dX6_choose_203 : decode cX6_choose 203 = .ok (.bipush 64, 2) := by decide +kernel
theorem dX6_choose_205 : decode cX6_choose 205 = .ok (.invokevirtual 100, 3) := by decide +kernel
theorem dX6_choose_208 : decode cX6_choose 208 = .ok (.ifCond .eq 7, 3) := by decide +kernel
theorem dX6_choose_211 : decode cX6_choose 211 = .ok (.iconst 1, 1) := by decide +kernel
theorem dX6_choose_212 : decode cX6_choose 212 = .ok (.goto 4, 3) := by decide +kernel
theorem dX6_choose_215 : decode cX6_choose 215 = .ok (.iconst 0, 1) := by decide +kernel
theorem dX6_choose_216 : decode cX6_choose 216 = .ok (.istore 5, 2) := by decide +kernel
theorem dX6_choose_218 : decode cX6_choose 218 = .ok (.iinc 6 1, 3) := by decide +kernel
theorem dX6_choose_221 : decode cX6_choose 221 = .ok (.goto (-112), 3) := by decide +kernel
theorem dX6_choose_224 : decode cX6_choose 224 = .ok (.iload_n 3, 1) := by decide +kernel
theorem dX6_choose_225 : decode cX6_choose 225 = .ok (.iconst 1, 1) := by decide +kernel
theorem dX6_choose_226 : decode cX6_choose 226 = .ok (.if_icmp .le 13, 3) := by decide +kernel
theorem dX6_choose_229 : decode cX6_choose 229 = .ok (.iload 5, 2) := by decide +kernel
theorem dX6_choose_231 : decode cX6_choose 231 = .ok (.ifCond .eq 8, 3) := by decide +kernel
theorem dX6_choose_234 : decode cX6_choose 234 = .ok (.bipush (-5), 2) := by decide +kernel
theorem dX6_choose_236 : decode cX6_choose 236 = .ok (.goto 5, 3) := by decide +kernel
theorem dX6_choose_239 : decode cX6_choose 239 = .ok (.iload 4, 2) := by decide +kernel
theorem dX6_choose_241 : decode cX6_choose 241 = .ok (.ireturn, 1) := by decide +kernel
theorem dX6_chosen_0 : decode cX6_chosen 0 = .ok (.aload_n 0, 1) := by decide +kernel
theorem dX6_chosen_1 : decode cX6_chosen 1 = .ok (.iload_n 1, 1) := by decide +kernel
theorem dX6_chosen_2 : decode cX6_chosen 2 = .ok (.invokevirtual 83, 3) := by decide +kernel
theorem dX6_chosen_5 : decode cX6_chosen 5 = .ok (.ifCond .eq 11, 3) := by decide +kernel
theorem dX6_chosen_8 : decode cX6_chosen 8 = .ok (.aload_n 0, 1) := by decide +kernel
theorem dX6_chosen_9 : decode cX6_chosen 9 = .ok (.iload_n 2, 1) := by decide +kernel
theorem dX6_chosen_10 : decode cX6_chosen 10 = .ok (.invokevirtual 97, 3) := by decide +kernel
theorem dX6_chosen_13 : decode cX6_chosen 13 = .ok (.ifCond .ne 6, 3) := by decide +kernel
theorem dX6_chosen_16 : decode cX6_chosen 16 = .ok (.bipush (-2), 2) := by decide +kernel
theorem dX6_chosen_18 : decode cX6_chosen 18 = .ok (.ireturn, 1) := by decide +kernel
theorem dX6_chosen_19 : decode cX6_chosen 19 = .ok (.aload_n 0, 1) := by decide +kernel
theorem dX6_chosen_20 : decode cX6_chosen 20 = .ok (.getfield 7, 3) := by decide +kernel
theorem dX6_chosen_23 : decode cX6_chosen 23 = .ok (.iload_n 1, 1) := by decide +kernel
theorem dX6_chosen_24 : decode cX6_chosen 24 = .ok (.iaload, 1) := by decide +kernel
theorem dX6_chosen_25 : decode cX6_chosen 25 = .ok (.iconst 2, 1) := by decide +kernel
theorem dX6_chosen_26 : decode cX6_chosen 26 = .ok (.if_icmp .eq 25, 3) := by decide +kernel
theorem dX6_chosen_29 : decode cX6_chosen 29 = .ok (.aload_n 0, 1) := by decide +kernel
theorem dX6_chosen_30 : decode cX6_chosen 30 = .ok (.iload_n 2, 1) := by decide +kernel
theorem dX6_chosen_31 : decode cX6_chosen 31 = .ok (.invokevirtual 135, 3) := by decide +kernel
theorem dX6_chosen_34 : decode cX6_chosen 34 = .ok (.ifCond .eq 17, 3) := by decide +kernel
theorem dX6_chosen_37 : decode cX6_chosen 37 = .ok (.aload_n 0, 1) := by decide +kernel
theorem dX6_chosen_38 : decode cX6_chosen 38 = .ok (.iload_n 1, 1) := by decide +kernel
theorem dX6_chosen_39 : decode cX6_chosen 39 = .ok (.aload_n 0, 1) := by decide +kernel
theorem dX6_chosen_40 : decode cX6_chosen 40 = .ok (.getfield 35, 3) := by decide +kernel
theorem dX6_chosen_43 : decode cX6_chosen 43 = .ok (.iload_n 2, 1) := by decide +kernel
theorem dX6_chosen_44 : decode cX6_chosen 44 = .ok (.iaload, 1) := by decide +kernel
theorem dX6_chosen_45 : decode cX6_chosen 45 = .ok (.invokevirtual 94, 3) := by decide +kernel
theorem dX6_chosen_48 : decode cX6_chosen 48 = .ok (.ifCond .ne 6, 3) := by decide +kernel
theorem dX6_chosen_51 : decode cX6_chosen 51 = .ok (.bipush (-3), 2) := by decide +kernel
theorem dX6_chosen_53 : decode cX6_chosen 53 = .ok (.ireturn, 1) := by decide +kernel
theorem dX6_chosen_54 : decode cX6_chosen 54 = .ok (.aload_n 0, 1) := by decide +kernel
theorem dX6_chosen_55 : decode cX6_chosen 55 = .ok (.iload_n 1, 1) := by decide +kernel
theorem dX6_chosen_56 : decode cX6_chosen 56 = .ok (.iload_n 2, 1) := by decide +kernel
theorem dX6_chosen_57 : decode cX6_chosen 57 = .ok (.invokevirtual 141, 3) := by decide +kernel
theorem dX6_chosen_60 : decode cX6_chosen 60 = .ok (.ireturn, 1) := by decide +kernel
theorem dX6_note_0 : decode cX6_note 0 = .ok (.aload_n 0, 1) := by decide +kernel
theorem dX6_note_1 : decode cX6_note 1 = .ok (.getfield 53, 3) := by decide +kernel
theorem dX6_note_4 : decode cX6_note 4 = .ok (.aload_n 0, 1) := by decide +kernel
theorem dX6_note_5 : decode cX6_note 5 = .ok (.getfield 144, 3) := by decide +kernel
theorem dX6_note_8 : decode cX6_note 8 = .ok (.iload_n 1, 1) := by decide +kernel
theorem dX6_note_9 : decode cX6_note 9 = .ok (.iastore, 1) := by decide +kernel
theorem dX6_note_10 : decode cX6_note 10 = .ok (.aload_n 0, 1) := by decide +kernel
theorem dX6_note_11 : decode cX6_note 11 = .ok (.getfield 56, 3) := by decide +kernel
theorem dX6_note_14 : decode cX6_note 14 = .ok (.aload_n 0, 1) := by decide +kernel
theorem dX6_note_15 : decode cX6_note 15 = .ok (.getfield 144, 3) := by decide +kernel
theorem dX6_note_18 : decode cX6_note 18 = .ok (.iload_n 2, 1) := by decide +kernel
theorem dX6_note_19 : decode cX6_note 19 = .ok (.iastore, 1) := by decide +kernel
theorem dX6_note_20 : decode cX6_note 20 = .ok (.aload_n 0, 1) := by decide +kernel
theorem dX6_note_21 : decode cX6_note 21 = .ok (.getfield 59, 3) := by decide +kernel
theorem dX6_note_24 : decode cX6_note 24 = .ok (.aload_n 0, 1) := by decide +kernel
theorem dX6_note_25 : decode cX6_note 25 = .ok (.getfield 144, 3) := by decide +kernel
theorem dX6_note_28 : decode cX6_note 28 = .ok (.iload_n 3, 1) := by decide +kernel
theorem dX6_note_29 : decode cX6_note 29 = .ok (.iastore, 1) := by decide +kernel
theorem dX6_note_30 : decode cX6_note 30 = .ok (.aload_n 0, 1) := by decide +kernel
theorem dX6_note_31 : decode cX6_note 31 = .ok (.dup, 1) := by decide +kernel
theorem dX6_note_32 : decode cX6_note 32 = .ok (.getfield 144, 3) := by decide +kernel
theorem dX6_note_35 : decode cX6_note 35 = .ok (.iconst 1, 1) := by decide +kernel
theorem dX6_note_36 : decode cX6_note 36 = .ok (.iadd, 1) := by decide +kernel
theorem dX6_note_37 : decode cX6_note 37 = .ok (.putfield 144, 3) := by decide +kernel
theorem dX6_note_40 : decode cX6_note 40 = .ok (.return_, 1) := by decide +kernel
theorem dX6_three_0 : decode cX6_three 0 = .ok (.aload_n 0, 1) := by decide +kernel
theorem dX6_three_1 : decode cX6_three 1 = .ok (.iload_n 1, 1) := by decide +kernel
theorem dX6_three_2 : decode cX6_three 2 = .ok (.invokevirtual 113, 3) := by decide +kernel
theorem dX6_three_5 : decode cX6_three 5 = .ok (.aload_n 0, 1) := by decide +kernel
theorem dX6_three_6 : decode cX6_three 6 = .ok (.iload_n 2, 1) := by decide +kernel
theorem dX6_three_7 : decode cX6_three 7 = .ok (.invokevirtual 113, 3) := by decide +kernel
theorem dX6_three_10 : decode cX6_three 10 = .ok (.if_icmp .ge 10, 3) := by decide +kernel
theorem dX6_three_13 : decode cX6_three 13 = .ok (.aload_n 0, 1) := by decide +kernel
theorem dX6_three_14 : decode cX6_three 14 = .ok (.iconst 3, 1) := by decide +kernel
theorem dX6_three_15 : decode cX6_three 15 = .ok (.iload_n 1, 1) := by decide +kernel
theorem dX6_three_16 : decode cX6_three 16 = .ok (.iload_n 2, 1) := by decide +kernel
theorem dX6_three_17 : decode cX6_three 17 = .ok (.invokevirtual 147, 3) := by decide +kernel
theorem dX6_three_20 : decode cX6_three 20 = .ok (.aload_n 0, 1) := by decide +kernel
theorem dX6_three_21 : decode cX6_three 21 = .ok (.aload_n 0, 1) := by decide +kernel
theorem dX6_three_22 : decode cX6_three 22 = .ok (.getfield 41, 3) := by decide +kernel
theorem dX6_three_25 : decode cX6_three 25 = .ok (.iload_n 1, 1) := by decide +kernel
theorem dX6_three_26 : decode cX6_three 26 = .ok (.iaload, 1) := by decide +kernel
theorem dX6_three_27 : decode cX6_three 27 = .ok (.aload_n 0, 1) := by decide +kernel
theorem dX6_three_28 : decode cX6_three 28 = .ok (.getfield 41, 3) := by decide +kernel
theorem dX6_three_31 : decode cX6_three 31 = .ok (.iload_n 2, 1) := by decide +kernel
theorem dX6_three_32 : decode cX6_three 32 = .ok (.iaload, 1) := by decide +kernel
theorem dX6_three_33 : decode cX6_three 33 = .ok (.invokevirtual 151, 3) := by decide +kernel
theorem dX6_three_36 : decode cX6_three 36 = .ok (.ifCond .ne 10, 3) := by decide +kernel
theorem dX6_three_39 : decode cX6_three 39 = .ok (.aload_n 0, 1) := by decide +kernel
theorem dX6_three_40 : decode cX6_three 40 = .ok (.iconst 4, 1) := by decide +kernel
theorem dX6_three_41 : decode cX6_three 41 = .ok (.iload_n 1, 1) := by decide +kernel
theorem dX6_three_42 : decode cX6_three 42 = .ok (.iload_n 2, 1) := by decide +kernel
theorem dX6_three_43 : decode cX6_three 43 = .ok (.invokevirtual 147, 3) := by decide +kernel
theorem dX6_three_46 : decode cX6_three 46 = .ok (.aload_n 0, 1) := by decide +kernel
theorem dX6_three_47 : decode cX6_three 47 = .ok (.iload_n 1, 1) := by decide +kernel
theorem dX6_three_48 : decode cX6_three 48 = .ok (.iload_n 2, 1) := by decide +kernel
theorem dX6_three_49 : decode cX6_three 49 = .ok (.invokevirtual 154, 3) := by decide +kernel
theorem dX6_three_52 : decode cX6_three 52 = .ok (.ifCond .eq 10, 3) := by decide +kernel
theorem dX6_three_55 : decode cX6_three 55 = .ok (.aload_n 0, 1) := by decide +kernel
theorem dX6_three_56 : decode cX6_three 56 = .ok (.iconst 5, 1) := by decide +kernel
theorem dX6_three_57 : decode cX6_three 57 = .ok (.iload_n 1, 1) := by decide +kernel
theorem dX6_three_58 : decode cX6_three 58 = .ok (.iload_n 2, 1) := by decide +kernel
theorem dX6_three_59 : decode cX6_three 59 = .ok (.invokevirtual 147, 3) := by decide +kernel
theorem dX6_three_62 : decode cX6_three 62 = .ok (.return_, 1) := by decide +kernel
theorem dX6_judge_0 : decode cX6_judge 0 = .ok (.aload_n 0, 1) := by decide +kernel
theorem dX6_judge_1 : decode cX6_judge 1 = .ok (.iconst 0, 1) := by decide +kernel
theorem dX6_judge_2 : decode cX6_judge 2 = .ok (.putfield 144, 3) := by decide +kernel
theorem dX6_judge_5 : decode cX6_judge 5 = .ok (.iconst 0, 1) := by decide +kernel
theorem dX6_judge_6 : decode cX6_judge 6 = .ok (.istore_n 2, 1) := by decide +kernel
theorem dX6_judge_7 : decode cX6_judge 7 = .ok (.iload_n 2, 1) := by decide +kernel
theorem dX6_judge_8 : decode cX6_judge 8 = .ok (.aload_n 0, 1) := by decide +kernel
theorem dX6_judge_9 : decode cX6_judge 9 = .ok (.getfield 70, 3) := by decide +kernel
theorem dX6_judge_12 : decode cX6_judge 12 = .ok (.if_icmp .ge 173, 3) := by decide +kernel
theorem dX6_judge_15 : decode cX6_judge 15 = .ok (.aload_n 0, 1) := by decide +kernel
theorem dX6_judge_16 : decode cX6_judge 16 = .ok (.getfield 35, 3) := by decide +kernel
theorem dX6_judge_19 : decode cX6_judge 19 = .ok (.iload_n 2, 1) := by decide +kernel
theorem dX6_judge_20 : decode cX6_judge 20 = .ok (.iaload, 1) := by decide +kernel
theorem dX6_judge_21 : decode cX6_judge 21 = .ok (.iload_n 1, 1) := by decide +kernel
theorem dX6_judge_22 : decode cX6_judge 22 = .ok (.if_icmp .ne 157, 3) := by decide +kernel
theorem dX6_judge_25 : decode cX6_judge 25 = .ok (.iconst 0, 1) := by decide +kernel
theorem dX6_judge_26 : decode cX6_judge 26 = .ok (.istore_n 3, 1) := by decide +kernel
theorem dX6_judge_27 : decode cX6_judge 27 = .ok (.iconst 0, 1) := by decide +kernel
theorem dX6_judge_28 : decode cX6_judge 28 = .ok (.istore 4, 2) := by decide +kernel
theorem dX6_judge_30 : decode cX6_judge 30 = .ok (.iload 4, 2) := by decide +kernel
theorem dX6_judge_32 : decode cX6_judge 32 = .ok (.aload_n 0, 1) := by decide +kernel
theorem dX6_judge_33 : decode cX6_judge 33 = .ok (.getfield 70, 3) := by decide +kernel
theorem dX6_judge_36 : decode cX6_judge 36 = .ok (.if_icmp .ge 93, 3) := by decide +kernel
theorem dX6_judge_39 : decode cX6_judge 39 = .ok (.aload_n 0, 1) := by decide +kernel
theorem dX6_judge_40 : decode cX6_judge 40 = .ok (.iload_n 2, 1) := by decide +kernel
theorem dX6_judge_41 : decode cX6_judge 41 = .ok (.iload 4, 2) := by decide +kernel
theorem dX6_judge_43 : decode cX6_judge 43 = .ok (.invokevirtual 157, 3) := by decide +kernel
theorem dX6_judge_46 : decode cX6_judge 46 = .ok (.ifCond .eq 11, 3) := by decide +kernel
theorem dX6_judge_49 : decode cX6_judge 49 = .ok (.aload_n 0, 1) := by decide +kernel
theorem dX6_judge_50 : decode cX6_judge 50 = .ok (.iconst 1, 1) := by decide +kernel
theorem dX6_judge_51 : decode cX6_judge 51 = .ok (.iload_n 2, 1) := by decide +kernel
theorem dX6_judge_52 : decode cX6_judge 52 = .ok (.iload 4, 2) := by decide +kernel
theorem dX6_judge_54 : decode cX6_judge 54 = .ok (.invokevirtual 147, 3) := by decide +kernel
theorem dX6_judge_57 : decode cX6_judge 57 = .ok (.iload_n 3, 1) := by decide +kernel
theorem dX6_judge_58 : decode cX6_judge 58 = .ok (.ifCond .ne 13, 3) := by decide +kernel
theorem dX6_judge_61 : decode cX6_judge 61 = .ok (.aload_n 0, 1) := by decide +kernel
theorem dX6_judge_62 : decode cX6_judge 62 = .ok (.iload_n 2, 1) := by decide +kernel
theorem dX6_judge_63 : decode cX6_judge 63 = .ok (.iload 4, 2) := by decide +kernel
theorem dX6_judge_65 : decode cX6_judge 65 = .ok (.invokevirtual 129, 3) := by decide +kernel
theorem dX6_judge_68 : decode cX6_judge 68 = .ok (.ifCond .eq 7, 3) := by decide +kernel
theorem dX6_judge_71 : decode cX6_judge 71 = .ok (.iconst 1, 1) := by decide +kernel
theorem dX6_judge_72 : decode cX6_judge 72 = .ok (.goto 4, 3) := by decide +kernel
theorem dX6_judge_75 : decode cX6_judge 75 = .ok (.iconst 0, 1) := by decide +kernel
theorem dX6_judge_76 : decode cX6_judge 76 = .ok (.istore_n 3, 1) := by decide +kernel
theorem dX6_judge_77 : decode cX6_judge 77 = .ok (.aload_n 0, 1) := by decide +kernel
theorem dX6_judge_78 : decode cX6_judge 78 = .ok (.iload_n 2, 1) := by decide +kernel
theorem dX6_judge_79 : decode cX6_judge 79 = .ok (.iload 4, 2) := by decide +kernel
theorem dX6_judge_81 : decode cX6_judge 81 = .ok (.invokevirtual 129, 3) := by decide +kernel
theorem dX6_judge_84 : decode cX6_judge 84 = .ok (.ifCond .ne 13, 3) := by decide +kernel
theorem dX6_judge_87 : decode cX6_judge 87 = .ok (.aload_n 0, 1) := by decide +kernel
theorem dX6_judge_88 : decode cX6_judge 88 = .ok (.iload_n 2, 1) := by decide +kernel
theorem dX6_judge_89 : decode cX6_judge 89 = .ok (.iload 4, 2) := by decide +kernel
theorem dX6_judge_91 : decode cX6_judge 91 = .ok (.invokevirtual 132, 3) := by decide +kernel
theorem dX6_judge_94 : decode cX6_judge 94 = .ok (.ifCond .eq 29, 3) := by decide +kernel
theorem dX6_judge_97 : decode cX6_judge 97 = .ok (.aload_n 0, 1) := by decide +kernel
theorem dX6_judge_98 : decode cX6_judge 98 = .ok (.iload 4, 2) := by decide +kernel
theorem dX6_judge_100 : decode cX6_judge 100 = .ok (.bipush 16, 2) := by decide +kernel
theorem dX6_judge_102 : decode cX6_judge 102 = .ok (.invokevirtual 100, 3) := by decide +kernel
theorem dX6_judge_105 : decode cX6_judge 105 = .ok (.ifCond .eq 11, 3) := by decide +kernel
theorem dX6_judge_108 : decode cX6_judge 108 = .ok (.aload_n 0, 1) := by decide +kernel
theorem dX6_judge_109 : decode cX6_judge 109 = .ok (.iconst 2, 1) := by decide +kernel
theorem dX6_judge_110 : decode cX6_judge 110 = .ok (.iload_n 2, 1) := by decide +kernel
theorem dX6_judge_111 : decode cX6_judge 111 = .ok (.iload 4, 2) := by decide +kernel
theorem dX6_judge_113 : decode cX6_judge 113 = .ok (.invokevirtual 147, 3) := by decide +kernel
theorem dX6_judge_116 : decode cX6_judge 116 = .ok (.aload_n 0, 1) := by decide +kernel
theorem dX6_judge_117 : decode cX6_judge 117 = .ok (.iload_n 2, 1) := by decide +kernel
theorem dX6_judge_118 : decode cX6_judge 118 = .ok (.iload 4, 2) := by decide +kernel
theorem dX6_judge_120 : decode cX6_judge 120 = .ok (.invokevirtual 160, 3) := by decide +kernel
theorem dX6_judge_123 : decode cX6_judge 123 = .ok (.iinc 4 1, 3) := by decide +kernel
theorem dX6_judge_126 : decode cX6_judge 126 = .ok (.goto (-96), 3) := by decide +kernel
theorem dX6_judge_129 : decode cX6_judge 129 = .ok (.aload_n 0, 1) := by decide +kernel
theorem dX6_judge_130 : decode cX6_judge 130 = .ok (.iload_n 2, 1) := by decide +kernel
theorem dX6_judge_131 : decode cX6_judge 131 = .ok (.sipush 128, 3) := by decide +kernel
theorem dX6_judge_134 : decode cX6_judge 134 = .ok (.invokevirtual 100, 3) := by decide +kernel
theorem dX6_judge_137 : decode cX6_judge 137 = .ok (.ifCond .eq 15, 3) := by decide +kernel
theorem dX6_judge_140 : decode cX6_judge 140 = .ok (.iload_n 3, 1) := by decide +kernel
theorem dX6_judge_141 : decode cX6_judge 141 = .ok (.ifCond .ne 11, 3) := by decide +kernel
theorem dX6_judge_144 : decode cX6_judge 144 = .ok (.aload_n 0, 1) := by decide +kernel
theorem dX6_judge_145 : decode cX6_judge 145 = .ok (.bipush 6, 2) := by decide +kernel
theorem dX6_judge_147 : decode cX6_judge 147 = .ok (.iload_n 2, 1) := by decide +kernel
theorem dX6_judge_148 : decode cX6_judge 148 = .ok (.iconst (-1), 1) := by decide +kernel
theorem dX6_judge_149 : decode cX6_judge 149 = .ok (.invokevirtual 147, 3) := by decide +kernel
theorem dX6_judge_152 : decode cX6_judge 152 = .ok (.aload_n 0, 1) := by decide +kernel
theorem dX6_judge_153 : decode cX6_judge 153 = .ok (.iload_n 2, 1) := by decide +kernel
theorem dX6_judge_154 : decode cX6_judge 154 = .ok (.bipush 32, 2) := by decide +kernel
theorem dX6_judge_156 : decode cX6_judge 156 = .ok (.invokevirtual 100, 3) := by decide +kernel
theorem dX6_judge_159 : decode cX6_judge 159 = .ok (.ifCond .eq 20, 3) := by decide +kernel
theorem dX6_judge_162 : decode cX6_judge 162 = .ok (.aload_n 0, 1) := by decide +kernel
theorem dX6_judge_163 : decode cX6_judge 163 = .ok (.getfield 7, 3) := by decide +kernel
theorem dX6_judge_166 : decode cX6_judge 166 = .ok (.iload_n 1, 1) := by decide +kernel
theorem dX6_judge_167 : decode cX6_judge 167 = .ok (.iaload, 1) := by decide +kernel
theorem dX6_judge_168 : decode cX6_judge 168 = .ok (.ifCond .ne 11, 3) := by decide +kernel
theorem dX6_judge_171 : decode cX6_judge 171 = .ok (.aload_n 0, 1) := by decide +kernel
theorem dX6_judge_172 : decode cX6_judge 172 = .ok (.bipush 7, 2) := by decide +kernel
theorem dX6_judge_174 : decode cX6_judge 174 = .ok (.iload_n 2, 1) := by decide +kernel
theorem dX6_judge_175 : decode cX6_judge 175 = .ok (.iconst (-1), 1) := by decide +kernel
theorem dX6_judge_176 : decode cX6_judge 176 = .ok (.invokevirtual 147, 3) := by decide +kernel
theorem dX6_judge_179 : decode cX6_judge 179 = .ok (.iinc 2 1, 3) := by decide +kernel
theorem dX6_judge_182 : decode cX6_judge 182 = .ok (.goto (-175), 3) := by decide +kernel
theorem dX6_judge_185 : decode cX6_judge 185 = .ok (.iconst 0, 1) := by decide +kernel
theorem dX6_judge_186 : decode cX6_judge 186 = .ok (.istore_n 2, 1) := by decide +kernel
theorem dX6_judge_187 : decode cX6_judge 187 = .ok (.iload_n 2, 1) := by decide +kernel
theorem dX6_judge_188 : decode cX6_judge 188 = .ok (.aload_n 0, 1) := by decide +kernel
theorem dX6_judge_189 : decode cX6_judge 189 = .ok (.getfield 70, 3) := by decide +kernel
theorem dX6_judge_192 : decode cX6_judge 192 = .ok (.if_icmp .ge 67, 3) := by decide +kernel
theorem dX6_judge_195 : decode cX6_judge 195 = .ok (.aload_n 0, 1) := by decide +kernel
theorem dX6_judge_196 : decode cX6_judge 196 = .ok (.getfield 7, 3) := by decide +kernel
theorem dX6_judge_199 : decode cX6_judge 199 = .ok (.iload_n 1, 1) := by decide +kernel
theorem dX6_judge_200 : decode cX6_judge 200 = .ok (.iaload, 1) := by decide +kernel
theorem dX6_judge_201 : decode cX6_judge 201 = .ok (.iconst 2, 1) := by decide +kernel
theorem dX6_judge_202 : decode cX6_judge 202 = .ok (.if_icmp .ge 57, 3) := by decide +kernel
theorem dX6_judge_205 : decode cX6_judge 205 = .ok (.aload_n 0, 1) := by decide +kernel
theorem dX6_judge_206 : decode cX6_judge 206 = .ok (.iload_n 2, 1) := by decide +kernel
theorem dX6_judge_207 : decode cX6_judge 207 = .ok (.invokevirtual 135, 3) := by decide +kernel
theorem dX6_judge_210 : decode cX6_judge 210 = .ok (.ifCond .eq 43, 3) := by decide +kernel
theorem dX6_judge_213 : decode cX6_judge 213 = .ok (.aload_n 0, 1) := by decide +kernel
theorem dX6_judge_214 : decode cX6_judge 214 = .ok (.iload_n 1, 1) := by decide +kernel
theorem dX6_judge_215 : decode cX6_judge 215 = .ok (.aload_n 0, 1) := by decide +kernel
theorem dX6_judge_216 : decode cX6_judge 216 = .ok (.getfield 35, 3) := by decide +kernel
theorem dX6_judge_219 : decode cX6_judge 219 = .ok (.iload_n 2, 1) := by decide +kernel
theorem dX6_judge_220 : decode cX6_judge 220 = .ok (.iaload, 1) := by decide +kernel
theorem dX6_judge_221 : decode cX6_judge 221 = .ok (.invokevirtual 90, 3) := by decide +kernel
theorem dX6_judge_224 : decode cX6_judge 224 = .ok (.ifCond .eq 29, 3) := by decide +kernel
theorem dX6_judge_227 : decode cX6_judge 227 = .ok (.aload_n 0, 1) := by decide +kernel
theorem dX6_judge_228 : decode cX6_judge 228 = .ok (.iload_n 2, 1) := by decide +kernel
theorem dX6_judge_229 : decode cX6_judge 229 = .ok (.bipush 32, 2) := by decide +kernel
theorem dX6_judge_231 : decode cX6_judge 231 = .ok (.invokevirtual 100, 3) := by decide +kernel
theorem dX6_judge_234 : decode cX6_judge 234 = .ok (.ifCond .ne 13, 3) := by decide +kernel
theorem dX6_judge_237 : decode cX6_judge 237 = .ok (.aload_n 0, 1) := by decide +kernel
theorem dX6_judge_238 : decode cX6_judge 238 = .ok (.iload_n 2, 1) := by decide +kernel
theorem dX6_judge_239 : decode cX6_judge 239 = .ok (.bipush 64, 2) := by decide +kernel
theorem dX6_judge_241 : decode cX6_judge 241 = .ok (.invokevirtual 100, 3) := by decide +kernel
theorem dX6_judge_244 : decode cX6_judge 244 = .ok (.ifCond .eq 9, 3) := by decide +kernel
theorem dX6_judge_247 : decode cX6_judge 247 = .ok (.aload_n 0, 1) := by decide +kernel
theorem dX6_judge_248 : decode cX6_judge 248 = .ok (.iload_n 1, 1) := by decide +kernel
theorem dX6_judge_249 : decode cX6_judge 249 = .ok (.iload_n 2, 1) := by decide +kernel
theorem dX6_judge_250 : decode cX6_judge 250 = .ok (.invokevirtual 163, 3) := by decide +kernel
theorem dX6_judge_253 : decode cX6_judge 253 = .ok (.iinc 2 1, 3) := by decide +kernel
theorem dX6_judge_256 : decode cX6_judge 256 = .ok (.goto (-69), 3) := by decide +kernel
theorem dX6_judge_259 : decode cX6_judge 259 = .ok (.return_, 1) := by decide +kernel
theorem dX6_inherited_0 : decode cX6_inherited 0 = .ok (.aload_n 0, 1) := by decide +kernel
theorem dX6_inherited_1 : decode cX6_inherited 1 = .ok (.iload_n 1, 1) := by decide +kernel
theorem dX6_inherited_2 : decode cX6_inherited 2 = .ok (.iload_n 2, 1) := by decide +kernel
theorem dX6_inherited_3 : decode cX6_inherited 3 = .ok (.invokevirtual 141, 3) := by decide +kernel
theorem dX6_inherited_6 : decode cX6_inherited 6 = .ok (.istore_n 3, 1) := by decide +kernel
theorem dX6_inherited_7 : decode cX6_inherited 7 = .ok (.iload_n 3, 1) := by decide +kernel
theorem dX6_inherited_8 : decode cX6_inherited 8 = .ok (.bipush (-5), 2) := by decide +kernel
theorem dX6_inherited_10 : decode cX6_inherited 10 = .ok (.if_icmp .ne 12, 3) := by decide +kernel
theorem dX6_inherited_13 : decode cX6_inherited 13 = .ok (.aload_n 0, 1) := by decide +kernel
theorem dX6_inherited_14 : decode cX6_inherited 14 = .ok (.bipush 8, 2) := by decide +kernel
theorem dX6_inherited_16 : decode cX6_inherited 16 = .ok (.iconst (-1), 1) := by decide +kernel
theorem dX6_inherited_17 : decode cX6_inherited 17 = .ok (.iload_n 2, 1) := by decide +kernel
theorem dX6_inherited_18 : decode cX6_inherited 18 = .ok (.invokevirtual 147, 3) := by decide +kernel
theorem dX6_inherited_21 : decode cX6_inherited 21 = .ok (.return_, 1) := by decide +kernel
theorem dX6_inherited_22 : decode cX6_inherited 22 = .ok (.aload_n 0, 1) := by decide +kernel
theorem dX6_inherited_23 : decode cX6_inherited 23 = .ok (.getfield 7, 3) := by decide +kernel
theorem dX6_inherited_26 : decode cX6_inherited 26 = .ok (.iload_n 1, 1) := by decide +kernel
theorem dX6_inherited_27 : decode cX6_inherited 27 = .ok (.iaload, 1) := by decide +kernel
theorem dX6_inherited_28 : decode cX6_inherited 28 = .ok (.ifCond .ne 31, 3) := by decide +kernel
theorem dX6_inherited_31 : decode cX6_inherited 31 = .ok (.aload_n 0, 1) := by decide +kernel
theorem dX6_inherited_32 : decode cX6_inherited 32 = .ok (.iload_n 3, 1) := by decide +kernel
theorem dX6_inherited_33 : decode cX6_inherited 33 = .ok (.bipush 32, 2) := by decide +kernel
theorem dX6_inherited_35 : decode cX6_inherited 35 = .ok (.invokevirtual 100, 3) := by decide +kernel
theorem dX6_inherited_38 : decode cX6_inherited 38 = .ok (.ifCond .eq 21, 3) := by decide +kernel
theorem dX6_inherited_41 : decode cX6_inherited 41 = .ok (.aload_n 0, 1) := by decide +kernel
theorem dX6_inherited_42 : decode cX6_inherited 42 = .ok (.getfield 35, 3) := by decide +kernel
theorem dX6_inherited_45 : decode cX6_inherited 45 = .ok (.iload_n 3, 1) := by decide +kernel
theorem dX6_inherited_46 : decode cX6_inherited 46 = .ok (.iaload, 1) := by decide +kernel
theorem dX6_inherited_47 : decode cX6_inherited 47 = .ok (.iload_n 1, 1) := by decide +kernel
theorem dX6_inherited_48 : decode cX6_inherited 48 = .ok (.if_icmp .eq 11, 3) := by decide +kernel
theorem dX6_inherited_51 : decode cX6_inherited 51 = .ok (.aload_n 0, 1) := by decide +kernel
theorem dX6_inherited_52 : decode cX6_inherited 52 = .ok (.bipush 9, 2) := by decide +kernel
theorem dX6_inherited_54 : decode cX6_inherited 54 = .ok (.iload_n 3, 1) := by decide +kernel
theorem dX6_inherited_55 : decode cX6_inherited 55 = .ok (.iload_n 2, 1) := by decide +kernel
theorem dX6_inherited_56 : decode cX6_inherited 56 = .ok (.invokevirtual 147, 3) := by decide +kernel
theorem dX6_inherited_59 : decode cX6_inherited 59 = .ok (.aload_n 0, 1) := by decide +kernel
theorem dX6_inherited_60 : decode cX6_inherited 60 = .ok (.iload_n 2, 1) := by decide +kernel
theorem dX6_inherited_61 : decode cX6_inherited 61 = .ok (.invokevirtual 110, 3) := by decide +kernel
theorem dX6_inherited_64 : decode cX6_inherited 64 = .ok (.ifCond .eq 50, 3) := by decide +kernel
theorem dX6_inherited_67 : decode cX6_inherited 67 = .ok (.aload_n 0, 1) := by decide +kernel
theorem dX6_inherited_68 : decode cX6_inherited 68 = .ok (.iload_n 3, 1) := by decide +kernel
theorem dX6_inherited_69 : decode cX6_inherited 69 = .ok (.invokevirtual 110, 3) := by decide +kernel
theorem dX6_inherited_72 : decode cX6_inherited 72 = .ok (.ifCond .ne 42, 3) := by decide +kernel
theorem dX6_inherited_75 : decode cX6_inherited 75 = .ok (.aload_n 0, 1) := by decide +kernel
theorem dX6_inherited_76 : decode cX6_inherited 76 = .ok (.iload_n 1, 1) := by decide +kernel
theorem dX6_inherited_77 : decode cX6_inherited 77 = .ok (.aload_n 0, 1) := by decide +kernel
theorem dX6_inherited_78 : decode cX6_inherited 78 = .ok (.getfield 35, 3) := by decide +kernel
theorem dX6_inherited_81 : decode cX6_inherited 81 = .ok (.iload_n 3, 1) := by decide +kernel
theorem dX6_inherited_82 : decode cX6_inherited 82 = .ok (.iaload, 1) := by decide +kernel
theorem dX6_inherited_83 : decode cX6_inherited 83 = .ok (.invokevirtual 90, 3) := by decide +kernel
theorem dX6_inherited_86 : decode cX6_inherited 86 = .ok (.ifCond .eq 28, 3) := by decide +kernel
theorem dX6_inherited_89 : decode cX6_inherited 89 = .ok (.aload_n 0, 1) := by decide +kernel
theorem dX6_inherited_90 : decode cX6_inherited 90 = .ok (.aload_n 0, 1) := by decide +kernel
theorem dX6_inherited_91 : decode cX6_inherited 91 = .ok (.getfield 35, 3) := by decide +kernel
theorem dX6_inherited_94 : decode cX6_inherited 94 = .ok (.iload_n 3, 1) := by decide +kernel
theorem dX6_inherited_95 : decode cX6_inherited 95 = .ok (.iaload, 1) := by decide +kernel
theorem dX6_inherited_96 : decode cX6_inherited 96 = .ok (.aload_n 0, 1) := by decide +kernel
theorem dX6_inherited_97 : decode cX6_inherited 97 = .ok (.getfield 35, 3) := by decide +kernel
theorem dX6_inherited_100 : decode cX6_inherited 100 = .ok (.iload_n 2, 1) := by decide +kernel
theorem dX6_inherited_101 : decode cX6_inherited 101 = .ok (.iaload, 1) := by decide +kernel
theorem dX6_inherited_102 : decode cX6_inherited 102 = .ok (.invokevirtual 90, 3) := by decide +kernel
theorem dX6_inherited_105 : decode cX6_inherited 105 = .ok (.ifCond .ne 9, 3) := by decide +kernel
theorem dX6_inherited_108 : decode cX6_inherited 108 = .ok (.aload_n 0, 1) := by decide +kernel
theorem dX6_inherited_109 : decode cX6_inherited 109 = .ok (.iload_n 3, 1) := by decide +kernel
theorem dX6_inherited_110 : decode cX6_inherited 110 = .ok (.iload_n 2, 1) := by decide +kernel
theorem dX6_inherited_111 : decode cX6_inherited 111 = .ok (.invokevirtual 160, 3) := by decide +kernel
theorem dX6_inherited_114 : decode cX6_inherited 114 = .ok (.return_, 1) := by decide +kernel
theorem dX6_check_0 : decode cX6_check 0 = .ok (.aload_n 0, 1) := by decide +kernel
theorem dX6_check_1 : decode cX6_check 1 = .ok (.iload_n 1, 1) := by decide +kernel
theorem dX6_check_2 : decode cX6_check 2 = .ok (.invokevirtual 83, 3) := by decide +kernel
theorem dX6_check_5 : decode cX6_check 5 = .ok (.ifCond .ne 6, 3) := by decide +kernel
theorem dX6_check_8 : decode cX6_check 8 = .ok (.bipush (-2), 2) := by decide +kernel
theorem dX6_check_10 : decode cX6_check 10 = .ok (.ireturn, 1) := by decide +kernel
theorem dX6_check_11 : decode cX6_check 11 = .ok (.aload_n 0, 1) := by decide +kernel
theorem dX6_check_12 : decode cX6_check 12 = .ok (.iload_n 1, 1) := by decide +kernel
theorem dX6_check_13 : decode cX6_check 13 = .ok (.invokevirtual 166, 3) := by decide +kernel
theorem dX6_check_16 : decode cX6_check 16 = .ok (.aload_n 0, 1) := by decide +kernel
theorem dX6_check_17 : decode cX6_check 17 = .ok (.getfield 144, 3) := by decide +kernel
theorem dX6_check_20 : decode cX6_check 20 = .ok (.ireturn, 1) := by decide +kernel
theorem dX6_fault_0 : decode cX6_fault 0 = .ok (.aload_n 0, 1) := by decide +kernel
theorem dX6_fault_1 : decode cX6_fault 1 = .ok (.iload_n 1, 1) := by decide +kernel
theorem dX6_fault_2 : decode cX6_fault 2 = .ok (.invokevirtual 83, 3) := by decide +kernel
theorem dX6_fault_5 : decode cX6_fault 5 = .ok (.ifCond .ne 6, 3) := by decide +kernel
theorem dX6_fault_8 : decode cX6_fault 8 = .ok (.bipush (-2), 2) := by decide +kernel
theorem dX6_fault_10 : decode cX6_fault 10 = .ok (.ireturn, 1) := by decide +kernel
theorem dX6_fault_11 : decode cX6_fault 11 = .ok (.iload_n 3, 1) := by decide +kernel
theorem dX6_fault_12 : decode cX6_fault 12 = .ok (.iconst 0, 1) := by decide +kernel
theorem dX6_fault_13 : decode cX6_fault 13 = .ok (.iconst 2, 1) := by decide +kernel
theorem dX6_fault_14 : decode cX6_fault 14 = .ok (.invokestatic 66, 3) := by decide +kernel
theorem dX6_fault_17 : decode cX6_fault 17 = .ok (.ifCond .ne 6, 3) := by decide +kernel
theorem dX6_fault_20 : decode cX6_fault 20 = .ok (.bipush (-3), 2) := by decide +kernel
theorem dX6_fault_22 : decode cX6_fault 22 = .ok (.ireturn, 1) := by decide +kernel
theorem dX6_fault_23 : decode cX6_fault 23 = .ok (.aload_n 0, 1) := by decide +kernel
theorem dX6_fault_24 : decode cX6_fault 24 = .ok (.iload_n 1, 1) := by decide +kernel
theorem dX6_fault_25 : decode cX6_fault 25 = .ok (.invokevirtual 166, 3) := by decide +kernel
theorem dX6_fault_28 : decode cX6_fault 28 = .ok (.iload_n 2, 1) := by decide +kernel
theorem dX6_fault_29 : decode cX6_fault 29 = .ok (.iconst 0, 1) := by decide +kernel
theorem dX6_fault_30 : decode cX6_fault 30 = .ok (.aload_n 0, 1) := by decide +kernel
theorem dX6_fault_31 : decode cX6_fault 31 = .ok (.getfield 144, 3) := by decide +kernel
theorem dX6_fault_34 : decode cX6_fault 34 = .ok (.iconst 1, 1) := by decide +kernel
theorem dX6_fault_35 : decode cX6_fault 35 = .ok (.isub, 1) := by decide +kernel
theorem dX6_fault_36 : decode cX6_fault 36 = .ok (.invokestatic 66, 3) := by decide +kernel
theorem dX6_fault_39 : decode cX6_fault 39 = .ok (.ifCond .ne 5, 3) := by decide +kernel
theorem dX6_fault_42 : decode cX6_fault 42 = .ok (.iconst (-1), 1) := by decide +kernel
theorem dX6_fault_43 : decode cX6_fault 43 = .ok (.ireturn, 1) := by decide +kernel
theorem dX6_fault_44 : decode cX6_fault 44 = .ok (.iload_n 3, 1) := by decide +kernel
theorem dX6_fault_45 : decode cX6_fault 45 = .ok (.ifCond .ne 12, 3) := by decide +kernel
theorem dX6_fault_48 : decode cX6_fault 48 = .ok (.aload_n 0, 1) := by decide +kernel
theorem dX6_fault_49 : decode cX6_fault 49 = .ok (.getfield 53, 3) := by decide +kernel
theorem dX6_fault_52 : decode cX6_fault 52 = .ok (.iload_n 2, 1) := by decide +kernel
theorem dX6_fault_53 : decode cX6_fault 53 = .ok (.iaload, 1) := by decide +kernel
theorem dX6_fault_54 : decode cX6_fault 54 = .ok (.goto 23, 3) := by decide +kernel
theorem dX6_fault_57 : decode cX6_fault 57 = .ok (.iload_n 3, 1) := by decide +kernel
theorem dX6_fault_58 : decode cX6_fault 58 = .ok (.iconst 1, 1) := by decide +kernel
theorem dX6_fault_59 : decode cX6_fault 59 = .ok (.if_icmp .ne 12, 3) := by decide +kernel
theorem dX6_fault_62 : decode cX6_fault 62 = .ok (.aload_n 0, 1) := by decide +kernel
theorem dX6_fault_63 : decode cX6_fault 63 = .ok (.getfield 56, 3) := by decide +kernel
theorem dX6_fault_66 : decode cX6_fault 66 = .ok (.iload_n 2, 1) := by decide +kernel
theorem dX6_fault_67 : decode cX6_fault 67 = .ok (.iaload, 1) := by decide +kernel
theorem dX6_fault_68 : decode cX6_fault 68 = .ok (.goto 9, 3) := by decide +kernel
theorem dX6_fault_71 : decode cX6_fault 71 = .ok (.aload_n 0, 1) := by decide +kernel
theorem dX6_fault_72 : decode cX6_fault 72 = .ok (.getfield 59, 3) := by decide +kernel
theorem dX6_fault_75 : decode cX6_fault 75 = .ok (.iload_n 2, 1) := by decide +kernel
theorem dX6_fault_76 : decode cX6_fault 76 = .ok (.iaload, 1) := by decide +kernel
theorem dX6_fault_77 : decode cX6_fault 77 = .ok (.ireturn, 1) := by decide +kernel
theorem dX6_bridges_0 : decode cX6_bridges 0 = .ok (.aload_n 0, 1) := by decide +kernel
theorem dX6_bridges_1 : decode cX6_bridges 1 = .ok (.iload_n 1, 1) := by decide +kernel
theorem dX6_bridges_2 : decode cX6_bridges 2 = .ok (.invokevirtual 83, 3) := by decide +kernel
theorem dX6_bridges_5 : decode cX6_bridges 5 = .ok (.ifCond .ne 6, 3) := by decide +kernel
theorem dX6_bridges_8 : decode cX6_bridges 8 = .ok (.bipush (-2), 2) := by decide +kernel
theorem dX6_bridges_10 : decode cX6_bridges 10 = .ok (.ireturn, 1) := by decide +kernel
theorem dX6_bridges_11 : decode cX6_bridges 11 = .ok (.iconst 0, 1) := by decide +kernel
theorem dX6_bridges_12 : decode cX6_bridges 12 = .ok (.istore_n 2, 1) := by decide +kernel
theorem dX6_bridges_13 : decode cX6_bridges 13 = .ok (.iconst 0, 1) := by decide +kernel
theorem dX6_bridges_14 : decode cX6_bridges 14 = .ok (.istore_n 3, 1) := by decide +kernel
theorem dX6_bridges_15 : decode cX6_bridges 15 = .ok (.iload_n 3, 1) := by decide +kernel
theorem dX6_bridges_16 : decode cX6_bridges 16 = .ok (.aload_n 0, 1) := by decide +kernel
theorem dX6_bridges_17 : decode cX6_bridges 17 = .ok (.getfield 70, 3) := by decide +kernel
theorem dX6_bridges_20 : decode cX6_bridges 20 = .ok (.if_icmp .ge 132, 3) := by decide +kernel
theorem dX6_bridges_23 : decode cX6_bridges 23 = .ok (.aload_n 0, 1) := by decide +kernel
theorem dX6_bridges_24 : decode cX6_bridges 24 = .ok (.getfield 35, 3) := by decide +kernel
theorem dX6_bridges_27 : decode cX6_bridges 27 = .ok (.iload_n 3, 1) := by decide +kernel
theorem dX6_bridges_28 : decode cX6_bridges 28 = .ok (.iaload, 1) := by decide +kernel
theorem dX6_bridges_29 : decode cX6_bridges 29 = .ok (.iload_n 1, 1) := by decide +kernel
theorem dX6_bridges_30 : decode cX6_bridges 30 = .ok (.if_icmp .ne 116, 3) := by decide +kernel
theorem dX6_bridges_33 : decode cX6_bridges 33 = .ok (.aload_n 0, 1) := by decide +kernel
theorem dX6_bridges_34 : decode cX6_bridges 34 = .ok (.iload_n 3, 1) := by decide +kernel
theorem dX6_bridges_35 : decode cX6_bridges 35 = .ok (.invokevirtual 117, 3) := by decide +kernel
theorem dX6_bridges_38 : decode cX6_bridges 38 = .ok (.ifCond .ne 108, 3) := by decide +kernel
theorem dX6_bridges_41 : decode cX6_bridges 41 = .ok (.aload_n 0, 1) := by decide +kernel
theorem dX6_bridges_42 : decode cX6_bridges 42 = .ok (.iload_n 3, 1) := by decide +kernel
theorem dX6_bridges_43 : decode cX6_bridges 43 = .ok (.bipush 32, 2) := by decide +kernel
theorem dX6_bridges_45 : decode cX6_bridges 45 = .ok (.invokevirtual 100, 3) := by decide +kernel
theorem dX6_bridges_48 : decode cX6_bridges 48 = .ok (.ifCond .ne 98, 3) := by decide +kernel
theorem dX6_bridges_51 : decode cX6_bridges 51 = .ok (.iconst 0, 1) := by decide +kernel
theorem dX6_bridges_52 : decode cX6_bridges 52 = .ok (.istore 4, 2) := by decide +kernel
theorem dX6_bridges_54 : decode cX6_bridges 54 = .ok (.iload 4, 2) := by decide +kernel
theorem dX6_bridges_56 : decode cX6_bridges 56 = .ok (.bipush 20, 2) := by decide +kernel
theorem dX6_bridges_58 : decode cX6_bridges 58 = .ok (.if_icmp .ge 88, 3) := by decide +kernel
theorem dX6_bridges_61 : decode cX6_bridges 61 = .ok (.iconst 0, 1) := by decide +kernel
theorem dX6_bridges_62 : decode cX6_bridges 62 = .ok (.istore 5, 2) := by decide +kernel
theorem dX6_bridges_64 : decode cX6_bridges 64 = .ok (.iconst 0, 1) := by decide +kernel
theorem dX6_bridges_65 : decode cX6_bridges 65 = .ok (.istore 6, 2) := by decide +kernel
theorem dX6_bridges_67 : decode cX6_bridges 67 = .ok (.iload 6, 2) := by decide +kernel
theorem dX6_bridges_69 : decode cX6_bridges 69 = .ok (.aload_n 0, 1) := by decide +kernel
theorem dX6_bridges_70 : decode cX6_bridges 70 = .ok (.getfield 70, 3) := by decide +kernel
theorem dX6_bridges_73 : decode cX6_bridges 73 = .ok (.if_icmp .ge 43, 3) := by decide +kernel
theorem dX6_bridges_76 : decode cX6_bridges 76 = .ok (.iload 5, 2) := by decide +kernel
theorem dX6_bridges_78 : decode cX6_bridges 78 = .ok (.ifCond .ne 25, 3) := by decide +kernel
theorem dX6_bridges_81 : decode cX6_bridges 81 = .ok (.aload_n 0, 1) := by decide +kernel
theorem dX6_bridges_82 : decode cX6_bridges 82 = .ok (.iload_n 3, 1) := by decide +kernel
theorem dX6_bridges_83 : decode cX6_bridges 83 = .ok (.iload 6, 2) := by decide +kernel
theorem dX6_bridges_85 : decode cX6_bridges 85 = .ok (.invokevirtual 129, 3) := by decide +kernel
theorem dX6_bridges_88 : decode cX6_bridges 88 = .ok (.ifCond .eq 19, 3) := by decide +kernel
theorem dX6_bridges_91 : decode cX6_bridges 91 = .ok (.aload_n 0, 1) := by decide +kernel
theorem dX6_bridges_92 : decode cX6_bridges 92 = .ok (.getfield 41, 3) := by decide +kernel
theorem dX6_bridges_95 : decode cX6_bridges 95 = .ok (.iload 6, 2) := by decide +kernel
theorem dX6_bridges_97 : decode cX6_bridges 97 = .ok (.iaload, 1) := by decide +kernel
theorem dX6_bridges_98 : decode cX6_bridges 98 = .ok (.iload 4, 2) := by decide +kernel
theorem dX6_bridges_100 : decode cX6_bridges 100 = .ok (.if_icmp .ne 7, 3) := by decide +kernel
theorem dX6_bridges_103 : decode cX6_bridges 103 = .ok (.iconst 1, 1) := by decide +kernel
theorem dX6_bridges_104 : decode cX6_bridges 104 = .ok (.goto 4, 3) := by decide +kernel
theorem dX6_bridges_107 : decode cX6_bridges 107 = .ok (.iconst 0, 1) := by decide +kernel
theorem dX6_bridges_108 : decode cX6_bridges 108 = .ok (.istore 5, 2) := by decide +kernel
theorem dX6_bridges_110 : decode cX6_bridges 110 = .ok (.iinc 6 1, 3) := by decide +kernel
theorem dX6_bridges_113 : decode cX6_bridges 113 = .ok (.goto (-46), 3) := by decide +kernel
theorem dX6_bridges_116 : decode cX6_bridges 116 = .ok (.iload_n 2, 1) := by decide +kernel
theorem dX6_bridges_117 : decode cX6_bridges 117 = .ok (.iload 5, 2) := by decide +kernel
theorem dX6_bridges_119 : decode cX6_bridges 119 = .ok (.ifCond .eq 18, 3) := by decide +kernel
theorem dX6_bridges_122 : decode cX6_bridges 122 = .ok (.iload 4, 2) := by decide +kernel
theorem dX6_bridges_124 : decode cX6_bridges 124 = .ok (.aload_n 0, 1) := by decide +kernel
theorem dX6_bridges_125 : decode cX6_bridges 125 = .ok (.getfield 41, 3) := by decide +kernel
theorem dX6_bridges_128 : decode cX6_bridges 128 = .ok (.iload_n 3, 1) := by decide +kernel
theorem dX6_bridges_129 : decode cX6_bridges 129 = .ok (.iaload, 1) := by decide +kernel
theorem dX6_bridges_130 : decode cX6_bridges 130 = .ok (.if_icmp .eq 7, 3) := by decide +kernel
theorem dX6_bridges_133 : decode cX6_bridges 133 = .ok (.iconst 1, 1) := by decide +kernel
theorem dX6_bridges_134 : decode cX6_bridges 134 = .ok (.goto 4, 3) := by decide +kernel
theorem dX6_bridges_137 : decode cX6_bridges 137 = .ok (.iconst 0, 1) := by decide +kernel
theorem dX6_bridges_138 : decode cX6_bridges 138 = .ok (.iadd, 1) := by decide +kernel
theorem dX6_bridges_139 : decode cX6_bridges 139 = .ok (.istore_n 2, 1) := by decide +kernel
theorem dX6_bridges_140 : decode cX6_bridges 140 = .ok (.iinc 4 1, 3) := by decide +kernel
theorem dX6_bridges_143 : decode cX6_bridges 143 = .ok (.goto (-89), 3) := by decide +kernel
theorem dX6_bridges_146 : decode cX6_bridges 146 = .ok (.iinc 3 1, 3) := by decide +kernel
theorem dX6_bridges_149 : decode cX6_bridges 149 = .ok (.goto (-134), 3) := by decide +kernel
theorem dX6_bridges_152 : decode cX6_bridges 152 = .ok (.iload_n 2, 1) := by decide +kernel
theorem dX6_bridges_153 : decode cX6_bridges 153 = .ok (.ireturn, 1) := by decide +kernel
theorem dX6_first_0 : decode cX6_first 0 = .ok (.aload_n 0, 1) := by decide +kernel
theorem dX6_first_1 : decode cX6_first 1 = .ok (.iload_n 1, 1) := by decide +kernel
theorem dX6_first_2 : decode cX6_first 2 = .ok (.invokevirtual 83, 3) := by decide +kernel
theorem dX6_first_5 : decode cX6_first 5 = .ok (.ifCond .ne 6, 3) := by decide +kernel
theorem dX6_first_8 : decode cX6_first 8 = .ok (.bipush (-2), 2) := by decide +kernel
theorem dX6_first_10 : decode cX6_first 10 = .ok (.ireturn, 1) := by decide +kernel
theorem dX6_first_11 : decode cX6_first 11 = .ok (.iconst (-1), 1) := by decide +kernel
theorem dX6_first_12 : decode cX6_first 12 = .ok (.istore_n 2, 1) := by decide +kernel
theorem dX6_first_13 : decode cX6_first 13 = .ok (.iconst (-1), 1) := by decide +kernel
theorem dX6_first_14 : decode cX6_first 14 = .ok (.istore_n 3, 1) := by decide +kernel
theorem dX6_first_15 : decode cX6_first 15 = .ok (.iconst 0, 1) := by decide +kernel
theorem dX6_first_16 : decode cX6_first 16 = .ok (.istore 4, 2) := by decide +kernel
theorem dX6_first_18 : decode cX6_first 18 = .ok (.iload 4, 2) := by decide +kernel
theorem dX6_first_20 : decode cX6_first 20 = .ok (.aload_n 0, 1) := by decide +kernel
theorem dX6_first_21 : decode cX6_first 21 = .ok (.getfield 70, 3) := by decide +kernel
theorem dX6_first_24 : decode cX6_first 24 = .ok (.if_icmp .ge 74, 3) := by decide +kernel
theorem dX6_first_27 : decode cX6_first 27 = .ok (.iconst 0, 1) := by decide +kernel
theorem dX6_first_28 : decode cX6_first 28 = .ok (.istore 5, 2) := by decide +kernel
theorem dX6_first_30 : decode cX6_first 30 = .ok (.iconst 0, 1) := by decide +kernel
theorem dX6_first_31 : decode cX6_first 31 = .ok (.istore 6, 2) := by decide +kernel
theorem dX6_first_33 : decode cX6_first 33 = .ok (.iload 6, 2) := by decide +kernel
theorem dX6_first_35 : decode cX6_first 35 = .ok (.aload_n 0, 1) := by decide +kernel
theorem dX6_first_36 : decode cX6_first 36 = .ok (.getfield 70, 3) := by decide +kernel
theorem dX6_first_39 : decode cX6_first 39 = .ok (.if_icmp .ge 30, 3) := by decide +kernel
theorem dX6_first_42 : decode cX6_first 42 = .ok (.iload 5, 2) := by decide +kernel
theorem dX6_first_44 : decode cX6_first 44 = .ok (.aload_n 0, 1) := by decide +kernel
theorem dX6_first_45 : decode cX6_first 45 = .ok (.iload 4, 2) := by decide +kernel
theorem dX6_first_47 : decode cX6_first 47 = .ok (.iload 6, 2) := by decide +kernel
theorem dX6_first_49 : decode cX6_first 49 = .ok (.invokevirtual 129, 3) := by decide +kernel
theorem dX6_first_52 : decode cX6_first 52 = .ok (.ifCond .eq 7, 3) := by decide +kernel
theorem dX6_first_55 : decode cX6_first 55 = .ok (.iconst 1, 1) := by decide +kernel
theorem dX6_first_56 : decode cX6_first 56 = .ok (.goto 4, 3) := by decide +kernel
theorem dX6_first_59 : decode cX6_first 59 = .ok (.iconst 0, 1) := by decide +kernel
theorem dX6_first_60 : decode cX6_first 60 = .ok (.iadd, 1) := by decide +kernel
theorem dX6_first_61 : decode cX6_first 61 = .ok (.istore 5, 2) := by decide +kernel
theorem dX6_first_63 : decode cX6_first 63 = .ok (.iinc 6 1, 3) := by decide +kernel
theorem dX6_first_66 : decode cX6_first 66 = .ok (.goto (-33), 3) := by decide +kernel
theorem dX6_first_69 : decode cX6_first 69 = .ok (.aload_n 0, 1) := by decide +kernel
theorem dX6_first_70 : decode cX6_first 70 = .ok (.getfield 35, 3) := by decide +kernel
theorem dX6_first_73 : decode cX6_first 73 = .ok (.iload 4, 2) := by decide +kernel
theorem dX6_first_75 : decode cX6_first 75 = .ok (.iaload, 1) := by decide +kernel
theorem dX6_first_76 : decode cX6_first 76 = .ok (.iload_n 1, 1) := by decide +kernel
theorem dX6_first_77 : decode cX6_first 77 = .ok (.if_icmp .ne 15, 3) := by decide +kernel
theorem dX6_first_80 : decode cX6_first 80 = .ok (.iload 5, 2) := by decide +kernel
theorem dX6_first_82 : decode cX6_first 82 = .ok (.iload_n 3, 1) := by decide +kernel
theorem dX6_first_83 : decode cX6_first 83 = .ok (.if_icmp .le 9, 3) := by decide +kernel
theorem dX6_first_86 : decode cX6_first 86 = .ok (.iload 4, 2) := by decide +kernel
theorem dX6_first_88 : decode cX6_first 88 = .ok (.istore_n 2, 1) := by decide +kernel
theorem dX6_first_89 : decode cX6_first 89 = .ok (.iload 5, 2) := by decide +kernel
theorem dX6_first_91 : decode cX6_first 91 = .ok (.istore_n 3, 1) := by decide +kernel
theorem dX6_first_92 : decode cX6_first 92 = .ok (.iinc 4 1, 3) := by decide +kernel
theorem dX6_first_95 : decode cX6_first 95 = .ok (.goto (-77), 3) := by decide +kernel
theorem dX6_first_98 : decode cX6_first 98 = .ok (.iload_n 2, 1) := by decide +kernel
theorem dX6_first_99 : decode cX6_first 99 = .ok (.ireturn, 1) := by decide +kernel
theorem dX6_told_0 : decode cX6_told 0 = .ok (.iload_n 1, 1) := by decide +kernel
theorem dX6_told_1 : decode cX6_told 1 = .ok (.iconst 3, 1) := by decide +kernel
theorem dX6_told_2 : decode cX6_told 2 = .ok (.if_icmp .ne 35, 3) := by decide +kernel
theorem dX6_told_5 : decode cX6_told 5 = .ok (.iconst 0, 1) := by decide +kernel
theorem dX6_told_6 : decode cX6_told 6 = .ok (.istore_n 2, 1) := by decide +kernel
theorem dX6_told_7 : decode cX6_told 7 = .ok (.iconst 0, 1) := by decide +kernel
theorem dX6_told_8 : decode cX6_told 8 = .ok (.istore_n 3, 1) := by decide +kernel
theorem dX6_told_9 : decode cX6_told 9 = .ok (.iload_n 3, 1) := by decide +kernel
theorem dX6_told_10 : decode cX6_told 10 = .ok (.aload_n 0, 1) := by decide +kernel
theorem dX6_told_11 : decode cX6_told 11 = .ok (.getfield 62, 3) := by decide +kernel
theorem dX6_told_14 : decode cX6_told 14 = .ok (.if_icmp .ge 21, 3) := by decide +kernel
theorem dX6_told_17 : decode cX6_told 17 = .ok (.aload_n 0, 1) := by decide +kernel
theorem dX6_told_18 : decode cX6_told 18 = .ok (.iload_n 3, 1) := by decide +kernel
theorem dX6_told_19 : decode cX6_told 19 = .ok (.invokevirtual 166, 3) := by decide +kernel
theorem dX6_told_22 : decode cX6_told 22 = .ok (.iload_n 2, 1) := by decide +kernel
theorem dX6_told_23 : decode cX6_told 23 = .ok (.aload_n 0, 1) := by decide +kernel
theorem dX6_told_24 : decode cX6_told 24 = .ok (.getfield 144, 3) := by decide +kernel
theorem dX6_told_27 : decode cX6_told 27 = .ok (.iadd, 1) := by decide +kernel
theorem dX6_told_28 : decode cX6_told 28 = .ok (.istore_n 2, 1) := by decide +kernel
theorem dX6_told_29 : decode cX6_told 29 = .ok (.iinc 3 1, 3) := by decide +kernel
theorem dX6_told_32 : decode cX6_told 32 = .ok (.goto (-23), 3) := by decide +kernel
theorem dX6_told_35 : decode cX6_told 35 = .ok (.iload_n 2, 1) := by decide +kernel
theorem dX6_told_36 : decode cX6_told 36 = .ok (.ireturn, 1) := by decide +kernel
theorem dX6_told_37 : decode cX6_told 37 = .ok (.iload_n 1, 1) := by decide +kernel
theorem dX6_told_38 : decode cX6_told 38 = .ok (.ifCond .ne 10, 3) := by decide +kernel
theorem dX6_told_41 : decode cX6_told 41 = .ok (.aload_n 0, 1) := by decide +kernel

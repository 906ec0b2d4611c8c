theorem dX6_face_18 : decode cX6_face 18 = .ok (.ireturn, 1) := by decide +kernel
theorem dX6_face_19 : decode cX6_face 19 = .ok (.aload_n 0, 1) := by decide +kernel
theorem dX6_face_20 : decode cX6_face 20 = .ok (.getfield 7, 3) := by decide +kernel
theorem dX6_face_23 : decode cX6_face 23 = .ok (.iload_n 2, 1) := by decide +kernel
theorem dX6_face_24 : decode cX6_face 24 = .ok (.iaload, 1) := by decide +kernel
theorem dX6_face_25 : decode cX6_face 25 = .ok (.iconst 2, 1) := by decide +kernel
theorem dX6_face_26 : decode cX6_face 26 = .ok (.if_icmp .ne 12, 3) := by decide +kernel
theorem dX6_face_29 : decode cX6_face 29 = .ok (.iload_n 2, 1) := by decide +kernel
theorem dX6_face_30 : decode cX6_face 30 = .ok (.iload_n 1, 1) := by decide +kernel
theorem dX6_face_31 : decode cX6_face 31 = .ok (.if_icmp .ge 7, 3) := by decide +kernel
theorem dX6_face_34 : decode cX6_face 34 = .ok (.iconst 1, 1) := by decide +kernel
theorem dX6_face_35 : decode cX6_face 35 = .ok (.goto 4, 3) := by decide +kernel
theorem dX6_face_38 : decode cX6_face 38 = .ok (.iconst 0, 1) := by decide +kernel
theorem dX6_face_39 : decode cX6_face 39 = .ok (.istore_n 3, 1) := by decide +kernel
theorem dX6_face_40 : decode cX6_face 40 = .ok (.iconst 0, 1) := by decide +kernel
theorem dX6_face_41 : decode cX6_face 41 = .ok (.istore 4, 2) := by decide +kernel
theorem dX6_face_43 : decode cX6_face 43 = .ok (.iload 4, 2) := by decide +kernel
theorem dX6_face_45 : decode cX6_face 45 = .ok (.aload_n 0, 1) := by decide +kernel
theorem dX6_face_46 : decode cX6_face 46 = .ok (.getfield 19, 3) := by decide +kernel
theorem dX6_face_49 : decode cX6_face 49 = .ok (.iload_n 1, 1) := by decide +kernel
theorem dX6_face_50 : decode cX6_face 50 = .ok (.iaload, 1) := by decide +kernel
theorem dX6_face_51 : decode cX6_face 51 = .ok (.if_icmp .ge 34, 3) := by decide +kernel
theorem dX6_face_54 : decode cX6_face 54 = .ok (.iload_n 3, 1) := by decide +kernel
theorem dX6_face_55 : decode cX6_face 55 = .ok (.ifCond .eq 22, 3) := by decide +kernel
theorem dX6_face_58 : decode cX6_face 58 = .ok (.aload_n 0, 1) := by decide +kernel
theorem dX6_face_59 : decode cX6_face 59 = .ok (.getfield 22, 3) := by decide +kernel
theorem dX6_face_62 : decode cX6_face 62 = .ok (.iconst 3, 1) := by decide +kernel
theorem dX6_face_63 : decode cX6_face 63 = .ok (.iload_n 1, 1) := by decide +kernel
theorem dX6_face_64 : decode cX6_face 64 = .ok (.imul, 1) := by decide +kernel
theorem dX6_face_65 : decode cX6_face 65 = .ok (.iload 4, 2) := by decide +kernel
theorem dX6_face_67 : decode cX6_face 67 = .ok (.iadd, 1) := by decide +kernel
theorem dX6_face_68 : decode cX6_face 68 = .ok (.iaload, 1) := by decide +kernel
theorem dX6_face_69 : decode cX6_face 69 = .ok (.iload_n 2, 1) := by decide +kernel
theorem dX6_face_70 : decode cX6_face 70 = .ok (.if_icmp .eq 7, 3) := by decide +kernel
theorem dX6_face_73 : decode cX6_face 73 = .ok (.iconst 1, 1) := by decide +kernel
theorem dX6_face_74 : decode cX6_face 74 = .ok (.goto 4, 3) := by decide +kernel
theorem dX6_face_77 : decode cX6_face 77 = .ok (.iconst 0, 1) := by decide +kernel
theorem dX6_face_78 : decode cX6_face 78 = .ok (.istore_n 3, 1) := by decide +kernel
theorem dX6_face_79 : decode cX6_face 79 = .ok (.iinc 4 1, 3) := by decide +kernel
theorem dX6_face_82 : decode cX6_face 82 = .ok (.goto (-39), 3) := by decide +kernel
theorem dX6_face_85 : decode cX6_face 85 = .ok (.iload_n 3, 1) := by decide +kernel
theorem dX6_face_86 : decode cX6_face 86 = .ok (.ifCond .ne 6, 3) := by decide +kernel
theorem dX6_face_89 : decode cX6_face 89 = .ok (.bipush (-3), 2) := by decide +kernel
theorem dX6_face_91 : decode cX6_face 91 = .ok (.ireturn, 1) := by decide +kernel
theorem dX6_face_92 : decode cX6_face 92 = .ok (.aload_n 0, 1) := by decide +kernel
theorem dX6_face_93 : decode cX6_face 93 = .ok (.getfield 19, 3) := by decide +kernel
theorem dX6_face_96 : decode cX6_face 96 = .ok (.iload_n 1, 1) := by decide +kernel
theorem dX6_face_97 : decode cX6_face 97 = .ok (.iaload, 1) := by decide +kernel
theorem dX6_face_98 : decode cX6_face 98 = .ok (.iconst 3, 1) := by decide +kernel
theorem dX6_face_99 : decode cX6_face 99 = .ok (.if_icmp .ne 6, 3) := by decide +kernel
theorem dX6_face_102 : decode cX6_face 102 = .ok (.bipush (-4), 2) := by decide +kernel
theorem dX6_face_104 : decode cX6_face 104 = .ok (.ireturn, 1) := by decide +kernel
theorem dX6_face_105 : decode cX6_face 105 = .ok (.aload_n 0, 1) := by decide +kernel
theorem dX6_face_106 : decode cX6_face 106 = .ok (.getfield 22, 3) := by decide +kernel
theorem dX6_face_109 : decode cX6_face 109 = .ok (.iconst 3, 1) := by decide +kernel
theorem dX6_face_110 : decode cX6_face 110 = .ok (.iload_n 1, 1) := by decide +kernel
theorem dX6_face_111 : decode cX6_face 111 = .ok (.imul, 1) := by decide +kernel
theorem dX6_face_112 : decode cX6_face 112 = .ok (.aload_n 0, 1) := by decide +kernel
theorem dX6_face_113 : decode cX6_face 113 = .ok (.getfield 19, 3) := by decide +kernel
theorem dX6_face_116 : decode cX6_face 116 = .ok (.iload_n 1, 1) := by decide +kernel
theorem dX6_face_117 : decode cX6_face 117 = .ok (.iaload, 1) := by decide +kernel
theorem dX6_face_118 : decode cX6_face 118 = .ok (.iadd, 1) := by decide +kernel
theorem dX6_face_119 : decode cX6_face 119 = .ok (.iload_n 2, 1) := by decide +kernel
theorem dX6_face_120 : decode cX6_face 120 = .ok (.iastore, 1) := by decide +kernel
theorem dX6_face_121 : decode cX6_face 121 = .ok (.aload_n 0, 1) := by decide +kernel
theorem dX6_face_122 : decode cX6_face 122 = .ok (.getfield 19, 3) := by decide +kernel
theorem dX6_face_125 : decode cX6_face 125 = .ok (.iload_n 1, 1) := by decide +kernel
theorem dX6_face_126 : decode cX6_face 126 = .ok (.dup2, 1) := by decide +kernel
theorem dX6_face_127 : decode cX6_face 127 = .ok (.iaload, 1) := by decide +kernel
theorem dX6_face_128 : decode cX6_face 128 = .ok (.iconst 1, 1) := by decide +kernel
theorem dX6_face_129 : decode cX6_face 129 = .ok (.iadd, 1) := by decide +kernel
theorem dX6_face_130 : decode cX6_face 130 = .ok (.iastore, 1) := by decide +kernel
theorem dX6_face_131 : decode cX6_face 131 = .ok (.aload_n 0, 1) := by decide +kernel
theorem dX6_face_132 : decode cX6_face 132 = .ok (.invokevirtual 87, 3) := by decide +kernel
theorem dX6_face_135 : decode cX6_face 135 = .ok (.aload_n 0, 1) := by decide +kernel
theorem dX6_face_136 : decode cX6_face 136 = .ok (.getfield 19, 3) := by decide +kernel
theorem dX6_face_139 : decode cX6_face 139 = .ok (.iload_n 1, 1) := by decide +kernel
theorem dX6_face_140 : decode cX6_face 140 = .ok (.iaload, 1) := by decide +kernel
theorem dX6_face_141 : decode cX6_face 141 = .ok (.ireturn, 1) := by decide +kernel
theorem dX6_isBelow_0 : decode cX6_isBelow 0 = .ok (.aload_n 0, 1) := by decide +kernel
theorem dX6_isBelow_1 : decode cX6_isBelow 1 = .ok (.getfield 25, 3) := by decide +kernel
theorem dX6_isBelow_4 : decode cX6_isBelow 4 = .ok (.bipush 16, 2) := by decide +kernel
theorem dX6_isBelow_6 : decode cX6_isBelow 6 = .ok (.iload_n 1, 1) := by decide +kernel
theorem dX6_isBelow_7 : decode cX6_isBelow 7 = .ok (.imul, 1) := by decide +kernel
theorem dX6_isBelow_8 : decode cX6_isBelow 8 = .ok (.iload_n 2, 1) := by decide +kernel
theorem dX6_isBelow_9 : decode cX6_isBelow 9 = .ok (.iadd, 1) := by decide +kernel
theorem dX6_isBelow_10 : decode cX6_isBelow 10 = .ok (.baload, 1) := by decide +kernel
theorem dX6_isBelow_11 : decode cX6_isBelow 11 = .ok (.ireturn, 1) := by decide +kernel
theorem dX6_isSub_0 : decode cX6_isSub 0 = .ok (.iload_n 1, 1) := by decide +kernel
theorem dX6_isSub_1 : decode cX6_isSub 1 = .ok (.iload_n 2, 1) := by decide +kernel
theorem dX6_isSub_2 : decode cX6_isSub 2 = .ok (.if_icmp .eq 12, 3) := by decide +kernel
theorem dX6_isSub_5 : decode cX6_isSub 5 = .ok (.aload_n 0, 1) := by decide +kernel
theorem dX6_isSub_6 : decode cX6_isSub 6 = .ok (.iload_n 1, 1) := by decide +kernel
theorem dX6_isSub_7 : decode cX6_isSub 7 = .ok (.iload_n 2, 1) := by decide +kernel
theorem dX6_isSub_8 : decode cX6_isSub 8 = .ok (.invokevirtual 90, 3) := by decide +kernel
theorem dX6_isSub_11 : decode cX6_isSub 11 = .ok (.ifCond .eq 7, 3) := by decide +kernel
theorem dX6_isSub_14 : decode cX6_isSub 14 = .ok (.iconst 1, 1) := by decide +kernel
theorem dX6_isSub_15 : decode cX6_isSub 15 = .ok (.goto 4, 3) := by decide +kernel
theorem dX6_isSub_18 : decode cX6_isSub 18 = .ok (.iconst 0, 1) := by decide +kernel
theorem dX6_isSub_19 : decode cX6_isSub 19 = .ok (.ireturn, 1) := by decide +kernel
theorem dX6_sub_0 : decode cX6_sub 0 = .ok (.aload_n 0, 1) := by decide +kernel
theorem dX6_sub_1 : decode cX6_sub 1 = .ok (.iload_n 1, 1) := by decide +kernel
theorem dX6_sub_2 : decode cX6_sub 2 = .ok (.invokevirtual 83, 3) := by decide +kernel
theorem dX6_sub_5 : decode cX6_sub 5 = .ok (.ifCond .eq 11, 3) := by decide +kernel
theorem dX6_sub_8 : decode cX6_sub 8 = .ok (.aload_n 0, 1) := by decide +kernel
theorem dX6_sub_9 : decode cX6_sub 9 = .ok (.iload_n 2, 1) := by decide +kernel
theorem dX6_sub_10 : decode cX6_sub 10 = .ok (.invokevirtual 83, 3) := by decide +kernel
theorem dX6_sub_13 : decode cX6_sub 13 = .ok (.ifCond .ne 8, 3) := by decide +kernel
theorem dX6_sub_16 : decode cX6_sub 16 = .ok (.bipush (-2), 2) := by decide +kernel
theorem dX6_sub_18 : decode cX6_sub 18 = .ok (.goto 17, 3) := by decide +kernel
theorem dX6_sub_21 : decode cX6_sub 21 = .ok (.aload_n 0, 1) := by decide +kernel
theorem dX6_sub_22 : decode cX6_sub 22 = .ok (.iload_n 1, 1) := by decide +kernel
theorem dX6_sub_23 : decode cX6_sub 23 = .ok (.iload_n 2, 1) := by decide +kernel
theorem dX6_sub_24 : decode cX6_sub 24 = .ok (.invokevirtual 94, 3) := by decide +kernel
theorem dX6_sub_27 : decode cX6_sub 27 = .ok (.ifCond .eq 7, 3) := by decide +kernel
theorem dX6_sub_30 : decode cX6_sub 30 = .ok (.iconst 1, 1) := by decide +kernel
theorem dX6_sub_31 : decode cX6_sub 31 = .ok (.goto 4, 3) := by decide +kernel
theorem dX6_sub_34 : decode cX6_sub 34 = .ok (.iconst 0, 1) := by decide +kernel
theorem dX6_sub_35 : decode cX6_sub 35 = .ok (.ireturn, 1) := by decide +kernel
theorem dX6_thrown0_0 : decode cX6_thrown0 0 = .ok (.iload_n 1, 1) := by decide +kernel
theorem dX6_thrown0_1 : decode cX6_thrown0 1 = .ok (.iconst (-1), 1) := by decide +kernel
theorem dX6_thrown0_2 : decode cX6_thrown0 2 = .ok (.if_icmp .eq 20, 3) := by decide +kernel
theorem dX6_thrown0_5 : decode cX6_thrown0 5 = .ok (.iload_n 1, 1) := by decide +kernel
theorem dX6_thrown0_6 : decode cX6_thrown0 6 = .ok (.iconst 0, 1) := by decide +kernel
theorem dX6_thrown0_7 : decode cX6_thrown0 7 = .ok (.aload_n 0, 1) := by decide +kernel
theorem dX6_thrown0_8 : decode cX6_thrown0 8 = .ok (.getfield 73, 3) := by decide +kernel
theorem dX6_thrown0_11 : decode cX6_thrown0 11 = .ok (.iconst 1, 1) := by decide +kernel
theorem dX6_thrown0_12 : decode cX6_thrown0 12 = .ok (.isub, 1) := by decide +kernel
theorem dX6_thrown0_13 : decode cX6_thrown0 13 = .ok (.invokestatic 66, 3) := by decide +kernel
theorem dX6_thrown0_16 : decode cX6_thrown0 16 = .ok (.ifCond .ne 6, 3) := by decide +kernel
theorem dX6_thrown0_19 : decode cX6_thrown0 19 = .ok (.bipush (-2), 2) := by decide +kernel
theorem dX6_thrown0_21 : decode cX6_thrown0 21 = .ok (.ireturn, 1) := by decide +kernel
theorem dX6_thrown0_22 : decode cX6_thrown0 22 = .ok (.aload_n 0, 1) := by decide +kernel
theorem dX6_thrown0_23 : decode cX6_thrown0 23 = .ok (.getfield 73, 3) := by decide +kernel
theorem dX6_thrown0_26 : decode cX6_thrown0 26 = .ok (.bipush 8, 2) := by decide +kernel
theorem dX6_thrown0_28 : decode cX6_thrown0 28 = .ok (.if_icmp .ne 6, 3) := by decide +kernel
theorem dX6_thrown0_31 : decode cX6_thrown0 31 = .ok (.bipush (-4), 2) := by decide +kernel
theorem dX6_thrown0_33 : decode cX6_thrown0 33 = .ok (.ireturn, 1) := by decide +kernel
theorem dX6_thrown0_34 : decode cX6_thrown0 34 = .ok (.aload_n 0, 1) := by decide +kernel
theorem dX6_thrown0_35 : decode cX6_thrown0 35 = .ok (.getfield 29, 3) := by decide +kernel
theorem dX6_thrown0_38 : decode cX6_thrown0 38 = .ok (.aload_n 0, 1) := by decide +kernel
theorem dX6_thrown0_39 : decode cX6_thrown0 39 = .ok (.getfield 73, 3) := by decide +kernel
theorem dX6_thrown0_42 : decode cX6_thrown0 42 = .ok (.iload_n 1, 1) := by decide +kernel
theorem dX6_thrown0_43 : decode cX6_thrown0 43 = .ok (.iastore, 1) := by decide +kernel
theorem dX6_thrown0_44 : decode cX6_thrown0 44 = .ok (.aload_n 0, 1) := by decide +kernel
theorem dX6_thrown0_45 : decode cX6_thrown0 45 = .ok (.getfield 32, 3) := by decide +kernel
theorem dX6_thrown0_48 : decode cX6_thrown0 48 = .ok (.aload_n 0, 1) := by decide +kernel
theorem dX6_thrown0_49 : decode cX6_thrown0 49 = .ok (.getfield 73, 3) := by decide +kernel
theorem dX6_thrown0_52 : decode cX6_thrown0 52 = .ok (.iload_n 2, 1) := by decide +kernel
theorem dX6_thrown0_53 : decode cX6_thrown0 53 = .ok (.bastore, 1) := by decide +kernel
theorem dX6_thrown0_54 : decode cX6_thrown0 54 = .ok (.aload_n 0, 1) := by decide +kernel
theorem dX6_thrown0_55 : decode cX6_thrown0 55 = .ok (.dup, 1) := by decide +kernel
theorem dX6_thrown0_56 : decode cX6_thrown0 56 = .ok (.getfield 73, 3) := by decide +kernel
theorem dX6_thrown0_59 : decode cX6_thrown0 59 = .ok (.iconst 1, 1) := by decide +kernel
theorem dX6_thrown0_60 : decode cX6_thrown0 60 = .ok (.iadd, 1) := by decide +kernel
theorem dX6_thrown0_61 : decode cX6_thrown0 61 = .ok (.putfield 73, 3) := by decide +kernel
theorem dX6_thrown0_64 : decode cX6_thrown0 64 = .ok (.aload_n 0, 1) := by decide +kernel
theorem dX6_thrown0_65 : decode cX6_thrown0 65 = .ok (.getfield 73, 3) := by decide +kernel
theorem dX6_thrown0_68 : decode cX6_thrown0 68 = .ok (.iconst 1, 1) := by decide +kernel
theorem dX6_thrown0_69 : decode cX6_thrown0 69 = .ok (.isub, 1) := by decide +kernel
theorem dX6_thrown0_70 : decode cX6_thrown0 70 = .ok (.ireturn, 1) := by decide +kernel
theorem dX6_throws0_0 : decode cX6_throws0 0 = .ok (.aload_n 0, 1) := by decide +kernel
theorem dX6_throws0_1 : decode cX6_throws0 1 = .ok (.iload_n 1, 1) := by decide +kernel
theorem dX6_throws0_2 : decode cX6_throws0 2 = .ok (.invokevirtual 97, 3) := by decide +kernel
theorem dX6_throws0_5 : decode cX6_throws0 5 = .ok (.ifCond .eq 17, 3) := by decide +kernel
theorem dX6_throws0_8 : decode cX6_throws0 8 = .ok (.iload_n 2, 1) := by decide +kernel
theorem dX6_throws0_9 : decode cX6_throws0 9 = .ok (.iconst 0, 1) := by decide +kernel
theorem dX6_throws0_10 : decode cX6_throws0 10 = .ok (.aload_n 0, 1) := by decide +kernel
theorem dX6_throws0_11 : decode cX6_throws0 11 = .ok (.getfield 73, 3) := by decide +kernel
theorem dX6_throws0_14 : decode cX6_throws0 14 = .ok (.iconst 1, 1) := by decide +kernel
theorem dX6_throws0_15 : decode cX6_throws0 15 = .ok (.isub, 1) := by decide +kernel
theorem dX6_throws0_16 : decode cX6_throws0 16 = .ok (.invokestatic 66, 3) := by decide +kernel
theorem dX6_throws0_19 : decode cX6_throws0 19 = .ok (.ifCond .ne 6, 3) := by decide +kernel
theorem dX6_throws0_22 : decode cX6_throws0 22 = .ok (.bipush (-2), 2) := by decide +kernel
theorem dX6_throws0_24 : decode cX6_throws0 24 = .ok (.ireturn, 1) := by decide +kernel
theorem dX6_throws0_25 : decode cX6_throws0 25 = .ok (.iconst 1, 1) := by decide +kernel
theorem dX6_throws0_26 : decode cX6_throws0 26 = .ok (.iload_n 2, 1) := by decide +kernel
theorem dX6_throws0_27 : decode cX6_throws0 27 = .ok (.ishl, 1) := by decide +kernel
theorem dX6_throws0_28 : decode cX6_throws0 28 = .ok (.istore_n 3, 1) := by decide +kernel
theorem dX6_throws0_29 : decode cX6_throws0 29 = .ok (.aload_n 0, 1) := by decide +kernel
theorem dX6_throws0_30 : decode cX6_throws0 30 = .ok (.getfield 47, 3) := by decide +kernel
theorem dX6_throws0_33 : decode cX6_throws0 33 = .ok (.iload_n 1, 1) := by decide +kernel
theorem dX6_throws0_34 : decode cX6_throws0 34 = .ok (.iaload, 1) := by decide +kernel
theorem dX6_throws0_35 : decode cX6_throws0 35 = .ok (.iload_n 3, 1) := by decide +kernel
theorem dX6_throws0_36 : decode cX6_throws0 36 = .ok (.iand, 1) := by decide +kernel
theorem dX6_throws0_37 : decode cX6_throws0 37 = .ok (.istore 4, 2) := by decide +kernel
theorem dX6_throws0_39 : decode cX6_throws0 39 = .ok (.aload_n 0, 1) := by decide +kernel
theorem dX6_throws0_40 : decode cX6_throws0 40 = .ok (.getfield 47, 3) := by decide +kernel
theorem dX6_throws0_43 : decode cX6_throws0 43 = .ok (.iload_n 1, 1) := by decide +kernel
theorem dX6_throws0_44 : decode cX6_throws0 44 = .ok (.aload_n 0, 1) := by decide +kernel
theorem dX6_throws0_45 : decode cX6_throws0 45 = .ok (.getfield 47, 3) := by decide +kernel
theorem dX6_throws0_48 : decode cX6_throws0 48 = .ok (.iload_n 1, 1) := by decide +kernel
theorem dX6_throws0_49 : decode cX6_throws0 49 = .ok (.iaload, 1) := by decide +kernel
theorem dX6_throws0_50 : decode cX6_throws0 50 = .ok (.iload_n 3, 1) := by decide +kernel
theorem dX6_throws0_51 : decode cX6_throws0 51 = .ok (.ior, 1) := by decide +kernel
theorem dX6_throws0_52 : decode cX6_throws0 52 = .ok (.iastore, 1) := by decide +kernel
theorem dX6_throws0_53 : decode cX6_throws0 53 = .ok (.iload 4, 2) := by decide +kernel
theorem dX6_throws0_55 : decode cX6_throws0 55 = .ok (.ifCond .ne 7, 3) := by decide +kernel
theorem dX6_throws0_58 : decode cX6_throws0 58 = .ok (.iconst 1, 1) := by decide +kernel
theorem dX6_throws0_59 : decode cX6_throws0 59 = .ok (.goto 4, 3) := by decide +kernel
theorem dX6_throws0_62 : decode cX6_throws0 62 = .ok (.iconst 0, 1) := by decide +kernel
theorem dX6_throws0_63 : decode cX6_throws0 63 = .ok (.ireturn, 1) := by decide +kernel
theorem dX6_throwsMore_0 : decode cX6_throwsMore 0 = .ok (.iconst 0, 1) := by decide +kernel
theorem dX6_throwsMore_1 : decode cX6_throwsMore 1 = .ok (.istore_n 3, 1) := by decide +kernel
theorem dX6_throwsMore_2 : decode cX6_throwsMore 2 = .ok (.iload_n 3, 1) := by decide +kernel
theorem dX6_throwsMore_3 : decode cX6_throwsMore 3 = .ok (.aload_n 0, 1) := by decide +kernel
theorem dX6_throwsMore_4 : decode cX6_throwsMore 4 = .ok (.getfield 73, 3) := by decide +kernel
theorem dX6_throwsMore_7 : decode cX6_throwsMore 7 = .ok (.if_icmp .ge 90, 3) := by decide +kernel
theorem dX6_throwsMore_10 : decode cX6_throwsMore 10 = .ok (.aload_n 0, 1) := by decide +kernel
theorem dX6_throwsMore_11 : decode cX6_throwsMore 11 = .ok (.getfield 47, 3) := by decide +kernel
theorem dX6_throwsMore_14 : decode cX6_throwsMore 14 = .ok (.iload_n 1, 1) := by decide +kernel
theorem dX6_throwsMore_15 : decode cX6_throwsMore 15 = .ok (.iaload, 1) := by decide +kernel
theorem dX6_throwsMore_16 : decode cX6_throwsMore 16 = .ok (.iload_n 3, 1) := by decide +kernel
theorem dX6_throwsMore_17 : decode cX6_throwsMore 17 = .ok (.ishr, 1) := by decide +kernel
theorem dX6_throwsMore_18 : decode cX6_throwsMore 18 = .ok (.iconst 1, 1) := by decide +kernel
theorem dX6_throwsMore_19 : decode cX6_throwsMore 19 = .ok (.iand, 1) := by decide +kernel
theorem dX6_throwsMore_20 : decode cX6_throwsMore 20 = .ok (.iconst 1, 1) := by decide +kernel
theorem dX6_throwsMore_21 : decode cX6_throwsMore 21 = .ok (.if_icmp .ne 70, 3) := by decide +kernel
theorem dX6_throwsMore_24 : decode cX6_throwsMore 24 = .ok (.aload_n 0, 1) := by decide +kernel
theorem dX6_throwsMore_25 : decode cX6_throwsMore 25 = .ok (.getfield 32, 3) := by decide +kernel
theorem dX6_throwsMore_28 : decode cX6_throwsMore 28 = .ok (.iload_n 3, 1) := by decide +kernel
theorem dX6_throwsMore_29 : decode cX6_throwsMore 29 = .ok (.baload, 1) := by decide +kernel
theorem dX6_throwsMore_30 : decode cX6_throwsMore 30 = .ok (.ifCond .eq 61, 3) := by decide +kernel
theorem dX6_throwsMore_33 : decode cX6_throwsMore 33 = .ok (.iconst 0, 1) := by decide +kernel
theorem dX6_throwsMore_34 : decode cX6_throwsMore 34 = .ok (.istore 4, 2) := by decide +kernel
theorem dX6_throwsMore_36 : decode cX6_throwsMore 36 = .ok (.iload_n 3, 1) := by decide +kernel
theorem dX6_throwsMore_37 : decode cX6_throwsMore 37 = .ok (.istore 5, 2) := by decide +kernel
theorem dX6_throwsMore_39 : decode cX6_throwsMore 39 = .ok (.iload 5, 2) := by decide +kernel
theorem dX6_throwsMore_41 : decode cX6_throwsMore 41 = .ok (.iconst (-1), 1) := by decide +kernel
theorem dX6_throwsMore_42 : decode cX6_throwsMore 42 = .ok (.if_icmp .eq 42, 3) := by decide +kernel
theorem dX6_throwsMore_45 : decode cX6_throwsMore 45 = .ok (.iload 4, 2) := by decide +kernel
theorem dX6_throwsMore_47 : decode cX6_throwsMore 47 = .ok (.ifCond .ne 18, 3) := by decide +kernel
theorem dX6_throwsMore_50 : decode cX6_throwsMore 50 = .ok (.aload_n 0, 1) := by decide +kernel
theorem dX6_throwsMore_51 : decode cX6_throwsMore 51 = .ok (.getfield 47, 3) := by decide +kernel
theorem dX6_throwsMore_54 : decode cX6_throwsMore 54 = .ok (.iload_n 2, 1) := by decide +kernel
theorem dX6_throwsMore_55 : decode cX6_throwsMore 55 = .ok (.iaload, 1) := by decide +kernel
theorem dX6_throwsMore_56 : decode cX6_throwsMore 56 = .ok (.iload 5, 2) := by decide +kernel
theorem dX6_throwsMore_58 : decode cX6_throwsMore 58 = .ok (.ishr, 1) := by decide +kernel
theorem dX6_throwsMore_59 : decode cX6_throwsMore 59 = .ok (.iconst 1, 1) := by decide +kernel
theorem dX6_throwsMore_60 : decode cX6_throwsMore 60 = .ok (.iand, 1) := by decide +kernel
theorem dX6_throwsMore_61 : decode cX6_throwsMore 61 = .ok (.iconst 1, 1) := by decide +kernel
theorem dX6_throwsMore_62 : decode cX6_throwsMore 62 = .ok (.if_icmp .ne 7, 3) := by decide +kernel
theorem dX6_throwsMore_65 : decode cX6_throwsMore 65 = .ok (.iconst 1, 1) := by decide +kernel
theorem dX6_throwsMore_66 : decode cX6_throwsMore 66 = .ok (.goto 4, 3) := by decide +kernel
theorem dX6_throwsMore_69 : decode cX6_throwsMore 69 = .ok (.iconst 0, 1) := by decide +kernel
theorem dX6_throwsMore_70 : decode cX6_throwsMore 70 = .ok (.istore 4, 2) := by decide +kernel
theorem dX6_throwsMore_72 : decode cX6_throwsMore 72 = .ok (.aload_n 0, 1) := by decide +kernel
theorem dX6_throwsMore_73 : decode cX6_throwsMore 73 = .ok (.getfield 29, 3) := by decide +kernel
theorem dX6_throwsMore_76 : decode cX6_throwsMore 76 = .ok (.iload 5, 2) := by decide +kernel
theorem dX6_throwsMore_78 : decode cX6_throwsMore 78 = .ok (.iaload, 1) := by decide +kernel
theorem dX6_throwsMore_79 : decode cX6_throwsMore 79 = .ok (.istore 5, 2) := by decide +kernel
theorem dX6_throwsMore_81 : decode cX6_throwsMore 81 = .ok (.goto (-42), 3) := by decide +kernel
theorem dX6_throwsMore_84 : decode cX6_throwsMore 84 = .ok (.iload 4, 2) := by decide +kernel
theorem dX6_throwsMore_86 : decode cX6_throwsMore 86 = .ok (.ifCond .ne 5, 3) := by decide +kernel
theorem dX6_throwsMore_89 : decode cX6_throwsMore 89 = .ok (.iconst 1, 1) := by decide +kernel
theorem dX6_throwsMore_90 : decode cX6_throwsMore 90 = .ok (.ireturn, 1) := by decide +kernel
theorem dX6_throwsMore_91 : decode cX6_throwsMore 91 = .ok (.iinc 3 1, 3) := by decide +kernel
theorem dX6_throwsMore_94 : decode cX6_throwsMore 94 = .ok (.goto (-92), 3) := by decide +kernel
theorem dX6_throwsMore_97 : decode cX6_throwsMore 97 = .ok (.iconst 0, 1) := by decide +kernel
theorem dX6_throwsMore_98 : decode cX6_throwsMore 98 = .ok (.ireturn, 1) := by decide +kernel
theorem dX6_has_0 : decode cX6_has 0 = .ok (.aload_n 0, 1) := by decide +kernel
theorem dX6_has_1 : decode cX6_has 1 = .ok (.getfield 44, 3) := by decide +kernel
theorem dX6_has_4 : decode cX6_has 4 = .ok (.iload_n 1, 1) := by decide +kernel
theorem dX6_has_5 : decode cX6_has 5 = .ok (.iaload, 1) := by decide +kernel
theorem dX6_has_6 : decode cX6_has 6 = .ok (.iload_n 2, 1) := by decide +kernel
theorem dX6_has_7 : decode cX6_has 7 = .ok (.iand, 1) := by decide +kernel
theorem dX6_has_8 : decode cX6_has 8 = .ok (.ifCond .eq 7, 3) := by decide +kernel
theorem dX6_has_11 : decode cX6_has 11 = .ok (.iconst 1, 1) := by decide +kernel
theorem dX6_has_12 : decode cX6_has 12 = .ok (.goto 4, 3) := by decide +kernel
theorem dX6_has_15 : decode cX6_has 15 = .ok (.iconst 0, 1) := by decide +kernel
theorem dX6_has_16 : decode cX6_has 16 = .ok (.ireturn, 1) := by decide +kernel
theorem dX6_isStatic_0 : decode cX6_isStatic 0 = .ok (.aload_n 0, 1) := by decide +kernel
theorem dX6_isStatic_1 : decode cX6_isStatic 1 = .ok (.iload_n 1, 1) := by decide +kernel
theorem dX6_isStatic_2 : decode cX6_isStatic 2 = .ok (.bipush 8, 2) := by decide +kernel
theorem dX6_isStatic_4 : decode cX6_isStatic 4 = .ok (.invokevirtual 100, 3) := by decide +kernel
theorem dX6_isStatic_7 : decode cX6_isStatic 7 = .ok (.ireturn, 1) := by decide +kernel
theorem dX6_isPrivate_0 : decode cX6_isPrivate 0 = .ok (.aload_n 0, 1) := by decide +kernel
theorem dX6_isPrivate_1 : decode cX6_isPrivate 1 = .ok (.iload_n 1, 1) := by decide +kernel
theorem dX6_isPrivate_2 : decode cX6_isPrivate 2 = .ok (.iconst 4, 1) := by decide +kernel
theorem dX6_isPrivate_3 : decode cX6_isPrivate 3 = .ok (.invokevirtual 100, 3) := by decide +kernel
theorem dX6_isPrivate_6 : decode cX6_isPrivate 6 = .ok (.ireturn, 1) := by decide +kernel
theorem dX6_isInterface_0 : decode cX6_isInterface 0 = .ok (.aload_n 0, 1) := by decide +kernel
theorem dX6_isInterface_1 : decode cX6_isInterface 1 = .ok (.getfield 7, 3) := by decide +kernel
theorem dX6_isInterface_4 : decode cX6_isInterface 4 = .ok (.aload_n 0, 1) := by decide +kernel
theorem dX6_isInterface_5 : decode cX6_isInterface 5 = .ok (.getfield 35, 3) := by decide +kernel
theorem dX6_isInterface_8 : decode cX6_isInterface 8 = .ok (.iload_n 1, 1) := by decide +kernel
theorem dX6_isInterface_9 : decode cX6_isInterface 9 = .ok (.iaload, 1) := by decide +kernel
theorem dX6_isInterface_10 : decode cX6_isInterface 10 = .ok (.iaload, 1) := by decide +kernel
theorem dX6_isInterface_11 : decode cX6_isInterface 11 = .ok (.iconst 2, 1) := by decide +kernel
theorem dX6_isInterface_12 : decode cX6_isInterface 12 = .ok (.if_icmp .ne 7, 3) := by decide +kernel
theorem dX6_isInterface_15 : decode cX6_isInterface 15 = .ok (.iconst 1, 1) := by decide +kernel
theorem dX6_isInterface_16 : decode cX6_isInterface 16 = .ok (.goto 4, 3) := by decide +kernel
theorem dX6_isInterface_19 : decode cX6_isInterface 19 = .ok (.iconst 0, 1) := by decide +kernel
theorem dX6_isInterface_20 : decode cX6_isInterface 20 = .ok (.ireturn, 1) := by decide +kernel
theorem dX6_one_0 : decode cX6_one 0 = .ok (.iload_n 0, 1) := by decide +kernel
theorem dX6_one_1 : decode cX6_one 1 = .ok (.iload_n 1, 1) := by decide +kernel
theorem dX6_one_2 : decode cX6_one 2 = .ok (.iand, 1) := by decide +kernel
theorem dX6_one_3 : decode cX6_one 3 = .ok (.ifCond .ne 7, 3) := by decide +kernel
theorem dX6_one_6 : decode cX6_one 6 = .ok (.iconst 0, 1) := by decide +kernel
theorem dX6_one_7 : decode cX6_one 7 = .ok (.goto 4, 3) := by decide +kernel
theorem dX6_one_10 : decode cX6_one 10 = .ok (.iconst 1, 1) := by decide +kernel
theorem dX6_one_11 : decode cX6_one 11 = .ok (.ireturn, 1) := by decide +kernel
theorem dX6_mayBe_0 : decode cX6_mayBe 0 = .ok (.iload_n 1, 1) := by decide +kernel
theorem dX6_mayBe_1 : decode cX6_mayBe 1 = .ok (.iconst 0, 1) := by decide +kernel
theorem dX6_mayBe_2 : decode cX6_mayBe 2 = .ok (.sipush 255, 3) := by decide +kernel
theorem dX6_mayBe_5 : decode cX6_mayBe 5 = .ok (.invokestatic 66, 3) := by decide +kernel
theorem dX6_mayBe_8 : decode cX6_mayBe 8 = .ok (.ifCond .eq 24, 3) := by decide +kernel
theorem dX6_mayBe_11 : decode cX6_mayBe 11 = .ok (.iload_n 1, 1) := by decide +kernel
theorem dX6_mayBe_12 : decode cX6_mayBe 12 = .ok (.iconst 1, 1) := by decide +kernel
theorem dX6_mayBe_13 : decode cX6_mayBe 13 = .ok (.invokestatic 103, 3) := by decide +kernel
theorem dX6_mayBe_16 : decode cX6_mayBe 16 = .ok (.iload_n 1, 1) := by decide +kernel
theorem dX6_mayBe_17 : decode cX6_mayBe 17 = .ok (.iconst 2, 1) := by decide +kernel
theorem dX6_mayBe_18 : decode cX6_mayBe 18 = .ok (.invokestatic 103, 3) := by decide +kernel
theorem dX6_mayBe_21 : decode cX6_mayBe 21 = .ok (.iadd, 1) := by decide +kernel
theorem dX6_mayBe_22 : decode cX6_mayBe 22 = .ok (.iload_n 1, 1) := by decide +kernel
theorem dX6_mayBe_23 : decode cX6_mayBe 23 = .ok (.iconst 4, 1) := by decide +kernel
theorem dX6_mayBe_24 : decode cX6_mayBe 24 = .ok (.invokestatic 103, 3) := by decide +kernel
theorem dX6_mayBe_27 : decode cX6_mayBe 27 = .ok (.iadd, 1) := by decide +kernel
theorem dX6_mayBe_28 : decode cX6_mayBe 28 = .ok (.iconst 1, 1) := by decide +kernel
theorem dX6_mayBe_29 : decode cX6_mayBe 29 = .ok (.if_icmp .le 5, 3) := by decide +kernel
theorem dX6_mayBe_32 : decode cX6_mayBe 32 = .ok (.iconst 0, 1) := by decide +kernel
theorem dX6_mayBe_33 : decode cX6_mayBe 33 = .ok (.ireturn, 1) := by decide +kernel
theorem dX6_mayBe_34 : decode cX6_mayBe 34 = .ok (.iload_n 0, 1) := by decide +kernel
theorem dX6_mayBe_35 : decode cX6_mayBe 35 = .ok (.iconst 2, 1) := by decide +kernel
theorem dX6_mayBe_36 : decode cX6_mayBe 36 = .ok (.if_icmp .ge 49, 3) := by decide +kernel
theorem dX6_mayBe_39 : decode cX6_mayBe 39 = .ok (.iload_n 1, 1) := by decide +kernel
theorem dX6_mayBe_40 : decode cX6_mayBe 40 = .ok (.bipush 64, 2) := by decide +kernel
theorem dX6_mayBe_42 : decode cX6_mayBe 42 = .ok (.invokestatic 103, 3) := by decide +kernel
theorem dX6_mayBe_45 : decode cX6_mayBe 45 = .ok (.ifCond .ne 38, 3) := by decide +kernel
theorem dX6_mayBe_48 : decode cX6_mayBe 48 = .ok (.iload_n 1, 1) := by decide +kernel
theorem dX6_mayBe_49 : decode cX6_mayBe 49 = .ok (.bipush 32, 2) := by decide +kernel
theorem dX6_mayBe_51 : decode cX6_mayBe 51 = .ok (.invokestatic 103, 3) := by decide +kernel
theorem dX6_mayBe_54 : decode cX6_mayBe 54 = .ok (.ifCond .eq 25, 3) := by decide +kernel
theorem dX6_mayBe_57 : decode cX6_mayBe 57 = .ok (.iload_n 1, 1) := by decide +kernel
theorem dX6_mayBe_58 : decode cX6_mayBe 58 = .ok (.iconst 4, 1) := by decide +kernel
theorem dX6_mayBe_59 : decode cX6_mayBe 59 = .ok (.invokestatic 103, 3) := by decide +kernel
theorem dX6_mayBe_62 : decode cX6_mayBe 62 = .ok (.iload_n 1, 1) := by decide +kernel
theorem dX6_mayBe_63 : decode cX6_mayBe 63 = .ok (.bipush 8, 2) := by decide +kernel
theorem dX6_mayBe_65 : decode cX6_mayBe 65 = .ok (.invokestatic 103, 3) := by decide +kernel
theorem dX6_mayBe_68 : decode cX6_mayBe 68 = .ok (.iadd, 1) := by decide +kernel
theorem dX6_mayBe_69 : decode cX6_mayBe 69 = .ok (.iload_n 1, 1) := by decide +kernel
theorem dX6_mayBe_70 : decode cX6_mayBe 70 = .ok (.bipush 16, 2) := by decide +kernel
theorem dX6_mayBe_72 : decode cX6_mayBe 72 = .ok (.invokestatic 103, 3) := by decide +kernel
theorem dX6_mayBe_75 : decode cX6_mayBe 75 = .ok (.iadd, 1) := by decide +kernel
theorem dX6_mayBe_76 : decode cX6_mayBe 76 = .ok (.ifCond .ne 7, 3) := by decide +kernel
theorem dX6_mayBe_79 : decode cX6_mayBe 79 = .ok (.iconst 1, 1) := by decide +kernel
theorem dX6_mayBe_80 : decode cX6_mayBe 80 = .ok (.goto 4, 3) := by decide +kernel
theorem dX6_mayBe_83 : decode cX6_mayBe 83 = .ok (.iconst 0, 1) := by decide +kernel
theorem dX6_mayBe_84 : decode cX6_mayBe 84 = .ok (.ireturn, 1) := by decide +kernel
theorem dX6_mayBe_85 : decode cX6_mayBe 85 = .ok (.iload_n 1, 1) := by decide +kernel
theorem dX6_mayBe_86 : decode cX6_mayBe 86 = .ok (.iconst 4, 1) := by decide +kernel
theorem dX6_mayBe_87 : decode cX6_mayBe 87 = .ok (.invokestatic 103, 3) := by decide +kernel
theorem dX6_mayBe_90 : decode cX6_mayBe 90 = .ok (.iload_n 1, 1) := by decide +kernel
theorem dX6_mayBe_91 : decode cX6_mayBe 91 = .ok (.bipush 8, 2) := by decide +kernel
theorem dX6_mayBe_93 : decode cX6_mayBe 93 = .ok (.invokestatic 103, 3) := by decide +kernel
theorem dX6_mayBe_96 : decode cX6_mayBe 96 = .ok (.iadd, 1) := by decide +kernel
theorem dX6_mayBe_97 : decode cX6_mayBe 97 = .ok (.iload_n 1, 1) := by decide +kernel
theorem dX6_mayBe_98 : decode cX6_mayBe 98 = .ok (.bipush 32, 2) := by decide +kernel
theorem dX6_mayBe_100 : decode cX6_mayBe 100 = .ok (.invokestatic 103, 3) := by decide +kernel
theorem dX6_mayBe_103 : decode cX6_mayBe 103 = .ok (.iadd, 1) := by decide +kernel
theorem dX6_mayBe_104 : decode cX6_mayBe 104 = .ok (.iload_n 1, 1) := by decide +kernel
theorem dX6_mayBe_105 : decode cX6_mayBe 105 = .ok (.bipush 64, 2) := by decide +kernel
theorem dX6_mayBe_107 : decode cX6_mayBe 107 = .ok (.invokestatic 103, 3) := by decide +kernel
theorem dX6_mayBe_110 : decode cX6_mayBe 110 = .ok (.iadd, 1) := by decide +kernel
theorem dX6_mayBe_111 : decode cX6_mayBe 111 = .ok (.istore_n 2, 1) := by decide +kernel
theorem dX6_mayBe_112 : decode cX6_mayBe 112 = .ok (.iload_n 1, 1) := by decide +kernel
theorem dX6_mayBe_113 : decode cX6_mayBe 113 = .ok (.iconst 2, 1) := by decide +kernel
theorem dX6_mayBe_114 : decode cX6_mayBe 114 = .ok (.invokestatic 103, 3) := by decide +kernel
theorem dX6_mayBe_117 : decode cX6_mayBe 117 = .ok (.iload_n 1, 1) := by decide +kernel
theorem dX6_mayBe_118 : decode cX6_mayBe 118 = .ok (.bipush 16, 2) := by decide +kernel
theorem dX6_mayBe_120 : decode cX6_mayBe 120 = .ok (.invokestatic 103, 3) := by decide +kernel
theorem dX6_mayBe_123 : decode cX6_mayBe 123 = .ok (.iadd, 1) := by decide +kernel
theorem dX6_mayBe_124 : decode cX6_mayBe 124 = .ok (.ifCond .ne 33, 3) := by decide +kernel
theorem dX6_mayBe_127 : decode cX6_mayBe 127 = .ok (.iload_n 2, 1) := by decide +kernel
theorem dX6_mayBe_128 : decode cX6_mayBe 128 = .ok (.iconst 1, 1) := by decide +kernel
theorem dX6_mayBe_129 : decode cX6_mayBe 129 = .ok (.if_icmp .eq 24, 3) := by decide +kernel
theorem dX6_mayBe_132 : decode cX6_mayBe 132 = .ok (.iload_n 2, 1) := by decide +kernel
theorem dX6_mayBe_133 : decode cX6_mayBe 133 = .ok (.iconst 2, 1) := by decide +kernel
theorem dX6_mayBe_134 : decode cX6_mayBe 134 = .ok (.if_icmp .ne 23, 3) := by decide +kernel
theorem dX6_mayBe_137 : decode cX6_mayBe 137 = .ok (.iload_n 1, 1) := by decide +kernel
theorem dX6_mayBe_138 : decode cX6_mayBe 138 = .ok (.iconst 4, 1) := by decide +kernel
theorem dX6_mayBe_139 : decode cX6_mayBe 139 = .ok (.invokestatic 103, 3) := by decide +kernel
theorem dX6_mayBe_142 : decode cX6_mayBe 142 = .ok (.iload_n 1, 1) := by decide +kernel
theorem dX6_mayBe_143 : decode cX6_mayBe 143 = .ok (.bipush 8, 2) := by decide +kernel
theorem dX6_mayBe_145 : decode cX6_mayBe 145 = .ok (.invokestatic 103, 3) := by decide +kernel
theorem dX6_mayBe_148 : decode cX6_mayBe 148 = .ok (.iadd, 1) := by decide +kernel
theorem dX6_mayBe_149 : decode cX6_mayBe 149 = .ok (.iconst 2, 1) := by decide +kernel
theorem dX6_mayBe_150 : decode cX6_mayBe 150 = .ok (.if_icmp .ne 7, 3) := by decide +kernel
theorem dX6_mayBe_153 : decode cX6_mayBe 153 = .ok (.iconst 1, 1) := by decide +kernel
theorem dX6_mayBe_154 : decode cX6_mayBe 154 = .ok (.goto 4, 3) := by decide +kernel
theorem dX6_mayBe_157 : decode cX6_mayBe 157 = .ok (.iconst 0, 1) := by decide +kernel
theorem dX6_mayBe_158 : decode cX6_mayBe 158 = .ok (.ireturn, 1) := by decide +kernel
theorem dX6_member_0 : decode cX6_member 0 = .ok (.aload_n 0, 1) := by decide +kernel
theorem dX6_member_1 : decode cX6_member 1 = .ok (.iload_n 1, 1) := by decide +kernel
theorem dX6_member_2 : decode cX6_member 2 = .ok (.invokevirtual 83, 3) := by decide +kernel
theorem dX6_member_5 : decode cX6_member 5 = .ok (.ifCond .eq 16, 3) := by decide +kernel
theorem dX6_member_8 : decode cX6_member 8 = .ok (.iload_n 3, 1) := by decide +kernel
theorem dX6_member_9 : decode cX6_member 9 = .ok (.aload_n 0, 1) := by decide +kernel
theorem dX6_member_10 : decode cX6_member 10 = .ok (.getfield 62, 3) := by decide +kernel
theorem dX6_member_13 : decode cX6_member 13 = .ok (.bipush 15, 2) := by decide +kernel
theorem dX6_member_15 : decode cX6_member 15 = .ok (.invokestatic 66, 3) := by decide +kernel
theorem dX6_member_18 : decode cX6_member 18 = .ok (.ifCond .eq 6, 3) := by decide +kernel
theorem dX6_member_21 : decode cX6_member 21 = .ok (.bipush (-2), 2) := by decide +kernel
theorem dX6_member_23 : decode cX6_member 23 = .ok (.ireturn, 1) := by decide +kernel
theorem dX6_member_24 : decode cX6_member 24 = .ok (.iload_n 2, 1) := by decide +kernel
theorem dX6_member_25 : decode cX6_member 25 = .ok (.iconst 0, 1) := by decide +kernel
theorem dX6_member_26 : decode cX6_member 26 = .ok (.bipush 7, 2) := by decide +kernel
theorem dX6_member_28 : decode cX6_member 28 = .ok (.invokestatic 66, 3) := by decide +kernel
theorem dX6_member_31 : decode cX6_member 31 = .ok (.ifCond .eq 31, 3) := by decide +kernel
theorem dX6_member_34 : decode cX6_member 34 = .ok (.iload_n 3, 1) := by decide +kernel
theorem dX6_member_35 : decode cX6_member 35 = .ok (.iconst 0, 1) := by decide +kernel
theorem dX6_member_36 : decode cX6_member 36 = .ok (.bipush 19, 2) := by decide +kernel
theorem dX6_member_38 : decode cX6_member 38 = .ok (.invokestatic 66, 3) := by decide +kernel
theorem dX6_member_41 : decode cX6_member 41 = .ok (.ifCond .eq 21, 3) := by decide +kernel
theorem dX6_member_44 : decode cX6_member 44 = .ok (.aload_n 0, 1) := by decide +kernel
theorem dX6_member_45 : decode cX6_member 45 = .ok (.getfield 7, 3) := by decide +kernel
theorem dX6_member_48 : decode cX6_member 48 = .ok (.iload_n 1, 1) := by decide +kernel
theorem dX6_member_49 : decode cX6_member 49 = .ok (.iaload, 1) := by decide +kernel
theorem dX6_member_50 : decode cX6_member 50 = .ok (.iload 4, 2) := by decide +kernel
theorem dX6_member_52 : decode cX6_member 52 = .ok (.invokestatic 107, 3) := by decide +kernel
theorem dX6_member_55 : decode cX6_member 55 = .ok (.ifCond .eq 7, 3) := by decide +kernel
theorem dX6_member_58 : decode cX6_member 58 = .ok (.iconst 1, 1) := by decide +kernel
theorem dX6_member_59 : decode cX6_member 59 = .ok (.goto 4, 3) := by decide +kernel
theorem dX6_member_62 : decode cX6_member 62 = .ok (.iconst 0, 1) := by decide +kernel
theorem dX6_member_63 : decode cX6_member 63 = .ok (.istore 5, 2) := by decide +kernel
theorem dX6_member_65 : decode cX6_member 65 = .ok (.iconst 0, 1) := by decide +kernel
theorem dX6_member_66 : decode cX6_member 66 = .ok (.istore 6, 2) := by decide +kernel
theorem dX6_member_68 : decode cX6_member 68 = .ok (.iload 6, 2) := by decide +kernel
theorem dX6_member_70 : decode cX6_member 70 = .ok (.aload_n 0, 1) := by decide +kernel
theorem dX6_member_71 : decode cX6_member 71 = .ok (.getfield 70, 3) := by decide +kernel
theorem dX6_member_74 : decode cX6_member 74 = .ok (.if_icmp .ge 43, 3) := by decide +kernel
theorem dX6_member_77 : decode cX6_member 77 = .ok (.iload 5, 2) := by decide +kernel
theorem dX6_member_79 : decode cX6_member 79 = .ok (.ifCond .eq 29, 3) := by decide +kernel
theorem dX6_member_82 : decode cX6_member 82 = .ok (.aload_n 0, 1) := by decide +kernel
theorem dX6_member_83 : decode cX6_member 83 = .ok (.getfield 35, 3) := by decide +kernel
theorem dX6_member_86 : decode cX6_member 86 = .ok (.iload 6, 2) := by decide +kernel
theorem dX6_member_88 : decode cX6_member 88 = .ok (.iaload, 1) := by decide +kernel
theorem dX6_member_89 : decode cX6_member 89 = .ok (.iload_n 1, 1) := by decide +kernel
theorem dX6_member_90 : decode cX6_member 90 = .ok (.if_icmp .ne 14, 3) := by decide +kernel
theorem dX6_member_93 : decode cX6_member 93 = .ok (.aload_n 0, 1) := by decide +kernel
theorem dX6_member_94 : decode cX6_member 94 = .ok (.getfield 38, 3) := by decide +kernel
theorem dX6_member_97 : decode cX6_member 97 = .ok (.iload 6, 2) := by decide +kernel
theorem dX6_member_99 : decode cX6_member 99 = .ok (.iaload, 1) := by decide +kernel
theorem dX6_member_100 : decode cX6_member 100 = .ok (.iload_n 2, 1) := by decide +kernel
theorem dX6_member_101 : decode cX6_member 101 = .ok (.if_icmp .eq 7, 3) := by decide +kernel
theorem dX6_member_104 : decode cX6_member 104 = .ok (.iconst 1, 1) := by decide +kernel
theorem dX6_member_105 : decode cX6_member 105 = .ok (.goto 4, 3) := by decide +kernel
theorem dX6_member_108 : decode cX6_member 108 = .ok (.iconst 0, 1) := by decide +kernel
theorem dX6_member_109 : decode cX6_member 109 = .ok (.istore 5, 2) := by decide +kernel
theorem dX6_member_111 : decode cX6_member 111 = .ok (.iinc 6 1, 3) := by decide +kernel
theorem dX6_member_114 : decode cX6_member 114 = .ok (.goto (-46), 3) := by decide +kernel
theorem dX6_member_117 : decode cX6_member 117 = .ok (.iload 5, 2) := by decide +kernel
theorem dX6_member_119 : decode cX6_member 119 = .ok (.ifCond .ne 6, 3) := by decide +kernel
theorem dX6_member_122 : decode cX6_member 122 = .ok (.bipush (-3), 2) := by decide +kernel
theorem dX6_member_124 : decode cX6_member 124 = .ok (.ireturn, 1) := by decide +kernel
theorem dX6_member_125 : decode cX6_member 125 = .ok (.aload_n 0, 1) := by decide +kernel
theorem dX6_member_126 : decode cX6_member 126 = .ok (.getfield 70, 3) := by decide +kernel
theorem dX6_member_129 : decode cX6_member 129 = .ok (.bipush 60, 2) := by decide +kernel
theorem dX6_member_131 : decode cX6_member 131 = .ok (.if_icmp .ne 6, 3) := by decide +kernel
theorem dX6_member_134 : decode cX6_member 134 = .ok (.bipush (-4), 2) := by decide +kernel
theorem dX6_member_136 : decode cX6_member 136 = .ok (.ireturn, 1) := by decide +kernel
theorem dX6_member_137 : decode cX6_member 137 = .ok (.aload_n 0, 1) := by decide +kernel
theorem dX6_member_138 : decode cX6_member 138 = .ok (.getfield 35, 3) := by decide +kernel
theorem dX6_member_141 : decode cX6_member 141 = .ok (.aload_n 0, 1) := by decide +kernel
theorem dX6_member_142 : decode cX6_member 142 = .ok (.getfield 70, 3) := by decide +kernel
theorem dX6_member_145 : decode cX6_member 145 = .ok (.iload_n 1, 1) := by decide +kernel
theorem dX6_member_146 : decode cX6_member 146 = .ok (.iastore, 1) := by decide +kernel
theorem dX6_member_147 : decode cX6_member 147 = .ok (.aload_n 0, 1) := by decide +kernel
theorem dX6_member_148 : decode cX6_member 148 = .ok (.getfield 38, 3) := by decide +kernel
theorem dX6_member_151 : decode cX6_member 151 = .ok (.aload_n 0, 1) := by decide +kernel
theorem dX6_member_152 : decode cX6_member 152 = .ok (.getfield 70, 3) := by decide +kernel
theorem dX6_member_155 : decode cX6_member 155 = .ok (.iload_n 2, 1) := by decide +kernel
theorem dX6_member_156 : decode cX6_member 156 = .ok (.iastore, 1) := by decide +kernel
theorem dX6_member_157 : decode cX6_member 157 = .ok (.aload_n 0, 1) := by decide +kernel
theorem dX6_member_158 : decode cX6_member 158 = .ok (.getfield 41, 3) := by decide +kernel
theorem dX6_member_161 : decode cX6_member 161 = .ok (.aload_n 0, 1) := by decide +kernel
theorem dX6_member_162 : decode cX6_member 162 = .ok (.getfield 70, 3) := by decide +kernel
theorem dX6_member_165 : decode cX6_member 165 = .ok (.iload_n 3, 1) := by decide +kernel
theorem dX6_member_166 : decode cX6_member 166 = .ok (.iastore, 1) := by decide +kernel
theorem dX6_member_167 : decode cX6_member 167 = .ok (.aload_n 0, 1) := by decide +kernel
theorem dX6_member_168 : decode cX6_member 168 = .ok (.getfield 44, 3) := by decide +kernel
theorem dX6_member_171 : decode cX6_member 171 = .ok (.aload_n 0, 1) := by decide +kernel
theorem dX6_member_172 : decode cX6_member 172 = .ok (.getfield 70, 3) := by decide +kernel
theorem dX6_member_175 : decode cX6_member 175 = .ok (.iload 4, 2) := by decide +kernel
theorem dX6_member_177 : decode cX6_member 177 = .ok (.iastore, 1) := by decide +kernel
theorem dX6_member_178 : decode cX6_member 178 = .ok (.aload_n 0, 1) := by decide +kernel
theorem dX6_member_179 : decode cX6_member 179 = .ok (.getfield 47, 3) := by decide +kernel
theorem dX6_member_182 : decode cX6_member 182 = .ok (.aload_n 0, 1) := by decide +kernel
theorem dX6_member_183 : decode cX6_member 183 = .ok (.getfield 70, 3) := by decide +kernel
theorem dX6_member_186 : decode cX6_member 186 = .ok (.iconst 0, 1) := by decide +kernel
theorem dX6_member_187 : decode cX6_member 187 = .ok (.iastore, 1) := by decide +kernel
theorem dX6_member_188 : decode cX6_member 188 = .ok (.aload_n 0, 1) := by decide +kernel
theorem dX6_member_189 : decode cX6_member 189 = .ok (.dup, 1) := by decide +kernel
theorem dX6_member_190 : decode cX6_member 190 = .ok (.getfield 70, 3) := by decide +kernel
theorem dX6_member_193 : decode cX6_member 193 = .ok (.iconst 1, 1) := by decide +kernel
theorem dX6_member_194 : decode cX6_member 194 = .ok (.iadd, 1) := by decide +kernel
theorem dX6_member_195 : decode cX6_member 195 = .ok (.putfield 70, 3) := by decide +kernel
theorem dX6_member_198 : decode cX6_member 198 = .ok (.aload_n 0, 1) := by decide +kernel
theorem dX6_member_199 : decode cX6_member 199 = .ok (.invokevirtual 80, 3) := by decide +kernel
theorem dX6_member_202 : decode cX6_member 202 = .ok (.aload_n 0, 1) := by decide +kernel
theorem dX6_member_203 : decode cX6_member 203 = .ok (.getfield 70, 3) := by decide +kernel
theorem dX6_member_206 : decode cX6_member 206 = .ok (.iconst 1, 1) := by decide +kernel
theorem dX6_member_207 : decode cX6_member 207 = .ok (.isub, 1) := by decide +kernel
theorem dX6_member_208 : decode cX6_member 208 = .ok (.ireturn, 1) := by decide +kernel
theorem dX6_access_0 : decode cX6_access 0 = .ok (.aload_n 0, 1) := by decide +kernel
theorem dX6_access_1 : decode cX6_access 1 = .ok (.iload_n 1, 1) := by decide +kernel
theorem dX6_access_2 : decode cX6_access 2 = .ok (.iconst 4, 1) := by decide +kernel
theorem dX6_access_3 : decode cX6_access 3 = .ok (.invokevirtual 100, 3) := by decide +kernel
theorem dX6_access_6 : decode cX6_access 6 = .ok (.ifCond .eq 7, 3) := by decide +kernel
theorem dX6_access_9 : decode cX6_access 9 = .ok (.iconst 0, 1) := by decide +kernel
theorem dX6_access_10 : decode cX6_access 10 = .ok (.goto 38, 3) := by decide +kernel
theorem dX6_access_13 : decode cX6_access 13 = .ok (.aload_n 0, 1) := by decide +kernel
theorem dX6_access_14 : decode cX6_access 14 = .ok (.iload_n 1, 1) := by decide +kernel
theorem dX6_access_15 : decode cX6_access 15 = .ok (.iconst 1, 1) := by decide +kernel
theorem dX6_access_16 : decode cX6_access 16 = .ok (.invokevirtual 100, 3) := by decide +kernel
theorem dX6_access_19 : decode cX6_access 19 = .ok (.ifCond .ne 11, 3) := by decide +kernel
theorem dX6_access_22 : decode cX6_access 22 = .ok (.aload_n 0, 1) := by decide +kernel
theorem dX6_access_23 : decode cX6_access 23 = .ok (.iload_n 1, 1) := by decide +kernel
theorem dX6_access_24 : decode cX6_access 24 = .ok (.invokevirtual 110, 3) := by decide +kernel
theorem dX6_access_27 : decode cX6_access 27 = .ok (.ifCond .eq 7, 3) := by decide +kernel
theorem dX6_access_30 : decode cX6_access 30 = .ok (.iconst 3, 1) := by decide +kernel
theorem dX6_access_31 : decode cX6_access 31 = .ok (.goto 17, 3) := by decide +kernel
theorem dX6_access_34 : decode cX6_access 34 = .ok (.aload_n 0, 1) := by decide +kernel
theorem dX6_access_35 : decode cX6_access 35 = .ok (.iload_n 1, 1) := by decide +kernel
theorem dX6_access_36 : decode cX6_access 36 = .ok (.iconst 2, 1) := by decide +kernel
theorem dX6_access_37 : decode cX6_access 37 = .ok (.invokevirtual 100, 3) := by decide +kernel
theorem dX6_access_40 : decode cX6_access 40 = .ok (.ifCond .eq 7, 3) := by decide +kernel
theorem dX6_access_43 : decode cX6_access 43 = .ok (.iconst 2, 1) := by decide +kernel
theorem dX6_access_44 : decode cX6_access 44 = .ok (.goto 4, 3) := by decide +kernel
theorem dX6_access_47 : decode cX6_access 47 = .ok (.iconst 1, 1) := by decide +kernel
theorem dX6_access_48 : decode cX6_access 48 = .ok (.ireturn, 1) := by decide +kernel
theorem dX6_suits_0 : decode cX6_suits 0 = .ok (.iload_n 1, 1) := by decide +kernel
theorem dX6_suits_1 : decode cX6_suits 1 = .ok (.iload_n 2, 1) := by decide +kernel
theorem dX6_suits_2 : decode cX6_suits 2 = .ok (.if_icmp .eq 24, 3) := by decide +kernel
theorem dX6_suits_5 : decode cX6_suits 5 = .ok (.iload_n 1, 1) := by decide +kernel
theorem dX6_suits_6 : decode cX6_suits 6 = .ok (.bipush 16, 2) := by decide +kernel
theorem dX6_suits_8 : decode cX6_suits 8 = .ok (.if_icmp .ge 22, 3) := by decide +kernel
theorem dX6_suits_11 : decode cX6_suits 11 = .ok (.iload_n 2, 1) := by decide +kernel
theorem dX6_suits_12 : decode cX6_suits 12 = .ok (.bipush 16, 2) := by decide +kernel
theorem dX6_suits_14 : decode cX6_suits 14 = .ok (.if_icmp .ge 16, 3) := by decide +kernel
theorem dX6_suits_17 : decode cX6_suits 17 = .ok (.aload_n 0, 1) := by decide +kernel
theorem dX6_suits_18 : decode cX6_suits 18 = .ok (.iload_n 1, 1) := by decide +kernel
theorem dX6_suits_19 : decode cX6_suits 19 = .ok (.iload_n 2, 1) := by decide +kernel
theorem dX6_suits_20 : decode cX6_suits 20 = .ok (.invokevirtual 94, 3) := by decide +kernel
theorem dX6_suits_23 : decode cX6_suits 23 = .ok (.ifCond .eq 7, 3) := by decide +kernel
theorem dX6_suits_26 : decode cX6_suits 26 = .ok (.iconst 1, 1) := by decide +kernel
theorem dX6_suits_27 : decode cX6_suits 27 = .ok (.goto 4, 3) := by decide +kernel
theorem dX6_suits_30 : decode cX6_suits 30 = .ok (.iconst 0, 1) := by decide +kernel
theorem dX6_suits_31 : decode cX6_suits 31 = .ok (.ireturn, 1) := by decide +kernel
theorem dX6_isSeen_0 : decode cX6_isSeen 0 = .ok (.aload_n 0, 1) := by decide +kernel
theorem dX6_isSeen_1 : decode cX6_isSeen 1 = .ok (.iload_n 2, 1) := by decide +kernel
theorem dX6_isSeen_2 : decode cX6_isSeen 2 = .ok (.invokevirtual 113, 3) := by decide +kernel
theorem dX6_isSeen_5 : decode cX6_isSeen 5 = .ok (.iconst 2, 1) := by decide +kernel
theorem dX6_isSeen_6 : decode cX6_isSeen 6 = .ok (.if_icmp .ge 28, 3) := by decide +kernel
theorem dX6_isSeen_9 : decode cX6_isSeen 9 = .ok (.aload_n 0, 1) := by decide +kernel
theorem dX6_isSeen_10 : decode cX6_isSeen 10 = .ok (.getfield 13, 3) := by decide +kernel
theorem dX6_isSeen_13 : decode cX6_isSeen 13 = .ok (.aload_n 0, 1) := by decide +kernel
theorem dX6_isSeen_14 : decode cX6_isSeen 14 = .ok (.getfield 35, 3) := by decide +kernel
theorem dX6_isSeen_17 : decode cX6_isSeen 17 = .ok (.iload_n 1, 1) := by decide +kernel
theorem dX6_isSeen_18 : decode cX6_isSeen 18 = .ok (.iaload, 1) := by decide +kernel
theorem dX6_isSeen_19 : decode cX6_isSeen 19 = .ok (.iaload, 1) := by decide +kernel
theorem dX6_isSeen_20 : decode cX6_isSeen 20 = .ok (.aload_n 0, 1) := by decide +kernel
theorem dX6_isSeen_21 : decode cX6_isSeen 21 = .ok (.getfield 13, 3) := by decide +kernel
theorem dX6_isSeen_24 : decode cX6_isSeen 24 = .ok (.aload_n 0, 1) := by decide +kernel
theorem dX6_isSeen_25 : decode cX6_isSeen 25 = .ok (.getfield 35, 3) := by decide +kernel
theorem dX6_isSeen_28 : decode cX6_isSeen 28 = .ok (.iload_n 2, 1) := by decide +kernel
theorem dX6_isSeen_29 : decode cX6_isSeen 29 = .ok (.iaload, 1) := by decide +kernel
theorem dX6_isSeen_30 : decode cX6_isSeen 30 = .ok (.iaload, 1) := by decide +kernel
theorem dX6_isSeen_31 : decode cX6_isSeen 31 = .ok (.if_icmp .ne 7, 3) := by decide +kernel
theorem dX6_isSeen_34 : decode cX6_isSeen 34 = .ok (.iconst 1, 1) := by decide +kernel
theorem dX6_isSeen_35 : decode cX6_isSeen 35 = .ok (.goto 4, 3) := by decide +kernel
theorem dX6_isSeen_38 : decode cX6_isSeen 38 = .ok (.iconst 0, 1) := by decide +kernel
theorem dX6_isSeen_39 : decode cX6_isSeen 39 = .ok (.ireturn, 1) := by decide +kernel
theorem dX6_work_0 : decode cX6_work 0 = .ok (.iconst 0, 1) := by decide +kernel
theorem dX6_work_1 : decode cX6_work 1 = .ok (.istore_n 1, 1) := by decide +kernel
theorem dX6_work_2 : decode cX6_work 2 = .ok (.iload_n 1, 1) := by decide +kernel
theorem dX6_work_3 : decode cX6_work 3 = .ok (.sipush 3600, 3) := by decide +kernel
theorem dX6_work_6 : decode cX6_work 6 = .ok (.if_icmp .ge 16, 3) := by decide +kernel
theorem dX6_work_9 : decode cX6_work 9 = .ok (.aload_n 0, 1) := by decide +kernel
theorem dX6_work_10 : decode cX6_work 10 = .ok (.getfield 50, 3) := by decide +kernel
theorem dX6_work_13 : decode cX6_work 13 = .ok (.iload_n 1, 1) := by decide +kernel
theorem dX6_work_14 : decode cX6_work 14 = .ok (.iconst 0, 1) := by decide +kernel
theorem dX6_work_15 : decode cX6_work 15 = .ok (.bastore, 1) := by decide +kernel
theorem dX6_work_16 : decode cX6_work 16 = .ok (.iinc 1 1, 3) := by decide +kernel
theorem dX6_work_19 : decode cX6_work 19 = .ok (.goto (-17), 3) := by decide +kernel
theorem dX6_work_22 : decode cX6_work 22 = .ok (.iconst 0, 1) := by decide +kernel
theorem dX6_work_23 : decode cX6_work 23 = .ok (.istore_n 1, 1) := by decide +kernel
theorem dX6_work_24 : decode cX6_work 24 = .ok (.iload_n 1, 1) := by decide +kernel
theorem dX6_work_25 : decode cX6_work 25 = .ok (.aload_n 0, 1) := by decide +kernel
theorem dX6_work_26 : decode cX6_work 26 = .ok (.getfield 62, 3) := by decide +kernel
theorem dX6_work_29 : decode cX6_work 29 = .ok (.if_icmp .ge 156, 3) := by decide +kernel
theorem dX6_work_32 : decode cX6_work 32 = .ok (.iload_n 1, 1) := by decide +kernel
theorem dX6_work_33 : decode cX6_work 33 = .ok (.iconst 1, 1) := by decide +kernel
theorem dX6_work_34 : decode cX6_work 34 = .ok (.isub, 1) := by decide +kernel
theorem dX6_work_35 : decode cX6_work 35 = .ok (.istore_n 2, 1) := by decide +kernel
theorem dX6_work_36 : decode cX6_work 36 = .ok (.iload_n 2, 1) := by decide +kernel
theorem dX6_work_37 : decode cX6_work 37 = .ok (.ifCond .lt 142, 3) := by decide +kernel
theorem dX6_work_40 : decode cX6_work 40 = .ok (.iconst 0, 1) := by decide +kernel
theorem dX6_work_41 : decode cX6_work 41 = .ok (.istore_n 3, 1) := by decide +kernel
theorem dX6_work_42 : decode cX6_work 42 = .ok (.iload_n 3, 1) := by decide +kernel
theorem dX6_work_43 : decode cX6_work 43 = .ok (.aload_n 0, 1) := by decide +kernel
theorem dX6_work_44 : decode cX6_work 44 = .ok (.getfield 70, 3) := by decide +kernel
theorem dX6_work_47 : decode cX6_work 47 = .ok (.if_icmp .ge 126, 3) := by decide +kernel
theorem dX6_work_50 : decode cX6_work 50 = .ok (.aload_n 0, 1) := by decide +kernel
theorem dX6_work_51 : decode cX6_work 51 = .ok (.iload_n 1, 1) := by decide +kernel
theorem dX6_work_52 : decode cX6_work 52 = .ok (.iload_n 2, 1) := by decide +kernel
theorem dX6_work_53 : decode cX6_work 53 = .ok (.invokevirtual 90, 3) := by decide +kernel
theorem dX6_work_56 : decode cX6_work 56 = .ok (.ifCond .eq 117, 3) := by decide +kernel
theorem dX6_work_59 : decode cX6_work 59 = .ok (.iconst 0, 1) := by decide +kernel
theorem dX6_work_60 : decode cX6_work 60 = .ok (.istore 4, 2) := by decide +kernel
theorem dX6_work_62 : decode cX6_work 62 = .ok (.iload 4, 2) := by decide +kernel
theorem dX6_work_64 : decode cX6_work 64 = .ok (.aload_n 0, 1) := by decide +kernel
theorem dX6_work_65 : decode cX6_work 65 = .ok (.getfield 70, 3) := by decide +kernel
theorem dX6_work_68 : decode cX6_work 68 = .ok (.if_icmp .ge 99, 3) := by decide +kernel
theorem dX6_work_71 : decode cX6_work 71 = .ok (.aload_n 0, 1) := by decide +kernel
theorem dX6_work_72 : decode cX6_work 72 = .ok (.getfield 35, 3) := by decide +kernel
theorem dX6_work_75 : decode cX6_work 75 = .ok (.iload_n 3, 1) := by decide +kernel
theorem dX6_work_76 : decode cX6_work 76 = .ok (.iaload, 1) := by decide +kernel
theorem dX6_work_77 : decode cX6_work 77 = .ok (.iload_n 1, 1) := by decide +kernel
theorem dX6_work_78 : decode cX6_work 78 = .ok (.if_icmp .ne 89, 3) := by decide +kernel
theorem dX6_work_81 : decode cX6_work 81 = .ok (.aload_n 0, 1) := by decide +kernel
theorem dX6_work_82 : decode cX6_work 82 = .ok (.getfield 35, 3) := by decide +kernel
theorem dX6_work_85 : decode cX6_work 85 = .ok (.iload 4, 2) := by decide +kernel
theorem dX6_work_87 : decode cX6_work 87 = .ok (.iaload, 1) := by decide +kernel
theorem dX6_work_88 : decode cX6_work 88 = .ok (.iload_n 2, 1) := by decide +kernel
theorem dX6_work_89 : decode cX6_work 89 = .ok (.if_icmp .ne 72, 3) := by decide +kernel
theorem dX6_work_92 : decode cX6_work 92 = .ok (.aload_n 0, 1) := by decide +kernel
theorem dX6_work_93 : decode cX6_work 93 = .ok (.getfield 50, 3) := by decide +kernel
theorem dX6_work_96 : decode cX6_work 96 = .ok (.bipush 60, 2) := by decide +kernel
theorem dX6_work_98 : decode cX6_work 98 = .ok (.iload_n 3, 1) := by decide +kernel
theorem dX6_work_99 : decode cX6_work 99 = .ok (.imul, 1) := by decide +kernel
theorem dX6_work_100 : decode cX6_work 100 = .ok (.iload 4, 2) := by decide +kernel
theorem dX6_work_102 : decode cX6_work 102 = .ok (.iadd, 1) := by decide +kernel
theorem dX6_work_103 : decode cX6_work 103 = .ok (.aload_n 0, 1) := by decide +kernel
theorem dX6_work_104 : decode cX6_work 104 = .ok (.getfield 38, 3) := by decide +kernel
theorem dX6_work_107 : decode cX6_work 107 = .ok (.iload_n 3, 1) := by decide +kernel
theorem dX6_work_108 : decode cX6_work 108 = .ok (.iaload, 1) := by decide +kernel
theorem dX6_work_109 : decode cX6_work 109 = .ok (.aload_n 0, 1) := by decide +kernel
theorem dX6_work_110 : decode cX6_work 110 = .ok (.getfield 38, 3) := by decide +kernel
theorem dX6_work_113 : decode cX6_work 113 = .ok (.iload 4, 2) := by decide +kernel
theorem dX6_work_115 : decode cX6_work 115 = .ok (.iaload, 1) := by decide +kernel
theorem dX6_work_116 : decode cX6_work 116 = .ok (.if_icmp .ne 43, 3) := by decide +kernel
theorem dX6_work_119 : decode cX6_work 119 = .ok (.aload_n 0, 1) := by decide +kernel
theorem dX6_work_120 : decode cX6_work 120 = .ok (.iload_n 3, 1) := by decide +kernel
theorem dX6_work_121 : decode cX6_work 121 = .ok (.invokevirtual 117, 3) := by decide +kernel
theorem dX6_work_124 : decode cX6_work 124 = .ok (.ifCond .ne 35, 3) := by decide +kernel
theorem dX6_work_127 : decode cX6_work 127 = .ok (.aload_n 0, 1) := by decide +kernel
theorem dX6_work_128 : decode cX6_work 128 = .ok (.iload 4, 2) := by decide +kernel
theorem dX6_work_130 : decode cX6_work 130 = .ok (.invokevirtual 117, 3) := by decide +kernel
theorem dX6_work_133 : decode cX6_work 133 = .ok (.ifCond .ne 26, 3) := by decide +kernel
theorem dX6_work_136 : decode cX6_work 136 = .ok (.aload_n 0, 1) := by decide +kernel
theorem dX6_work_137 : decode cX6_work 137 = .ok (.iload 4, 2) := by decide +kernel
theorem dX6_work_139 : decode cX6_work 139 = .ok (.invokevirtual 120, 3) := by decide +kernel
theorem dX6_work_142 : decode cX6_work 142 = .ok (.ifCond .ne 17, 3) := by decide +kernel
theorem dX6_work_145 : decode cX6_work 145 = .ok (.aload_n 0, 1) := by decide +kernel
theorem dX6_work_146 : decode cX6_work 146 = .ok (.iload_n 3, 1) := by decide +kernel
theorem dX6_work_147 : decode cX6_work 147 = .ok (.iload 4, 2) := by decide +kernel
theorem dX6_work_149 : decode cX6_work 149 = .ok (.invokevirtual 123, 3) := by decide +kernel
theorem dX6_work_152 : decode cX6_work 152 = .ok (.ifCond .eq 7, 3) := by decide +kernel
theorem dX6_work_155 : decode cX6_work 155 = .ok (.iconst 1, 1) := by decide +kernel
theorem dX6_work_156 : decode cX6_work 156 = .ok (.goto 4, 3) := by decide +kernel
theorem dX6_work_159 : decode cX6_work 159 = .ok (.iconst 0, 1) := by decide +kernel
theorem dX6_work_160 : decode cX6_work 160 = .ok (.bastore, 1) := by decide +kernel
theorem dX6_work_161 : decode cX6_work 161 = .ok (.iinc 4 1, 3) := by decide +kernel
theorem dX6_work_164 : decode cX6_work 164 = .ok (.goto (-102), 3) := by decide +kernel
theorem dX6_work_167 : decode cX6_work 167 = .ok (.iinc 3 1, 3) := by decide +kernel
theorem dX6_work_170 : decode cX6_work 170 = .ok (.goto (-128), 3) := by decide +kernel
theorem dX6_work_173 : decode cX6_work 173 = .ok (.iinc 2 (-1), 3) := by decide +kernel
theorem dX6_work_176 : decode cX6_work 176 = .ok (.goto (-140), 3) := by decide +kernel
theorem dX6_work_179 : decode cX6_work 179 = .ok (.iinc 1 1, 3) := by decide +kernel
theorem dX6_work_182 : decode cX6_work 182 = .ok (.goto (-158), 3) := by decide +kernel
theorem dX6_work_185 : decode cX6_work 185 = .ok (.return_, 1) := by decide +kernel
theorem dX6_goesOver_0 : decode cX6_goesOver 0 = .ok (.aload_n 0, 1) := by decide +kernel
theorem dX6_goesOver_1 : decode cX6_goesOver 1 = .ok (.iload_n 2, 1) := by decide +kernel
theorem dX6_goesOver_2 : decode cX6_goesOver 2 = .ok (.invokevirtual 110, 3) := by decide +kernel
theorem dX6_goesOver_5 : decode cX6_goesOver 5 = .ok (.ifCond .ne 12, 3) := by decide +kernel
theorem dX6_goesOver_8 : decode cX6_goesOver 8 = .ok (.aload_n 0, 1) := by decide +kernel
theorem dX6_goesOver_9 : decode cX6_goesOver 9 = .ok (.iload_n 1, 1) := by decide +kernel
theorem dX6_goesOver_10 : decode cX6_goesOver 10 = .ok (.iload_n 2, 1) := by decide +kernel
theorem dX6_goesOver_11 : decode cX6_goesOver 11 = .ok (.invokevirtual 126, 3) := by decide +kernel
theorem dX6_goesOver_14 : decode cX6_goesOver 14 = .ok (.ifCond .eq 5, 3) := by decide +kernel
theorem dX6_goesOver_17 : decode cX6_goesOver 17 = .ok (.iconst 1, 1) := by decide +kernel
theorem dX6_goesOver_18 : decode cX6_goesOver 18 = .ok (.ireturn, 1) := by decide +kernel
theorem dX6_goesOver_19 : decode cX6_goesOver 19 = .ok (.iconst 0, 1) := by decide +kernel
theorem dX6_goesOver_20 : decode cX6_goesOver 20 = .ok (.istore_n 3, 1) := by decide +kernel
theorem dX6_goesOver_21 : decode cX6_goesOver 21 = .ok (.iload_n 3, 1) := by decide +kernel
theorem dX6_goesOver_22 : decode cX6_goesOver 22 = .ok (.aload_n 0, 1) := by decide +kernel
theorem dX6_goesOver_23 : decode cX6_goesOver 23 = .ok (.getfield 70, 3) := by decide +kernel
theorem dX6_goesOver_26 : decode cX6_goesOver 26 = .ok (.if_icmp .ge 92, 3) := by decide +kernel
theorem dX6_goesOver_29 : decode cX6_goesOver 29 = .ok (.aload_n 0, 1) := by decide +kernel
theorem dX6_goesOver_30 : decode cX6_goesOver 30 = .ok (.getfield 38, 3) := by decide +kernel
theorem dX6_goesOver_33 : decode cX6_goesOver 33 = .ok (.iload_n 3, 1) := by decide +kernel
theorem dX6_goesOver_34 : decode cX6_goesOver 34 = .ok (.iaload, 1) := by decide +kernel
theorem dX6_goesOver_35 : decode cX6_goesOver 35 = .ok (.aload_n 0, 1) := by decide +kernel
theorem dX6_goesOver_36 : decode cX6_goesOver 36 = .ok (.getfield 38, 3) := by decide +kernel
theorem dX6_goesOver_39 : decode cX6_goesOver 39 = .ok (.iload_n 1, 1) := by decide +kernel
theorem dX6_goesOver_40 : decode cX6_goesOver 40 = .ok (.iaload, 1) := by decide +kernel
theorem dX6_goesOver_41 : decode cX6_goesOver 41 = .ok (.if_icmp .ne 71, 3) := by decide +kernel
theorem dX6_goesOver_44 : decode cX6_goesOver 44 = .ok (.aload_n 0, 1) := by decide +kernel
theorem dX6_goesOver_45 : decode cX6_goesOver 45 = .ok (.aload_n 0, 1) := by decide +kernel
theorem dX6_goesOver_46 : decode cX6_goesOver 46 = .ok (.getfield 35, 3) := by decide +kernel
theorem dX6_goesOver_49 : decode cX6_goesOver 49 = .ok (.iload_n 3, 1) := by decide +kernel
theorem dX6_goesOver_50 : decode cX6_goesOver 50 = .ok (.iaload, 1) := by decide +kernel
theorem dX6_goesOver_51 : decode cX6_goesOver 51 = .ok (.aload_n 0, 1) := by decide +kernel
theorem dX6_goesOver_52 : decode cX6_goesOver 52 = .ok (.getfield 35, 3) := by decide +kernel
theorem dX6_goesOver_55 : decode cX6_goesOver 55 = .ok (.iload_n 2, 1) := by decide +kernel
theorem dX6_goesOver_56 : decode cX6_goesOver 56 = .ok (.iaload, 1) := by decide +kernel
theorem dX6_goesOver_57 : decode cX6_goesOver 57 = .ok (.invokevirtual 90, 3) := by decide +kernel
theorem dX6_goesOver_60 : decode cX6_goesOver 60 = .ok (.ifCond .eq 52, 3) := by decide +kernel
theorem dX6_goesOver_63 : decode cX6_goesOver 63 = .ok (.aload_n 0, 1) := by decide +kernel
theorem dX6_goesOver_64 : decode cX6_goesOver 64 = .ok (.aload_n 0, 1) := by decide +kernel
theorem dX6_goesOver_65 : decode cX6_goesOver 65 = .ok (.getfield 35, 3) := by decide +kernel
theorem dX6_goesOver_68 : decode cX6_goesOver 68 = .ok (.iload_n 1, 1) := by decide +kernel
theorem dX6_goesOver_69 : decode cX6_goesOver 69 = .ok (.iaload, 1) := by decide +kernel
theorem dX6_goesOver_70 : decode cX6_goesOver 70 = .ok (.aload_n 0, 1) := by decide +kernel
theorem dX6_goesOver_71 : decode cX6_goesOver 71 = .ok (.getfield 35, 3) := by decide +kernel
theorem dX6_goesOver_74 : decode cX6_goesOver 74 = .ok (.iload_n 3, 1) := by decide +kernel
theorem dX6_goesOver_75 : decode cX6_goesOver 75 = .ok (.iaload, 1) := by decide +kernel
theorem dX6_goesOver_76 : decode cX6_goesOver 76 = .ok (.invokevirtual 90, 3) := by decide +kernel
theorem dX6_goesOver_79 : decode cX6_goesOver 79 = .ok (.ifCond .eq 33, 3) := by decide +kernel
theorem dX6_goesOver_82 : decode cX6_goesOver 82 = .ok (.aload_n 0, 1) := by decide +kernel
theorem dX6_goesOver_83 : decode cX6_goesOver 83 = .ok (.getfield 50, 3) := by decide +kernel
theorem dX6_goesOver_86 : decode cX6_goesOver 86 = .ok (.bipush 60, 2) := by decide +kernel
theorem dX6_goesOver_88 : decode cX6_goesOver 88 = .ok (.iload_n 1, 1) := by decide +kernel
theorem dX6_goesOver_89 : decode cX6_goesOver 89 = .ok (.imul, 1) := by decide +kernel
theorem dX6_goesOver_90 : decode cX6_goesOver 90 = .ok (.iload_n 3, 1) := by decide +kernel
theorem dX6_goesOver_91 : decode cX6_goesOver 91 = .ok (.iadd, 1) := by decide +kernel
theorem dX6_goesOver_92 : decode cX6_goesOver 92 = .ok (.baload, 1) := by decide +kernel
theorem dX6_goesOver_93 : decode cX6_goesOver 93 = .ok (.ifCond .eq 19, 3) := by decide +kernel
theorem dX6_goesOver_96 : decode cX6_goesOver 96 = .ok (.aload_n 0, 1) := by decide +kernel
theorem dX6_goesOver_97 : decode cX6_goesOver 97 = .ok (.getfield 50, 3) := by decide +kernel
theorem dX6_goesOver_100 : decode cX6_goesOver 100 = .ok (.bipush 60, 2) := by decide +kernel
theorem dX6_goesOver_102 : decode cX6_goesOver 102 = .ok (.iload_n 3, 1) := by decide +kernel
theorem dX6_goesOver_103 : decode cX6_goesOver 103 = .ok (.imul, 1) := by decide +kernel
theorem dX6_goesOver_104 : decode cX6_goesOver 104 = .ok (.iload_n 2, 1) := by decide +kernel
theorem dX6_goesOver_105 : decode cX6_goesOver 105 = .ok (.iadd, 1) := by decide +kernel
theorem dX6_goesOver_106 : decode cX6_goesOver 106 = .ok (.baload, 1) := by decide +kernel
theorem dX6_goesOver_107 : decode cX6_goesOver 107 = .ok (.ifCond .eq 5, 3) := by decide +kernel
theorem dX6_goesOver_110 : decode cX6_goesOver 110 = .ok (.iconst 1, 1) := by decide +kernel
theorem dX6_goesOver_111 : decode cX6_goesOver 111 = .ok (.ireturn, 1) := by decide +kernel
theorem dX6_goesOver_112 : decode cX6_goesOver 112 = .ok (.iinc 3 1, 3) := by decide +kernel
theorem dX6_goesOver_115 : decode cX6_goesOver 115 = .ok (.goto (-94), 3) := by decide +kernel
theorem dX6_goesOver_118 : decode cX6_goesOver 118 = .ok (.iconst 0, 1) := by decide +kernel
theorem dX6_goesOver_119 : decode cX6_goesOver 119 = .ok (.ireturn, 1) := by decide +kernel
theorem dX6_isOver_0 : decode cX6_isOver 0 = .ok (.aload_n 0, 1) := by decide +kernel
theorem dX6_isOver_1 : decode cX6_isOver 1 = .ok (.getfield 50, 3) := by decide +kernel
theorem dX6_isOver_4 : decode cX6_isOver 4 = .ok (.bipush 60, 2) := by decide +kernel
theorem dX6_isOver_6 : decode cX6_isOver 6 = .ok (.iload_n 1, 1) := by decide +kernel
theorem dX6_isOver_7 : decode cX6_isOver 7 = .ok (.imul, 1) := by decide +kernel
theorem dX6_isOver_8 : decode cX6_isOver 8 = .ok (.iload_n 2, 1) := by decide +kernel
theorem dX6_isOver_9 : decode cX6_isOver 9 = .ok (.iadd, 1) := by decide +kernel
theorem dX6_isOver_10 : decode cX6_isOver 10 = .ok (.baload, 1) := by decide +kernel
theorem dX6_isOver_11 : decode cX6_isOver 11 = .ok (.ireturn, 1) := by decide +kernel
theorem dX6_hidesIt_0 : decode cX6_hidesIt 0 = .ok (.aload_n 0, 1) := by decide +kernel
theorem dX6_hidesIt_1 : decode cX6_hidesIt 1 = .ok (.getfield 38, 3) := by decide +kernel
theorem dX6_hidesIt_4 : decode cX6_hidesIt 4 = .ok (.iload_n 1, 1) := by decide +kernel
theorem dX6_hidesIt_5 : decode cX6_hidesIt 5 = .ok (.iaload, 1) := by decide +kernel
theorem dX6_hidesIt_6 : decode cX6_hidesIt 6 = .ok (.aload_n 0, 1) := by decide +kernel
theorem dX6_hidesIt_7 : decode cX6_hidesIt 7 = .ok (.getfield 38, 3) := by decide +kernel
theorem dX6_hidesIt_10 : decode cX6_hidesIt 10 = .ok (.iload_n 2, 1) := by decide +kernel
theorem dX6_hidesIt_11 : decode cX6_hidesIt 11 = .ok (.iaload, 1) := by decide +kernel
theorem dX6_hidesIt_12 : decode cX6_hidesIt 12 = .ok (.if_icmp .ne 67, 3) := by decide +kernel
theorem dX6_hidesIt_15 : decode cX6_hidesIt 15 = .ok (.aload_n 0, 1) := by decide +kernel
theorem dX6_hidesIt_16 : decode cX6_hidesIt 16 = .ok (.iload_n 1, 1) := by decide +kernel
theorem dX6_hidesIt_17 : decode cX6_hidesIt 17 = .ok (.invokevirtual 117, 3) := by decide +kernel
theorem dX6_hidesIt_20 : decode cX6_hidesIt 20 = .ok (.ifCond .eq 59, 3) := by decide +kernel
theorem dX6_hidesIt_23 : decode cX6_hidesIt 23 = .ok (.aload_n 0, 1) := by decide +kernel
theorem dX6_hidesIt_24 : decode cX6_hidesIt 24 = .ok (.iload_n 2, 1) := by decide +kernel
theorem dX6_hidesIt_25 : decode cX6_hidesIt 25 = .ok (.invokevirtual 117, 3) := by decide +kernel
theorem dX6_hidesIt_28 : decode cX6_hidesIt 28 = .ok (.ifCond .eq 51, 3) := by decide +kernel
theorem dX6_hidesIt_31 : decode cX6_hidesIt 31 = .ok (.aload_n 0, 1) := by decide +kernel
theorem dX6_hidesIt_32 : decode cX6_hidesIt 32 = .ok (.aload_n 0, 1) := by decide +kernel
theorem dX6_hidesIt_33 : decode cX6_hidesIt 33 = .ok (.getfield 35, 3) := by decide +kernel
theorem dX6_hidesIt_36 : decode cX6_hidesIt 36 = .ok (.iload_n 1, 1) := by decide +kernel
theorem dX6_hidesIt_37 : decode cX6_hidesIt 37 = .ok (.iaload, 1) := by decide +kernel
theorem dX6_hidesIt_38 : decode cX6_hidesIt 38 = .ok (.aload_n 0, 1) := by decide +kernel
theorem dX6_hidesIt_39 : decode cX6_hidesIt 39 = .ok (.getfield 35, 3) := by decide +kernel
theorem dX6_hidesIt_42 : decode cX6_hidesIt 42 = .ok (.iload_n 2, 1) := by decide +kernel
theorem dX6_hidesIt_43 : decode cX6_hidesIt 43 = .ok (.iaload, 1) := by decide +kernel
theorem dX6_hidesIt_44 : decode cX6_hidesIt 44 = .ok (.invokevirtual 90, 3) := by decide +kernel
theorem dX6_hidesIt_47 : decode cX6_hidesIt 47 = .ok (.ifCond .eq 32, 3) := by decide +kernel
theorem dX6_hidesIt_50 : decode cX6_hidesIt 50 = .ok (.aload_n 0, 1) := by decide +kernel
theorem dX6_hidesIt_51 : decode cX6_hidesIt 51 = .ok (.iload_n 2, 1) := by decide +kernel
theorem dX6_hidesIt_52 : decode cX6_hidesIt 52 = .ok (.invokevirtual 110, 3) := by decide +kernel
theorem dX6_hidesIt_55 : decode cX6_hidesIt 55 = .ok (.ifCond .ne 24, 3) := by decide +kernel
theorem dX6_hidesIt_58 : decode cX6_hidesIt 58 = .ok (.aload_n 0, 1) := by decide +kernel
theorem dX6_hidesIt_59 : decode cX6_hidesIt 59 = .ok (.iload_n 2, 1) := by decide +kernel
theorem dX6_hidesIt_60 : decode cX6_hidesIt 60 = .ok (.invokevirtual 120, 3) := by decide +kernel
theorem dX6_hidesIt_63 : decode cX6_hidesIt 63 = .ok (.ifCond .ne 16, 3) := by decide +kernel
theorem dX6_hidesIt_66 : decode cX6_hidesIt 66 = .ok (.aload_n 0, 1) := by decide +kernel
theorem dX6_hidesIt_67 : decode cX6_hidesIt 67 = .ok (.iload_n 1, 1) := by decide +kernel
theorem dX6_hidesIt_68 : decode cX6_hidesIt 68 = .ok (.iload_n 2, 1) := by decide +kernel
theorem dX6_hidesIt_69 : decode cX6_hidesIt 69 = .ok (.invokevirtual 126, 3) := by decide +kernel
theorem dX6_hidesIt_72 : decode cX6_hidesIt 72 = .ok (.ifCond .eq 7, 3) := by decide +kernel
theorem dX6_hidesIt_75 : decode cX6_hidesIt 75 = .ok (.iconst 1, 1) := by decide +kernel
theorem dX6_hidesIt_76 : decode cX6_hidesIt 76 = .ok (.goto 4, 3) := by decide +kernel
theorem dX6_hidesIt_79 : decode cX6_hidesIt 79 = .ok (.iconst 0, 1) := by decide +kernel
theorem dX6_hidesIt_80 : decode cX6_hidesIt 80 = .ok (.ireturn, 1) := by decide +kernel
theorem dX6_isMixed_0 : decode cX6_isMixed 0 = .ok (.aload_n 0, 1) := by decide +kernel
theorem dX6_isMixed_1 : decode cX6_isMixed 1 = .ok (.getfield 38, 3) := by decide +kernel

theorem dX5_face_50 : decode cX5_face 50 = .ok (.ifCond .eq 6, 3) := by decide +kernel
theorem dX5_face_53 : decode cX5_face 53 = .ok (.bipush (-3), 2) := by decide +kernel
theorem dX5_face_55 : decode cX5_face 55 = .ok (.ireturn, 1) := by decide +kernel
theorem dX5_face_56 : decode cX5_face 56 = .ok (.aload_n 0, 1) := by decide +kernel
theorem dX5_face_57 : decode cX5_face 57 = .ok (.getfield 10, 3) := by decide +kernel
theorem dX5_face_60 : decode cX5_face 60 = .ok (.iload_n 1, 1) := by decide +kernel
theorem dX5_face_61 : decode cX5_face 61 = .ok (.invokevirtual 78, 3) := by decide +kernel
theorem dX5_face_64 : decode cX5_face 64 = .ok (.iconst 3, 1) := by decide +kernel
theorem dX5_face_65 : decode cX5_face 65 = .ok (.if_icmp .lt 8, 3) := by decide +kernel
theorem dX5_face_68 : decode cX5_face 68 = .ok (.bipush (-4), 2) := by decide +kernel
theorem dX5_face_70 : decode cX5_face 70 = .ok (.goto 12, 3) := by decide +kernel
theorem dX5_face_73 : decode cX5_face 73 = .ok (.aload_n 0, 1) := by decide +kernel
theorem dX5_face_74 : decode cX5_face 74 = .ok (.getfield 10, 3) := by decide +kernel
theorem dX5_face_77 : decode cX5_face 77 = .ok (.iload_n 1, 1) := by decide +kernel
theorem dX5_face_78 : decode cX5_face 78 = .ok (.iload_n 2, 1) := by decide +kernel
theorem dX5_face_79 : decode cX5_face 79 = .ok (.invokevirtual 82, 3) := by decide +kernel
theorem dX5_face_82 : decode cX5_face 82 = .ok (.ireturn, 1) := by decide +kernel
theorem dX5_thrown0_0 : decode cX5_thrown0 0 = .ok (.iload_n 1, 1) := by decide +kernel
theorem dX5_thrown0_1 : decode cX5_thrown0 1 = .ok (.iconst (-1), 1) := by decide +kernel
theorem dX5_thrown0_2 : decode cX5_thrown0 2 = .ok (.if_icmp .eq 17, 3) := by decide +kernel
theorem dX5_thrown0_5 : decode cX5_thrown0 5 = .ok (.aload_n 0, 1) := by decide +kernel
theorem dX5_thrown0_6 : decode cX5_thrown0 6 = .ok (.getfield 19, 3) := by decide +kernel
theorem dX5_thrown0_9 : decode cX5_thrown0 9 = .ok (.iload_n 1, 1) := by decide +kernel
theorem dX5_thrown0_10 : decode cX5_thrown0 10 = .ok (.invokevirtual 86, 3) := by decide +kernel
theorem dX5_thrown0_13 : decode cX5_thrown0 13 = .ok (.ifCond .ne 6, 3) := by decide +kernel
theorem dX5_thrown0_16 : decode cX5_thrown0 16 = .ok (.bipush (-2), 2) := by decide +kernel
theorem dX5_thrown0_18 : decode cX5_thrown0 18 = .ok (.ireturn, 1) := by decide +kernel
theorem dX5_thrown0_19 : decode cX5_thrown0 19 = .ok (.aload_n 0, 1) := by decide +kernel
theorem dX5_thrown0_20 : decode cX5_thrown0 20 = .ok (.getfield 19, 3) := by decide +kernel
theorem dX5_thrown0_23 : decode cX5_thrown0 23 = .ok (.invokevirtual 87, 3) := by decide +kernel
theorem dX5_thrown0_26 : decode cX5_thrown0 26 = .ok (.ifCond .eq 8, 3) := by decide +kernel
theorem dX5_thrown0_29 : decode cX5_thrown0 29 = .ok (.bipush (-4), 2) := by decide +kernel
theorem dX5_thrown0_31 : decode cX5_thrown0 31 = .ok (.goto 12, 3) := by decide +kernel
theorem dX5_thrown0_34 : decode cX5_thrown0 34 = .ok (.aload_n 0, 1) := by decide +kernel
theorem dX5_thrown0_35 : decode cX5_thrown0 35 = .ok (.getfield 19, 3) := by decide +kernel
theorem dX5_thrown0_38 : decode cX5_thrown0 38 = .ok (.iload_n 1, 1) := by decide +kernel
theorem dX5_thrown0_39 : decode cX5_thrown0 39 = .ok (.iload_n 2, 1) := by decide +kernel
theorem dX5_thrown0_40 : decode cX5_thrown0 40 = .ok (.invokevirtual 88, 3) := by decide +kernel
theorem dX5_thrown0_43 : decode cX5_thrown0 43 = .ok (.ireturn, 1) := by decide +kernel
theorem dX5_member_0 : decode cX5_member 0 = .ok (.aload_n 0, 1) := by decide +kernel
theorem dX5_member_1 : decode cX5_member 1 = .ok (.getfield 10, 3) := by decide +kernel
theorem dX5_member_4 : decode cX5_member 4 = .ok (.iload_n 1, 1) := by decide +kernel
theorem dX5_member_5 : decode cX5_member 5 = .ok (.invokevirtual 59, 3) := by decide +kernel
theorem dX5_member_8 : decode cX5_member 8 = .ok (.ifCond .eq 11, 3) := by decide +kernel
theorem dX5_member_11 : decode cX5_member 11 = .ok (.aload_n 0, 1) := by decide +kernel
theorem dX5_member_12 : decode cX5_member 12 = .ok (.iload_n 3, 1) := by decide +kernel
theorem dX5_member_13 : decode cX5_member 13 = .ok (.invokevirtual 91, 3) := by decide +kernel
theorem dX5_member_16 : decode cX5_member 16 = .ok (.ifCond .eq 6, 3) := by decide +kernel
theorem dX5_member_19 : decode cX5_member 19 = .ok (.bipush (-2), 2) := by decide +kernel
theorem dX5_member_21 : decode cX5_member 21 = .ok (.ireturn, 1) := by decide +kernel
theorem dX5_member_22 : decode cX5_member 22 = .ok (.iload_n 2, 1) := by decide +kernel
theorem dX5_member_23 : decode cX5_member 23 = .ok (.ifCond .lt 19, 3) := by decide +kernel
theorem dX5_member_26 : decode cX5_member 26 = .ok (.iload_n 2, 1) := by decide +kernel
theorem dX5_member_27 : decode cX5_member 27 = .ok (.bipush 8, 2) := by decide +kernel
theorem dX5_member_29 : decode cX5_member 29 = .ok (.if_icmp .ge 13, 3) := by decide +kernel
theorem dX5_member_32 : decode cX5_member 32 = .ok (.iload_n 3, 1) := by decide +kernel
theorem dX5_member_33 : decode cX5_member 33 = .ok (.ifCond .lt 9, 3) := by decide +kernel
theorem dX5_member_36 : decode cX5_member 36 = .ok (.iload_n 3, 1) := by decide +kernel
theorem dX5_member_37 : decode cX5_member 37 = .ok (.bipush 20, 2) := by decide +kernel
theorem dX5_member_39 : decode cX5_member 39 = .ok (.if_icmp .lt 6, 3) := by decide +kernel
theorem dX5_member_42 : decode cX5_member 42 = .ok (.bipush (-3), 2) := by decide +kernel
theorem dX5_member_44 : decode cX5_member 44 = .ok (.ireturn, 1) := by decide +kernel
theorem dX5_member_45 : decode cX5_member 45 = .ok (.aload_n 0, 1) := by decide +kernel
theorem dX5_member_46 : decode cX5_member 46 = .ok (.getfield 10, 3) := by decide +kernel
theorem dX5_member_49 : decode cX5_member 49 = .ok (.iload_n 1, 1) := by decide +kernel
theorem dX5_member_50 : decode cX5_member 50 = .ok (.invokevirtual 63, 3) := by decide +kernel
theorem dX5_member_53 : decode cX5_member 53 = .ok (.iload 4, 2) := by decide +kernel
theorem dX5_member_55 : decode cX5_member 55 = .ok (.invokestatic 94, 3) := by decide +kernel
theorem dX5_member_58 : decode cX5_member 58 = .ok (.ifCond .eq 16, 3) := by decide +kernel
theorem dX5_member_61 : decode cX5_member 61 = .ok (.aload_n 0, 1) := by decide +kernel
theorem dX5_member_62 : decode cX5_member 62 = .ok (.getfield 28, 3) := by decide +kernel
theorem dX5_member_65 : decode cX5_member 65 = .ok (.iload_n 1, 1) := by decide +kernel
theorem dX5_member_66 : decode cX5_member 66 = .ok (.iload_n 2, 1) := by decide +kernel
theorem dX5_member_67 : decode cX5_member 67 = .ok (.invokevirtual 98, 3) := by decide +kernel
theorem dX5_member_70 : decode cX5_member 70 = .ok (.iconst (-1), 1) := by decide +kernel
theorem dX5_member_71 : decode cX5_member 71 = .ok (.if_icmp .eq 6, 3) := by decide +kernel
theorem dX5_member_74 : decode cX5_member 74 = .ok (.bipush (-3), 2) := by decide +kernel
theorem dX5_member_76 : decode cX5_member 76 = .ok (.ireturn, 1) := by decide +kernel
theorem dX5_member_77 : decode cX5_member 77 = .ok (.aload_n 0, 1) := by decide +kernel
theorem dX5_member_78 : decode cX5_member 78 = .ok (.getfield 28, 3) := by decide +kernel
theorem dX5_member_81 : decode cX5_member 81 = .ok (.invokevirtual 101, 3) := by decide +kernel
theorem dX5_member_84 : decode cX5_member 84 = .ok (.ifCond .eq 8, 3) := by decide +kernel
theorem dX5_member_87 : decode cX5_member 87 = .ok (.bipush (-4), 2) := by decide +kernel
theorem dX5_member_89 : decode cX5_member 89 = .ok (.goto 15, 3) := by decide +kernel
theorem dX5_member_92 : decode cX5_member 92 = .ok (.aload_n 0, 1) := by decide +kernel
theorem dX5_member_93 : decode cX5_member 93 = .ok (.getfield 28, 3) := by decide +kernel
theorem dX5_member_96 : decode cX5_member 96 = .ok (.iload_n 1, 1) := by decide +kernel
theorem dX5_member_97 : decode cX5_member 97 = .ok (.iload_n 2, 1) := by decide +kernel
theorem dX5_member_98 : decode cX5_member 98 = .ok (.iload_n 3, 1) := by decide +kernel
theorem dX5_member_99 : decode cX5_member 99 = .ok (.iload 4, 2) := by decide +kernel
theorem dX5_member_101 : decode cX5_member 101 = .ok (.invokevirtual 102, 3) := by decide +kernel
theorem dX5_member_104 : decode cX5_member 104 = .ok (.ireturn, 1) := by decide +kernel
theorem dX5_throws0_0 : decode cX5_throws0 0 = .ok (.aload_n 0, 1) := by decide +kernel
theorem dX5_throws0_1 : decode cX5_throws0 1 = .ok (.getfield 28, 3) := by decide +kernel
theorem dX5_throws0_4 : decode cX5_throws0 4 = .ok (.iload_n 1, 1) := by decide +kernel
theorem dX5_throws0_5 : decode cX5_throws0 5 = .ok (.invokevirtual 105, 3) := by decide +kernel
theorem dX5_throws0_8 : decode cX5_throws0 8 = .ok (.ifCond .eq 14, 3) := by decide +kernel
theorem dX5_throws0_11 : decode cX5_throws0 11 = .ok (.aload_n 0, 1) := by decide +kernel
theorem dX5_throws0_12 : decode cX5_throws0 12 = .ok (.getfield 19, 3) := by decide +kernel
theorem dX5_throws0_15 : decode cX5_throws0 15 = .ok (.iload_n 2, 1) := by decide +kernel
theorem dX5_throws0_16 : decode cX5_throws0 16 = .ok (.invokevirtual 86, 3) := by decide +kernel
theorem dX5_throws0_19 : decode cX5_throws0 19 = .ok (.ifCond .ne 6, 3) := by decide +kernel
theorem dX5_throws0_22 : decode cX5_throws0 22 = .ok (.bipush (-2), 2) := by decide +kernel
theorem dX5_throws0_24 : decode cX5_throws0 24 = .ok (.ireturn, 1) := by decide +kernel
theorem dX5_throws0_25 : decode cX5_throws0 25 = .ok (.aload_n 0, 1) := by decide +kernel
theorem dX5_throws0_26 : decode cX5_throws0 26 = .ok (.getfield 28, 3) := by decide +kernel
theorem dX5_throws0_29 : decode cX5_throws0 29 = .ok (.iload_n 1, 1) := by decide +kernel
theorem dX5_throws0_30 : decode cX5_throws0 30 = .ok (.iload_n 2, 1) := by decide +kernel
theorem dX5_throws0_31 : decode cX5_throws0 31 = .ok (.invokevirtual 106, 3) := by decide +kernel
theorem dX5_throws0_34 : decode cX5_throws0 34 = .ok (.invokestatic 109, 3) := by decide +kernel
theorem dX5_throws0_37 : decode cX5_throws0 37 = .ok (.ireturn, 1) := by decide +kernel
theorem dX5_overrides_0 : decode cX5_overrides 0 = .ok (.aload_n 0, 1) := by decide +kernel
theorem dX5_overrides_1 : decode cX5_overrides 1 = .ok (.getfield 28, 3) := by decide +kernel
theorem dX5_overrides_4 : decode cX5_overrides 4 = .ok (.iload_n 1, 1) := by decide +kernel
theorem dX5_overrides_5 : decode cX5_overrides 5 = .ok (.invokevirtual 105, 3) := by decide +kernel
theorem dX5_overrides_8 : decode cX5_overrides 8 = .ok (.ifCond .eq 14, 3) := by decide +kernel
theorem dX5_overrides_11 : decode cX5_overrides 11 = .ok (.aload_n 0, 1) := by decide +kernel
theorem dX5_overrides_12 : decode cX5_overrides 12 = .ok (.getfield 28, 3) := by decide +kernel
theorem dX5_overrides_15 : decode cX5_overrides 15 = .ok (.iload_n 2, 1) := by decide +kernel
theorem dX5_overrides_16 : decode cX5_overrides 16 = .ok (.invokevirtual 105, 3) := by decide +kernel
theorem dX5_overrides_19 : decode cX5_overrides 19 = .ok (.ifCond .ne 6, 3) := by decide +kernel
theorem dX5_overrides_22 : decode cX5_overrides 22 = .ok (.bipush (-2), 2) := by decide +kernel
theorem dX5_overrides_24 : decode cX5_overrides 24 = .ok (.ireturn, 1) := by decide +kernel
theorem dX5_overrides_25 : decode cX5_overrides 25 = .ok (.aload_n 0, 1) := by decide +kernel
theorem dX5_overrides_26 : decode cX5_overrides 26 = .ok (.getfield 28, 3) := by decide +kernel
theorem dX5_overrides_29 : decode cX5_overrides 29 = .ok (.iload_n 1, 1) := by decide +kernel
theorem dX5_overrides_30 : decode cX5_overrides 30 = .ok (.iload_n 2, 1) := by decide +kernel
theorem dX5_overrides_31 : decode cX5_overrides 31 = .ok (.invokevirtual 113, 3) := by decide +kernel
theorem dX5_overrides_34 : decode cX5_overrides 34 = .ok (.invokestatic 109, 3) := by decide +kernel
theorem dX5_overrides_37 : decode cX5_overrides 37 = .ok (.ireturn, 1) := by decide +kernel
theorem dX5_hides_0 : decode cX5_hides 0 = .ok (.aload_n 0, 1) := by decide +kernel
theorem dX5_hides_1 : decode cX5_hides 1 = .ok (.getfield 28, 3) := by decide +kernel
theorem dX5_hides_4 : decode cX5_hides 4 = .ok (.iload_n 1, 1) := by decide +kernel
theorem dX5_hides_5 : decode cX5_hides 5 = .ok (.invokevirtual 105, 3) := by decide +kernel
theorem dX5_hides_8 : decode cX5_hides 8 = .ok (.ifCond .eq 14, 3) := by decide +kernel
theorem dX5_hides_11 : decode cX5_hides 11 = .ok (.aload_n 0, 1) := by decide +kernel
theorem dX5_hides_12 : decode cX5_hides 12 = .ok (.getfield 28, 3) := by decide +kernel
theorem dX5_hides_15 : decode cX5_hides 15 = .ok (.iload_n 2, 1) := by decide +kernel
theorem dX5_hides_16 : decode cX5_hides 16 = .ok (.invokevirtual 105, 3) := by decide +kernel
theorem dX5_hides_19 : decode cX5_hides 19 = .ok (.ifCond .ne 6, 3) := by decide +kernel
theorem dX5_hides_22 : decode cX5_hides 22 = .ok (.bipush (-2), 2) := by decide +kernel
theorem dX5_hides_24 : decode cX5_hides 24 = .ok (.ireturn, 1) := by decide +kernel
theorem dX5_hides_25 : decode cX5_hides 25 = .ok (.aload_n 0, 1) := by decide +kernel
theorem dX5_hides_26 : decode cX5_hides 26 = .ok (.getfield 28, 3) := by decide +kernel
theorem dX5_hides_29 : decode cX5_hides 29 = .ok (.iload_n 1, 1) := by decide +kernel
theorem dX5_hides_30 : decode cX5_hides 30 = .ok (.iload_n 2, 1) := by decide +kernel
theorem dX5_hides_31 : decode cX5_hides 31 = .ok (.invokevirtual 116, 3) := by decide +kernel
theorem dX5_hides_34 : decode cX5_hides 34 = .ok (.invokestatic 109, 3) := by decide +kernel
theorem dX5_hides_37 : decode cX5_hides 37 = .ok (.ireturn, 1) := by decide +kernel
theorem dX5_chosen_0 : decode cX5_chosen 0 = .ok (.aload_n 0, 1) := by decide +kernel
theorem dX5_chosen_1 : decode cX5_chosen 1 = .ok (.getfield 10, 3) := by decide +kernel
theorem dX5_chosen_4 : decode cX5_chosen 4 = .ok (.iload_n 1, 1) := by decide +kernel
theorem dX5_chosen_5 : decode cX5_chosen 5 = .ok (.invokevirtual 59, 3) := by decide +kernel
theorem dX5_chosen_8 : decode cX5_chosen 8 = .ok (.ifCond .eq 14, 3) := by decide +kernel
theorem dX5_chosen_11 : decode cX5_chosen 11 = .ok (.aload_n 0, 1) := by decide +kernel
theorem dX5_chosen_12 : decode cX5_chosen 12 = .ok (.getfield 28, 3) := by decide +kernel
theorem dX5_chosen_15 : decode cX5_chosen 15 = .ok (.iload_n 2, 1) := by decide +kernel
theorem dX5_chosen_16 : decode cX5_chosen 16 = .ok (.invokevirtual 105, 3) := by decide +kernel
theorem dX5_chosen_19 : decode cX5_chosen 19 = .ok (.ifCond .ne 6, 3) := by decide +kernel
theorem dX5_chosen_22 : decode cX5_chosen 22 = .ok (.bipush (-2), 2) := by decide +kernel
theorem dX5_chosen_24 : decode cX5_chosen 24 = .ok (.ireturn, 1) := by decide +kernel
theorem dX5_chosen_25 : decode cX5_chosen 25 = .ok (.aload_n 0, 1) := by decide +kernel
theorem dX5_chosen_26 : decode cX5_chosen 26 = .ok (.getfield 10, 3) := by decide +kernel
theorem dX5_chosen_29 : decode cX5_chosen 29 = .ok (.iload_n 1, 1) := by decide +kernel
theorem dX5_chosen_30 : decode cX5_chosen 30 = .ok (.invokevirtual 63, 3) := by decide +kernel
theorem dX5_chosen_33 : decode cX5_chosen 33 = .ok (.ifCond .ne 33, 3) := by decide +kernel
theorem dX5_chosen_36 : decode cX5_chosen 36 = .ok (.aload_n 0, 1) := by decide +kernel
theorem dX5_chosen_37 : decode cX5_chosen 37 = .ok (.getfield 28, 3) := by decide +kernel
theorem dX5_chosen_40 : decode cX5_chosen 40 = .ok (.iload_n 2, 1) := by decide +kernel
theorem dX5_chosen_41 : decode cX5_chosen 41 = .ok (.invokevirtual 119, 3) := by decide +kernel
theorem dX5_chosen_44 : decode cX5_chosen 44 = .ok (.ifCond .eq 22, 3) := by decide +kernel
theorem dX5_chosen_47 : decode cX5_chosen 47 = .ok (.aload_n 0, 1) := by decide +kernel
theorem dX5_chosen_48 : decode cX5_chosen 48 = .ok (.getfield 10, 3) := by decide +kernel
theorem dX5_chosen_51 : decode cX5_chosen 51 = .ok (.iload_n 1, 1) := by decide +kernel
theorem dX5_chosen_52 : decode cX5_chosen 52 = .ok (.aload_n 0, 1) := by decide +kernel
theorem dX5_chosen_53 : decode cX5_chosen 53 = .ok (.getfield 28, 3) := by decide +kernel
theorem dX5_chosen_56 : decode cX5_chosen 56 = .ok (.iload_n 2, 1) := by decide +kernel
theorem dX5_chosen_57 : decode cX5_chosen 57 = .ok (.invokevirtual 122, 3) := by decide +kernel
theorem dX5_chosen_60 : decode cX5_chosen 60 = .ok (.invokevirtual 125, 3) := by decide +kernel
theorem dX5_chosen_63 : decode cX5_chosen 63 = .ok (.ifCond .ne 6, 3) := by decide +kernel
theorem dX5_chosen_66 : decode cX5_chosen 66 = .ok (.bipush (-3), 2) := by decide +kernel
theorem dX5_chosen_68 : decode cX5_chosen 68 = .ok (.ireturn, 1) := by decide +kernel
theorem dX5_chosen_69 : decode cX5_chosen 69 = .ok (.aload_n 0, 1) := by decide +kernel
theorem dX5_chosen_70 : decode cX5_chosen 70 = .ok (.getfield 37, 3) := by decide +kernel
theorem dX5_chosen_73 : decode cX5_chosen 73 = .ok (.iload_n 1, 1) := by decide +kernel
theorem dX5_chosen_74 : decode cX5_chosen 74 = .ok (.iload_n 2, 1) := by decide +kernel
theorem dX5_chosen_75 : decode cX5_chosen 75 = .ok (.invokevirtual 128, 3) := by decide +kernel
theorem dX5_chosen_78 : decode cX5_chosen 78 = .ok (.ireturn, 1) := by decide +kernel
theorem dX5_sub_0 : decode cX5_sub 0 = .ok (.aload_n 0, 1) := by decide +kernel
theorem dX5_sub_1 : decode cX5_sub 1 = .ok (.getfield 10, 3) := by decide +kernel
theorem dX5_sub_4 : decode cX5_sub 4 = .ok (.iload_n 1, 1) := by decide +kernel
theorem dX5_sub_5 : decode cX5_sub 5 = .ok (.invokevirtual 59, 3) := by decide +kernel
theorem dX5_sub_8 : decode cX5_sub 8 = .ok (.ifCond .eq 14, 3) := by decide +kernel
theorem dX5_sub_11 : decode cX5_sub 11 = .ok (.aload_n 0, 1) := by decide +kernel
theorem dX5_sub_12 : decode cX5_sub 12 = .ok (.getfield 10, 3) := by decide +kernel
theorem dX5_sub_15 : decode cX5_sub 15 = .ok (.iload_n 2, 1) := by decide +kernel
theorem dX5_sub_16 : decode cX5_sub 16 = .ok (.invokevirtual 59, 3) := by decide +kernel
theorem dX5_sub_19 : decode cX5_sub 19 = .ok (.ifCond .ne 6, 3) := by decide +kernel
theorem dX5_sub_22 : decode cX5_sub 22 = .ok (.bipush (-2), 2) := by decide +kernel
theorem dX5_sub_24 : decode cX5_sub 24 = .ok (.ireturn, 1) := by decide +kernel
theorem dX5_sub_25 : decode cX5_sub 25 = .ok (.aload_n 0, 1) := by decide +kernel
theorem dX5_sub_26 : decode cX5_sub 26 = .ok (.getfield 10, 3) := by decide +kernel
theorem dX5_sub_29 : decode cX5_sub 29 = .ok (.iload_n 1, 1) := by decide +kernel
theorem dX5_sub_30 : decode cX5_sub 30 = .ok (.iload_n 2, 1) := by decide +kernel
theorem dX5_sub_31 : decode cX5_sub 31 = .ok (.invokevirtual 125, 3) := by decide +kernel
theorem dX5_sub_34 : decode cX5_sub 34 = .ok (.invokestatic 109, 3) := by decide +kernel
theorem dX5_sub_37 : decode cX5_sub 37 = .ok (.ireturn, 1) := by decide +kernel
theorem dX5_check_0 : decode cX5_check 0 = .ok (.aload_n 0, 1) := by decide +kernel
theorem dX5_check_1 : decode cX5_check 1 = .ok (.getfield 10, 3) := by decide +kernel
theorem dX5_check_4 : decode cX5_check 4 = .ok (.iload_n 1, 1) := by decide +kernel
theorem dX5_check_5 : decode cX5_check 5 = .ok (.invokevirtual 59, 3) := by decide +kernel
theorem dX5_check_8 : decode cX5_check 8 = .ok (.ifCond .ne 6, 3) := by decide +kernel
theorem dX5_check_11 : decode cX5_check 11 = .ok (.bipush (-2), 2) := by decide +kernel
theorem dX5_check_13 : decode cX5_check 13 = .ok (.ireturn, 1) := by decide +kernel
theorem dX5_check_14 : decode cX5_check 14 = .ok (.aload_n 0, 1) := by decide +kernel
theorem dX5_check_15 : decode cX5_check 15 = .ok (.getfield 46, 3) := by decide +kernel
theorem dX5_check_18 : decode cX5_check 18 = .ok (.iload_n 1, 1) := by decide +kernel
theorem dX5_check_19 : decode cX5_check 19 = .ok (.iconst (-1), 1) := by decide +kernel
theorem dX5_check_20 : decode cX5_check 20 = .ok (.invokevirtual 131, 3) := by decide +kernel
theorem dX5_check_23 : decode cX5_check 23 = .ok (.ireturn, 1) := by decide +kernel
theorem dX5_fault_0 : decode cX5_fault 0 = .ok (.aload_n 0, 1) := by decide +kernel
theorem dX5_fault_1 : decode cX5_fault 1 = .ok (.getfield 10, 3) := by decide +kernel
theorem dX5_fault_4 : decode cX5_fault 4 = .ok (.iload_n 1, 1) := by decide +kernel
theorem dX5_fault_5 : decode cX5_fault 5 = .ok (.invokevirtual 59, 3) := by decide +kernel
theorem dX5_fault_8 : decode cX5_fault 8 = .ok (.ifCond .ne 6, 3) := by decide +kernel
theorem dX5_fault_11 : decode cX5_fault 11 = .ok (.bipush (-2), 2) := by decide +kernel
theorem dX5_fault_13 : decode cX5_fault 13 = .ok (.ireturn, 1) := by decide +kernel
theorem dX5_fault_14 : decode cX5_fault 14 = .ok (.iload_n 3, 1) := by decide +kernel
theorem dX5_fault_15 : decode cX5_fault 15 = .ok (.ifCond .lt 8, 3) := by decide +kernel
theorem dX5_fault_18 : decode cX5_fault 18 = .ok (.iload_n 3, 1) := by decide +kernel
theorem dX5_fault_19 : decode cX5_fault 19 = .ok (.iconst 2, 1) := by decide +kernel
theorem dX5_fault_20 : decode cX5_fault 20 = .ok (.if_icmp .le 6, 3) := by decide +kernel
theorem dX5_fault_23 : decode cX5_fault 23 = .ok (.bipush (-3), 2) := by decide +kernel
theorem dX5_fault_25 : decode cX5_fault 25 = .ok (.ireturn, 1) := by decide +kernel
theorem dX5_fault_26 : decode cX5_fault 26 = .ok (.aload_n 0, 1) := by decide +kernel
theorem dX5_fault_27 : decode cX5_fault 27 = .ok (.getfield 46, 3) := by decide +kernel
theorem dX5_fault_30 : decode cX5_fault 30 = .ok (.iload_n 1, 1) := by decide +kernel
theorem dX5_fault_31 : decode cX5_fault 31 = .ok (.iload_n 2, 1) := by decide +kernel
theorem dX5_fault_32 : decode cX5_fault 32 = .ok (.invokevirtual 131, 3) := by decide +kernel
theorem dX5_fault_35 : decode cX5_fault 35 = .ok (.pop, 1) := by decide +kernel
theorem dX5_fault_36 : decode cX5_fault 36 = .ok (.aload_n 0, 1) := by decide +kernel
theorem dX5_fault_37 : decode cX5_fault 37 = .ok (.getfield 46, 3) := by decide +kernel
theorem dX5_fault_40 : decode cX5_fault 40 = .ok (.iload_n 3, 1) := by decide +kernel
theorem dX5_fault_41 : decode cX5_fault 41 = .ok (.invokevirtual 134, 3) := by decide +kernel
theorem dX5_fault_44 : decode cX5_fault 44 = .ok (.ireturn, 1) := by decide +kernel
theorem dX5_bridges_0 : decode cX5_bridges 0 = .ok (.aload_n 0, 1) := by decide +kernel
theorem dX5_bridges_1 : decode cX5_bridges 1 = .ok (.getfield 10, 3) := by decide +kernel
theorem dX5_bridges_4 : decode cX5_bridges 4 = .ok (.iload_n 1, 1) := by decide +kernel
theorem dX5_bridges_5 : decode cX5_bridges 5 = .ok (.invokevirtual 59, 3) := by decide +kernel
theorem dX5_bridges_8 : decode cX5_bridges 8 = .ok (.ifCond .ne 6, 3) := by decide +kernel
theorem dX5_bridges_11 : decode cX5_bridges 11 = .ok (.bipush (-2), 2) := by decide +kernel
theorem dX5_bridges_13 : decode cX5_bridges 13 = .ok (.ireturn, 1) := by decide +kernel
theorem dX5_bridges_14 : decode cX5_bridges 14 = .ok (.iconst 0, 1) := by decide +kernel
theorem dX5_bridges_15 : decode cX5_bridges 15 = .ok (.istore_n 2, 1) := by decide +kernel
theorem dX5_bridges_16 : decode cX5_bridges 16 = .ok (.iconst 0, 1) := by decide +kernel
theorem dX5_bridges_17 : decode cX5_bridges 17 = .ok (.istore_n 3, 1) := by decide +kernel
theorem dX5_bridges_18 : decode cX5_bridges 18 = .ok (.iload_n 3, 1) := by decide +kernel
theorem dX5_bridges_19 : decode cX5_bridges 19 = .ok (.aload_n 0, 1) := by decide +kernel
theorem dX5_bridges_20 : decode cX5_bridges 20 = .ok (.getfield 28, 3) := by decide +kernel
theorem dX5_bridges_23 : decode cX5_bridges 23 = .ok (.invokevirtual 50, 3) := by decide +kernel
theorem dX5_bridges_26 : decode cX5_bridges 26 = .ok (.if_icmp .ge 45, 3) := by decide +kernel
theorem dX5_bridges_29 : decode cX5_bridges 29 = .ok (.aload_n 0, 1) := by decide +kernel
theorem dX5_bridges_30 : decode cX5_bridges 30 = .ok (.getfield 28, 3) := by decide +kernel
theorem dX5_bridges_33 : decode cX5_bridges 33 = .ok (.iload_n 3, 1) := by decide +kernel
theorem dX5_bridges_34 : decode cX5_bridges 34 = .ok (.invokevirtual 122, 3) := by decide +kernel
theorem dX5_bridges_37 : decode cX5_bridges 37 = .ok (.iload_n 1, 1) := by decide +kernel
theorem dX5_bridges_38 : decode cX5_bridges 38 = .ok (.if_icmp .ne 27, 3) := by decide +kernel
theorem dX5_bridges_41 : decode cX5_bridges 41 = .ok (.aload_n 0, 1) := by decide +kernel
theorem dX5_bridges_42 : decode cX5_bridges 42 = .ok (.getfield 28, 3) := by decide +kernel
theorem dX5_bridges_45 : decode cX5_bridges 45 = .ok (.iload_n 3, 1) := by decide +kernel
theorem dX5_bridges_46 : decode cX5_bridges 46 = .ok (.bipush 40, 2) := by decide +kernel
theorem dX5_bridges_48 : decode cX5_bridges 48 = .ok (.invokevirtual 137, 3) := by decide +kernel
theorem dX5_bridges_51 : decode cX5_bridges 51 = .ok (.ifCond .ne 14, 3) := by decide +kernel
theorem dX5_bridges_54 : decode cX5_bridges 54 = .ok (.iload_n 2, 1) := by decide +kernel
theorem dX5_bridges_55 : decode cX5_bridges 55 = .ok (.aload_n 0, 1) := by decide +kernel
theorem dX5_bridges_56 : decode cX5_bridges 56 = .ok (.getfield 28, 3) := by decide +kernel
theorem dX5_bridges_59 : decode cX5_bridges 59 = .ok (.iload_n 3, 1) := by decide +kernel
theorem dX5_bridges_60 : decode cX5_bridges 60 = .ok (.invokevirtual 140, 3) := by decide +kernel
theorem dX5_bridges_63 : decode cX5_bridges 63 = .ok (.iadd, 1) := by decide +kernel
theorem dX5_bridges_64 : decode cX5_bridges 64 = .ok (.istore_n 2, 1) := by decide +kernel
theorem dX5_bridges_65 : decode cX5_bridges 65 = .ok (.iinc 3 1, 3) := by decide +kernel
theorem dX5_bridges_68 : decode cX5_bridges 68 = .ok (.goto (-50), 3) := by decide +kernel
theorem dX5_bridges_71 : decode cX5_bridges 71 = .ok (.iload_n 2, 1) := by decide +kernel
theorem dX5_bridges_72 : decode cX5_bridges 72 = .ok (.ireturn, 1) := by decide +kernel
theorem dX5_first_0 : decode cX5_first 0 = .ok (.aload_n 0, 1) := by decide +kernel
theorem dX5_first_1 : decode cX5_first 1 = .ok (.getfield 10, 3) := by decide +kernel
theorem dX5_first_4 : decode cX5_first 4 = .ok (.iload_n 1, 1) := by decide +kernel
theorem dX5_first_5 : decode cX5_first 5 = .ok (.invokevirtual 59, 3) := by decide +kernel
theorem dX5_first_8 : decode cX5_first 8 = .ok (.ifCond .ne 6, 3) := by decide +kernel
theorem dX5_first_11 : decode cX5_first 11 = .ok (.bipush (-2), 2) := by decide +kernel
theorem dX5_first_13 : decode cX5_first 13 = .ok (.ireturn, 1) := by decide +kernel
theorem dX5_first_14 : decode cX5_first 14 = .ok (.iconst (-1), 1) := by decide +kernel
theorem dX5_first_15 : decode cX5_first 15 = .ok (.istore_n 2, 1) := by decide +kernel
theorem dX5_first_16 : decode cX5_first 16 = .ok (.iconst (-1), 1) := by decide +kernel
theorem dX5_first_17 : decode cX5_first 17 = .ok (.istore_n 3, 1) := by decide +kernel
theorem dX5_first_18 : decode cX5_first 18 = .ok (.iconst 0, 1) := by decide +kernel
theorem dX5_first_19 : decode cX5_first 19 = .ok (.istore 4, 2) := by decide +kernel
theorem dX5_first_21 : decode cX5_first 21 = .ok (.iload 4, 2) := by decide +kernel
theorem dX5_first_23 : decode cX5_first 23 = .ok (.aload_n 0, 1) := by decide +kernel
theorem dX5_first_24 : decode cX5_first 24 = .ok (.getfield 28, 3) := by decide +kernel
theorem dX5_first_27 : decode cX5_first 27 = .ok (.invokevirtual 50, 3) := by decide +kernel
theorem dX5_first_30 : decode cX5_first 30 = .ok (.if_icmp .ge 49, 3) := by decide +kernel
theorem dX5_first_33 : decode cX5_first 33 = .ok (.aload_n 0, 1) := by decide +kernel
theorem dX5_first_34 : decode cX5_first 34 = .ok (.getfield 28, 3) := by decide +kernel
theorem dX5_first_37 : decode cX5_first 37 = .ok (.iload 4, 2) := by decide +kernel
theorem dX5_first_39 : decode cX5_first 39 = .ok (.invokevirtual 122, 3) := by decide +kernel
theorem dX5_first_42 : decode cX5_first 42 = .ok (.iload_n 1, 1) := by decide +kernel
theorem dX5_first_43 : decode cX5_first 43 = .ok (.if_icmp .ne 15, 3) := by decide +kernel
theorem dX5_first_46 : decode cX5_first 46 = .ok (.aload_n 0, 1) := by decide +kernel
theorem dX5_first_47 : decode cX5_first 47 = .ok (.getfield 28, 3) := by decide +kernel
theorem dX5_first_50 : decode cX5_first 50 = .ok (.iload 4, 2) := by decide +kernel
theorem dX5_first_52 : decode cX5_first 52 = .ok (.invokevirtual 143, 3) := by decide +kernel
theorem dX5_first_55 : decode cX5_first 55 = .ok (.goto 4, 3) := by decide +kernel
theorem dX5_first_58 : decode cX5_first 58 = .ok (.iconst (-1), 1) := by decide +kernel
theorem dX5_first_59 : decode cX5_first 59 = .ok (.istore 5, 2) := by decide +kernel
theorem dX5_first_61 : decode cX5_first 61 = .ok (.iload 5, 2) := by decide +kernel
theorem dX5_first_63 : decode cX5_first 63 = .ok (.iload_n 3, 1) := by decide +kernel
theorem dX5_first_64 : decode cX5_first 64 = .ok (.if_icmp .le 9, 3) := by decide +kernel
theorem dX5_first_67 : decode cX5_first 67 = .ok (.iload 4, 2) := by decide +kernel
theorem dX5_first_69 : decode cX5_first 69 = .ok (.istore_n 2, 1) := by decide +kernel
theorem dX5_first_70 : decode cX5_first 70 = .ok (.iload 5, 2) := by decide +kernel
theorem dX5_first_72 : decode cX5_first 72 = .ok (.istore_n 3, 1) := by decide +kernel
theorem dX5_first_73 : decode cX5_first 73 = .ok (.iinc 4 1, 3) := by decide +kernel
theorem dX5_first_76 : decode cX5_first 76 = .ok (.goto (-55), 3) := by decide +kernel
theorem dX5_first_79 : decode cX5_first 79 = .ok (.iload_n 2, 1) := by decide +kernel
theorem dX5_first_80 : decode cX5_first 80 = .ok (.ireturn, 1) := by decide +kernel
theorem dX5_told_0 : decode cX5_told 0 = .ok (.iload_n 1, 1) := by decide +kernel
theorem dX5_told_1 : decode cX5_told 1 = .ok (.tableswitch 90 0 3 #[31, 39, 47, 55], 31) := by decide +kernel
theorem dX5_told_32 : decode cX5_told 32 = .ok (.aload_n 0, 1) := by decide +kernel
theorem dX5_told_33 : decode cX5_told 33 = .ok (.getfield 10, 3) := by decide +kernel
theorem dX5_told_36 : decode cX5_told 36 = .ok (.invokevirtual 146, 3) := by decide +kernel
theorem dX5_told_39 : decode cX5_told 39 = .ok (.ireturn, 1) := by decide +kernel
theorem dX5_told_40 : decode cX5_told 40 = .ok (.aload_n 0, 1) := by decide +kernel
theorem dX5_told_41 : decode cX5_told 41 = .ok (.getfield 19, 3) := by decide +kernel
theorem dX5_told_44 : decode cX5_told 44 = .ok (.invokevirtual 147, 3) := by decide +kernel
theorem dX5_told_47 : decode cX5_told 47 = .ok (.ireturn, 1) := by decide +kernel
theorem dX5_told_48 : decode cX5_told 48 = .ok (.aload_n 0, 1) := by decide +kernel
theorem dX5_told_49 : decode cX5_told 49 = .ok (.getfield 28, 3) := by decide +kernel
theorem dX5_told_52 : decode cX5_told 52 = .ok (.invokevirtual 50, 3) := by decide +kernel
theorem dX5_told_55 : decode cX5_told 55 = .ok (.ireturn, 1) := by decide +kernel
theorem dX5_told_56 : decode cX5_told 56 = .ok (.iconst 0, 1) := by decide +kernel
theorem dX5_told_57 : decode cX5_told 57 = .ok (.istore_n 2, 1) := by decide +kernel
theorem dX5_told_58 : decode cX5_told 58 = .ok (.iconst 0, 1) := by decide +kernel
theorem dX5_told_59 : decode cX5_told 59 = .ok (.istore_n 3, 1) := by decide +kernel
theorem dX5_told_60 : decode cX5_told 60 = .ok (.iload_n 3, 1) := by decide +kernel
theorem dX5_told_61 : decode cX5_told 61 = .ok (.aload_n 0, 1) := by decide +kernel
theorem dX5_told_62 : decode cX5_told 62 = .ok (.getfield 10, 3) := by decide +kernel
theorem dX5_told_65 : decode cX5_told 65 = .ok (.invokevirtual 146, 3) := by decide +kernel
theorem dX5_told_68 : decode cX5_told 68 = .ok (.if_icmp .ge 21, 3) := by decide +kernel
theorem dX5_told_71 : decode cX5_told 71 = .ok (.iload_n 2, 1) := by decide +kernel
theorem dX5_told_72 : decode cX5_told 72 = .ok (.aload_n 0, 1) := by decide +kernel
theorem dX5_told_73 : decode cX5_told 73 = .ok (.getfield 46, 3) := by decide +kernel
theorem dX5_told_76 : decode cX5_told 76 = .ok (.iload_n 3, 1) := by decide +kernel
theorem dX5_told_77 : decode cX5_told 77 = .ok (.iconst (-1), 1) := by decide +kernel
theorem dX5_told_78 : decode cX5_told 78 = .ok (.invokevirtual 131, 3) := by decide +kernel
theorem dX5_told_81 : decode cX5_told 81 = .ok (.iadd, 1) := by decide +kernel
theorem dX5_told_82 : decode cX5_told 82 = .ok (.istore_n 2, 1) := by decide +kernel
theorem dX5_told_83 : decode cX5_told 83 = .ok (.iinc 3 1, 3) := by decide +kernel
theorem dX5_told_86 : decode cX5_told 86 = .ok (.goto (-26), 3) := by decide +kernel
theorem dX5_told_89 : decode cX5_told 89 = .ok (.iload_n 2, 1) := by decide +kernel
theorem dX5_told_90 : decode cX5_told 90 = .ok (.ireturn, 1) := by decide +kernel
theorem dX5_told_91 : decode cX5_told 91 = .ok (.bipush (-3), 2) := by decide +kernel
theorem dX5_told_93 : decode cX5_told 93 = .ok (.ireturn, 1) := by decide +kernel
theorem dX5_isMissingType_0 : decode cX5_isMissingType 0 = .ok (.iload_n 1, 1) := by decide +kernel
theorem dX5_isMissingType_1 : decode cX5_isMissingType 1 = .ok (.ifCond .lt 24, 3) := by decide +kernel
theorem dX5_isMissingType_4 : decode cX5_isMissingType 4 = .ok (.iload_n 1, 1) := by decide +kernel
theorem dX5_isMissingType_5 : decode cX5_isMissingType 5 = .ok (.bipush 16, 2) := by decide +kernel
theorem dX5_isMissingType_7 : decode cX5_isMissingType 7 = .ok (.if_icmp .ge 18, 3) := by decide +kernel
theorem dX5_isMissingType_10 : decode cX5_isMissingType 10 = .ok (.aload_n 0, 1) := by decide +kernel
theorem dX5_isMissingType_11 : decode cX5_isMissingType 11 = .ok (.getfield 10, 3) := by decide +kernel
theorem dX5_isMissingType_14 : decode cX5_isMissingType 14 = .ok (.iload_n 1, 1) := by decide +kernel
theorem dX5_isMissingType_15 : decode cX5_isMissingType 15 = .ok (.invokevirtual 59, 3) := by decide +kernel
theorem dX5_isMissingType_18 : decode cX5_isMissingType 18 = .ok (.ifCond .ne 7, 3) := by decide +kernel
theorem dX5_isMissingType_21 : decode cX5_isMissingType 21 = .ok (.iconst 1, 1) := by decide +kernel
theorem dX5_isMissingType_22 : decode cX5_isMissingType 22 = .ok (.goto 4, 3) := by decide +kernel
theorem dX5_isMissingType_25 : decode cX5_isMissingType 25 = .ok (.iconst 0, 1) := by decide +kernel
theorem dX5_isMissingType_26 : decode cX5_isMissingType 26 = .ok (.ireturn, 1) := by decide +kernel
theorem dX5_areMarks_0 : decode cX5_areMarks 0 = .ok (.iload_n 1, 1) := by decide +kernel
theorem dX5_areMarks_1 : decode cX5_areMarks 1 = .ok (.ifCond .lt 10, 3) := by decide +kernel
theorem dX5_areMarks_4 : decode cX5_areMarks 4 = .ok (.iload_n 1, 1) := by decide +kernel
theorem dX5_areMarks_5 : decode cX5_areMarks 5 = .ok (.sipush 255, 3) := by decide +kernel
theorem dX5_areMarks_8 : decode cX5_areMarks 8 = .ok (.if_icmp .le 5, 3) := by decide +kernel
theorem dX5_areMarks_11 : decode cX5_areMarks 11 = .ok (.iconst 0, 1) := by decide +kernel
theorem dX5_areMarks_12 : decode cX5_areMarks 12 = .ok (.ireturn, 1) := by decide +kernel
theorem dX5_areMarks_13 : decode cX5_areMarks 13 = .ok (.iload_n 1, 1) := by decide +kernel
theorem dX5_areMarks_14 : decode cX5_areMarks 14 = .ok (.bipush 7, 2) := by decide +kernel
theorem dX5_areMarks_16 : decode cX5_areMarks 16 = .ok (.iand, 1) := by decide +kernel
theorem dX5_areMarks_17 : decode cX5_areMarks 17 = .ok (.invokestatic 148, 3) := by decide +kernel
theorem dX5_areMarks_20 : decode cX5_areMarks 20 = .ok (.iconst 1, 1) := by decide +kernel
theorem dX5_areMarks_21 : decode cX5_areMarks 21 = .ok (.if_icmp .le 5, 3) := by decide +kernel
theorem dX5_areMarks_24 : decode cX5_areMarks 24 = .ok (.iconst 0, 1) := by decide +kernel
theorem dX5_areMarks_25 : decode cX5_areMarks 25 = .ok (.ireturn, 1) := by decide +kernel
theorem dX5_areMarks_26 : decode cX5_areMarks 26 = .ok (.iload_n 0, 1) := by decide +kernel
theorem dX5_areMarks_27 : decode cX5_areMarks 27 = .ok (.ifCond .eq 10, 3) := by decide +kernel
theorem dX5_areMarks_30 : decode cX5_areMarks 30 = .ok (.iload_n 1, 1) := by decide +kernel
theorem dX5_areMarks_31 : decode cX5_areMarks 31 = .ok (.invokestatic 153, 3) := by decide +kernel
theorem dX5_areMarks_34 : decode cX5_areMarks 34 = .ok (.goto 7, 3) := by decide +kernel
theorem dX5_areMarks_37 : decode cX5_areMarks 37 = .ok (.iload_n 1, 1) := by decide +kernel
theorem dX5_areMarks_38 : decode cX5_areMarks 38 = .ok (.invokestatic 156, 3) := by decide +kernel
theorem dX5_areMarks_41 : decode cX5_areMarks 41 = .ok (.ireturn, 1) := by decide +kernel
theorem dX5_areClassMarks_0 : decode cX5_areClassMarks 0 = .ok (.iload_n 0, 1) := by decide +kernel
theorem dX5_areClassMarks_1 : decode cX5_areClassMarks 1 = .ok (.bipush 64, 2) := by decide +kernel
theorem dX5_areClassMarks_3 : decode cX5_areClassMarks 3 = .ok (.iand, 1) := by decide +kernel
theorem dX5_areClassMarks_4 : decode cX5_areClassMarks 4 = .ok (.ifCond .eq 5, 3) := by decide +kernel
theorem dX5_areClassMarks_7 : decode cX5_areClassMarks 7 = .ok (.iconst 0, 1) := by decide +kernel
theorem dX5_areClassMarks_8 : decode cX5_areClassMarks 8 = .ok (.ireturn, 1) := by decide +kernel
theorem dX5_areClassMarks_9 : decode cX5_areClassMarks 9 = .ok (.iload_n 0, 1) := by decide +kernel
theorem dX5_areClassMarks_10 : decode cX5_areClassMarks 10 = .ok (.bipush 32, 2) := by decide +kernel
theorem dX5_areClassMarks_12 : decode cX5_areClassMarks 12 = .ok (.iand, 1) := by decide +kernel
theorem dX5_areClassMarks_13 : decode cX5_areClassMarks 13 = .ok (.ifCond .eq 10, 3) := by decide +kernel
theorem dX5_areClassMarks_16 : decode cX5_areClassMarks 16 = .ok (.iload_n 0, 1) := by decide +kernel
theorem dX5_areClassMarks_17 : decode cX5_areClassMarks 17 = .ok (.bipush 28, 2) := by decide +kernel
theorem dX5_areClassMarks_19 : decode cX5_areClassMarks 19 = .ok (.iand, 1) := by decide +kernel
theorem dX5_areClassMarks_20 : decode cX5_areClassMarks 20 = .ok (.ifCond .ne 7, 3) := by decide +kernel
theorem dX5_areClassMarks_23 : decode cX5_areClassMarks 23 = .ok (.iconst 1, 1) := by decide +kernel
theorem dX5_areClassMarks_24 : decode cX5_areClassMarks 24 = .ok (.goto 4, 3) := by decide +kernel
theorem dX5_areClassMarks_27 : decode cX5_areClassMarks 27 = .ok (.iconst 0, 1) := by decide +kernel
theorem dX5_areClassMarks_28 : decode cX5_areClassMarks 28 = .ok (.ireturn, 1) := by decide +kernel
theorem dX5_areInterfaceMarks_0 : decode cX5_areInterfaceMarks 0 = .ok (.iload_n 0, 1) := by decide +kernel
theorem dX5_areInterfaceMarks_1 : decode cX5_areInterfaceMarks 1 = .ok (.bipush 18, 2) := by decide +kernel
theorem dX5_areInterfaceMarks_3 : decode cX5_areInterfaceMarks 3 = .ok (.iand, 1) := by decide +kernel
theorem dX5_areInterfaceMarks_4 : decode cX5_areInterfaceMarks 4 = .ok (.ifCond .eq 5, 3) := by decide +kernel
theorem dX5_areInterfaceMarks_7 : decode cX5_areInterfaceMarks 7 = .ok (.iconst 0, 1) := by decide +kernel
theorem dX5_areInterfaceMarks_8 : decode cX5_areInterfaceMarks 8 = .ok (.ireturn, 1) := by decide +kernel
theorem dX5_areInterfaceMarks_9 : decode cX5_areInterfaceMarks 9 = .ok (.iload_n 0, 1) := by decide +kernel
theorem dX5_areInterfaceMarks_10 : decode cX5_areInterfaceMarks 10 = .ok (.bipush 108, 2) := by decide +kernel
theorem dX5_areInterfaceMarks_12 : decode cX5_areInterfaceMarks 12 = .ok (.iand, 1) := by decide +kernel
theorem dX5_areInterfaceMarks_13 : decode cX5_areInterfaceMarks 13 = .ok (.istore_n 1, 1) := by decide +kernel
theorem dX5_areInterfaceMarks_14 : decode cX5_areInterfaceMarks 14 = .ok (.iload_n 1, 1) := by decide +kernel
theorem dX5_areInterfaceMarks_15 : decode cX5_areInterfaceMarks 15 = .ok (.invokestatic 148, 3) := by decide +kernel
theorem dX5_areInterfaceMarks_18 : decode cX5_areInterfaceMarks 18 = .ok (.iconst 1, 1) := by decide +kernel
theorem dX5_areInterfaceMarks_19 : decode cX5_areInterfaceMarks 19 = .ok (.if_icmp .eq 9, 3) := by decide +kernel
theorem dX5_areInterfaceMarks_22 : decode cX5_areInterfaceMarks 22 = .ok (.iload_n 1, 1) := by decide +kernel
theorem dX5_areInterfaceMarks_23 : decode cX5_areInterfaceMarks 23 = .ok (.bipush 12, 2) := by decide +kernel
theorem dX5_areInterfaceMarks_25 : decode cX5_areInterfaceMarks 25 = .ok (.if_icmp .ne 7, 3) := by decide +kernel
theorem dX5_areInterfaceMarks_28 : decode cX5_areInterfaceMarks 28 = .ok (.iconst 1, 1) := by decide +kernel
theorem dX5_areInterfaceMarks_29 : decode cX5_areInterfaceMarks 29 = .ok (.goto 4, 3) := by decide +kernel
theorem dX5_areInterfaceMarks_32 : decode cX5_areInterfaceMarks 32 = .ok (.iconst 0, 1) := by decide +kernel
theorem dX5_areInterfaceMarks_33 : decode cX5_areInterfaceMarks 33 = .ok (.ireturn, 1) := by decide +kernel
theorem dX5_oneIf_0 : decode cX5_oneIf 0 = .ok (.iload_n 0, 1) := by decide +kernel
theorem dX5_oneIf_1 : decode cX5_oneIf 1 = .ok (.ifCond .eq 7, 3) := by decide +kernel
theorem dX5_oneIf_4 : decode cX5_oneIf 4 = .ok (.iconst 1, 1) := by decide +kernel
theorem dX5_oneIf_5 : decode cX5_oneIf 5 = .ok (.goto 4, 3) := by decide +kernel
theorem dX5_oneIf_8 : decode cX5_oneIf 8 = .ok (.iconst 0, 1) := by decide +kernel
theorem dX5_oneIf_9 : decode cX5_oneIf 9 = .ok (.ireturn, 1) := by decide +kernel
theorem dX5_hasBit_0 : decode cX5_hasBit 0 = .ok (.iload_n 0, 1) := by decide +kernel
theorem dX5_hasBit_1 : decode cX5_hasBit 1 = .ok (.iload_n 1, 1) := by decide +kernel
theorem dX5_hasBit_2 : decode cX5_hasBit 2 = .ok (.ishr, 1) := by decide +kernel
theorem dX5_hasBit_3 : decode cX5_hasBit 3 = .ok (.iconst 1, 1) := by decide +kernel
theorem dX5_hasBit_4 : decode cX5_hasBit 4 = .ok (.iand, 1) := by decide +kernel
theorem dX5_hasBit_5 : decode cX5_hasBit 5 = .ok (.ifCond .eq 7, 3) := by decide +kernel
theorem dX5_hasBit_8 : decode cX5_hasBit 8 = .ok (.iconst 1, 1) := by decide +kernel
theorem dX5_hasBit_9 : decode cX5_hasBit 9 = .ok (.goto 4, 3) := by decide +kernel
theorem dX5_hasBit_12 : decode cX5_hasBit 12 = .ok (.iconst 0, 1) := by decide +kernel
theorem dX5_hasBit_13 : decode cX5_hasBit 13 = .ok (.ireturn, 1) := by decide +kernel
theorem dJ6_bitCount_0f7a4_0 : decode cJ6_bitCount_0f7a4 0 = .ok (.iload_n 0, 1) := by decide +kernel
theorem dJ6_bitCount_0f7a4_1 : decode cJ6_bitCount_0f7a4 1 = .ok (.iload_n 0, 1) := by decide +kernel
theorem dJ6_bitCount_0f7a4_2 : decode cJ6_bitCount_0f7a4 2 = .ok (.iconst 1, 1) := by decide +kernel
theorem dJ6_bitCount_0f7a4_3 : decode cJ6_bitCount_0f7a4 3 = .ok (.iushr, 1) := by decide +kernel
theorem dJ6_bitCount_0f7a4_4 : decode cJ6_bitCount_0f7a4 4 = .ok (.ldc_w 265, 3) := by decide +kernel
theorem dJ6_bitCount_0f7a4_7 : decode cJ6_bitCount_0f7a4 7 = .ok (.iand, 1) := by decide +kernel
theorem dJ6_bitCount_0f7a4_8 : decode cJ6_bitCount_0f7a4 8 = .ok (.isub, 1) := by decide +kernel
theorem dJ6_bitCount_0f7a4_9 : decode cJ6_bitCount_0f7a4 9 = .ok (.istore_n 0, 1) := by decide +kernel
theorem dJ6_bitCount_0f7a4_10 : decode cJ6_bitCount_0f7a4 10 = .ok (.iload_n 0, 1) := by decide +kernel
theorem dJ6_bitCount_0f7a4_11 : decode cJ6_bitCount_0f7a4 11 = .ok (.ldc_w 266, 3) := by decide +kernel
theorem dJ6_bitCount_0f7a4_14 : decode cJ6_bitCount_0f7a4 14 = .ok (.iand, 1) := by decide +kernel
theorem dJ6_bitCount_0f7a4_15 : decode cJ6_bitCount_0f7a4 15 = .ok (.iload_n 0, 1) := by decide +kernel
theorem dJ6_bitCount_0f7a4_16 : decode cJ6_bitCount_0f7a4 16 = .ok (.iconst 2, 1) := by decide +kernel
theorem dJ6_bitCount_0f7a4_17 : decode cJ6_bitCount_0f7a4 17 = .ok (.iushr, 1) := by decide +kernel
theorem dJ6_bitCount_0f7a4_18 : decode cJ6_bitCount_0f7a4 18 = .ok (.ldc_w 266, 3) := by decide +kernel
theorem dJ6_bitCount_0f7a4_21 : decode cJ6_bitCount_0f7a4 21 = .ok (.iand, 1) := by decide +kernel
theorem dJ6_bitCount_0f7a4_22 : decode cJ6_bitCount_0f7a4 22 = .ok (.iadd, 1) := by decide +kernel
theorem dJ6_bitCount_0f7a4_23 : decode cJ6_bitCount_0f7a4 23 = .ok (.istore_n 0, 1) := by decide +kernel
theorem dJ6_bitCount_0f7a4_24 : decode cJ6_bitCount_0f7a4 24 = .ok (.iload_n 0, 1) := by decide +kernel
theorem dJ6_bitCount_0f7a4_25 : decode cJ6_bitCount_0f7a4 25 = .ok (.iload_n 0, 1) := by decide +kernel
theorem dJ6_bitCount_0f7a4_26 : decode cJ6_bitCount_0f7a4 26 = .ok (.iconst 4, 1) := by decide +kernel
theorem dJ6_bitCount_0f7a4_27 : decode cJ6_bitCount_0f7a4 27 = .ok (.iushr, 1) := by decide +kernel
theorem dJ6_bitCount_0f7a4_28 : decode cJ6_bitCount_0f7a4 28 = .ok (.iadd, 1) := by decide +kernel
theorem dJ6_bitCount_0f7a4_29 : decode cJ6_bitCount_0f7a4 29 = .ok (.ldc_w 267, 3) := by decide +kernel
theorem dJ6_bitCount_0f7a4_32 : decode cJ6_bitCount_0f7a4 32 = .ok (.iand, 1) := by decide +kernel
theorem dJ6_bitCount_0f7a4_33 : decode cJ6_bitCount_0f7a4 33 = .ok (.istore_n 0, 1) := by decide +kernel
theorem dJ6_bitCount_0f7a4_34 : decode cJ6_bitCount_0f7a4 34 = .ok (.iload_n 0, 1) := by decide +kernel
theorem dJ6_bitCount_0f7a4_35 : decode cJ6_bitCount_0f7a4 35 = .ok (.iload_n 0, 1) := by decide +kernel
theorem dJ6_bitCount_0f7a4_36 : decode cJ6_bitCount_0f7a4 36 = .ok (.bipush 8, 2) := by decide +kernel
theorem dJ6_bitCount_0f7a4_38 : decode cJ6_bitCount_0f7a4 38 = .ok (.iushr, 1) := by decide +kernel
theorem dJ6_bitCount_0f7a4_39 : decode cJ6_bitCount_0f7a4 39 = .ok (.iadd, 1) := by decide +kernel
theorem dJ6_bitCount_0f7a4_40 : decode cJ6_bitCount_0f7a4 40 = .ok (.istore_n 0, 1) := by decide +kernel
theorem dJ6_bitCount_0f7a4_41 : decode cJ6_bitCount_0f7a4 41 = .ok (.iload_n 0, 1) := by decide +kernel
theorem dJ6_bitCount_0f7a4_42 : decode cJ6_bitCount_0f7a4 42 = .ok (.iload_n 0, 1) := by decide +kernel
theorem dJ6_bitCount_0f7a4_43 : decode cJ6_bitCount_0f7a4 43 = .ok (.bipush 16, 2) := by decide +kernel
theorem dJ6_bitCount_0f7a4_45 : decode cJ6_bitCount_0f7a4 45 = .ok (.iushr, 1) := by decide +kernel
theorem dJ6_bitCount_0f7a4_46 : decode cJ6_bitCount_0f7a4 46 = .ok (.iadd, 1) := by decide +kernel
theorem dJ6_bitCount_0f7a4_47 : decode cJ6_bitCount_0f7a4 47 = .ok (.istore_n 0, 1) := by decide +kernel
theorem dJ6_bitCount_0f7a4_48 : decode cJ6_bitCount_0f7a4 48 = .ok (.iload_n 0, 1) := by decide +kernel
theorem dJ6_bitCount_0f7a4_49 : decode cJ6_bitCount_0f7a4 49 = .ok (.bipush 63, 2) := by decide +kernel
theorem dJ6_bitCount_0f7a4_51 : decode cJ6_bitCount_0f7a4 51 = .ok (.iand, 1) := by decide +kernel
theorem dJ6_bitCount_0f7a4_52 : decode cJ6_bitCount_0f7a4 52 = .ok (.ireturn, 1) := by decide +kernel
theorem dX6_init_0 : decode cX6_init 0 = .ok (.aload_n 0, 1) := by decide +kernel
theorem dX6_init_1 : decode cX6_init 1 = .ok (.invokespecial 1, 3) := by decide +kernel
theorem dX6_init_4 : decode cX6_init 4 = .ok (.aload_n 0, 1) := by decide +kernel
theorem dX6_init_5 : decode cX6_init 5 = .ok (.bipush 16, 2) := by decide +kernel
theorem dX6_init_7 : decode cX6_init 7 = .ok (.newarray .int, 2) := by decide +kernel
theorem dX6_init_9 : decode cX6_init 9 = .ok (.putfield 7, 3) := by decide +kernel
theorem dX6_init_12 : decode cX6_init 12 = .ok (.aload_n 0, 1) := by decide +kernel
theorem dX6_init_13 : decode cX6_init 13 = .ok (.bipush 16, 2) := by decide +kernel
theorem dX6_init_15 : decode cX6_init 15 = .ok (.newarray .int, 2) := by decide +kernel
theorem dX6_init_17 : decode cX6_init 17 = .ok (.putfield 13, 3) := by decide +kernel
theorem dX6_init_20 : decode cX6_init 20 = .ok (.aload_n 0, 1) := by decide +kernel
theorem dX6_init_21 : decode cX6_init 21 = .ok (.bipush 16, 2) := by decide +kernel
theorem dX6_init_23 : decode cX6_init 23 = .ok (.newarray .int, 2) := by decide +kernel
theorem dX6_init_25 : decode cX6_init 25 = .ok (.putfield 16, 3) := by decide +kernel
theorem dX6_init_28 : decode cX6_init 28 = .ok (.aload_n 0, 1) := by decide +kernel
theorem dX6_init_29 : decode cX6_init 29 = .ok (.bipush 16, 2) := by decide +kernel
theorem dX6_init_31 : decode cX6_init 31 = .ok (.newarray .int, 2) := by decide +kernel
theorem dX6_init_33 : decode cX6_init 33 = .ok (.putfield 19, 3) := by decide +kernel
theorem dX6_init_36 : decode cX6_init 36 = .ok (.aload_n 0, 1) := by decide +kernel
theorem dX6_init_37 : decode cX6_init 37 = .ok (.bipush 48, 2) := by decide +kernel
theorem dX6_init_39 : decode cX6_init 39 = .ok (.newarray .int, 2) := by decide +kernel
theorem dX6_init_41 : decode cX6_init 41 = .ok (.putfield 22, 3) := by decide +kernel
theorem dX6_init_44 : decode cX6_init 44 = .ok (.aload_n 0, 1) := by decide +kernel
theorem dX6_init_45 : decode cX6_init 45 = .ok (.sipush 256, 3) := by decide +kernel
theorem dX6_init_48 : decode cX6_init 48 = .ok (.newarray .boolean, 2) := by decide +kernel
theorem dX6_init_50 : decode cX6_init 50 = .ok (.putfield 25, 3) := by decide +kernel
theorem dX6_init_53 : decode cX6_init 53 = .ok (.aload_n 0, 1) := by decide +kernel
theorem dX6_init_54 : decode cX6_init 54 = .ok (.bipush 8, 2) := by decide +kernel
theorem dX6_init_56 : decode cX6_init 56 = .ok (.newarray .int, 2) := by decide +kernel
theorem dX6_init_58 : decode cX6_init 58 = .ok (.putfield 29, 3) := by decide +kernel
theorem dX6_init_61 : decode cX6_init 61 = .ok (.aload_n 0, 1) := by decide +kernel
theorem dX6_init_62 : decode cX6_init 62 = .ok (.bipush 8, 2) := by decide +kernel
theorem dX6_init_64 : decode cX6_init 64 = .ok (.newarray .boolean, 2) := by decide +kernel
theorem dX6_init_66 : decode cX6_init 66 = .ok (.putfield 32, 3) := by decide +kernel
theorem dX6_init_69 : decode cX6_init 69 = .ok (.aload_n 0, 1) := by decide +kernel
theorem dX6_init_70 : decode cX6_init 70 = .ok (.bipush 60, 2) := by decide +kernel
theorem dX6_init_72 : decode cX6_init 72 = .ok (.newarray .int, 2) := by decide +kernel
theorem dX6_init_74 : decode cX6_init 74 = .ok (.putfield 35, 3) := by decide +kernel
theorem dX6_init_77 : decode cX6_init 77 = .ok (.aload_n 0, 1) := by decide +kernel
theorem dX6_init_78 : decode cX6_init 78 = .ok (.bipush 60, 2) := by decide +kernel
theorem dX6_init_80 : decode cX6_init 80 = .ok (.newarray .int, 2) := by decide +kernel
theorem dX6_init_82 : decode cX6_init 82 = .ok (.putfield 38, 3) := by decide +kernel
theorem dX6_init_85 : decode cX6_init 85 = .ok (.aload_n 0, 1) := by decide +kernel
theorem dX6_init_86 : decode cX6_init 86 = .ok (.bipush 60, 2) := by decide +kernel
theorem dX6_init_88 : decode cX6_init 88 = .ok (.newarray .int, 2) := by decide +kernel
theorem dX6_init_90 : decode cX6_init 90 = .ok (.putfield 41, 3) := by decide +kernel
theorem dX6_init_93 : decode cX6_init 93 = .ok (.aload_n 0, 1) := by decide +kernel
theorem dX6_init_94 : decode cX6_init 94 = .ok (.bipush 60, 2) := by decide +kernel
theorem dX6_init_96 : decode cX6_init 96 = .ok (.newarray .int, 2) := by decide +kernel
theorem dX6_init_98 : decode cX6_init 98 = .ok (.putfield 44, 3) := by decide +kernel
theorem dX6_init_101 : decode cX6_init 101 = .ok (.aload_n 0, 1) := by decide +kernel
theorem dX6_init_102 : decode cX6_init 102 = .ok (.bipush 60, 2) := by decide +kernel
theorem dX6_init_104 : decode cX6_init 104 = .ok (.newarray .int, 2) := by decide +kernel
theorem dX6_init_106 : decode cX6_init 106 = .ok (.putfield 47, 3) := by decide +kernel
theorem dX6_init_109 : decode cX6_init 109 = .ok (.aload_n 0, 1) := by decide +kernel
theorem dX6_init_110 : decode cX6_init 110 = .ok (.sipush 3600, 3) := by decide +kernel
theorem dX6_init_113 : decode cX6_init 113 = .ok (.newarray .boolean, 2) := by decide +kernel
theorem dX6_init_115 : decode cX6_init 115 = .ok (.putfield 50, 3) := by decide +kernel
theorem dX6_init_118 : decode cX6_init 118 = .ok (.aload_n 0, 1) := by decide +kernel
theorem dX6_init_119 : decode cX6_init 119 = .ok (.sipush 2400, 3) := by decide +kernel
theorem dX6_init_122 : decode cX6_init 122 = .ok (.newarray .int, 2) := by decide +kernel
theorem dX6_init_124 : decode cX6_init 124 = .ok (.putfield 53, 3) := by decide +kernel
theorem dX6_init_127 : decode cX6_init 127 = .ok (.aload_n 0, 1) := by decide +kernel
theorem dX6_init_128 : decode cX6_init 128 = .ok (.sipush 2400, 3) := by decide +kernel
theorem dX6_init_131 : decode cX6_init 131 = .ok (.newarray .int, 2) := by decide +kernel
theorem dX6_init_133 : decode cX6_init 133 = .ok (.putfield 56, 3) := by decide +kernel
theorem dX6_init_136 : decode cX6_init 136 = .ok (.aload_n 0, 1) := by decide +kernel
theorem dX6_init_137 : decode cX6_init 137 = .ok (.sipush 2400, 3) := by decide +kernel
theorem dX6_init_140 : decode cX6_init 140 = .ok (.newarray .int, 2) := by decide +kernel
theorem dX6_init_142 : decode cX6_init 142 = .ok (.putfield 59, 3) := by decide +kernel
theorem dX6_init_145 : decode cX6_init 145 = .ok (.return_, 1) := by decide +kernel
theorem dX6_in_0 : decode cX6_in 0 = .ok (.iload_n 0, 1) := by decide +kernel
theorem dX6_in_1 : decode cX6_in 1 = .ok (.iload_n 1, 1) := by decide +kernel
theorem dX6_in_2 : decode cX6_in 2 = .ok (.if_icmp .lt 12, 3) := by decide +kernel
theorem dX6_in_5 : decode cX6_in 5 = .ok (.iload_n 0, 1) := by decide +kernel
theorem dX6_in_6 : decode cX6_in 6 = .ok (.iload_n 2, 1) := by decide +kernel
theorem dX6_in_7 : decode cX6_in 7 = .ok (.if_icmp .gt 7, 3) := by decide +kernel
theorem dX6_in_10 : decode cX6_in 10 = .ok (.iconst 1, 1) := by decide +kernel
theorem dX6_in_11 : decode cX6_in 11 = .ok (.goto 4, 3) := by decide +kernel
theorem dX6_in_14 : decode cX6_in 14 = .ok (.iconst 0, 1) := by decide +kernel
theorem dX6_in_15 : decode cX6_in 15 = .ok (.ireturn, 1) := by decide +kernel
theorem dX6_isType_0 : decode cX6_isType 0 = .ok (.iload_n 1, 1) := by decide +kernel
theorem dX6_isType_1 : decode cX6_isType 1 = .ok (.iconst 0, 1) := by decide +kernel
theorem dX6_isType_2 : decode cX6_isType 2 = .ok (.aload_n 0, 1) := by decide +kernel
theorem dX6_isType_3 : decode cX6_isType 3 = .ok (.getfield 62, 3) := by decide +kernel
theorem dX6_isType_6 : decode cX6_isType 6 = .ok (.iconst 1, 1) := by decide +kernel
theorem dX6_isType_7 : decode cX6_isType 7 = .ok (.isub, 1) := by decide +kernel
theorem dX6_isType_8 : decode cX6_isType 8 = .ok (.invokestatic 66, 3) := by decide +kernel
theorem dX6_isType_11 : decode cX6_isType 11 = .ok (.ireturn, 1) := by decide +kernel
theorem dX6_isMember_0 : decode cX6_isMember 0 = .ok (.iload_n 1, 1) := by decide +kernel
theorem dX6_isMember_1 : decode cX6_isMember 1 = .ok (.iconst 0, 1) := by decide +kernel
theorem dX6_isMember_2 : decode cX6_isMember 2 = .ok (.aload_n 0, 1) := by decide +kernel
theorem dX6_isMember_3 : decode cX6_isMember 3 = .ok (.getfield 70, 3) := by decide +kernel
theorem dX6_isMember_6 : decode cX6_isMember 6 = .ok (.iconst 1, 1) := by decide +kernel
theorem dX6_isMember_7 : decode cX6_isMember 7 = .ok (.isub, 1) := by decide +kernel
theorem dX6_isMember_8 : decode cX6_isMember 8 = .ok (.invokestatic 66, 3) := by decide +kernel
theorem dX6_isMember_11 : decode cX6_isMember 11 = .ok (.ireturn, 1) := by decide +kernel
theorem dX6_clear_0 : decode cX6_clear 0 = .ok (.aload_n 0, 1) := by decide +kernel
theorem dX6_clear_1 : decode cX6_clear 1 = .ok (.getfield 70, 3) := by decide +kernel
theorem dX6_clear_4 : decode cX6_clear 4 = .ok (.istore_n 1, 1) := by decide +kernel
theorem dX6_clear_5 : decode cX6_clear 5 = .ok (.aload_n 0, 1) := by decide +kernel
theorem dX6_clear_6 : decode cX6_clear 6 = .ok (.iconst 0, 1) := by decide +kernel
theorem dX6_clear_7 : decode cX6_clear 7 = .ok (.putfield 62, 3) := by decide +kernel
theorem dX6_clear_10 : decode cX6_clear 10 = .ok (.aload_n 0, 1) := by decide +kernel
theorem dX6_clear_11 : decode cX6_clear 11 = .ok (.iconst 0, 1) := by decide +kernel
theorem dX6_clear_12 : decode cX6_clear 12 = .ok (.putfield 73, 3) := by decide +kernel
theorem dX6_clear_15 : decode cX6_clear 15 = .ok (.aload_n 0, 1) := by decide +kernel
theorem dX6_clear_16 : decode cX6_clear 16 = .ok (.iconst 0, 1) := by decide +kernel
theorem dX6_clear_17 : decode cX6_clear 17 = .ok (.putfield 70, 3) := by decide +kernel
theorem dX6_clear_20 : decode cX6_clear 20 = .ok (.iload_n 1, 1) := by decide +kernel
theorem dX6_clear_21 : decode cX6_clear 21 = .ok (.ireturn, 1) := by decide +kernel
theorem dX6_rise_0 : decode cX6_rise 0 = .ok (.iconst 0, 1) := by decide +kernel
theorem dX6_rise_1 : decode cX6_rise 1 = .ok (.istore_n 1, 1) := by decide +kernel
theorem dX6_rise_2 : decode cX6_rise 2 = .ok (.iload_n 1, 1) := by decide +kernel
theorem dX6_rise_3 : decode cX6_rise 3 = .ok (.aload_n 0, 1) := by decide +kernel
theorem dX6_rise_4 : decode cX6_rise 4 = .ok (.getfield 62, 3) := by decide +kernel
theorem dX6_rise_7 : decode cX6_rise 7 = .ok (.if_icmp .ge 89, 3) := by decide +kernel
theorem dX6_rise_10 : decode cX6_rise 10 = .ok (.iconst 0, 1) := by decide +kernel
theorem dX6_rise_11 : decode cX6_rise 11 = .ok (.istore_n 2, 1) := by decide +kernel
theorem dX6_rise_12 : decode cX6_rise 12 = .ok (.iload_n 2, 1) := by decide +kernel
theorem dX6_rise_13 : decode cX6_rise 13 = .ok (.bipush 16, 2) := by decide +kernel
theorem dX6_rise_15 : decode cX6_rise 15 = .ok (.if_icmp .ge 21, 3) := by decide +kernel
theorem dX6_rise_18 : decode cX6_rise 18 = .ok (.aload_n 0, 1) := by decide +kernel
theorem dX6_rise_19 : decode cX6_rise 19 = .ok (.getfield 25, 3) := by decide +kernel
theorem dX6_rise_22 : decode cX6_rise 22 = .ok (.bipush 16, 2) := by decide +kernel
theorem dX6_rise_24 : decode cX6_rise 24 = .ok (.iload_n 1, 1) := by decide +kernel
theorem dX6_rise_25 : decode cX6_rise 25 = .ok (.imul, 1) := by decide +kernel
theorem dX6_rise_26 : decode cX6_rise 26 = .ok (.iload_n 2, 1) := by decide +kernel
theorem dX6_rise_27 : decode cX6_rise 27 = .ok (.iadd, 1) := by decide +kernel
theorem dX6_rise_28 : decode cX6_rise 28 = .ok (.iconst 0, 1) := by decide +kernel
theorem dX6_rise_29 : decode cX6_rise 29 = .ok (.bastore, 1) := by decide +kernel
theorem dX6_rise_30 : decode cX6_rise 30 = .ok (.iinc 2 1, 3) := by decide +kernel
theorem dX6_rise_33 : decode cX6_rise 33 = .ok (.goto (-21), 3) := by decide +kernel
theorem dX6_rise_36 : decode cX6_rise 36 = .ok (.aload_n 0, 1) := by decide +kernel
theorem dX6_rise_37 : decode cX6_rise 37 = .ok (.getfield 16, 3) := by decide +kernel
theorem dX6_rise_40 : decode cX6_rise 40 = .ok (.iload_n 1, 1) := by decide +kernel
theorem dX6_rise_41 : decode cX6_rise 41 = .ok (.iaload, 1) := by decide +kernel
theorem dX6_rise_42 : decode cX6_rise 42 = .ok (.iconst (-1), 1) := by decide +kernel
theorem dX6_rise_43 : decode cX6_rise 43 = .ok (.if_icmp .eq 14, 3) := by decide +kernel
theorem dX6_rise_46 : decode cX6_rise 46 = .ok (.aload_n 0, 1) := by decide +kernel
theorem dX6_rise_47 : decode cX6_rise 47 = .ok (.iload_n 1, 1) := by decide +kernel
theorem dX6_rise_48 : decode cX6_rise 48 = .ok (.aload_n 0, 1) := by decide +kernel
theorem dX6_rise_49 : decode cX6_rise 49 = .ok (.getfield 16, 3) := by decide +kernel
theorem dX6_rise_52 : decode cX6_rise 52 = .ok (.iload_n 1, 1) := by decide +kernel
theorem dX6_rise_53 : decode cX6_rise 53 = .ok (.iaload, 1) := by decide +kernel
theorem dX6_rise_54 : decode cX6_rise 54 = .ok (.invokevirtual 76, 3) := by decide +kernel
theorem dX6_rise_57 : decode cX6_rise 57 = .ok (.iconst 0, 1) := by decide +kernel
theorem dX6_rise_58 : decode cX6_rise 58 = .ok (.istore_n 2, 1) := by decide +kernel
theorem dX6_rise_59 : decode cX6_rise 59 = .ok (.iload_n 2, 1) := by decide +kernel
theorem dX6_rise_60 : decode cX6_rise 60 = .ok (.aload_n 0, 1) := by decide +kernel
theorem dX6_rise_61 : decode cX6_rise 61 = .ok (.getfield 19, 3) := by decide +kernel
theorem dX6_rise_64 : decode cX6_rise 64 = .ok (.iload_n 1, 1) := by decide +kernel
theorem dX6_rise_65 : decode cX6_rise 65 = .ok (.iaload, 1) := by decide +kernel
theorem dX6_rise_66 : decode cX6_rise 66 = .ok (.if_icmp .ge 24, 3) := by decide +kernel
theorem dX6_rise_69 : decode cX6_rise 69 = .ok (.aload_n 0, 1) := by decide +kernel
theorem dX6_rise_70 : decode cX6_rise 70 = .ok (.iload_n 1, 1) := by decide +kernel
theorem dX6_rise_71 : decode cX6_rise 71 = .ok (.aload_n 0, 1) := by decide +kernel
theorem dX6_rise_72 : decode cX6_rise 72 = .ok (.getfield 22, 3) := by decide +kernel
theorem dX6_rise_75 : decode cX6_rise 75 = .ok (.iconst 3, 1) := by decide +kernel
theorem dX6_rise_76 : decode cX6_rise 76 = .ok (.iload_n 1, 1) := by decide +kernel
theorem dX6_rise_77 : decode cX6_rise 77 = .ok (.imul, 1) := by decide +kernel
theorem dX6_rise_78 : decode cX6_rise 78 = .ok (.iload_n 2, 1) := by decide +kernel
theorem dX6_rise_79 : decode cX6_rise 79 = .ok (.iadd, 1) := by decide +kernel
theorem dX6_rise_80 : decode cX6_rise 80 = .ok (.iaload, 1) := by decide +kernel
theorem dX6_rise_81 : decode cX6_rise 81 = .ok (.invokevirtual 76, 3) := by decide +kernel
theorem dX6_rise_84 : decode cX6_rise 84 = .ok (.iinc 2 1, 3) := by decide +kernel
theorem dX6_rise_87 : decode cX6_rise 87 = .ok (.goto (-28), 3) := by decide +kernel
theorem dX6_rise_90 : decode cX6_rise 90 = .ok (.iinc 1 1, 3) := by decide +kernel
theorem dX6_rise_93 : decode cX6_rise 93 = .ok (.goto (-91), 3) := by decide +kernel
theorem dX6_rise_96 : decode cX6_rise 96 = .ok (.aload_n 0, 1) := by decide +kernel
theorem dX6_rise_97 : decode cX6_rise 97 = .ok (.invokevirtual 80, 3) := by decide +kernel
theorem dX6_rise_100 : decode cX6_rise 100 = .ok (.return_, 1) := by decide +kernel
theorem dX6_lift_0 : decode cX6_lift 0 = .ok (.aload_n 0, 1) := by decide +kernel
theorem dX6_lift_1 : decode cX6_lift 1 = .ok (.getfield 25, 3) := by decide +kernel
theorem dX6_lift_4 : decode cX6_lift 4 = .ok (.bipush 16, 2) := by decide +kernel
theorem dX6_lift_6 : decode cX6_lift 6 = .ok (.iload_n 1, 1) := by decide +kernel
theorem dX6_lift_7 : decode cX6_lift 7 = .ok (.imul, 1) := by decide +kernel
theorem dX6_lift_8 : decode cX6_lift 8 = .ok (.iload_n 2, 1) := by decide +kernel
theorem dX6_lift_9 : decode cX6_lift 9 = .ok (.iadd, 1) := by decide +kernel
theorem dX6_lift_10 : decode cX6_lift 10 = .ok (.iconst 1, 1) := by decide +kernel
theorem dX6_lift_11 : decode cX6_lift 11 = .ok (.bastore, 1) := by decide +kernel
theorem dX6_lift_12 : decode cX6_lift 12 = .ok (.iconst 0, 1) := by decide +kernel
theorem dX6_lift_13 : decode cX6_lift 13 = .ok (.istore_n 3, 1) := by decide +kernel
theorem dX6_lift_14 : decode cX6_lift 14 = .ok (.iload_n 3, 1) := by decide +kernel
theorem dX6_lift_15 : decode cX6_lift 15 = .ok (.bipush 16, 2) := by decide +kernel
theorem dX6_lift_17 : decode cX6_lift 17 = .ok (.if_icmp .ge 53, 3) := by decide +kernel
theorem dX6_lift_20 : decode cX6_lift 20 = .ok (.aload_n 0, 1) := by decide +kernel
theorem dX6_lift_21 : decode cX6_lift 21 = .ok (.getfield 25, 3) := by decide +kernel
theorem dX6_lift_24 : decode cX6_lift 24 = .ok (.bipush 16, 2) := by decide +kernel
theorem dX6_lift_26 : decode cX6_lift 26 = .ok (.iload_n 1, 1) := by decide +kernel
theorem dX6_lift_27 : decode cX6_lift 27 = .ok (.imul, 1) := by decide +kernel
theorem dX6_lift_28 : decode cX6_lift 28 = .ok (.iload_n 3, 1) := by decide +kernel
theorem dX6_lift_29 : decode cX6_lift 29 = .ok (.iadd, 1) := by decide +kernel
theorem dX6_lift_30 : decode cX6_lift 30 = .ok (.aload_n 0, 1) := by decide +kernel
theorem dX6_lift_31 : decode cX6_lift 31 = .ok (.getfield 25, 3) := by decide +kernel
theorem dX6_lift_34 : decode cX6_lift 34 = .ok (.bipush 16, 2) := by decide +kernel
theorem dX6_lift_36 : decode cX6_lift 36 = .ok (.iload_n 1, 1) := by decide +kernel
theorem dX6_lift_37 : decode cX6_lift 37 = .ok (.imul, 1) := by decide +kernel
theorem dX6_lift_38 : decode cX6_lift 38 = .ok (.iload_n 3, 1) := by decide +kernel
theorem dX6_lift_39 : decode cX6_lift 39 = .ok (.iadd, 1) := by decide +kernel
theorem dX6_lift_40 : decode cX6_lift 40 = .ok (.baload, 1) := by decide +kernel
theorem dX6_lift_41 : decode cX6_lift 41 = .ok (.ifCond .ne 17, 3) := by decide +kernel
theorem dX6_lift_44 : decode cX6_lift 44 = .ok (.aload_n 0, 1) := by decide +kernel
theorem dX6_lift_45 : decode cX6_lift 45 = .ok (.getfield 25, 3) := by decide +kernel
theorem dX6_lift_48 : decode cX6_lift 48 = .ok (.bipush 16, 2) := by decide +kernel
theorem dX6_lift_50 : decode cX6_lift 50 = .ok (.iload_n 2, 1) := by decide +kernel
theorem dX6_lift_51 : decode cX6_lift 51 = .ok (.imul, 1) := by decide +kernel
theorem dX6_lift_52 : decode cX6_lift 52 = .ok (.iload_n 3, 1) := by decide +kernel
theorem dX6_lift_53 : decode cX6_lift 53 = .ok (.iadd, 1) := by decide +kernel
theorem dX6_lift_54 : decode cX6_lift 54 = .ok (.baload, 1) := by decide +kernel
theorem dX6_lift_55 : decode cX6_lift 55 = .ok (.ifCond .eq 7, 3) := by decide +kernel
theorem dX6_lift_58 : decode cX6_lift 58 = .ok (.iconst 1, 1) := by decide +kernel
theorem dX6_lift_59 : decode cX6_lift 59 = .ok (.goto 4, 3) := by decide +kernel
theorem dX6_lift_62 : decode cX6_lift 62 = .ok (.iconst 0, 1) := by decide +kernel
theorem dX6_lift_63 : decode cX6_lift 63 = .ok (.bastore, 1) := by decide +kernel
theorem dX6_lift_64 : decode cX6_lift 64 = .ok (.iinc 3 1, 3) := by decide +kernel
theorem dX6_lift_67 : decode cX6_lift 67 = .ok (.goto (-53), 3) := by decide +kernel
theorem dX6_lift_70 : decode cX6_lift 70 = .ok (.return_, 1) := by decide +kernel
theorem dX6_type_0 : decode cX6_type 0 = .ok (.iload_n 3, 1) := by decide +kernel
theorem dX6_type_1 : decode cX6_type 1 = .ok (.iconst (-1), 1) := by decide +kernel
theorem dX6_type_2 : decode cX6_type 2 = .ok (.if_icmp .eq 14, 3) := by decide +kernel
theorem dX6_type_5 : decode cX6_type 5 = .ok (.aload_n 0, 1) := by decide +kernel
theorem dX6_type_6 : decode cX6_type 6 = .ok (.iload_n 3, 1) := by decide +kernel
theorem dX6_type_7 : decode cX6_type 7 = .ok (.invokevirtual 83, 3) := by decide +kernel
theorem dX6_type_10 : decode cX6_type 10 = .ok (.ifCond .ne 6, 3) := by decide +kernel
theorem dX6_type_13 : decode cX6_type 13 = .ok (.bipush (-2), 2) := by decide +kernel
theorem dX6_type_15 : decode cX6_type 15 = .ok (.ireturn, 1) := by decide +kernel
theorem dX6_type_16 : decode cX6_type 16 = .ok (.iload_n 1, 1) := by decide +kernel
theorem dX6_type_17 : decode cX6_type 17 = .ok (.iconst 0, 1) := by decide +kernel
theorem dX6_type_18 : decode cX6_type 18 = .ok (.iconst 2, 1) := by decide +kernel
theorem dX6_type_19 : decode cX6_type 19 = .ok (.invokestatic 66, 3) := by decide +kernel
theorem dX6_type_22 : decode cX6_type 22 = .ok (.ifCond .eq 32, 3) := by decide +kernel
theorem dX6_type_25 : decode cX6_type 25 = .ok (.iload_n 2, 1) := by decide +kernel
theorem dX6_type_26 : decode cX6_type 26 = .ok (.iconst 0, 1) := by decide +kernel
theorem dX6_type_27 : decode cX6_type 27 = .ok (.iconst 3, 1) := by decide +kernel
theorem dX6_type_28 : decode cX6_type 28 = .ok (.invokestatic 66, 3) := by decide +kernel
theorem dX6_type_31 : decode cX6_type 31 = .ok (.ifCond .eq 23, 3) := by decide +kernel
theorem dX6_type_34 : decode cX6_type 34 = .ok (.iload_n 3, 1) := by decide +kernel
theorem dX6_type_35 : decode cX6_type 35 = .ok (.iconst (-1), 1) := by decide +kernel
theorem dX6_type_36 : decode cX6_type 36 = .ok (.if_icmp .eq 21, 3) := by decide +kernel
theorem dX6_type_39 : decode cX6_type 39 = .ok (.iload_n 1, 1) := by decide +kernel
theorem dX6_type_40 : decode cX6_type 40 = .ok (.iconst 2, 1) := by decide +kernel
theorem dX6_type_41 : decode cX6_type 41 = .ok (.if_icmp .eq 13, 3) := by decide +kernel
theorem dX6_type_44 : decode cX6_type 44 = .ok (.aload_n 0, 1) := by decide +kernel
theorem dX6_type_45 : decode cX6_type 45 = .ok (.getfield 7, 3) := by decide +kernel
theorem dX6_type_48 : decode cX6_type 48 = .ok (.iload_n 3, 1) := by decide +kernel
theorem dX6_type_49 : decode cX6_type 49 = .ok (.iaload, 1) := by decide +kernel
theorem dX6_type_50 : decode cX6_type 50 = .ok (.iconst 2, 1) := by decide +kernel
theorem dX6_type_51 : decode cX6_type 51 = .ok (.if_icmp .ne 6, 3) := by decide +kernel
theorem dX6_type_54 : decode cX6_type 54 = .ok (.bipush (-3), 2) := by decide +kernel
theorem dX6_type_56 : decode cX6_type 56 = .ok (.ireturn, 1) := by decide +kernel
theorem dX6_type_57 : decode cX6_type 57 = .ok (.aload_n 0, 1) := by decide +kernel
theorem dX6_type_58 : decode cX6_type 58 = .ok (.getfield 62, 3) := by decide +kernel
theorem dX6_type_61 : decode cX6_type 61 = .ok (.bipush 16, 2) := by decide +kernel
theorem dX6_type_63 : decode cX6_type 63 = .ok (.if_icmp .ne 6, 3) := by decide +kernel
theorem dX6_type_66 : decode cX6_type 66 = .ok (.bipush (-4), 2) := by decide +kernel
theorem dX6_type_68 : decode cX6_type 68 = .ok (.ireturn, 1) := by decide +kernel
theorem dX6_type_69 : decode cX6_type 69 = .ok (.aload_n 0, 1) := by decide +kernel
theorem dX6_type_70 : decode cX6_type 70 = .ok (.getfield 7, 3) := by decide +kernel
theorem dX6_type_73 : decode cX6_type 73 = .ok (.aload_n 0, 1) := by decide +kernel
theorem dX6_type_74 : decode cX6_type 74 = .ok (.getfield 62, 3) := by decide +kernel
theorem dX6_type_77 : decode cX6_type 77 = .ok (.iload_n 1, 1) := by decide +kernel
theorem dX6_type_78 : decode cX6_type 78 = .ok (.iastore, 1) := by decide +kernel
theorem dX6_type_79 : decode cX6_type 79 = .ok (.aload_n 0, 1) := by decide +kernel
theorem dX6_type_80 : decode cX6_type 80 = .ok (.getfield 13, 3) := by decide +kernel
theorem dX6_type_83 : decode cX6_type 83 = .ok (.aload_n 0, 1) := by decide +kernel
theorem dX6_type_84 : decode cX6_type 84 = .ok (.getfield 62, 3) := by decide +kernel
theorem dX6_type_87 : decode cX6_type 87 = .ok (.iload_n 2, 1) := by decide +kernel
theorem dX6_type_88 : decode cX6_type 88 = .ok (.iastore, 1) := by decide +kernel
theorem dX6_type_89 : decode cX6_type 89 = .ok (.aload_n 0, 1) := by decide +kernel
theorem dX6_type_90 : decode cX6_type 90 = .ok (.getfield 16, 3) := by decide +kernel
theorem dX6_type_93 : decode cX6_type 93 = .ok (.aload_n 0, 1) := by decide +kernel
theorem dX6_type_94 : decode cX6_type 94 = .ok (.getfield 62, 3) := by decide +kernel
theorem dX6_type_97 : decode cX6_type 97 = .ok (.iload_n 3, 1) := by decide +kernel
theorem dX6_type_98 : decode cX6_type 98 = .ok (.iastore, 1) := by decide +kernel
theorem dX6_type_99 : decode cX6_type 99 = .ok (.aload_n 0, 1) := by decide +kernel
theorem dX6_type_100 : decode cX6_type 100 = .ok (.getfield 19, 3) := by decide +kernel
theorem dX6_type_103 : decode cX6_type 103 = .ok (.aload_n 0, 1) := by decide +kernel
theorem dX6_type_104 : decode cX6_type 104 = .ok (.getfield 62, 3) := by decide +kernel
theorem dX6_type_107 : decode cX6_type 107 = .ok (.iconst 0, 1) := by decide +kernel
theorem dX6_type_108 : decode cX6_type 108 = .ok (.iastore, 1) := by decide +kernel
theorem dX6_type_109 : decode cX6_type 109 = .ok (.aload_n 0, 1) := by decide +kernel
theorem dX6_type_110 : decode cX6_type 110 = .ok (.dup, 1) := by decide +kernel
theorem dX6_type_111 : decode cX6_type 111 = .ok (.getfield 62, 3) := by decide +kernel
theorem dX6_type_114 : decode cX6_type 114 = .ok (.iconst 1, 1) := by decide +kernel
theorem dX6_type_115 : decode cX6_type 115 = .ok (.iadd, 1) := by decide +kernel
theorem dX6_type_116 : decode cX6_type 116 = .ok (.putfield 62, 3) := by decide +kernel
theorem dX6_type_119 : decode cX6_type 119 = .ok (.aload_n 0, 1) := by decide +kernel
theorem dX6_type_120 : decode cX6_type 120 = .ok (.invokevirtual 87, 3) := by decide +kernel
theorem dX6_type_123 : decode cX6_type 123 = .ok (.aload_n 0, 1) := by decide +kernel
theorem dX6_type_124 : decode cX6_type 124 = .ok (.getfield 62, 3) := by decide +kernel
theorem dX6_type_127 : decode cX6_type 127 = .ok (.iconst 1, 1) := by decide +kernel
theorem dX6_type_128 : decode cX6_type 128 = .ok (.isub, 1) := by decide +kernel
theorem dX6_type_129 : decode cX6_type 129 = .ok (.ireturn, 1) := by decide +kernel
theorem dX6_face_0 : decode cX6_face 0 = .ok (.aload_n 0, 1) := by decide +kernel
theorem dX6_face_1 : decode cX6_face 1 = .ok (.iload_n 1, 1) := by decide +kernel
theorem dX6_face_2 : decode cX6_face 2 = .ok (.invokevirtual 83, 3) := by decide +kernel
theorem dX6_face_5 : decode cX6_face 5 = .ok (.ifCond .eq 11, 3) := by decide +kernel
theorem dX6_face_8 : decode cX6_face 8 = .ok (.aload_n 0, 1) := by decide +kernel
theorem dX6_face_9 : decode cX6_face 9 = .ok (.iload_n 2, 1) := by decide +kernel
theorem dX6_face_10 : decode cX6_face 10 = .ok (.invokevirtual 83, 3) := by decide +kernel
theorem dX6_face_13 : decode cX6_face 13 = .ok (.ifCond .ne 6, 3) := by decide +kernel
theorem dX6_face_16 : decode cX6_face 16 = .ok (.bipush (-2), 2) := by decide +kernel

theorem dX4_init_0 : decode cX4_init 0 = .ok (.aload_n 0, 1) := by decide +kernel
theorem dX4_init_1 : decode cX4_init 1 = .ok (.invokespecial 3, 3) := by decide +kernel
theorem dX4_init_4 : decode cX4_init 4 = .ok (.aload_n 0, 1) := by decide +kernel
theorem dX4_init_5 : decode cX4_init 5 = .ok (.bipush 16, 2) := by decide +kernel
theorem dX4_init_7 : decode cX4_init 7 = .ok (.newarray .int, 2) := by decide +kernel
theorem dX4_init_9 : decode cX4_init 9 = .ok (.putfield 9, 3) := by decide +kernel
theorem dX4_init_12 : decode cX4_init 12 = .ok (.aload_n 0, 1) := by decide +kernel
theorem dX4_init_13 : decode cX4_init 13 = .ok (.bipush 16, 2) := by decide +kernel
theorem dX4_init_15 : decode cX4_init 15 = .ok (.newarray .int, 2) := by decide +kernel
theorem dX4_init_17 : decode cX4_init 17 = .ok (.putfield 15, 3) := by decide +kernel
theorem dX4_init_20 : decode cX4_init 20 = .ok (.aload_n 0, 1) := by decide +kernel
theorem dX4_init_21 : decode cX4_init 21 = .ok (.bipush 16, 2) := by decide +kernel
theorem dX4_init_23 : decode cX4_init 23 = .ok (.newarray .int, 2) := by decide +kernel
theorem dX4_init_25 : decode cX4_init 25 = .ok (.putfield 18, 3) := by decide +kernel
theorem dX4_init_28 : decode cX4_init 28 = .ok (.aload_n 0, 1) := by decide +kernel
theorem dX4_init_29 : decode cX4_init 29 = .ok (.bipush 16, 2) := by decide +kernel
theorem dX4_init_31 : decode cX4_init 31 = .ok (.newarray .int, 2) := by decide +kernel
theorem dX4_init_33 : decode cX4_init 33 = .ok (.putfield 21, 3) := by decide +kernel
theorem dX4_init_36 : decode cX4_init 36 = .ok (.aload_n 0, 1) := by decide +kernel
theorem dX4_init_37 : decode cX4_init 37 = .ok (.bipush 16, 2) := by decide +kernel
theorem dX4_init_39 : decode cX4_init 39 = .ok (.newarray .int, 2) := by decide +kernel
theorem dX4_init_41 : decode cX4_init 41 = .ok (.putfield 24, 3) := by decide +kernel
theorem dX4_init_44 : decode cX4_init 44 = .ok (.aload_n 0, 1) := by decide +kernel
theorem dX4_init_45 : decode cX4_init 45 = .ok (.iconst 0, 1) := by decide +kernel
theorem dX4_init_46 : decode cX4_init 46 = .ok (.putfield 27, 3) := by decide +kernel
theorem dX4_init_49 : decode cX4_init 49 = .ok (.return_, 1) := by decide +kernel
theorem dX4_forget_0 : decode cX4_forget 0 = .ok (.aload_n 0, 1) := by decide +kernel
theorem dX4_forget_1 : decode cX4_forget 1 = .ok (.iconst 0, 1) := by decide +kernel
theorem dX4_forget_2 : decode cX4_forget 2 = .ok (.putfield 27, 3) := by decide +kernel
theorem dX4_forget_5 : decode cX4_forget 5 = .ok (.return_, 1) := by decide +kernel
theorem dX4_size_0 : decode cX4_size 0 = .ok (.aload_n 0, 1) := by decide +kernel
theorem dX4_size_1 : decode cX4_size 1 = .ok (.getfield 27, 3) := by decide +kernel
theorem dX4_size_4 : decode cX4_size 4 = .ok (.ireturn, 1) := by decide +kernel
theorem dX4_has_0 : decode cX4_has 0 = .ok (.iload_n 1, 1) := by decide +kernel
theorem dX4_has_1 : decode cX4_has 1 = .ok (.ifCond .lt 15, 3) := by decide +kernel
theorem dX4_has_4 : decode cX4_has 4 = .ok (.iload_n 1, 1) := by decide +kernel
theorem dX4_has_5 : decode cX4_has 5 = .ok (.aload_n 0, 1) := by decide +kernel
theorem dX4_has_6 : decode cX4_has 6 = .ok (.getfield 27, 3) := by decide +kernel
theorem dX4_has_9 : decode cX4_has 9 = .ok (.if_icmp .ge 7, 3) := by decide +kernel
theorem dX4_has_12 : decode cX4_has 12 = .ok (.iconst 1, 1) := by decide +kernel
theorem dX4_has_13 : decode cX4_has 13 = .ok (.goto 4, 3) := by decide +kernel
theorem dX4_has_16 : decode cX4_has 16 = .ok (.iconst 0, 1) := by decide +kernel
theorem dX4_has_17 : decode cX4_has 17 = .ok (.ireturn, 1) := by decide +kernel
theorem dX4_isFull_0 : decode cX4_isFull 0 = .ok (.aload_n 0, 1) := by decide +kernel
theorem dX4_isFull_1 : decode cX4_isFull 1 = .ok (.getfield 27, 3) := by decide +kernel
theorem dX4_isFull_4 : decode cX4_isFull 4 = .ok (.bipush 16, 2) := by decide +kernel
theorem dX4_isFull_6 : decode cX4_isFull 6 = .ok (.if_icmp .lt 7, 3) := by decide +kernel
theorem dX4_isFull_9 : decode cX4_isFull 9 = .ok (.iconst 1, 1) := by decide +kernel
theorem dX4_isFull_10 : decode cX4_isFull 10 = .ok (.goto 4, 3) := by decide +kernel
theorem dX4_isFull_13 : decode cX4_isFull 13 = .ok (.iconst 0, 1) := by decide +kernel
theorem dX4_isFull_14 : decode cX4_isFull 14 = .ok (.ireturn, 1) := by decide +kernel
theorem dX4_add_0 : decode cX4_add 0 = .ok (.aload_n 0, 1) := by decide +kernel
theorem dX4_add_1 : decode cX4_add 1 = .ok (.getfield 27, 3) := by decide +kernel
theorem dX4_add_4 : decode cX4_add 4 = .ok (.istore 4, 2) := by decide +kernel
theorem dX4_add_6 : decode cX4_add 6 = .ok (.aload_n 0, 1) := by decide +kernel
theorem dX4_add_7 : decode cX4_add 7 = .ok (.getfield 9, 3) := by decide +kernel
theorem dX4_add_10 : decode cX4_add 10 = .ok (.iload 4, 2) := by decide +kernel
theorem dX4_add_12 : decode cX4_add 12 = .ok (.iload_n 1, 1) := by decide +kernel
theorem dX4_add_13 : decode cX4_add 13 = .ok (.iastore, 1) := by decide +kernel
theorem dX4_add_14 : decode cX4_add 14 = .ok (.aload_n 0, 1) := by decide +kernel
theorem dX4_add_15 : decode cX4_add 15 = .ok (.getfield 15, 3) := by decide +kernel
theorem dX4_add_18 : decode cX4_add 18 = .ok (.iload 4, 2) := by decide +kernel
theorem dX4_add_20 : decode cX4_add 20 = .ok (.iload_n 2, 1) := by decide +kernel
theorem dX4_add_21 : decode cX4_add 21 = .ok (.iastore, 1) := by decide +kernel
theorem dX4_add_22 : decode cX4_add 22 = .ok (.aload_n 0, 1) := by decide +kernel
theorem dX4_add_23 : decode cX4_add 23 = .ok (.getfield 18, 3) := by decide +kernel
theorem dX4_add_26 : decode cX4_add 26 = .ok (.iload 4, 2) := by decide +kernel
theorem dX4_add_28 : decode cX4_add 28 = .ok (.iload_n 3, 1) := by decide +kernel
theorem dX4_add_29 : decode cX4_add 29 = .ok (.iastore, 1) := by decide +kernel
theorem dX4_add_30 : decode cX4_add 30 = .ok (.aload_n 0, 1) := by decide +kernel
theorem dX4_add_31 : decode cX4_add 31 = .ok (.getfield 21, 3) := by decide +kernel
theorem dX4_add_34 : decode cX4_add 34 = .ok (.iload 4, 2) := by decide +kernel
theorem dX4_add_36 : decode cX4_add 36 = .ok (.iconst 0, 1) := by decide +kernel
theorem dX4_add_37 : decode cX4_add 37 = .ok (.iastore, 1) := by decide +kernel
theorem dX4_add_38 : decode cX4_add 38 = .ok (.aload_n 0, 1) := by decide +kernel
theorem dX4_add_39 : decode cX4_add 39 = .ok (.dup, 1) := by decide +kernel
theorem dX4_add_40 : decode cX4_add 40 = .ok (.getfield 27, 3) := by decide +kernel
theorem dX4_add_43 : decode cX4_add 43 = .ok (.iconst 1, 1) := by decide +kernel
theorem dX4_add_44 : decode cX4_add 44 = .ok (.iadd, 1) := by decide +kernel
theorem dX4_add_45 : decode cX4_add 45 = .ok (.putfield 27, 3) := by decide +kernel
theorem dX4_add_48 : decode cX4_add 48 = .ok (.aload_n 0, 1) := by decide +kernel
theorem dX4_add_49 : decode cX4_add 49 = .ok (.iload 4, 2) := by decide +kernel
theorem dX4_add_51 : decode cX4_add 51 = .ok (.invokevirtual 31, 3) := by decide +kernel
theorem dX4_add_54 : decode cX4_add 54 = .ok (.iload 4, 2) := by decide +kernel
theorem dX4_add_56 : decode cX4_add 56 = .ok (.ireturn, 1) := by decide +kernel
theorem dX4_addFace_0 : decode cX4_addFace 0 = .ok (.aload_n 0, 1) := by decide +kernel
theorem dX4_addFace_1 : decode cX4_addFace 1 = .ok (.getfield 21, 3) := by decide +kernel
theorem dX4_addFace_4 : decode cX4_addFace 4 = .ok (.iload_n 1, 1) := by decide +kernel
theorem dX4_addFace_5 : decode cX4_addFace 5 = .ok (.dup2, 1) := by decide +kernel
theorem dX4_addFace_6 : decode cX4_addFace 6 = .ok (.iaload, 1) := by decide +kernel
theorem dX4_addFace_7 : decode cX4_addFace 7 = .ok (.iconst 1, 1) := by decide +kernel
theorem dX4_addFace_8 : decode cX4_addFace 8 = .ok (.iload_n 2, 1) := by decide +kernel
theorem dX4_addFace_9 : decode cX4_addFace 9 = .ok (.ishl, 1) := by decide +kernel
theorem dX4_addFace_10 : decode cX4_addFace 10 = .ok (.ior, 1) := by decide +kernel
theorem dX4_addFace_11 : decode cX4_addFace 11 = .ok (.iastore, 1) := by decide +kernel
theorem dX4_addFace_12 : decode cX4_addFace 12 = .ok (.iload_n 1, 1) := by decide +kernel
theorem dX4_addFace_13 : decode cX4_addFace 13 = .ok (.istore_n 3, 1) := by decide +kernel
theorem dX4_addFace_14 : decode cX4_addFace 14 = .ok (.iload_n 3, 1) := by decide +kernel
theorem dX4_addFace_15 : decode cX4_addFace 15 = .ok (.aload_n 0, 1) := by decide +kernel
theorem dX4_addFace_16 : decode cX4_addFace 16 = .ok (.getfield 27, 3) := by decide +kernel
theorem dX4_addFace_19 : decode cX4_addFace 19 = .ok (.if_icmp .ge 14, 3) := by decide +kernel
theorem dX4_addFace_22 : decode cX4_addFace 22 = .ok (.aload_n 0, 1) := by decide +kernel
theorem dX4_addFace_23 : decode cX4_addFace 23 = .ok (.iload_n 3, 1) := by decide +kernel
theorem dX4_addFace_24 : decode cX4_addFace 24 = .ok (.invokevirtual 31, 3) := by decide +kernel
theorem dX4_addFace_27 : decode cX4_addFace 27 = .ok (.iinc 3 1, 3) := by decide +kernel
theorem dX4_addFace_30 : decode cX4_addFace 30 = .ok (.goto (-16), 3) := by decide +kernel
theorem dX4_addFace_33 : decode cX4_addFace 33 = .ok (.aload_n 0, 1) := by decide +kernel
theorem dX4_addFace_34 : decode cX4_addFace 34 = .ok (.iload_n 1, 1) := by decide +kernel
theorem dX4_addFace_35 : decode cX4_addFace 35 = .ok (.invokevirtual 35, 3) := by decide +kernel
theorem dX4_addFace_38 : decode cX4_addFace 38 = .ok (.ireturn, 1) := by decide +kernel
theorem dX4_findAbove_0 : decode cX4_findAbove 0 = .ok (.aload_n 0, 1) := by decide +kernel
theorem dX4_findAbove_1 : decode cX4_findAbove 1 = .ok (.getfield 18, 3) := by decide +kernel
theorem dX4_findAbove_4 : decode cX4_findAbove 4 = .ok (.iload_n 1, 1) := by decide +kernel
theorem dX4_findAbove_5 : decode cX4_findAbove 5 = .ok (.iaload, 1) := by decide +kernel
theorem dX4_findAbove_6 : decode cX4_findAbove 6 = .ok (.istore_n 2, 1) := by decide +kernel
theorem dX4_findAbove_7 : decode cX4_findAbove 7 = .ok (.aload_n 0, 1) := by decide +kernel
theorem dX4_findAbove_8 : decode cX4_findAbove 8 = .ok (.getfield 21, 3) := by decide +kernel
theorem dX4_findAbove_11 : decode cX4_findAbove 11 = .ok (.iload_n 1, 1) := by decide +kernel
theorem dX4_findAbove_12 : decode cX4_findAbove 12 = .ok (.iaload, 1) := by decide +kernel
theorem dX4_findAbove_13 : decode cX4_findAbove 13 = .ok (.istore_n 3, 1) := by decide +kernel
theorem dX4_findAbove_14 : decode cX4_findAbove 14 = .ok (.iload_n 2, 1) := by decide +kernel
theorem dX4_findAbove_15 : decode cX4_findAbove 15 = .ok (.iconst (-1), 1) := by decide +kernel
theorem dX4_findAbove_16 : decode cX4_findAbove 16 = .ok (.if_icmp .eq 16, 3) := by decide +kernel
theorem dX4_findAbove_19 : decode cX4_findAbove 19 = .ok (.iload_n 3, 1) := by decide +kernel
theorem dX4_findAbove_20 : decode cX4_findAbove 20 = .ok (.iconst 1, 1) := by decide +kernel
theorem dX4_findAbove_21 : decode cX4_findAbove 21 = .ok (.iload_n 2, 1) := by decide +kernel
theorem dX4_findAbove_22 : decode cX4_findAbove 22 = .ok (.ishl, 1) := by decide +kernel
theorem dX4_findAbove_23 : decode cX4_findAbove 23 = .ok (.aload_n 0, 1) := by decide +kernel
theorem dX4_findAbove_24 : decode cX4_findAbove 24 = .ok (.getfield 24, 3) := by decide +kernel
theorem dX4_findAbove_27 : decode cX4_findAbove 27 = .ok (.iload_n 2, 1) := by decide +kernel
theorem dX4_findAbove_28 : decode cX4_findAbove 28 = .ok (.iaload, 1) := by decide +kernel
theorem dX4_findAbove_29 : decode cX4_findAbove 29 = .ok (.ior, 1) := by decide +kernel
theorem dX4_findAbove_30 : decode cX4_findAbove 30 = .ok (.ior, 1) := by decide +kernel
theorem dX4_findAbove_31 : decode cX4_findAbove 31 = .ok (.istore_n 3, 1) := by decide +kernel
theorem dX4_findAbove_32 : decode cX4_findAbove 32 = .ok (.iconst 0, 1) := by decide +kernel
theorem dX4_findAbove_33 : decode cX4_findAbove 33 = .ok (.istore 4, 2) := by decide +kernel
theorem dX4_findAbove_35 : decode cX4_findAbove 35 = .ok (.iload 4, 2) := by decide +kernel
theorem dX4_findAbove_37 : decode cX4_findAbove 37 = .ok (.iload_n 1, 1) := by decide +kernel
theorem dX4_findAbove_38 : decode cX4_findAbove 38 = .ok (.if_icmp .ge 33, 3) := by decide +kernel
theorem dX4_findAbove_41 : decode cX4_findAbove 41 = .ok (.aload_n 0, 1) := by decide +kernel
theorem dX4_findAbove_42 : decode cX4_findAbove 42 = .ok (.getfield 21, 3) := by decide +kernel
theorem dX4_findAbove_45 : decode cX4_findAbove 45 = .ok (.iload_n 1, 1) := by decide +kernel
theorem dX4_findAbove_46 : decode cX4_findAbove 46 = .ok (.iaload, 1) := by decide +kernel
theorem dX4_findAbove_47 : decode cX4_findAbove 47 = .ok (.iload 4, 2) := by decide +kernel
theorem dX4_findAbove_49 : decode cX4_findAbove 49 = .ok (.invokestatic 39, 3) := by decide +kernel
theorem dX4_findAbove_52 : decode cX4_findAbove 52 = .ok (.ifCond .eq 13, 3) := by decide +kernel
theorem dX4_findAbove_55 : decode cX4_findAbove 55 = .ok (.iload_n 3, 1) := by decide +kernel
theorem dX4_findAbove_56 : decode cX4_findAbove 56 = .ok (.aload_n 0, 1) := by decide +kernel
theorem dX4_findAbove_57 : decode cX4_findAbove 57 = .ok (.getfield 24, 3) := by decide +kernel
theorem dX4_findAbove_60 : decode cX4_findAbove 60 = .ok (.iload 4, 2) := by decide +kernel
theorem dX4_findAbove_62 : decode cX4_findAbove 62 = .ok (.iaload, 1) := by decide +kernel
theorem dX4_findAbove_63 : decode cX4_findAbove 63 = .ok (.ior, 1) := by decide +kernel
theorem dX4_findAbove_64 : decode cX4_findAbove 64 = .ok (.istore_n 3, 1) := by decide +kernel
theorem dX4_findAbove_65 : decode cX4_findAbove 65 = .ok (.iinc 4 1, 3) := by decide +kernel
theorem dX4_findAbove_68 : decode cX4_findAbove 68 = .ok (.goto (-33), 3) := by decide +kernel
theorem dX4_findAbove_71 : decode cX4_findAbove 71 = .ok (.aload_n 0, 1) := by decide +kernel
theorem dX4_findAbove_72 : decode cX4_findAbove 72 = .ok (.getfield 24, 3) := by decide +kernel
theorem dX4_findAbove_75 : decode cX4_findAbove 75 = .ok (.iload_n 1, 1) := by decide +kernel
theorem dX4_findAbove_76 : decode cX4_findAbove 76 = .ok (.iload_n 3, 1) := by decide +kernel
theorem dX4_findAbove_77 : decode cX4_findAbove 77 = .ok (.iastore, 1) := by decide +kernel
theorem dX4_findAbove_78 : decode cX4_findAbove 78 = .ok (.return_, 1) := by decide +kernel
theorem dX4_hasFace_0 : decode cX4_hasFace 0 = .ok (.aload_n 0, 1) := by decide +kernel
theorem dX4_hasFace_1 : decode cX4_hasFace 1 = .ok (.getfield 21, 3) := by decide +kernel
theorem dX4_hasFace_4 : decode cX4_hasFace 4 = .ok (.iload_n 1, 1) := by decide +kernel
theorem dX4_hasFace_5 : decode cX4_hasFace 5 = .ok (.iaload, 1) := by decide +kernel
theorem dX4_hasFace_6 : decode cX4_hasFace 6 = .ok (.iload_n 2, 1) := by decide +kernel
theorem dX4_hasFace_7 : decode cX4_hasFace 7 = .ok (.invokestatic 39, 3) := by decide +kernel
theorem dX4_hasFace_10 : decode cX4_hasFace 10 = .ok (.ireturn, 1) := by decide +kernel
theorem dX4_countFaces_0 : decode cX4_countFaces 0 = .ok (.aload_n 0, 1) := by decide +kernel
theorem dX4_countFaces_1 : decode cX4_countFaces 1 = .ok (.getfield 21, 3) := by decide +kernel
theorem dX4_countFaces_4 : decode cX4_countFaces 4 = .ok (.iload_n 1, 1) := by decide +kernel
theorem dX4_countFaces_5 : decode cX4_countFaces 5 = .ok (.iaload, 1) := by decide +kernel
theorem dX4_countFaces_6 : decode cX4_countFaces 6 = .ok (.invokestatic 43, 3) := by decide +kernel
theorem dX4_countFaces_9 : decode cX4_countFaces 9 = .ok (.ireturn, 1) := by decide +kernel
theorem dX4_isInterface_0 : decode cX4_isInterface 0 = .ok (.aload_n 0, 1) := by decide +kernel
theorem dX4_isInterface_1 : decode cX4_isInterface 1 = .ok (.getfield 9, 3) := by decide +kernel
theorem dX4_isInterface_4 : decode cX4_isInterface 4 = .ok (.iload_n 1, 1) := by decide +kernel
theorem dX4_isInterface_5 : decode cX4_isInterface 5 = .ok (.iaload, 1) := by decide +kernel
theorem dX4_isInterface_6 : decode cX4_isInterface 6 = .ok (.iconst 2, 1) := by decide +kernel
theorem dX4_isInterface_7 : decode cX4_isInterface 7 = .ok (.if_icmp .ne 7, 3) := by decide +kernel
theorem dX4_isInterface_10 : decode cX4_isInterface 10 = .ok (.iconst 1, 1) := by decide +kernel
theorem dX4_isInterface_11 : decode cX4_isInterface 11 = .ok (.goto 4, 3) := by decide +kernel
theorem dX4_isInterface_14 : decode cX4_isInterface 14 = .ok (.iconst 0, 1) := by decide +kernel
theorem dX4_isInterface_15 : decode cX4_isInterface 15 = .ok (.ireturn, 1) := by decide +kernel
theorem dX4_isPlainClass_0 : decode cX4_isPlainClass 0 = .ok (.aload_n 0, 1) := by decide +kernel
theorem dX4_isPlainClass_1 : decode cX4_isPlainClass 1 = .ok (.getfield 9, 3) := by decide +kernel
theorem dX4_isPlainClass_4 : decode cX4_isPlainClass 4 = .ok (.iload_n 1, 1) := by decide +kernel
theorem dX4_isPlainClass_5 : decode cX4_isPlainClass 5 = .ok (.iaload, 1) := by decide +kernel
theorem dX4_isPlainClass_6 : decode cX4_isPlainClass 6 = .ok (.ifCond .ne 7, 3) := by decide +kernel
theorem dX4_isPlainClass_9 : decode cX4_isPlainClass 9 = .ok (.iconst 1, 1) := by decide +kernel
theorem dX4_isPlainClass_10 : decode cX4_isPlainClass 10 = .ok (.goto 4, 3) := by decide +kernel
theorem dX4_isPlainClass_13 : decode cX4_isPlainClass 13 = .ok (.iconst 0, 1) := by decide +kernel
theorem dX4_isPlainClass_14 : decode cX4_isPlainClass 14 = .ok (.ireturn, 1) := by decide +kernel
theorem dX4_parentOf_0 : decode cX4_parentOf 0 = .ok (.aload_n 0, 1) := by decide +kernel
theorem dX4_parentOf_1 : decode cX4_parentOf 1 = .ok (.getfield 18, 3) := by decide +kernel
theorem dX4_parentOf_4 : decode cX4_parentOf 4 = .ok (.iload_n 1, 1) := by decide +kernel
theorem dX4_parentOf_5 : decode cX4_parentOf 5 = .ok (.iaload, 1) := by decide +kernel
theorem dX4_parentOf_6 : decode cX4_parentOf 6 = .ok (.ireturn, 1) := by decide +kernel
theorem dX4_packetOf_0 : decode cX4_packetOf 0 = .ok (.aload_n 0, 1) := by decide +kernel
theorem dX4_packetOf_1 : decode cX4_packetOf 1 = .ok (.getfield 15, 3) := by decide +kernel
theorem dX4_packetOf_4 : decode cX4_packetOf 4 = .ok (.iload_n 1, 1) := by decide +kernel
theorem dX4_packetOf_5 : decode cX4_packetOf 5 = .ok (.iaload, 1) := by decide +kernel
theorem dX4_packetOf_6 : decode cX4_packetOf 6 = .ok (.ireturn, 1) := by decide +kernel
theorem dX4_allAbove_0 : decode cX4_allAbove 0 = .ok (.aload_n 0, 1) := by decide +kernel
theorem dX4_allAbove_1 : decode cX4_allAbove 1 = .ok (.getfield 24, 3) := by decide +kernel
theorem dX4_allAbove_4 : decode cX4_allAbove 4 = .ok (.iload_n 1, 1) := by decide +kernel
theorem dX4_allAbove_5 : decode cX4_allAbove 5 = .ok (.iaload, 1) := by decide +kernel
theorem dX4_allAbove_6 : decode cX4_allAbove 6 = .ok (.ireturn, 1) := by decide +kernel
theorem dX4_isBelow_0 : decode cX4_isBelow 0 = .ok (.aload_n 0, 1) := by decide +kernel
theorem dX4_isBelow_1 : decode cX4_isBelow 1 = .ok (.getfield 24, 3) := by decide +kernel
theorem dX4_isBelow_4 : decode cX4_isBelow 4 = .ok (.iload_n 1, 1) := by decide +kernel
theorem dX4_isBelow_5 : decode cX4_isBelow 5 = .ok (.iaload, 1) := by decide +kernel
theorem dX4_isBelow_6 : decode cX4_isBelow 6 = .ok (.iload_n 2, 1) := by decide +kernel
theorem dX4_isBelow_7 : decode cX4_isBelow 7 = .ok (.ishr, 1) := by decide +kernel
theorem dX4_isBelow_8 : decode cX4_isBelow 8 = .ok (.iconst 1, 1) := by decide +kernel
theorem dX4_isBelow_9 : decode cX4_isBelow 9 = .ok (.iand, 1) := by decide +kernel
theorem dX4_isBelow_10 : decode cX4_isBelow 10 = .ok (.ifCond .eq 7, 3) := by decide +kernel
theorem dX4_isBelow_13 : decode cX4_isBelow 13 = .ok (.iconst 1, 1) := by decide +kernel
theorem dX4_isBelow_14 : decode cX4_isBelow 14 = .ok (.goto 4, 3) := by decide +kernel
theorem dX4_isBelow_17 : decode cX4_isBelow 17 = .ok (.iconst 0, 1) := by decide +kernel
theorem dX4_isBelow_18 : decode cX4_isBelow 18 = .ok (.ireturn, 1) := by decide +kernel
theorem dX4_isSub_0 : decode cX4_isSub 0 = .ok (.iload_n 1, 1) := by decide +kernel
theorem dX4_isSub_1 : decode cX4_isSub 1 = .ok (.iload_n 2, 1) := by decide +kernel
theorem dX4_isSub_2 : decode cX4_isSub 2 = .ok (.if_icmp .eq 16, 3) := by decide +kernel
theorem dX4_isSub_5 : decode cX4_isSub 5 = .ok (.aload_n 0, 1) := by decide +kernel
theorem dX4_isSub_6 : decode cX4_isSub 6 = .ok (.getfield 24, 3) := by decide +kernel
theorem dX4_isSub_9 : decode cX4_isSub 9 = .ok (.iload_n 1, 1) := by decide +kernel
theorem dX4_isSub_10 : decode cX4_isSub 10 = .ok (.iaload, 1) := by decide +kernel
theorem dX4_isSub_11 : decode cX4_isSub 11 = .ok (.iload_n 2, 1) := by decide +kernel
theorem dX4_isSub_12 : decode cX4_isSub 12 = .ok (.ishr, 1) := by decide +kernel
theorem dX4_isSub_13 : decode cX4_isSub 13 = .ok (.iconst 1, 1) := by decide +kernel
theorem dX4_isSub_14 : decode cX4_isSub 14 = .ok (.iand, 1) := by decide +kernel
theorem dX4_isSub_15 : decode cX4_isSub 15 = .ok (.ifCond .eq 7, 3) := by decide +kernel
theorem dX4_isSub_18 : decode cX4_isSub 18 = .ok (.iconst 1, 1) := by decide +kernel
theorem dX4_isSub_19 : decode cX4_isSub 19 = .ok (.goto 4, 3) := by decide +kernel
theorem dX4_isSub_22 : decode cX4_isSub 22 = .ok (.iconst 0, 1) := by decide +kernel
theorem dX4_isSub_23 : decode cX4_isSub 23 = .ok (.ireturn, 1) := by decide +kernel
theorem dX3_init_0 : decode cX3_init 0 = .ok (.aload_n 0, 1) := by decide +kernel
theorem dX3_init_1 : decode cX3_init 1 = .ok (.invokespecial 3, 3) := by decide +kernel
theorem dX3_init_4 : decode cX3_init 4 = .ok (.aload_n 0, 1) := by decide +kernel
theorem dX3_init_5 : decode cX3_init 5 = .ok (.bipush 8, 2) := by decide +kernel
theorem dX3_init_7 : decode cX3_init 7 = .ok (.newarray .int, 2) := by decide +kernel
theorem dX3_init_9 : decode cX3_init 9 = .ok (.putfield 9, 3) := by decide +kernel
theorem dX3_init_12 : decode cX3_init 12 = .ok (.aload_n 0, 1) := by decide +kernel
theorem dX3_init_13 : decode cX3_init 13 = .ok (.iconst 0, 1) := by decide +kernel
theorem dX3_init_14 : decode cX3_init 14 = .ok (.putfield 15, 3) := by decide +kernel
theorem dX3_init_17 : decode cX3_init 17 = .ok (.aload_n 0, 1) := by decide +kernel
theorem dX3_init_18 : decode cX3_init 18 = .ok (.iconst 0, 1) := by decide +kernel
theorem dX3_init_19 : decode cX3_init 19 = .ok (.putfield 19, 3) := by decide +kernel
theorem dX3_init_22 : decode cX3_init 22 = .ok (.return_, 1) := by decide +kernel
theorem dX3_forget_0 : decode cX3_forget 0 = .ok (.aload_n 0, 1) := by decide +kernel
theorem dX3_forget_1 : decode cX3_forget 1 = .ok (.iconst 0, 1) := by decide +kernel
theorem dX3_forget_2 : decode cX3_forget 2 = .ok (.putfield 15, 3) := by decide +kernel
theorem dX3_forget_5 : decode cX3_forget 5 = .ok (.aload_n 0, 1) := by decide +kernel
theorem dX3_forget_6 : decode cX3_forget 6 = .ok (.iconst 0, 1) := by decide +kernel
theorem dX3_forget_7 : decode cX3_forget 7 = .ok (.putfield 19, 3) := by decide +kernel
theorem dX3_forget_10 : decode cX3_forget 10 = .ok (.return_, 1) := by decide +kernel
theorem dX3_size_0 : decode cX3_size 0 = .ok (.aload_n 0, 1) := by decide +kernel
theorem dX3_size_1 : decode cX3_size 1 = .ok (.getfield 19, 3) := by decide +kernel
theorem dX3_size_4 : decode cX3_size 4 = .ok (.ireturn, 1) := by decide +kernel
theorem dX3_has_0 : decode cX3_has 0 = .ok (.iload_n 1, 1) := by decide +kernel
theorem dX3_has_1 : decode cX3_has 1 = .ok (.ifCond .lt 15, 3) := by decide +kernel
theorem dX3_has_4 : decode cX3_has 4 = .ok (.iload_n 1, 1) := by decide +kernel
theorem dX3_has_5 : decode cX3_has 5 = .ok (.aload_n 0, 1) := by decide +kernel
theorem dX3_has_6 : decode cX3_has 6 = .ok (.getfield 19, 3) := by decide +kernel
theorem dX3_has_9 : decode cX3_has 9 = .ok (.if_icmp .ge 7, 3) := by decide +kernel
theorem dX3_has_12 : decode cX3_has 12 = .ok (.iconst 1, 1) := by decide +kernel
theorem dX3_has_13 : decode cX3_has 13 = .ok (.goto 4, 3) := by decide +kernel
theorem dX3_has_16 : decode cX3_has 16 = .ok (.iconst 0, 1) := by decide +kernel
theorem dX3_has_17 : decode cX3_has 17 = .ok (.ireturn, 1) := by decide +kernel
theorem dX3_isFull_0 : decode cX3_isFull 0 = .ok (.aload_n 0, 1) := by decide +kernel
theorem dX3_isFull_1 : decode cX3_isFull 1 = .ok (.getfield 19, 3) := by decide +kernel
theorem dX3_isFull_4 : decode cX3_isFull 4 = .ok (.bipush 8, 2) := by decide +kernel
theorem dX3_isFull_6 : decode cX3_isFull 6 = .ok (.if_icmp .lt 7, 3) := by decide +kernel
theorem dX3_isFull_9 : decode cX3_isFull 9 = .ok (.iconst 1, 1) := by decide +kernel
theorem dX3_isFull_10 : decode cX3_isFull 10 = .ok (.goto 4, 3) := by decide +kernel
theorem dX3_isFull_13 : decode cX3_isFull 13 = .ok (.iconst 0, 1) := by decide +kernel
theorem dX3_isFull_14 : decode cX3_isFull 14 = .ok (.ireturn, 1) := by decide +kernel
theorem dX3_add_0 : decode cX3_add 0 = .ok (.aload_n 0, 1) := by decide +kernel
theorem dX3_add_1 : decode cX3_add 1 = .ok (.getfield 19, 3) := by decide +kernel
theorem dX3_add_4 : decode cX3_add 4 = .ok (.istore_n 3, 1) := by decide +kernel
theorem dX3_add_5 : decode cX3_add 5 = .ok (.aload_n 0, 1) := by decide +kernel
theorem dX3_add_6 : decode cX3_add 6 = .ok (.getfield 9, 3) := by decide +kernel
theorem dX3_add_9 : decode cX3_add 9 = .ok (.iload_n 3, 1) := by decide +kernel
theorem dX3_add_10 : decode cX3_add 10 = .ok (.iconst 1, 1) := by decide +kernel
theorem dX3_add_11 : decode cX3_add 11 = .ok (.iload_n 3, 1) := by decide +kernel
theorem dX3_add_12 : decode cX3_add 12 = .ok (.ishl, 1) := by decide +kernel
theorem dX3_add_13 : decode cX3_add 13 = .ok (.iastore, 1) := by decide +kernel
theorem dX3_add_14 : decode cX3_add 14 = .ok (.iload_n 1, 1) := by decide +kernel
theorem dX3_add_15 : decode cX3_add 15 = .ok (.iconst (-1), 1) := by decide +kernel
theorem dX3_add_16 : decode cX3_add 16 = .ok (.if_icmp .eq 18, 3) := by decide +kernel
theorem dX3_add_19 : decode cX3_add 19 = .ok (.aload_n 0, 1) := by decide +kernel
theorem dX3_add_20 : decode cX3_add 20 = .ok (.getfield 9, 3) := by decide +kernel
theorem dX3_add_23 : decode cX3_add 23 = .ok (.iload_n 3, 1) := by decide +kernel
theorem dX3_add_24 : decode cX3_add 24 = .ok (.dup2, 1) := by decide +kernel
theorem dX3_add_25 : decode cX3_add 25 = .ok (.iaload, 1) := by decide +kernel
theorem dX3_add_26 : decode cX3_add 26 = .ok (.aload_n 0, 1) := by decide +kernel
theorem dX3_add_27 : decode cX3_add 27 = .ok (.getfield 9, 3) := by decide +kernel
theorem dX3_add_30 : decode cX3_add 30 = .ok (.iload_n 1, 1) := by decide +kernel
theorem dX3_add_31 : decode cX3_add 31 = .ok (.iaload, 1) := by decide +kernel
theorem dX3_add_32 : decode cX3_add 32 = .ok (.ior, 1) := by decide +kernel
theorem dX3_add_33 : decode cX3_add 33 = .ok (.iastore, 1) := by decide +kernel
theorem dX3_add_34 : decode cX3_add 34 = .ok (.iload_n 2, 1) := by decide +kernel
theorem dX3_add_35 : decode cX3_add 35 = .ok (.ifCond .eq 15, 3) := by decide +kernel
theorem dX3_add_38 : decode cX3_add 38 = .ok (.aload_n 0, 1) := by decide +kernel
theorem dX3_add_39 : decode cX3_add 39 = .ok (.dup, 1) := by decide +kernel
theorem dX3_add_40 : decode cX3_add 40 = .ok (.getfield 15, 3) := by decide +kernel
theorem dX3_add_43 : decode cX3_add 43 = .ok (.iconst 1, 1) := by decide +kernel
theorem dX3_add_44 : decode cX3_add 44 = .ok (.iload_n 3, 1) := by decide +kernel
theorem dX3_add_45 : decode cX3_add 45 = .ok (.ishl, 1) := by decide +kernel
theorem dX3_add_46 : decode cX3_add 46 = .ok (.ior, 1) := by decide +kernel
theorem dX3_add_47 : decode cX3_add 47 = .ok (.putfield 15, 3) := by decide +kernel
theorem dX3_add_50 : decode cX3_add 50 = .ok (.aload_n 0, 1) := by decide +kernel
theorem dX3_add_51 : decode cX3_add 51 = .ok (.dup, 1) := by decide +kernel
theorem dX3_add_52 : decode cX3_add 52 = .ok (.getfield 19, 3) := by decide +kernel
theorem dX3_add_55 : decode cX3_add 55 = .ok (.iconst 1, 1) := by decide +kernel
theorem dX3_add_56 : decode cX3_add 56 = .ok (.iadd, 1) := by decide +kernel
theorem dX3_add_57 : decode cX3_add 57 = .ok (.putfield 19, 3) := by decide +kernel
theorem dX3_add_60 : decode cX3_add 60 = .ok (.iload_n 3, 1) := by decide +kernel
theorem dX3_add_61 : decode cX3_add 61 = .ok (.ireturn, 1) := by decide +kernel
theorem dX3_areAllowed_0 : decode cX3_areAllowed 0 = .ok (.iconst 0, 1) := by decide +kernel
theorem dX3_areAllowed_1 : decode cX3_areAllowed 1 = .ok (.istore_n 3, 1) := by decide +kernel
theorem dX3_areAllowed_2 : decode cX3_areAllowed 2 = .ok (.iload_n 3, 1) := by decide +kernel
theorem dX3_areAllowed_3 : decode cX3_areAllowed 3 = .ok (.aload_n 0, 1) := by decide +kernel
theorem dX3_areAllowed_4 : decode cX3_areAllowed 4 = .ok (.getfield 19, 3) := by decide +kernel
theorem dX3_areAllowed_7 : decode cX3_areAllowed 7 = .ok (.if_icmp .ge 35, 3) := by decide +kernel
theorem dX3_areAllowed_10 : decode cX3_areAllowed 10 = .ok (.iload_n 1, 1) := by decide +kernel
theorem dX3_areAllowed_11 : decode cX3_areAllowed 11 = .ok (.aload_n 0, 1) := by decide +kernel
theorem dX3_areAllowed_12 : decode cX3_areAllowed 12 = .ok (.getfield 15, 3) := by decide +kernel
theorem dX3_areAllowed_15 : decode cX3_areAllowed 15 = .ok (.iand, 1) := by decide +kernel
theorem dX3_areAllowed_16 : decode cX3_areAllowed 16 = .ok (.iload_n 3, 1) := by decide +kernel
theorem dX3_areAllowed_17 : decode cX3_areAllowed 17 = .ok (.invokestatic 22, 3) := by decide +kernel
theorem dX3_areAllowed_20 : decode cX3_areAllowed 20 = .ok (.ifCond .eq 16, 3) := by decide +kernel
theorem dX3_areAllowed_23 : decode cX3_areAllowed 23 = .ok (.aload_n 0, 1) := by decide +kernel
theorem dX3_areAllowed_24 : decode cX3_areAllowed 24 = .ok (.getfield 9, 3) := by decide +kernel
theorem dX3_areAllowed_27 : decode cX3_areAllowed 27 = .ok (.iload_n 3, 1) := by decide +kernel
theorem dX3_areAllowed_28 : decode cX3_areAllowed 28 = .ok (.iaload, 1) := by decide +kernel
theorem dX3_areAllowed_29 : decode cX3_areAllowed 29 = .ok (.iload_n 2, 1) := by decide +kernel
theorem dX3_areAllowed_30 : decode cX3_areAllowed 30 = .ok (.iand, 1) := by decide +kernel
theorem dX3_areAllowed_31 : decode cX3_areAllowed 31 = .ok (.ifCond .ne 5, 3) := by decide +kernel
theorem dX3_areAllowed_34 : decode cX3_areAllowed 34 = .ok (.iconst 0, 1) := by decide +kernel
theorem dX3_areAllowed_35 : decode cX3_areAllowed 35 = .ok (.ireturn, 1) := by decide +kernel
theorem dX3_areAllowed_36 : decode cX3_areAllowed 36 = .ok (.iinc 3 1, 3) := by decide +kernel
theorem dX3_areAllowed_39 : decode cX3_areAllowed 39 = .ok (.goto (-37), 3) := by decide +kernel
theorem dX3_areAllowed_42 : decode cX3_areAllowed 42 = .ok (.iconst 1, 1) := by decide +kernel
theorem dX3_areAllowed_43 : decode cX3_areAllowed 43 = .ok (.ireturn, 1) := by decide +kernel
theorem dX2_init_0 : decode cX2_init 0 = .ok (.aload_n 0, 1) := by decide +kernel
theorem dX2_init_1 : decode cX2_init 1 = .ok (.invokespecial 3, 3) := by decide +kernel
theorem dX2_init_4 : decode cX2_init 4 = .ok (.aload_n 0, 1) := by decide +kernel
theorem dX2_init_5 : decode cX2_init 5 = .ok (.bipush 60, 2) := by decide +kernel
theorem dX2_init_7 : decode cX2_init 7 = .ok (.newarray .int, 2) := by decide +kernel
theorem dX2_init_9 : decode cX2_init 9 = .ok (.putfield 9, 3) := by decide +kernel
theorem dX2_init_12 : decode cX2_init 12 = .ok (.aload_n 0, 1) := by decide +kernel
theorem dX2_init_13 : decode cX2_init 13 = .ok (.bipush 60, 2) := by decide +kernel
theorem dX2_init_15 : decode cX2_init 15 = .ok (.newarray .int, 2) := by decide +kernel
theorem dX2_init_17 : decode cX2_init 17 = .ok (.putfield 15, 3) := by decide +kernel
theorem dX2_init_20 : decode cX2_init 20 = .ok (.aload_n 0, 1) := by decide +kernel
theorem dX2_init_21 : decode cX2_init 21 = .ok (.bipush 60, 2) := by decide +kernel
theorem dX2_init_23 : decode cX2_init 23 = .ok (.newarray .int, 2) := by decide +kernel
theorem dX2_init_25 : decode cX2_init 25 = .ok (.putfield 18, 3) := by decide +kernel
theorem dX2_init_28 : decode cX2_init 28 = .ok (.aload_n 0, 1) := by decide +kernel
theorem dX2_init_29 : decode cX2_init 29 = .ok (.bipush 60, 2) := by decide +kernel
theorem dX2_init_31 : decode cX2_init 31 = .ok (.newarray .int, 2) := by decide +kernel
theorem dX2_init_33 : decode cX2_init 33 = .ok (.putfield 21, 3) := by decide +kernel
theorem dX2_init_36 : decode cX2_init 36 = .ok (.aload_n 0, 1) := by decide +kernel
theorem dX2_init_37 : decode cX2_init 37 = .ok (.bipush 60, 2) := by decide +kernel
theorem dX2_init_39 : decode cX2_init 39 = .ok (.newarray .int, 2) := by decide +kernel
theorem dX2_init_41 : decode cX2_init 41 = .ok (.putfield 24, 3) := by decide +kernel
theorem dX2_init_44 : decode cX2_init 44 = .ok (.aload_n 0, 1) := by decide +kernel
theorem dX2_init_45 : decode cX2_init 45 = .ok (.sipush 128, 3) := by decide +kernel
theorem dX2_init_48 : decode cX2_init 48 = .ok (.newarray .int, 2) := by decide +kernel
theorem dX2_init_50 : decode cX2_init 50 = .ok (.putfield 27, 3) := by decide +kernel
theorem dX2_init_53 : decode cX2_init 53 = .ok (.aload_n 0, 1) := by decide +kernel
theorem dX2_init_54 : decode cX2_init 54 = .ok (.iconst 0, 1) := by decide +kernel
theorem dX2_init_55 : decode cX2_init 55 = .ok (.putfield 30, 3) := by decide +kernel
theorem dX2_init_58 : decode cX2_init 58 = .ok (.aload_n 0, 1) := by decide +kernel
theorem dX2_init_59 : decode cX2_init 59 = .ok (.aload_n 1, 1) := by decide +kernel
theorem dX2_init_60 : decode cX2_init 60 = .ok (.putfield 34, 3) := by decide +kernel
theorem dX2_init_63 : decode cX2_init 63 = .ok (.return_, 1) := by decide +kernel
theorem dX2_forget_0 : decode cX2_forget 0 = .ok (.iconst 0, 1) := by decide +kernel
theorem dX2_forget_1 : decode cX2_forget 1 = .ok (.istore_n 1, 1) := by decide +kernel
theorem dX2_forget_2 : decode cX2_forget 2 = .ok (.iload_n 1, 1) := by decide +kernel
theorem dX2_forget_3 : decode cX2_forget 3 = .ok (.aload_n 0, 1) := by decide +kernel
theorem dX2_forget_4 : decode cX2_forget 4 = .ok (.getfield 27, 3) := by decide +kernel
theorem dX2_forget_7 : decode cX2_forget 7 = .ok (.arraylength, 1) := by decide +kernel
theorem dX2_forget_8 : decode cX2_forget 8 = .ok (.if_icmp .ge 16, 3) := by decide +kernel
theorem dX2_forget_11 : decode cX2_forget 11 = .ok (.aload_n 0, 1) := by decide +kernel
theorem dX2_forget_12 : decode cX2_forget 12 = .ok (.getfield 27, 3) := by decide +kernel
theorem dX2_forget_15 : decode cX2_forget 15 = .ok (.iload_n 1, 1) := by decide +kernel
theorem dX2_forget_16 : decode cX2_forget 16 = .ok (.iconst 0, 1) := by decide +kernel
theorem dX2_forget_17 : decode cX2_forget 17 = .ok (.iastore, 1) := by decide +kernel
theorem dX2_forget_18 : decode cX2_forget 18 = .ok (.iinc 1 1, 3) := by decide +kernel
theorem dX2_forget_21 : decode cX2_forget 21 = .ok (.goto (-19), 3) := by decide +kernel
theorem dX2_forget_24 : decode cX2_forget 24 = .ok (.aload_n 0, 1) := by decide +kernel
theorem dX2_forget_25 : decode cX2_forget 25 = .ok (.iconst 0, 1) := by decide +kernel
theorem dX2_forget_26 : decode cX2_forget 26 = .ok (.putfield 30, 3) := by decide +kernel
theorem dX2_forget_29 : decode cX2_forget 29 = .ok (.return_, 1) := by decide +kernel
theorem dX2_size_0 : decode cX2_size 0 = .ok (.aload_n 0, 1) := by decide +kernel
theorem dX2_size_1 : decode cX2_size 1 = .ok (.getfield 30, 3) := by decide +kernel
theorem dX2_size_4 : decode cX2_size 4 = .ok (.ireturn, 1) := by decide +kernel
theorem dX2_has_0 : decode cX2_has 0 = .ok (.iload_n 1, 1) := by decide +kernel
theorem dX2_has_1 : decode cX2_has 1 = .ok (.ifCond .lt 15, 3) := by decide +kernel
theorem dX2_has_4 : decode cX2_has 4 = .ok (.iload_n 1, 1) := by decide +kernel
theorem dX2_has_5 : decode cX2_has 5 = .ok (.aload_n 0, 1) := by decide +kernel
theorem dX2_has_6 : decode cX2_has 6 = .ok (.getfield 30, 3) := by decide +kernel
theorem dX2_has_9 : decode cX2_has 9 = .ok (.if_icmp .ge 7, 3) := by decide +kernel
theorem dX2_has_12 : decode cX2_has 12 = .ok (.iconst 1, 1) := by decide +kernel
theorem dX2_has_13 : decode cX2_has 13 = .ok (.goto 4, 3) := by decide +kernel
theorem dX2_has_16 : decode cX2_has 16 = .ok (.iconst 0, 1) := by decide +kernel
theorem dX2_has_17 : decode cX2_has 17 = .ok (.ireturn, 1) := by decide +kernel
theorem dX2_isFull_0 : decode cX2_isFull 0 = .ok (.aload_n 0, 1) := by decide +kernel
theorem dX2_isFull_1 : decode cX2_isFull 1 = .ok (.getfield 30, 3) := by decide +kernel
theorem dX2_isFull_4 : decode cX2_isFull 4 = .ok (.bipush 60, 2) := by decide +kernel
theorem dX2_isFull_6 : decode cX2_isFull 6 = .ok (.if_icmp .lt 7, 3) := by decide +kernel
theorem dX2_isFull_9 : decode cX2_isFull 9 = .ok (.iconst 1, 1) := by decide +kernel
theorem dX2_isFull_10 : decode cX2_isFull 10 = .ok (.goto 4, 3) := by decide +kernel
theorem dX2_isFull_13 : decode cX2_isFull 13 = .ok (.iconst 0, 1) := by decide +kernel
theorem dX2_isFull_14 : decode cX2_isFull 14 = .ok (.ireturn, 1) := by decide +kernel
theorem dX2_add_0 : decode cX2_add 0 = .ok (.aload_n 0, 1) := by decide +kernel
theorem dX2_add_1 : decode cX2_add 1 = .ok (.getfield 30, 3) := by decide +kernel
theorem dX2_add_4 : decode cX2_add 4 = .ok (.istore 5, 2) := by decide +kernel
theorem dX2_add_6 : decode cX2_add 6 = .ok (.aload_n 0, 1) := by decide +kernel
theorem dX2_add_7 : decode cX2_add 7 = .ok (.getfield 9, 3) := by decide +kernel
theorem dX2_add_10 : decode cX2_add 10 = .ok (.iload 5, 2) := by decide +kernel
theorem dX2_add_12 : decode cX2_add 12 = .ok (.iload_n 1, 1) := by decide +kernel
theorem dX2_add_13 : decode cX2_add 13 = .ok (.iastore, 1) := by decide +kernel
theorem dX2_add_14 : decode cX2_add 14 = .ok (.aload_n 0, 1) := by decide +kernel
theorem dX2_add_15 : decode cX2_add 15 = .ok (.getfield 15, 3) := by decide +kernel
theorem dX2_add_18 : decode cX2_add 18 = .ok (.iload 5, 2) := by decide +kernel
theorem dX2_add_20 : decode cX2_add 20 = .ok (.iload_n 2, 1) := by decide +kernel
theorem dX2_add_21 : decode cX2_add 21 = .ok (.iastore, 1) := by decide +kernel
theorem dX2_add_22 : decode cX2_add 22 = .ok (.aload_n 0, 1) := by decide +kernel
theorem dX2_add_23 : decode cX2_add 23 = .ok (.getfield 18, 3) := by decide +kernel
theorem dX2_add_26 : decode cX2_add 26 = .ok (.iload 5, 2) := by decide +kernel
theorem dX2_add_28 : decode cX2_add 28 = .ok (.iload_n 3, 1) := by decide +kernel
theorem dX2_add_29 : decode cX2_add 29 = .ok (.iastore, 1) := by decide +kernel
theorem dX2_add_30 : decode cX2_add 30 = .ok (.aload_n 0, 1) := by decide +kernel
theorem dX2_add_31 : decode cX2_add 31 = .ok (.getfield 34, 3) := by decide +kernel
theorem dX2_add_34 : decode cX2_add 34 = .ok (.iload_n 1, 1) := by decide +kernel
theorem dX2_add_35 : decode cX2_add 35 = .ok (.invokevirtual 38, 3) := by decide +kernel
theorem dX2_add_38 : decode cX2_add 38 = .ok (.ifCond .eq 14, 3) := by decide +kernel
theorem dX2_add_41 : decode cX2_add 41 = .ok (.iload 4, 2) := by decide +kernel
theorem dX2_add_43 : decode cX2_add 43 = .ok (.iconst 4, 1) := by decide +kernel
theorem dX2_add_44 : decode cX2_add 44 = .ok (.iand, 1) := by decide +kernel
theorem dX2_add_45 : decode cX2_add 45 = .ok (.ifCond .ne 7, 3) := by decide +kernel
theorem dX2_add_48 : decode cX2_add 48 = .ok (.iconst 1, 1) := by decide +kernel
theorem dX2_add_49 : decode cX2_add 49 = .ok (.goto 4, 3) := by decide +kernel
theorem dX2_add_52 : decode cX2_add 52 = .ok (.iconst 0, 1) := by decide +kernel
theorem dX2_add_53 : decode cX2_add 53 = .ok (.istore 6, 2) := by decide +kernel
theorem dX2_add_55 : decode cX2_add 55 = .ok (.aload_n 0, 1) := by decide +kernel
theorem dX2_add_56 : decode cX2_add 56 = .ok (.getfield 21, 3) := by decide +kernel
theorem dX2_add_59 : decode cX2_add 59 = .ok (.iload 5, 2) := by decide +kernel
theorem dX2_add_61 : decode cX2_add 61 = .ok (.iload 6, 2) := by decide +kernel
theorem dX2_add_63 : decode cX2_add 63 = .ok (.ifCond .eq 10, 3) := by decide +kernel
theorem dX2_add_66 : decode cX2_add 66 = .ok (.iload 4, 2) := by decide +kernel
theorem dX2_add_68 : decode cX2_add 68 = .ok (.iconst 1, 1) := by decide +kernel
theorem dX2_add_69 : decode cX2_add 69 = .ok (.ior, 1) := by decide +kernel
theorem dX2_add_70 : decode cX2_add 70 = .ok (.goto 5, 3) := by decide +kernel
theorem dX2_add_73 : decode cX2_add 73 = .ok (.iload 4, 2) := by decide +kernel
theorem dX2_add_75 : decode cX2_add 75 = .ok (.iastore, 1) := by decide +kernel
theorem dX2_add_76 : decode cX2_add 76 = .ok (.aload_n 0, 1) := by decide +kernel
theorem dX2_add_77 : decode cX2_add 77 = .ok (.getfield 24, 3) := by decide +kernel
theorem dX2_add_80 : decode cX2_add 80 = .ok (.iload 5, 2) := by decide +kernel
theorem dX2_add_82 : decode cX2_add 82 = .ok (.iconst 0, 1) := by decide +kernel
theorem dX2_add_83 : decode cX2_add 83 = .ok (.iastore, 1) := by decide +kernel
theorem dX2_add_84 : decode cX2_add 84 = .ok (.aload_n 0, 1) := by decide +kernel
theorem dX2_add_85 : decode cX2_add 85 = .ok (.dup, 1) := by decide +kernel
theorem dX2_add_86 : decode cX2_add 86 = .ok (.getfield 30, 3) := by decide +kernel
theorem dX2_add_89 : decode cX2_add 89 = .ok (.iconst 1, 1) := by decide +kernel
theorem dX2_add_90 : decode cX2_add 90 = .ok (.iadd, 1) := by decide +kernel
theorem dX2_add_91 : decode cX2_add 91 = .ok (.putfield 30, 3) := by decide +kernel
theorem dX2_add_94 : decode cX2_add 94 = .ok (.aload_n 0, 1) := by decide +kernel
theorem dX2_add_95 : decode cX2_add 95 = .ok (.getfield 27, 3) := by decide +kernel
theorem dX2_add_98 : decode cX2_add 98 = .ok (.iload_n 1, 1) := by decide +kernel
theorem dX2_add_99 : decode cX2_add 99 = .ok (.bipush 8, 2) := by decide +kernel
theorem dX2_add_101 : decode cX2_add 101 = .ok (.imul, 1) := by decide +kernel
theorem dX2_add_102 : decode cX2_add 102 = .ok (.iload_n 2, 1) := by decide +kernel
theorem dX2_add_103 : decode cX2_add 103 = .ok (.iadd, 1) := by decide +kernel
theorem dX2_add_104 : decode cX2_add 104 = .ok (.aload_n 0, 1) := by decide +kernel
theorem dX2_add_105 : decode cX2_add 105 = .ok (.getfield 30, 3) := by decide +kernel
theorem dX2_add_108 : decode cX2_add 108 = .ok (.iastore, 1) := by decide +kernel
theorem dX2_add_109 : decode cX2_add 109 = .ok (.iload 5, 2) := by decide +kernel
theorem dX2_add_111 : decode cX2_add 111 = .ok (.ireturn, 1) := by decide +kernel
theorem dX2_addThrow_0 : decode cX2_addThrow 0 = .ok (.aload_n 0, 1) := by decide +kernel
theorem dX2_addThrow_1 : decode cX2_addThrow 1 = .ok (.getfield 24, 3) := by decide +kernel
theorem dX2_addThrow_4 : decode cX2_addThrow 4 = .ok (.iload_n 1, 1) := by decide +kernel
theorem dX2_addThrow_5 : decode cX2_addThrow 5 = .ok (.iaload, 1) := by decide +kernel
theorem dX2_addThrow_6 : decode cX2_addThrow 6 = .ok (.iload_n 2, 1) := by decide +kernel
theorem dX2_addThrow_7 : decode cX2_addThrow 7 = .ok (.invokestatic 44, 3) := by decide +kernel
theorem dX2_addThrow_10 : decode cX2_addThrow 10 = .ok (.ifCond .ne 7, 3) := by decide +kernel
theorem dX2_addThrow_13 : decode cX2_addThrow 13 = .ok (.iconst 1, 1) := by decide +kernel
theorem dX2_addThrow_14 : decode cX2_addThrow 14 = .ok (.goto 4, 3) := by decide +kernel
theorem dX2_addThrow_17 : decode cX2_addThrow 17 = .ok (.iconst 0, 1) := by decide +kernel
theorem dX2_addThrow_18 : decode cX2_addThrow 18 = .ok (.istore_n 3, 1) := by decide +kernel
theorem dX2_addThrow_19 : decode cX2_addThrow 19 = .ok (.aload_n 0, 1) := by decide +kernel
theorem dX2_addThrow_20 : decode cX2_addThrow 20 = .ok (.getfield 24, 3) := by decide +kernel
theorem dX2_addThrow_23 : decode cX2_addThrow 23 = .ok (.iload_n 1, 1) := by decide +kernel
theorem dX2_addThrow_24 : decode cX2_addThrow 24 = .ok (.dup2, 1) := by decide +kernel
theorem dX2_addThrow_25 : decode cX2_addThrow 25 = .ok (.iaload, 1) := by decide +kernel
theorem dX2_addThrow_26 : decode cX2_addThrow 26 = .ok (.iconst 1, 1) := by decide +kernel
theorem dX2_addThrow_27 : decode cX2_addThrow 27 = .ok (.iload_n 2, 1) := by decide +kernel
theorem dX2_addThrow_28 : decode cX2_addThrow 28 = .ok (.ishl, 1) := by decide +kernel
theorem dX2_addThrow_29 : decode cX2_addThrow 29 = .ok (.ior, 1) := by decide +kernel
theorem dX2_addThrow_30 : decode cX2_addThrow 30 = .ok (.iastore, 1) := by decide +kernel
theorem dX2_addThrow_31 : decode cX2_addThrow 31 = .ok (.iload_n 3, 1) := by decide +kernel
theorem dX2_addThrow_32 : decode cX2_addThrow 32 = .ok (.ireturn, 1) := by decide +kernel
theorem dX2_at_0 : decode cX2_at 0 = .ok (.aload_n 0, 1) := by decide +kernel
theorem dX2_at_1 : decode cX2_at 1 = .ok (.getfield 27, 3) := by decide +kernel
theorem dX2_at_4 : decode cX2_at 4 = .ok (.iload_n 1, 1) := by decide +kernel
theorem dX2_at_5 : decode cX2_at 5 = .ok (.bipush 8, 2) := by decide +kernel
theorem dX2_at_7 : decode cX2_at 7 = .ok (.imul, 1) := by decide +kernel
theorem dX2_at_8 : decode cX2_at 8 = .ok (.iload_n 2, 1) := by decide +kernel
theorem dX2_at_9 : decode cX2_at 9 = .ok (.iadd, 1) := by decide +kernel
theorem dX2_at_10 : decode cX2_at 10 = .ok (.iaload, 1) := by decide +kernel
theorem dX2_at_11 : decode cX2_at 11 = .ok (.istore_n 3, 1) := by decide +kernel
theorem dX2_at_12 : decode cX2_at 12 = .ok (.iload_n 3, 1) := by decide +kernel
theorem dX2_at_13 : decode cX2_at 13 = .ok (.ifCond .ne 7, 3) := by decide +kernel
theorem dX2_at_16 : decode cX2_at 16 = .ok (.iconst (-1), 1) := by decide +kernel
theorem dX2_at_17 : decode cX2_at 17 = .ok (.goto 6, 3) := by decide +kernel
theorem dX2_at_20 : decode cX2_at 20 = .ok (.iload_n 3, 1) := by decide +kernel
theorem dX2_at_21 : decode cX2_at 21 = .ok (.iconst 1, 1) := by decide +kernel
theorem dX2_at_22 : decode cX2_at 22 = .ok (.isub, 1) := by decide +kernel
theorem dX2_at_23 : decode cX2_at 23 = .ok (.ireturn, 1) := by decide +kernel
theorem dX2_typeOf_0 : decode cX2_typeOf 0 = .ok (.aload_n 0, 1) := by decide +kernel
theorem dX2_typeOf_1 : decode cX2_typeOf 1 = .ok (.getfield 9, 3) := by decide +kernel
theorem dX2_typeOf_4 : decode cX2_typeOf 4 = .ok (.iload_n 1, 1) := by decide +kernel
theorem dX2_typeOf_5 : decode cX2_typeOf 5 = .ok (.iaload, 1) := by decide +kernel
theorem dX2_typeOf_6 : decode cX2_typeOf 6 = .ok (.ireturn, 1) := by decide +kernel
theorem dX2_nameOf_0 : decode cX2_nameOf 0 = .ok (.aload_n 0, 1) := by decide +kernel
theorem dX2_nameOf_1 : decode cX2_nameOf 1 = .ok (.getfield 15, 3) := by decide +kernel
theorem dX2_nameOf_4 : decode cX2_nameOf 4 = .ok (.iload_n 1, 1) := by decide +kernel
theorem dX2_nameOf_5 : decode cX2_nameOf 5 = .ok (.iaload, 1) := by decide +kernel
theorem dX2_nameOf_6 : decode cX2_nameOf 6 = .ok (.ireturn, 1) := by decide +kernel
theorem dX2_resultOf_0 : decode cX2_resultOf 0 = .ok (.aload_n 0, 1) := by decide +kernel
theorem dX2_resultOf_1 : decode cX2_resultOf 1 = .ok (.getfield 18, 3) := by decide +kernel
theorem dX2_resultOf_4 : decode cX2_resultOf 4 = .ok (.iload_n 1, 1) := by decide +kernel
theorem dX2_resultOf_5 : decode cX2_resultOf 5 = .ok (.iaload, 1) := by decide +kernel
theorem dX2_resultOf_6 : decode cX2_resultOf 6 = .ok (.ireturn, 1) := by decide +kernel
theorem dX2_thrownBy_0 : decode cX2_thrownBy 0 = .ok (.aload_n 0, 1) := by decide +kernel
theorem dX2_thrownBy_1 : decode cX2_thrownBy 1 = .ok (.getfield 24, 3) := by decide +kernel
theorem dX2_thrownBy_4 : decode cX2_thrownBy 4 = .ok (.iload_n 1, 1) := by decide +kernel
theorem dX2_thrownBy_5 : decode cX2_thrownBy 5 = .ok (.iaload, 1) := by decide +kernel
theorem dX2_thrownBy_6 : decode cX2_thrownBy 6 = .ok (.ireturn, 1) := by decide +kernel
theorem dX2_hasMark_0 : decode cX2_hasMark 0 = .ok (.aload_n 0, 1) := by decide +kernel
theorem dX2_hasMark_1 : decode cX2_hasMark 1 = .ok (.getfield 21, 3) := by decide +kernel
theorem dX2_hasMark_4 : decode cX2_hasMark 4 = .ok (.iload_n 1, 1) := by decide +kernel
theorem dX2_hasMark_5 : decode cX2_hasMark 5 = .ok (.iaload, 1) := by decide +kernel
theorem dX2_hasMark_6 : decode cX2_hasMark 6 = .ok (.iload_n 2, 1) := by decide +kernel
theorem dX2_hasMark_7 : decode cX2_hasMark 7 = .ok (.iand, 1) := by decide +kernel
theorem dX2_hasMark_8 : decode cX2_hasMark 8 = .ok (.ifCond .eq 7, 3) := by decide +kernel
theorem dX2_hasMark_11 : decode cX2_hasMark 11 = .ok (.iconst 1, 1) := by decide +kernel
theorem dX2_hasMark_12 : decode cX2_hasMark 12 = .ok (.goto 4, 3) := by decide +kernel
theorem dX2_hasMark_15 : decode cX2_hasMark 15 = .ok (.iconst 0, 1) := by decide +kernel
theorem dX2_hasMark_16 : decode cX2_hasMark 16 = .ok (.ireturn, 1) := by decide +kernel
theorem dX2_isInheritable_0 : decode cX2_isInheritable 0 = .ok (.iload_n 1, 1) := by decide +kernel
theorem dX2_isInheritable_1 : decode cX2_isInheritable 1 = .ok (.iconst (-1), 1) := by decide +kernel
theorem dX2_isInheritable_2 : decode cX2_isInheritable 2 = .ok (.if_icmp .eq 19, 3) := by decide +kernel
theorem dX2_isInheritable_5 : decode cX2_isInheritable 5 = .ok (.aload_n 0, 1) := by decide +kernel
theorem dX2_isInheritable_6 : decode cX2_isInheritable 6 = .ok (.getfield 21, 3) := by decide +kernel
theorem dX2_isInheritable_9 : decode cX2_isInheritable 9 = .ok (.iload_n 1, 1) := by decide +kernel
theorem dX2_isInheritable_10 : decode cX2_isInheritable 10 = .ok (.iaload, 1) := by decide +kernel
theorem dX2_isInheritable_11 : decode cX2_isInheritable 11 = .ok (.bipush 12, 2) := by decide +kernel
theorem dX2_isInheritable_13 : decode cX2_isInheritable 13 = .ok (.iand, 1) := by decide +kernel
theorem dX2_isInheritable_14 : decode cX2_isInheritable 14 = .ok (.ifCond .ne 7, 3) := by decide +kernel
theorem dX2_isInheritable_17 : decode cX2_isInheritable 17 = .ok (.iconst 1, 1) := by decide +kernel
theorem dX2_isInheritable_18 : decode cX2_isInheritable 18 = .ok (.goto 4, 3) := by decide +kernel
theorem dX2_isInheritable_21 : decode cX2_isInheritable 21 = .ok (.iconst 0, 1) := by decide +kernel
theorem dX2_isInheritable_22 : decode cX2_isInheritable 22 = .ok (.ireturn, 1) := by decide +kernel
theorem dX2_accessOf_0 : decode cX2_accessOf 0 = .ok (.aload_n 0, 1) := by decide +kernel
theorem dX2_accessOf_1 : decode cX2_accessOf 1 = .ok (.iload_n 1, 1) := by decide +kernel
theorem dX2_accessOf_2 : decode cX2_accessOf 2 = .ok (.iconst 4, 1) := by decide +kernel
theorem dX2_accessOf_3 : decode cX2_accessOf 3 = .ok (.invokevirtual 48, 3) := by decide +kernel
theorem dX2_accessOf_6 : decode cX2_accessOf 6 = .ok (.ifCond .eq 5, 3) := by decide +kernel
theorem dX2_accessOf_9 : decode cX2_accessOf 9 = .ok (.iconst 0, 1) := by decide +kernel
theorem dX2_accessOf_10 : decode cX2_accessOf 10 = .ok (.ireturn, 1) := by decide +kernel
theorem dX2_accessOf_11 : decode cX2_accessOf 11 = .ok (.aload_n 0, 1) := by decide +kernel
theorem dX2_accessOf_12 : decode cX2_accessOf 12 = .ok (.iload_n 1, 1) := by decide +kernel
theorem dX2_accessOf_13 : decode cX2_accessOf 13 = .ok (.iconst 2, 1) := by decide +kernel
theorem dX2_accessOf_14 : decode cX2_accessOf 14 = .ok (.invokevirtual 48, 3) := by decide +kernel
theorem dX2_accessOf_17 : decode cX2_accessOf 17 = .ok (.ifCond .eq 5, 3) := by decide +kernel
theorem dX2_accessOf_20 : decode cX2_accessOf 20 = .ok (.iconst 2, 1) := by decide +kernel
theorem dX2_accessOf_21 : decode cX2_accessOf 21 = .ok (.ireturn, 1) := by decide +kernel
theorem dX2_accessOf_22 : decode cX2_accessOf 22 = .ok (.aload_n 0, 1) := by decide +kernel
theorem dX2_accessOf_23 : decode cX2_accessOf 23 = .ok (.iload_n 1, 1) := by decide +kernel
theorem dX2_accessOf_24 : decode cX2_accessOf 24 = .ok (.iconst 1, 1) := by decide +kernel
theorem dX2_accessOf_25 : decode cX2_accessOf 25 = .ok (.invokevirtual 48, 3) := by decide +kernel
theorem dX2_accessOf_28 : decode cX2_accessOf 28 = .ok (.ifCond .eq 7, 3) := by decide +kernel
theorem dX2_accessOf_31 : decode cX2_accessOf 31 = .ok (.iconst 3, 1) := by decide +kernel
theorem dX2_accessOf_32 : decode cX2_accessOf 32 = .ok (.goto 4, 3) := by decide +kernel
theorem dX2_accessOf_35 : decode cX2_accessOf 35 = .ok (.iconst 1, 1) := by decide +kernel
theorem dX2_accessOf_36 : decode cX2_accessOf 36 = .ok (.ireturn, 1) := by decide +kernel
theorem dX2_isOverriding_0 : decode cX2_isOverriding 0 = .ok (.aload_n 0, 1) := by decide +kernel
theorem dX2_isOverriding_1 : decode cX2_isOverriding 1 = .ok (.iload_n 1, 1) := by decide +kernel
theorem dX2_isOverriding_2 : decode cX2_isOverriding 2 = .ok (.iload_n 2, 1) := by decide +kernel
theorem dX2_isOverriding_3 : decode cX2_isOverriding 3 = .ok (.invokevirtual 51, 3) := by decide +kernel
theorem dX2_isOverriding_6 : decode cX2_isOverriding 6 = .ok (.ifCond .eq 21, 3) := by decide +kernel
theorem dX2_isOverriding_9 : decode cX2_isOverriding 9 = .ok (.aload_n 0, 1) := by decide +kernel
theorem dX2_isOverriding_10 : decode cX2_isOverriding 10 = .ok (.iload_n 1, 1) := by decide +kernel
theorem dX2_isOverriding_11 : decode cX2_isOverriding 11 = .ok (.bipush 8, 2) := by decide +kernel
theorem dX2_isOverriding_13 : decode cX2_isOverriding 13 = .ok (.invokevirtual 48, 3) := by decide +kernel
theorem dX2_isOverriding_16 : decode cX2_isOverriding 16 = .ok (.ifCond .ne 11, 3) := by decide +kernel
theorem dX2_isOverriding_19 : decode cX2_isOverriding 19 = .ok (.aload_n 0, 1) := by decide +kernel
theorem dX2_isOverriding_20 : decode cX2_isOverriding 20 = .ok (.iload_n 2, 1) := by decide +kernel
theorem dX2_isOverriding_21 : decode cX2_isOverriding 21 = .ok (.invokevirtual 54, 3) := by decide +kernel
theorem dX2_isOverriding_24 : decode cX2_isOverriding 24 = .ok (.ifCond .ne 5, 3) := by decide +kernel
theorem dX2_isOverriding_27 : decode cX2_isOverriding 27 = .ok (.iconst 0, 1) := by decide +kernel
theorem dX2_isOverriding_28 : decode cX2_isOverriding 28 = .ok (.ireturn, 1) := by decide +kernel
theorem dX2_isOverriding_29 : decode cX2_isOverriding 29 = .ok (.aload_n 0, 1) := by decide +kernel
theorem dX2_isOverriding_30 : decode cX2_isOverriding 30 = .ok (.getfield 34, 3) := by decide +kernel
theorem dX2_isOverriding_33 : decode cX2_isOverriding 33 = .ok (.aload_n 0, 1) := by decide +kernel
theorem dX2_isOverriding_34 : decode cX2_isOverriding 34 = .ok (.getfield 9, 3) := by decide +kernel
theorem dX2_isOverriding_37 : decode cX2_isOverriding 37 = .ok (.iload_n 2, 1) := by decide +kernel
theorem dX2_isOverriding_38 : decode cX2_isOverriding 38 = .ok (.iaload, 1) := by decide +kernel
theorem dX2_isOverriding_39 : decode cX2_isOverriding 39 = .ok (.invokevirtual 38, 3) := by decide +kernel
theorem dX2_isOverriding_42 : decode cX2_isOverriding 42 = .ok (.ifCond .ne 12, 3) := by decide +kernel
theorem dX2_isOverriding_45 : decode cX2_isOverriding 45 = .ok (.aload_n 0, 1) := by decide +kernel
theorem dX2_isOverriding_46 : decode cX2_isOverriding 46 = .ok (.iload_n 1, 1) := by decide +kernel
theorem dX2_isOverriding_47 : decode cX2_isOverriding 47 = .ok (.iload_n 2, 1) := by decide +kernel
theorem dX2_isOverriding_48 : decode cX2_isOverriding 48 = .ok (.invokevirtual 57, 3) := by decide +kernel
theorem dX2_isOverriding_51 : decode cX2_isOverriding 51 = .ok (.ifCond .eq 7, 3) := by decide +kernel
theorem dX2_isOverriding_54 : decode cX2_isOverriding 54 = .ok (.iconst 1, 1) := by decide +kernel
theorem dX2_isOverriding_55 : decode cX2_isOverriding 55 = .ok (.goto 4, 3) := by decide +kernel
theorem dX2_isOverriding_58 : decode cX2_isOverriding 58 = .ok (.iconst 0, 1) := by decide +kernel
theorem dX2_isOverriding_59 : decode cX2_isOverriding 59 = .ok (.ireturn, 1) := by decide +kernel
theorem dX2_isHiding_0 : decode cX2_isHiding 0 = .ok (.aload_n 0, 1) := by decide +kernel
theorem dX2_isHiding_1 : decode cX2_isHiding 1 = .ok (.iload_n 1, 1) := by decide +kernel
theorem dX2_isHiding_2 : decode cX2_isHiding 2 = .ok (.iload_n 2, 1) := by decide +kernel
theorem dX2_isHiding_3 : decode cX2_isHiding 3 = .ok (.invokevirtual 51, 3) := by decide +kernel
theorem dX2_isHiding_6 : decode cX2_isHiding 6 = .ok (.ifCond .eq 52, 3) := by decide +kernel
theorem dX2_isHiding_9 : decode cX2_isHiding 9 = .ok (.aload_n 0, 1) := by decide +kernel
theorem dX2_isHiding_10 : decode cX2_isHiding 10 = .ok (.iload_n 1, 1) := by decide +kernel
theorem dX2_isHiding_11 : decode cX2_isHiding 11 = .ok (.bipush 8, 2) := by decide +kernel
theorem dX2_isHiding_13 : decode cX2_isHiding 13 = .ok (.invokevirtual 48, 3) := by decide +kernel
theorem dX2_isHiding_16 : decode cX2_isHiding 16 = .ok (.ifCond .eq 42, 3) := by decide +kernel
theorem dX2_isHiding_19 : decode cX2_isHiding 19 = .ok (.aload_n 0, 1) := by decide +kernel
theorem dX2_isHiding_20 : decode cX2_isHiding 20 = .ok (.iload_n 2, 1) := by decide +kernel
theorem dX2_isHiding_21 : decode cX2_isHiding 21 = .ok (.bipush 8, 2) := by decide +kernel
theorem dX2_isHiding_23 : decode cX2_isHiding 23 = .ok (.invokevirtual 48, 3) := by decide +kernel
theorem dX2_isHiding_26 : decode cX2_isHiding 26 = .ok (.ifCond .eq 32, 3) := by decide +kernel
theorem dX2_isHiding_29 : decode cX2_isHiding 29 = .ok (.aload_n 0, 1) := by decide +kernel
theorem dX2_isHiding_30 : decode cX2_isHiding 30 = .ok (.getfield 34, 3) := by decide +kernel
theorem dX2_isHiding_33 : decode cX2_isHiding 33 = .ok (.aload_n 0, 1) := by decide +kernel
theorem dX2_isHiding_34 : decode cX2_isHiding 34 = .ok (.getfield 9, 3) := by decide +kernel
theorem dX2_isHiding_37 : decode cX2_isHiding 37 = .ok (.iload_n 2, 1) := by decide +kernel
theorem dX2_isHiding_38 : decode cX2_isHiding 38 = .ok (.iaload, 1) := by decide +kernel
theorem dX2_isHiding_39 : decode cX2_isHiding 39 = .ok (.invokevirtual 38, 3) := by decide +kernel
theorem dX2_isHiding_42 : decode cX2_isHiding 42 = .ok (.ifCond .ne 16, 3) := by decide +kernel
theorem dX2_isHiding_45 : decode cX2_isHiding 45 = .ok (.aload_n 0, 1) := by decide +kernel
theorem dX2_isHiding_46 : decode cX2_isHiding 46 = .ok (.iload_n 1, 1) := by decide +kernel
theorem dX2_isHiding_47 : decode cX2_isHiding 47 = .ok (.iload_n 2, 1) := by decide +kernel
theorem dX2_isHiding_48 : decode cX2_isHiding 48 = .ok (.invokevirtual 60, 3) := by decide +kernel
theorem dX2_isHiding_51 : decode cX2_isHiding 51 = .ok (.ifCond .eq 7, 3) := by decide +kernel
theorem dX2_isHiding_54 : decode cX2_isHiding 54 = .ok (.iconst 1, 1) := by decide +kernel
theorem dX2_isHiding_55 : decode cX2_isHiding 55 = .ok (.goto 4, 3) := by decide +kernel
theorem dX2_isHiding_58 : decode cX2_isHiding 58 = .ok (.iconst 0, 1) := by decide +kernel
theorem dX2_isHiding_59 : decode cX2_isHiding 59 = .ok (.ireturn, 1) := by decide +kernel
theorem dX2_isMixed_0 : decode cX2_isMixed 0 = .ok (.aload_n 0, 1) := by decide +kernel
theorem dX2_isMixed_1 : decode cX2_isMixed 1 = .ok (.iload_n 1, 1) := by decide +kernel
theorem dX2_isMixed_2 : decode cX2_isMixed 2 = .ok (.iload_n 2, 1) := by decide +kernel
theorem dX2_isMixed_3 : decode cX2_isMixed 3 = .ok (.invokevirtual 51, 3) := by decide +kernel
theorem dX2_isMixed_6 : decode cX2_isMixed 6 = .ok (.ifCond .eq 20, 3) := by decide +kernel
theorem dX2_isMixed_9 : decode cX2_isMixed 9 = .ok (.aload_n 0, 1) := by decide +kernel
theorem dX2_isMixed_10 : decode cX2_isMixed 10 = .ok (.iload_n 1, 1) := by decide +kernel
theorem dX2_isMixed_11 : decode cX2_isMixed 11 = .ok (.bipush 8, 2) := by decide +kernel
theorem dX2_isMixed_13 : decode cX2_isMixed 13 = .ok (.invokevirtual 48, 3) := by decide +kernel
theorem dX2_isMixed_16 : decode cX2_isMixed 16 = .ok (.aload_n 0, 1) := by decide +kernel
theorem dX2_isMixed_17 : decode cX2_isMixed 17 = .ok (.iload_n 2, 1) := by decide +kernel
theorem dX2_isMixed_18 : decode cX2_isMixed 18 = .ok (.bipush 8, 2) := by decide +kernel
theorem dX2_isMixed_20 : decode cX2_isMixed 20 = .ok (.invokevirtual 48, 3) := by decide +kernel
theorem dX2_isMixed_23 : decode cX2_isMixed 23 = .ok (.if_icmp .ne 5, 3) := by decide +kernel
theorem dX2_isMixed_26 : decode cX2_isMixed 26 = .ok (.iconst 0, 1) := by decide +kernel
theorem dX2_isMixed_27 : decode cX2_isMixed 27 = .ok (.ireturn, 1) := by decide +kernel
theorem dX2_isMixed_28 : decode cX2_isMixed 28 = .ok (.aload_n 0, 1) := by decide +kernel
theorem dX2_isMixed_29 : decode cX2_isMixed 29 = .ok (.getfield 34, 3) := by decide +kernel
theorem dX2_isMixed_32 : decode cX2_isMixed 32 = .ok (.aload_n 0, 1) := by decide +kernel
theorem dX2_isMixed_33 : decode cX2_isMixed 33 = .ok (.getfield 9, 3) := by decide +kernel
theorem dX2_isMixed_36 : decode cX2_isMixed 36 = .ok (.iload_n 2, 1) := by decide +kernel
theorem dX2_isMixed_37 : decode cX2_isMixed 37 = .ok (.iaload, 1) := by decide +kernel
theorem dX2_isMixed_38 : decode cX2_isMixed 38 = .ok (.invokevirtual 38, 3) := by decide +kernel
theorem dX2_isMixed_41 : decode cX2_isMixed 41 = .ok (.ifCond .eq 11, 3) := by decide +kernel
theorem dX2_isMixed_44 : decode cX2_isMixed 44 = .ok (.aload_n 0, 1) := by decide +kernel
theorem dX2_isMixed_45 : decode cX2_isMixed 45 = .ok (.iload_n 2, 1) := by decide +kernel
theorem dX2_isMixed_46 : decode cX2_isMixed 46 = .ok (.invokevirtual 54, 3) := by decide +kernel
theorem dX2_isMixed_49 : decode cX2_isMixed 49 = .ok (.goto 9, 3) := by decide +kernel
theorem dX2_isMixed_52 : decode cX2_isMixed 52 = .ok (.aload_n 0, 1) := by decide +kernel
theorem dX2_isMixed_53 : decode cX2_isMixed 53 = .ok (.iload_n 1, 1) := by decide +kernel
theorem dX2_isMixed_54 : decode cX2_isMixed 54 = .ok (.iload_n 2, 1) := by decide +kernel
theorem dX2_isMixed_55 : decode cX2_isMixed 55 = .ok (.invokevirtual 60, 3) := by decide +kernel
theorem dX2_isMixed_58 : decode cX2_isMixed 58 = .ok (.ireturn, 1) := by decide +kernel
theorem dX2_isOfNameBelow_0 : decode cX2_isOfNameBelow 0 = .ok (.aload_n 0, 1) := by decide +kernel
theorem dX2_isOfNameBelow_1 : decode cX2_isOfNameBelow 1 = .ok (.getfield 15, 3) := by decide +kernel
theorem dX2_isOfNameBelow_4 : decode cX2_isOfNameBelow 4 = .ok (.iload_n 1, 1) := by decide +kernel
theorem dX2_isOfNameBelow_5 : decode cX2_isOfNameBelow 5 = .ok (.iaload, 1) := by decide +kernel
theorem dX2_isOfNameBelow_6 : decode cX2_isOfNameBelow 6 = .ok (.aload_n 0, 1) := by decide +kernel
theorem dX2_isOfNameBelow_7 : decode cX2_isOfNameBelow 7 = .ok (.getfield 15, 3) := by decide +kernel
theorem dX2_isOfNameBelow_10 : decode cX2_isOfNameBelow 10 = .ok (.iload_n 2, 1) := by decide +kernel
theorem dX2_isOfNameBelow_11 : decode cX2_isOfNameBelow 11 = .ok (.iaload, 1) := by decide +kernel
theorem dX2_isOfNameBelow_12 : decode cX2_isOfNameBelow 12 = .ok (.if_icmp .ne 29, 3) := by decide +kernel
theorem dX2_isOfNameBelow_15 : decode cX2_isOfNameBelow 15 = .ok (.aload_n 0, 1) := by decide +kernel
theorem dX2_isOfNameBelow_16 : decode cX2_isOfNameBelow 16 = .ok (.getfield 34, 3) := by decide +kernel
theorem dX2_isOfNameBelow_19 : decode cX2_isOfNameBelow 19 = .ok (.aload_n 0, 1) := by decide +kernel
theorem dX2_isOfNameBelow_20 : decode cX2_isOfNameBelow 20 = .ok (.getfield 9, 3) := by decide +kernel
theorem dX2_isOfNameBelow_23 : decode cX2_isOfNameBelow 23 = .ok (.iload_n 1, 1) := by decide +kernel
theorem dX2_isOfNameBelow_24 : decode cX2_isOfNameBelow 24 = .ok (.iaload, 1) := by decide +kernel
theorem dX2_isOfNameBelow_25 : decode cX2_isOfNameBelow 25 = .ok (.aload_n 0, 1) := by decide +kernel
theorem dX2_isOfNameBelow_26 : decode cX2_isOfNameBelow 26 = .ok (.getfield 9, 3) := by decide +kernel
theorem dX2_isOfNameBelow_29 : decode cX2_isOfNameBelow 29 = .ok (.iload_n 2, 1) := by decide +kernel
theorem dX2_isOfNameBelow_30 : decode cX2_isOfNameBelow 30 = .ok (.iaload, 1) := by decide +kernel
theorem dX2_isOfNameBelow_31 : decode cX2_isOfNameBelow 31 = .ok (.invokevirtual 63, 3) := by decide +kernel
theorem dX2_isOfNameBelow_34 : decode cX2_isOfNameBelow 34 = .ok (.ifCond .eq 7, 3) := by decide +kernel
theorem dX2_isOfNameBelow_37 : decode cX2_isOfNameBelow 37 = .ok (.iconst 1, 1) := by decide +kernel
theorem dX2_isOfNameBelow_38 : decode cX2_isOfNameBelow 38 = .ok (.goto 4, 3) := by decide +kernel
theorem dX2_isOfNameBelow_41 : decode cX2_isOfNameBelow 41 = .ok (.iconst 0, 1) := by decide +kernel
theorem dX2_isOfNameBelow_42 : decode cX2_isOfNameBelow 42 = .ok (.ireturn, 1) := by decide +kernel
theorem dX2_isSeen_0 : decode cX2_isSeen 0 = .ok (.aload_n 0, 1) := by decide +kernel
theorem dX2_isSeen_1 : decode cX2_isSeen 1 = .ok (.iload_n 2, 1) := by decide +kernel
theorem dX2_isSeen_2 : decode cX2_isSeen 2 = .ok (.iconst 4, 1) := by decide +kernel
theorem dX2_isSeen_3 : decode cX2_isSeen 3 = .ok (.invokevirtual 48, 3) := by decide +kernel
theorem dX2_isSeen_6 : decode cX2_isSeen 6 = .ok (.ifCond .eq 5, 3) := by decide +kernel
theorem dX2_isSeen_9 : decode cX2_isSeen 9 = .ok (.iconst 0, 1) := by decide +kernel
theorem dX2_isSeen_10 : decode cX2_isSeen 10 = .ok (.ireturn, 1) := by decide +kernel
theorem dX2_isSeen_11 : decode cX2_isSeen 11 = .ok (.aload_n 0, 1) := by decide +kernel
theorem dX2_isSeen_12 : decode cX2_isSeen 12 = .ok (.iload_n 2, 1) := by decide +kernel
theorem dX2_isSeen_13 : decode cX2_isSeen 13 = .ok (.iconst 3, 1) := by decide +kernel
theorem dX2_isSeen_14 : decode cX2_isSeen 14 = .ok (.invokevirtual 48, 3) := by decide +kernel
theorem dX2_isSeen_17 : decode cX2_isSeen 17 = .ok (.ifCond .ne 32, 3) := by decide +kernel
theorem dX2_isSeen_20 : decode cX2_isSeen 20 = .ok (.aload_n 0, 1) := by decide +kernel
theorem dX2_isSeen_21 : decode cX2_isSeen 21 = .ok (.getfield 34, 3) := by decide +kernel
theorem dX2_isSeen_24 : decode cX2_isSeen 24 = .ok (.aload_n 0, 1) := by decide +kernel
theorem dX2_isSeen_25 : decode cX2_isSeen 25 = .ok (.getfield 9, 3) := by decide +kernel
theorem dX2_isSeen_28 : decode cX2_isSeen 28 = .ok (.iload_n 1, 1) := by decide +kernel
theorem dX2_isSeen_29 : decode cX2_isSeen 29 = .ok (.iaload, 1) := by decide +kernel
theorem dX2_isSeen_30 : decode cX2_isSeen 30 = .ok (.invokevirtual 66, 3) := by decide +kernel
theorem dX2_isSeen_33 : decode cX2_isSeen 33 = .ok (.aload_n 0, 1) := by decide +kernel
theorem dX2_isSeen_34 : decode cX2_isSeen 34 = .ok (.getfield 34, 3) := by decide +kernel
theorem dX2_isSeen_37 : decode cX2_isSeen 37 = .ok (.aload_n 0, 1) := by decide +kernel
theorem dX2_isSeen_38 : decode cX2_isSeen 38 = .ok (.getfield 9, 3) := by decide +kernel
theorem dX2_isSeen_41 : decode cX2_isSeen 41 = .ok (.iload_n 2, 1) := by decide +kernel
theorem dX2_isSeen_42 : decode cX2_isSeen 42 = .ok (.iaload, 1) := by decide +kernel
theorem dX2_isSeen_43 : decode cX2_isSeen 43 = .ok (.invokevirtual 66, 3) := by decide +kernel
theorem dX2_isSeen_46 : decode cX2_isSeen 46 = .ok (.if_icmp .ne 7, 3) := by decide +kernel
theorem dX2_isSeen_49 : decode cX2_isSeen 49 = .ok (.iconst 1, 1) := by decide +kernel
theorem dX2_isSeen_50 : decode cX2_isSeen 50 = .ok (.goto 4, 3) := by decide +kernel
theorem dX2_isSeen_53 : decode cX2_isSeen 53 = .ok (.iconst 0, 1) := by decide +kernel
theorem dX2_isSeen_54 : decode cX2_isSeen 54 = .ok (.ireturn, 1) := by decide +kernel
theorem dX2_isReached_0 : decode cX2_isReached 0 = .ok (.iconst 1, 1) := by decide +kernel
theorem dX2_isReached_1 : decode cX2_isReached 1 = .ok (.aload_n 0, 1) := by decide +kernel
theorem dX2_isReached_2 : decode cX2_isReached 2 = .ok (.getfield 34, 3) := by decide +kernel
theorem dX2_isReached_5 : decode cX2_isReached 5 = .ok (.aload_n 0, 1) := by decide +kernel
theorem dX2_isReached_6 : decode cX2_isReached 6 = .ok (.getfield 9, 3) := by decide +kernel
theorem dX2_isReached_9 : decode cX2_isReached 9 = .ok (.iload_n 1, 1) := by decide +kernel
theorem dX2_isReached_10 : decode cX2_isReached 10 = .ok (.iaload, 1) := by decide +kernel
theorem dX2_isReached_11 : decode cX2_isReached 11 = .ok (.invokevirtual 66, 3) := by decide +kernel
theorem dX2_isReached_14 : decode cX2_isReached 14 = .ok (.ishl, 1) := by decide +kernel
theorem dX2_isReached_15 : decode cX2_isReached 15 = .ok (.istore_n 3, 1) := by decide +kernel
theorem dX2_isReached_16 : decode cX2_isReached 16 = .ok (.aload_n 0, 1) := by decide +kernel
theorem dX2_isReached_17 : decode cX2_isReached 17 = .ok (.getfield 34, 3) := by decide +kernel
theorem dX2_isReached_20 : decode cX2_isReached 20 = .ok (.aload_n 0, 1) := by decide +kernel
theorem dX2_isReached_21 : decode cX2_isReached 21 = .ok (.getfield 9, 3) := by decide +kernel
theorem dX2_isReached_24 : decode cX2_isReached 24 = .ok (.iload_n 1, 1) := by decide +kernel
theorem dX2_isReached_25 : decode cX2_isReached 25 = .ok (.iaload, 1) := by decide +kernel
theorem dX2_isReached_26 : decode cX2_isReached 26 = .ok (.invokevirtual 70, 3) := by decide +kernel
theorem dX2_isReached_29 : decode cX2_isReached 29 = .ok (.istore 4, 2) := by decide +kernel
theorem dX2_isReached_31 : decode cX2_isReached 31 = .ok (.iconst 0, 1) := by decide +kernel
theorem dX2_isReached_32 : decode cX2_isReached 32 = .ok (.istore 5, 2) := by decide +kernel
theorem dX2_isReached_34 : decode cX2_isReached 34 = .ok (.iload 5, 2) := by decide +kernel
theorem dX2_isReached_36 : decode cX2_isReached 36 = .ok (.bipush 16, 2) := by decide +kernel
theorem dX2_isReached_38 : decode cX2_isReached 38 = .ok (.if_icmp .ge 107, 3) := by decide +kernel
theorem dX2_isReached_41 : decode cX2_isReached 41 = .ok (.iload 4, 2) := by decide +kernel
theorem dX2_isReached_43 : decode cX2_isReached 43 = .ok (.iconst (-1), 1) := by decide +kernel
theorem dX2_isReached_44 : decode cX2_isReached 44 = .ok (.if_icmp .eq 101, 3) := by decide +kernel
theorem dX2_isReached_47 : decode cX2_isReached 47 = .ok (.aload_n 0, 1) := by decide +kernel
theorem dX2_isReached_48 : decode cX2_isReached 48 = .ok (.iload 4, 2) := by decide +kernel
theorem dX2_isReached_50 : decode cX2_isReached 50 = .ok (.aload_n 0, 1) := by decide +kernel
theorem dX2_isReached_51 : decode cX2_isReached 51 = .ok (.getfield 15, 3) := by decide +kernel
theorem dX2_isReached_54 : decode cX2_isReached 54 = .ok (.iload_n 1, 1) := by decide +kernel
theorem dX2_isReached_55 : decode cX2_isReached 55 = .ok (.iaload, 1) := by decide +kernel
theorem dX2_isReached_56 : decode cX2_isReached 56 = .ok (.invokevirtual 73, 3) := by decide +kernel
theorem dX2_isReached_59 : decode cX2_isReached 59 = .ok (.istore 6, 2) := by decide +kernel
theorem dX2_isReached_61 : decode cX2_isReached 61 = .ok (.aload_n 0, 1) := by decide +kernel
theorem dX2_isReached_62 : decode cX2_isReached 62 = .ok (.getfield 34, 3) := by decide +kernel
theorem dX2_isReached_65 : decode cX2_isReached 65 = .ok (.iload 4, 2) := by decide +kernel
theorem dX2_isReached_67 : decode cX2_isReached 67 = .ok (.invokevirtual 66, 3) := by decide +kernel
theorem dX2_isReached_70 : decode cX2_isReached 70 = .ok (.istore 7, 2) := by decide +kernel
theorem dX2_isReached_72 : decode cX2_isReached 72 = .ok (.aload_n 0, 1) := by decide +kernel
theorem dX2_isReached_73 : decode cX2_isReached 73 = .ok (.iload 6, 2) := by decide +kernel
theorem dX2_isReached_75 : decode cX2_isReached 75 = .ok (.invokevirtual 54, 3) := by decide +kernel
theorem dX2_isReached_78 : decode cX2_isReached 78 = .ok (.ifCond .eq 26, 3) := by decide +kernel
theorem dX2_isReached_81 : decode cX2_isReached 81 = .ok (.aload_n 0, 1) := by decide +kernel
theorem dX2_isReached_82 : decode cX2_isReached 82 = .ok (.iload 6, 2) := by decide +kernel
theorem dX2_isReached_84 : decode cX2_isReached 84 = .ok (.iconst 3, 1) := by decide +kernel
theorem dX2_isReached_85 : decode cX2_isReached 85 = .ok (.invokevirtual 48, 3) := by decide +kernel
theorem dX2_isReached_88 : decode cX2_isReached 88 = .ok (.ifCond .ne 12, 3) := by decide +kernel
theorem dX2_isReached_91 : decode cX2_isReached 91 = .ok (.iload_n 3, 1) := by decide +kernel
theorem dX2_isReached_92 : decode cX2_isReached 92 = .ok (.iload 7, 2) := by decide +kernel
theorem dX2_isReached_94 : decode cX2_isReached 94 = .ok (.invokestatic 44, 3) := by decide +kernel
theorem dX2_isReached_97 : decode cX2_isReached 97 = .ok (.ifCond .eq 7, 3) := by decide +kernel
theorem dX2_isReached_100 : decode cX2_isReached 100 = .ok (.iconst 1, 1) := by decide +kernel
theorem dX2_isReached_101 : decode cX2_isReached 101 = .ok (.goto 4, 3) := by decide +kernel
theorem dX2_isReached_104 : decode cX2_isReached 104 = .ok (.iconst 0, 1) := by decide +kernel

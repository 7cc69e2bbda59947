theorem dX8_init_0 : decode cX8_init 0 = .ok (.aload_n 0, 1) := by decide +kernel
theorem dX8_init_1 : decode cX8_init 1 = .ok (.invokespecial 1, 3) := by decide +kernel
theorem dX8_init_4 : decode cX8_init 4 = .ok (.aload_n 0, 1) := by decide +kernel
theorem dX8_init_5 : decode cX8_init 5 = .ok (.sipush 800, 3) := by decide +kernel
theorem dX8_init_8 : decode cX8_init 8 = .ok (.newarray .int, 2) := by decide +kernel
theorem dX8_init_10 : decode cX8_init 10 = .ok (.putfield 7, 3) := by decide +kernel
theorem dX8_init_13 : decode cX8_init 13 = .ok (.aload_n 0, 1) := by decide +kernel
theorem dX8_init_14 : decode cX8_init 14 = .ok (.iconst 2, 1) := by decide +kernel
theorem dX8_init_15 : decode cX8_init 15 = .ok (.newarray .boolean, 2) := by decide +kernel
theorem dX8_init_17 : decode cX8_init 17 = .ok (.putfield 13, 3) := by decide +kernel
theorem dX8_init_20 : decode cX8_init 20 = .ok (.aload_n 0, 1) := by decide +kernel
theorem dX8_init_21 : decode cX8_init 21 = .ok (.sipush 200, 3) := by decide +kernel
theorem dX8_init_24 : decode cX8_init 24 = .ok (.newarray .int, 2) := by decide +kernel
theorem dX8_init_26 : decode cX8_init 26 = .ok (.putfield 17, 3) := by decide +kernel
theorem dX8_init_29 : decode cX8_init 29 = .ok (.aload_n 0, 1) := by decide +kernel
theorem dX8_init_30 : decode cX8_init 30 = .ok (.iconst 3, 1) := by decide +kernel
theorem dX8_init_31 : decode cX8_init 31 = .ok (.newarray .int, 2) := by decide +kernel
theorem dX8_init_33 : decode cX8_init 33 = .ok (.putfield 20, 3) := by decide +kernel
theorem dX8_init_36 : decode cX8_init 36 = .ok (.aload_n 0, 1) := by decide +kernel
theorem dX8_init_37 : decode cX8_init 37 = .ok (.bipush 50, 2) := by decide +kernel
theorem dX8_init_39 : decode cX8_init 39 = .ok (.newarray .int, 2) := by decide +kernel
theorem dX8_init_41 : decode cX8_init 41 = .ok (.putfield 23, 3) := by decide +kernel
theorem dX8_init_44 : decode cX8_init 44 = .ok (.aload_n 0, 1) := by decide +kernel
theorem dX8_init_45 : decode cX8_init 45 = .ok (.sipush 200, 3) := by decide +kernel
theorem dX8_init_48 : decode cX8_init 48 = .ok (.newarray .int, 2) := by decide +kernel
theorem dX8_init_50 : decode cX8_init 50 = .ok (.putfield 26, 3) := by decide +kernel
theorem dX8_init_53 : decode cX8_init 53 = .ok (.aload_n 0, 1) := by decide +kernel
theorem dX8_init_54 : decode cX8_init 54 = .ok (.bipush 40, 2) := by decide +kernel
theorem dX8_init_56 : decode cX8_init 56 = .ok (.newarray .int, 2) := by decide +kernel
theorem dX8_init_58 : decode cX8_init 58 = .ok (.putfield 29, 3) := by decide +kernel
theorem dX8_init_61 : decode cX8_init 61 = .ok (.aload_n 0, 1) := by decide +kernel
theorem dX8_init_62 : decode cX8_init 62 = .ok (.bipush 40, 2) := by decide +kernel
theorem dX8_init_64 : decode cX8_init 64 = .ok (.newarray .int, 2) := by decide +kernel
theorem dX8_init_66 : decode cX8_init 66 = .ok (.putfield 32, 3) := by decide +kernel
theorem dX8_init_69 : decode cX8_init 69 = .ok (.aload_n 0, 1) := by decide +kernel
theorem dX8_init_70 : decode cX8_init 70 = .ok (.bipush 8, 2) := by decide +kernel
theorem dX8_init_72 : decode cX8_init 72 = .ok (.newarray .int, 2) := by decide +kernel
theorem dX8_init_74 : decode cX8_init 74 = .ok (.putfield 35, 3) := by decide +kernel
theorem dX8_init_77 : decode cX8_init 77 = .ok (.aload_n 0, 1) := by decide +kernel
theorem dX8_init_78 : decode cX8_init 78 = .ok (.bipush 8, 2) := by decide +kernel
theorem dX8_init_80 : decode cX8_init 80 = .ok (.newarray .int, 2) := by decide +kernel
theorem dX8_init_82 : decode cX8_init 82 = .ok (.putfield 38, 3) := by decide +kernel
theorem dX8_init_85 : decode cX8_init 85 = .ok (.aload_n 0, 1) := by decide +kernel
theorem dX8_init_86 : decode cX8_init 86 = .ok (.bipush 8, 2) := by decide +kernel
theorem dX8_init_88 : decode cX8_init 88 = .ok (.newarray .int, 2) := by decide +kernel
theorem dX8_init_90 : decode cX8_init 90 = .ok (.putfield 41, 3) := by decide +kernel
theorem dX8_init_93 : decode cX8_init 93 = .ok (.aload_n 0, 1) := by decide +kernel
theorem dX8_init_94 : decode cX8_init 94 = .ok (.iconst 0, 1) := by decide +kernel
theorem dX8_init_95 : decode cX8_init 95 = .ok (.iconst 4, 1) := by decide +kernel
theorem dX8_init_96 : decode cX8_init 96 = .ok (.iconst 4, 1) := by decide +kernel
theorem dX8_init_97 : decode cX8_init 97 = .ok (.invokevirtual 44, 3) := by decide +kernel
theorem dX8_init_100 : decode cX8_init 100 = .ok (.return_, 1) := by decide +kernel
theorem dX8_in_0 : decode cX8_in 0 = .ok (.lload_n 0, 1) := by decide +kernel
theorem dX8_in_1 : decode cX8_in 1 = .ok (.lload_n 2, 1) := by decide +kernel
theorem dX8_in_2 : decode cX8_in 2 = .ok (.lcmp, 1) := by decide +kernel
theorem dX8_in_3 : decode cX8_in 3 = .ok (.ifCond .lt 14, 3) := by decide +kernel
theorem dX8_in_6 : decode cX8_in 6 = .ok (.lload_n 0, 1) := by decide +kernel
theorem dX8_in_7 : decode cX8_in 7 = .ok (.lload 4, 2) := by decide +kernel
theorem dX8_in_9 : decode cX8_in 9 = .ok (.lcmp, 1) := by decide +kernel
theorem dX8_in_10 : decode cX8_in 10 = .ok (.ifCond .gt 7, 3) := by decide +kernel
theorem dX8_in_13 : decode cX8_in 13 = .ok (.iconst 1, 1) := by decide +kernel
theorem dX8_in_14 : decode cX8_in 14 = .ok (.goto 4, 3) := by decide +kernel
theorem dX8_in_17 : decode cX8_in 17 = .ok (.iconst 0, 1) := by decide +kernel
theorem dX8_in_18 : decode cX8_in 18 = .ok (.ireturn, 1) := by decide +kernel
theorem dX8_has_0 : decode cX8_has 0 = .ok (.iload_n 0, 1) := by decide +kernel
theorem dX8_has_1 : decode cX8_has 1 = .ok (.iload_n 1, 1) := by decide +kernel
theorem dX8_has_2 : decode cX8_has 2 = .ok (.ishr, 1) := by decide +kernel
theorem dX8_has_3 : decode cX8_has 3 = .ok (.iconst 1, 1) := by decide +kernel
theorem dX8_has_4 : decode cX8_has 4 = .ok (.iand, 1) := by decide +kernel
theorem dX8_has_5 : decode cX8_has 5 = .ok (.iconst 1, 1) := by decide +kernel
theorem dX8_has_6 : decode cX8_has 6 = .ok (.if_icmp .ne 7, 3) := by decide +kernel
theorem dX8_has_9 : decode cX8_has 9 = .ok (.iconst 1, 1) := by decide +kernel
theorem dX8_has_10 : decode cX8_has 10 = .ok (.goto 4, 3) := by decide +kernel
theorem dX8_has_13 : decode cX8_has 13 = .ok (.iconst 0, 1) := by decide +kernel
theorem dX8_has_14 : decode cX8_has 14 = .ok (.ireturn, 1) := by decide +kernel
theorem dX8_sizeOf_0 : decode cX8_sizeOf 0 = .ok (.iload_n 0, 1) := by decide +kernel
theorem dX8_sizeOf_1 : decode cX8_sizeOf 1 = .ok (.ifCond .ge 8, 3) := by decide +kernel
theorem dX8_sizeOf_4 : decode cX8_sizeOf 4 = .ok (.iload_n 0, 1) := by decide +kernel
theorem dX8_sizeOf_5 : decode cX8_sizeOf 5 = .ok (.ineg, 1) := by decide +kernel
theorem dX8_sizeOf_6 : decode cX8_sizeOf 6 = .ok (.goto 4, 3) := by decide +kernel
theorem dX8_sizeOf_9 : decode cX8_sizeOf 9 = .ok (.iload_n 0, 1) := by decide +kernel
theorem dX8_sizeOf_10 : decode cX8_sizeOf 10 = .ok (.ireturn, 1) := by decide +kernel
theorem dX8_lesser_0 : decode cX8_lesser 0 = .ok (.iload_n 0, 1) := by decide +kernel
theorem dX8_lesser_1 : decode cX8_lesser 1 = .ok (.iload_n 1, 1) := by decide +kernel
theorem dX8_lesser_2 : decode cX8_lesser 2 = .ok (.if_icmp .ge 7, 3) := by decide +kernel
theorem dX8_lesser_5 : decode cX8_lesser 5 = .ok (.iload_n 0, 1) := by decide +kernel
theorem dX8_lesser_6 : decode cX8_lesser 6 = .ok (.goto 4, 3) := by decide +kernel
theorem dX8_lesser_9 : decode cX8_lesser 9 = .ok (.iload_n 1, 1) := by decide +kernel
theorem dX8_lesser_10 : decode cX8_lesser 10 = .ok (.ireturn, 1) := by decide +kernel
theorem dX8_greater_0 : decode cX8_greater 0 = .ok (.iload_n 0, 1) := by decide +kernel
theorem dX8_greater_1 : decode cX8_greater 1 = .ok (.iload_n 1, 1) := by decide +kernel
theorem dX8_greater_2 : decode cX8_greater 2 = .ok (.if_icmp .le 7, 3) := by decide +kernel
theorem dX8_greater_5 : decode cX8_greater 5 = .ok (.iload_n 0, 1) := by decide +kernel
theorem dX8_greater_6 : decode cX8_greater 6 = .ok (.goto 4, 3) := by decide +kernel
theorem dX8_greater_9 : decode cX8_greater 9 = .ok (.iload_n 1, 1) := by decide +kernel
theorem dX8_greater_10 : decode cX8_greater 10 = .ok (.ireturn, 1) := by decide +kernel
theorem dX8_met_0 : decode cX8_met 0 = .ok (.iload_n 1, 1) := by decide +kernel
theorem dX8_met_1 : decode cX8_met 1 = .ok (.bipush (-2), 2) := by decide +kernel
theorem dX8_met_3 : decode cX8_met 3 = .ok (.if_icmp .eq 15, 3) := by decide +kernel
theorem dX8_met_6 : decode cX8_met 6 = .ok (.iload_n 1, 1) := by decide +kernel
theorem dX8_met_7 : decode cX8_met 7 = .ok (.bipush (-3), 2) := by decide +kernel
theorem dX8_met_9 : decode cX8_met 9 = .ok (.if_icmp .eq 9, 3) := by decide +kernel
theorem dX8_met_12 : decode cX8_met 12 = .ok (.iload_n 1, 1) := by decide +kernel
theorem dX8_met_13 : decode cX8_met 13 = .ok (.bipush (-4), 2) := by decide +kernel
theorem dX8_met_15 : decode cX8_met 15 = .ok (.if_icmp .ne 16, 3) := by decide +kernel
theorem dX8_met_18 : decode cX8_met 18 = .ok (.aload_n 0, 1) := by decide +kernel
theorem dX8_met_19 : decode cX8_met 19 = .ok (.getfield 20, 3) := by decide +kernel
theorem dX8_met_22 : decode cX8_met 22 = .ok (.bipush (-2), 2) := by decide +kernel
theorem dX8_met_24 : decode cX8_met 24 = .ok (.iload_n 1, 1) := by decide +kernel
theorem dX8_met_25 : decode cX8_met 25 = .ok (.isub, 1) := by decide +kernel
theorem dX8_met_26 : decode cX8_met 26 = .ok (.dup2, 1) := by decide +kernel
theorem dX8_met_27 : decode cX8_met 27 = .ok (.iaload, 1) := by decide +kernel
theorem dX8_met_28 : decode cX8_met 28 = .ok (.iconst 1, 1) := by decide +kernel
theorem dX8_met_29 : decode cX8_met 29 = .ok (.iadd, 1) := by decide +kernel
theorem dX8_met_30 : decode cX8_met 30 = .ok (.iastore, 1) := by decide +kernel
theorem dX8_met_31 : decode cX8_met 31 = .ok (.iload_n 1, 1) := by decide +kernel
theorem dX8_met_32 : decode cX8_met 32 = .ok (.ireturn, 1) := by decide +kernel
theorem dX8_metElse_0 : decode cX8_metElse 0 = .ok (.aload_n 0, 1) := by decide +kernel
theorem dX8_metElse_1 : decode cX8_metElse 1 = .ok (.getfield 20, 3) := by decide +kernel
theorem dX8_metElse_4 : decode cX8_metElse 4 = .ok (.iload_n 1, 1) := by decide +kernel
theorem dX8_metElse_5 : decode cX8_metElse 5 = .ok (.bipush (-10), 2) := by decide +kernel
theorem dX8_metElse_7 : decode cX8_metElse 7 = .ok (.if_icmp .ne 7, 3) := by decide +kernel
theorem dX8_metElse_10 : decode cX8_metElse 10 = .ok (.iconst 0, 1) := by decide +kernel
theorem dX8_metElse_11 : decode cX8_metElse 11 = .ok (.goto 4, 3) := by decide +kernel
theorem dX8_metElse_14 : decode cX8_metElse 14 = .ok (.iconst 1, 1) := by decide +kernel
theorem dX8_metElse_15 : decode cX8_metElse 15 = .ok (.dup2, 1) := by decide +kernel
theorem dX8_metElse_16 : decode cX8_metElse 16 = .ok (.iaload, 1) := by decide +kernel
theorem dX8_metElse_17 : decode cX8_metElse 17 = .ok (.iconst 1, 1) := by decide +kernel
theorem dX8_metElse_18 : decode cX8_metElse 18 = .ok (.iadd, 1) := by decide +kernel
theorem dX8_metElse_19 : decode cX8_metElse 19 = .ok (.iastore, 1) := by decide +kernel
theorem dX8_metElse_20 : decode cX8_metElse 20 = .ok (.iload_n 1, 1) := by decide +kernel
theorem dX8_metElse_21 : decode cX8_metElse 21 = .ok (.ireturn, 1) := by decide +kernel
theorem dX8_copy_0 : decode cX8_copy 0 = .ok (.iconst 0, 1) := by decide +kernel
theorem dX8_copy_1 : decode cX8_copy 1 = .ok (.istore_n 3, 1) := by decide +kernel
theorem dX8_copy_2 : decode cX8_copy 2 = .ok (.iload_n 3, 1) := by decide +kernel
theorem dX8_copy_3 : decode cX8_copy 3 = .ok (.sipush 200, 3) := by decide +kernel
theorem dX8_copy_6 : decode cX8_copy 6 = .ok (.if_icmp .ge 25, 3) := by decide +kernel
theorem dX8_copy_9 : decode cX8_copy 9 = .ok (.aload_n 0, 1) := by decide +kernel
theorem dX8_copy_10 : decode cX8_copy 10 = .ok (.getfield 7, 3) := by decide +kernel
theorem dX8_copy_13 : decode cX8_copy 13 = .ok (.iload_n 2, 1) := by decide +kernel
theorem dX8_copy_14 : decode cX8_copy 14 = .ok (.iload_n 3, 1) := by decide +kernel
theorem dX8_copy_15 : decode cX8_copy 15 = .ok (.iadd, 1) := by decide +kernel
theorem dX8_copy_16 : decode cX8_copy 16 = .ok (.aload_n 0, 1) := by decide +kernel
theorem dX8_copy_17 : decode cX8_copy 17 = .ok (.getfield 7, 3) := by decide +kernel
theorem dX8_copy_20 : decode cX8_copy 20 = .ok (.iload_n 1, 1) := by decide +kernel
theorem dX8_copy_21 : decode cX8_copy 21 = .ok (.iload_n 3, 1) := by decide +kernel
theorem dX8_copy_22 : decode cX8_copy 22 = .ok (.iadd, 1) := by decide +kernel
theorem dX8_copy_23 : decode cX8_copy 23 = .ok (.iaload, 1) := by decide +kernel
theorem dX8_copy_24 : decode cX8_copy 24 = .ok (.iastore, 1) := by decide +kernel
theorem dX8_copy_25 : decode cX8_copy 25 = .ok (.iinc 3 1, 3) := by decide +kernel
theorem dX8_copy_28 : decode cX8_copy 28 = .ok (.goto (-26), 3) := by decide +kernel
theorem dX8_copy_31 : decode cX8_copy 31 = .ok (.return_, 1) := by decide +kernel
theorem dX8_makeAnew_0 : decode cX8_makeAnew 0 = .ok (.iconst 0, 1) := by decide +kernel
theorem dX8_makeAnew_1 : decode cX8_makeAnew 1 = .ok (.istore 4, 2) := by decide +kernel
theorem dX8_makeAnew_3 : decode cX8_makeAnew 3 = .ok (.iload 4, 2) := by decide +kernel
theorem dX8_makeAnew_5 : decode cX8_makeAnew 5 = .ok (.sipush 200, 3) := by decide +kernel
theorem dX8_makeAnew_8 : decode cX8_makeAnew 8 = .ok (.if_icmp .ge 19, 3) := by decide +kernel
theorem dX8_makeAnew_11 : decode cX8_makeAnew 11 = .ok (.aload_n 0, 1) := by decide +kernel
theorem dX8_makeAnew_12 : decode cX8_makeAnew 12 = .ok (.getfield 7, 3) := by decide +kernel
theorem dX8_makeAnew_15 : decode cX8_makeAnew 15 = .ok (.iload_n 1, 1) := by decide +kernel
theorem dX8_makeAnew_16 : decode cX8_makeAnew 16 = .ok (.iload 4, 2) := by decide +kernel
theorem dX8_makeAnew_18 : decode cX8_makeAnew 18 = .ok (.iadd, 1) := by decide +kernel
theorem dX8_makeAnew_19 : decode cX8_makeAnew 19 = .ok (.iconst 0, 1) := by decide +kernel
theorem dX8_makeAnew_20 : decode cX8_makeAnew 20 = .ok (.iastore, 1) := by decide +kernel
theorem dX8_makeAnew_21 : decode cX8_makeAnew 21 = .ok (.iinc 4 1, 3) := by decide +kernel
theorem dX8_makeAnew_24 : decode cX8_makeAnew 24 = .ok (.goto (-21), 3) := by decide +kernel
theorem dX8_makeAnew_27 : decode cX8_makeAnew 27 = .ok (.aload_n 0, 1) := by decide +kernel
theorem dX8_makeAnew_28 : decode cX8_makeAnew 28 = .ok (.getfield 7, 3) := by decide +kernel
theorem dX8_makeAnew_31 : decode cX8_makeAnew 31 = .ok (.iload_n 1, 1) := by decide +kernel
theorem dX8_makeAnew_32 : decode cX8_makeAnew 32 = .ok (.iconst 0, 1) := by decide +kernel
theorem dX8_makeAnew_33 : decode cX8_makeAnew 33 = .ok (.iadd, 1) := by decide +kernel
theorem dX8_makeAnew_34 : decode cX8_makeAnew 34 = .ok (.iload_n 2, 1) := by decide +kernel
theorem dX8_makeAnew_35 : decode cX8_makeAnew 35 = .ok (.iastore, 1) := by decide +kernel
theorem dX8_makeAnew_36 : decode cX8_makeAnew 36 = .ok (.aload_n 0, 1) := by decide +kernel
theorem dX8_makeAnew_37 : decode cX8_makeAnew 37 = .ok (.getfield 7, 3) := by decide +kernel
theorem dX8_makeAnew_40 : decode cX8_makeAnew 40 = .ok (.iload_n 1, 1) := by decide +kernel
theorem dX8_makeAnew_41 : decode cX8_makeAnew 41 = .ok (.iconst 1, 1) := by decide +kernel
theorem dX8_makeAnew_42 : decode cX8_makeAnew 42 = .ok (.iadd, 1) := by decide +kernel
theorem dX8_makeAnew_43 : decode cX8_makeAnew 43 = .ok (.iload_n 3, 1) := by decide +kernel
theorem dX8_makeAnew_44 : decode cX8_makeAnew 44 = .ok (.iastore, 1) := by decide +kernel
theorem dX8_makeAnew_45 : decode cX8_makeAnew 45 = .ok (.aload_n 0, 1) := by decide +kernel
theorem dX8_makeAnew_46 : decode cX8_makeAnew 46 = .ok (.getfield 7, 3) := by decide +kernel
theorem dX8_makeAnew_49 : decode cX8_makeAnew 49 = .ok (.iload_n 1, 1) := by decide +kernel
theorem dX8_makeAnew_50 : decode cX8_makeAnew 50 = .ok (.iconst 3, 1) := by decide +kernel
theorem dX8_makeAnew_51 : decode cX8_makeAnew 51 = .ok (.iadd, 1) := by decide +kernel
theorem dX8_makeAnew_52 : decode cX8_makeAnew 52 = .ok (.bipush 8, 2) := by decide +kernel
theorem dX8_makeAnew_54 : decode cX8_makeAnew 54 = .ok (.iastore, 1) := by decide +kernel
theorem dX8_makeAnew_55 : decode cX8_makeAnew 55 = .ok (.return_, 1) := by decide +kernel
theorem dX8_setHall_0 : decode cX8_setHall 0 = .ok (.iload_n 2, 1) := by decide +kernel
theorem dX8_setHall_1 : decode cX8_setHall 1 = .ok (.i2l, 1) := by decide +kernel
theorem dX8_setHall_2 : decode cX8_setHall 2 = .ok (.ldc2_w 48, 3) := by decide +kernel
theorem dX8_setHall_5 : decode cX8_setHall 5 = .ok (.ldc2_w 50, 3) := by decide +kernel
theorem dX8_setHall_8 : decode cX8_setHall 8 = .ok (.invokestatic 52, 3) := by decide +kernel
theorem dX8_setHall_11 : decode cX8_setHall 11 = .ok (.ifCond .eq 17, 3) := by decide +kernel
theorem dX8_setHall_14 : decode cX8_setHall 14 = .ok (.iload_n 3, 1) := by decide +kernel
theorem dX8_setHall_15 : decode cX8_setHall 15 = .ok (.i2l, 1) := by decide +kernel
theorem dX8_setHall_16 : decode cX8_setHall 16 = .ok (.ldc2_w 48, 3) := by decide +kernel
theorem dX8_setHall_19 : decode cX8_setHall 19 = .ok (.ldc2_w 50, 3) := by decide +kernel
theorem dX8_setHall_22 : decode cX8_setHall 22 = .ok (.invokestatic 52, 3) := by decide +kernel
theorem dX8_setHall_25 : decode cX8_setHall 25 = .ok (.ifCond .ne 6, 3) := by decide +kernel
theorem dX8_setHall_28 : decode cX8_setHall 28 = .ok (.bipush (-2), 2) := by decide +kernel
theorem dX8_setHall_30 : decode cX8_setHall 30 = .ok (.ireturn, 1) := by decide +kernel
theorem dX8_setHall_31 : decode cX8_setHall 31 = .ok (.aload_n 0, 1) := by decide +kernel
theorem dX8_setHall_32 : decode cX8_setHall 32 = .ok (.iload_n 1, 1) := by decide +kernel
theorem dX8_setHall_33 : decode cX8_setHall 33 = .ok (.iload_n 2, 1) := by decide +kernel
theorem dX8_setHall_34 : decode cX8_setHall 34 = .ok (.iload_n 3, 1) := by decide +kernel
theorem dX8_setHall_35 : decode cX8_setHall 35 = .ok (.invokevirtual 44, 3) := by decide +kernel
theorem dX8_setHall_38 : decode cX8_setHall 38 = .ok (.iload_n 2, 1) := by decide +kernel
theorem dX8_setHall_39 : decode cX8_setHall 39 = .ok (.iload_n 3, 1) := by decide +kernel
theorem dX8_setHall_40 : decode cX8_setHall 40 = .ok (.imul, 1) := by decide +kernel
theorem dX8_setHall_41 : decode cX8_setHall 41 = .ok (.ireturn, 1) := by decide +kernel
theorem dX8_squaresOf_0 : decode cX8_squaresOf 0 = .ok (.aload_n 0, 1) := by decide +kernel
theorem dX8_squaresOf_1 : decode cX8_squaresOf 1 = .ok (.getfield 7, 3) := by decide +kernel
theorem dX8_squaresOf_4 : decode cX8_squaresOf 4 = .ok (.iload_n 1, 1) := by decide +kernel
theorem dX8_squaresOf_5 : decode cX8_squaresOf 5 = .ok (.iconst 0, 1) := by decide +kernel
theorem dX8_squaresOf_6 : decode cX8_squaresOf 6 = .ok (.iadd, 1) := by decide +kernel
theorem dX8_squaresOf_7 : decode cX8_squaresOf 7 = .ok (.iaload, 1) := by decide +kernel
theorem dX8_squaresOf_8 : decode cX8_squaresOf 8 = .ok (.aload_n 0, 1) := by decide +kernel
theorem dX8_squaresOf_9 : decode cX8_squaresOf 9 = .ok (.getfield 7, 3) := by decide +kernel
theorem dX8_squaresOf_12 : decode cX8_squaresOf 12 = .ok (.iload_n 1, 1) := by decide +kernel
theorem dX8_squaresOf_13 : decode cX8_squaresOf 13 = .ok (.iconst 1, 1) := by decide +kernel
theorem dX8_squaresOf_14 : decode cX8_squaresOf 14 = .ok (.iadd, 1) := by decide +kernel
theorem dX8_squaresOf_15 : decode cX8_squaresOf 15 = .ok (.iaload, 1) := by decide +kernel
theorem dX8_squaresOf_16 : decode cX8_squaresOf 16 = .ok (.imul, 1) := by decide +kernel
theorem dX8_squaresOf_17 : decode cX8_squaresOf 17 = .ok (.ireturn, 1) := by decide +kernel
theorem dX8_isSquare_0 : decode cX8_isSquare 0 = .ok (.iload_n 2, 1) := by decide +kernel
theorem dX8_isSquare_1 : decode cX8_isSquare 1 = .ok (.i2l, 1) := by decide +kernel
theorem dX8_isSquare_2 : decode cX8_isSquare 2 = .ok (.lconst 0, 1) := by decide +kernel
theorem dX8_isSquare_3 : decode cX8_isSquare 3 = .ok (.aload_n 0, 1) := by decide +kernel
theorem dX8_isSquare_4 : decode cX8_isSquare 4 = .ok (.iload_n 1, 1) := by decide +kernel
theorem dX8_isSquare_5 : decode cX8_isSquare 5 = .ok (.invokevirtual 56, 3) := by decide +kernel
theorem dX8_isSquare_8 : decode cX8_isSquare 8 = .ok (.iconst 1, 1) := by decide +kernel
theorem dX8_isSquare_9 : decode cX8_isSquare 9 = .ok (.isub, 1) := by decide +kernel
theorem dX8_isSquare_10 : decode cX8_isSquare 10 = .ok (.i2l, 1) := by decide +kernel
theorem dX8_isSquare_11 : decode cX8_isSquare 11 = .ok (.invokestatic 52, 3) := by decide +kernel
theorem dX8_isSquare_14 : decode cX8_isSquare 14 = .ok (.ireturn, 1) := by decide +kernel
theorem dX8_sitsAt_0 : decode cX8_sitsAt 0 = .ok (.iconst (-1), 1) := by decide +kernel
theorem dX8_sitsAt_1 : decode cX8_sitsAt 1 = .ok (.istore_n 3, 1) := by decide +kernel
theorem dX8_sitsAt_2 : decode cX8_sitsAt 2 = .ok (.iconst 0, 1) := by decide +kernel
theorem dX8_sitsAt_3 : decode cX8_sitsAt 3 = .ok (.istore 4, 2) := by decide +kernel
theorem dX8_sitsAt_5 : decode cX8_sitsAt 5 = .ok (.iload 4, 2) := by decide +kernel
theorem dX8_sitsAt_7 : decode cX8_sitsAt 7 = .ok (.aload_n 0, 1) := by decide +kernel
theorem dX8_sitsAt_8 : decode cX8_sitsAt 8 = .ok (.getfield 7, 3) := by decide +kernel
theorem dX8_sitsAt_11 : decode cX8_sitsAt 11 = .ok (.iload_n 1, 1) := by decide +kernel
theorem dX8_sitsAt_12 : decode cX8_sitsAt 12 = .ok (.iconst 5, 1) := by decide +kernel
theorem dX8_sitsAt_13 : decode cX8_sitsAt 13 = .ok (.iadd, 1) := by decide +kernel
theorem dX8_sitsAt_14 : decode cX8_sitsAt 14 = .ok (.iaload, 1) := by decide +kernel
theorem dX8_sitsAt_15 : decode cX8_sitsAt 15 = .ok (.if_icmp .ge 32, 3) := by decide +kernel
theorem dX8_sitsAt_18 : decode cX8_sitsAt 18 = .ok (.aload_n 0, 1) := by decide +kernel
theorem dX8_sitsAt_19 : decode cX8_sitsAt 19 = .ok (.getfield 7, 3) := by decide +kernel
theorem dX8_sitsAt_22 : decode cX8_sitsAt 22 = .ok (.iload_n 1, 1) := by decide +kernel
theorem dX8_sitsAt_23 : decode cX8_sitsAt 23 = .ok (.bipush 6, 2) := by decide +kernel
theorem dX8_sitsAt_25 : decode cX8_sitsAt 25 = .ok (.iadd, 1) := by decide +kernel
theorem dX8_sitsAt_26 : decode cX8_sitsAt 26 = .ok (.iload 4, 2) := by decide +kernel
theorem dX8_sitsAt_28 : decode cX8_sitsAt 28 = .ok (.iadd, 1) := by decide +kernel
theorem dX8_sitsAt_29 : decode cX8_sitsAt 29 = .ok (.iaload, 1) := by decide +kernel
theorem dX8_sitsAt_30 : decode cX8_sitsAt 30 = .ok (.iload_n 2, 1) := by decide +kernel
theorem dX8_sitsAt_31 : decode cX8_sitsAt 31 = .ok (.if_icmp .ne 8, 3) := by decide +kernel
theorem dX8_sitsAt_34 : decode cX8_sitsAt 34 = .ok (.iload 4, 2) := by decide +kernel
theorem dX8_sitsAt_36 : decode cX8_sitsAt 36 = .ok (.goto 4, 3) := by decide +kernel
theorem dX8_sitsAt_39 : decode cX8_sitsAt 39 = .ok (.iload_n 3, 1) := by decide +kernel
theorem dX8_sitsAt_40 : decode cX8_sitsAt 40 = .ok (.istore_n 3, 1) := by decide +kernel
theorem dX8_sitsAt_41 : decode cX8_sitsAt 41 = .ok (.iinc 4 1, 3) := by decide +kernel
theorem dX8_sitsAt_44 : decode cX8_sitsAt 44 = .ok (.goto (-39), 3) := by decide +kernel
theorem dX8_sitsAt_47 : decode cX8_sitsAt 47 = .ok (.iload_n 3, 1) := by decide +kernel
theorem dX8_sitsAt_48 : decode cX8_sitsAt 48 = .ok (.ireturn, 1) := by decide +kernel
theorem dX8_setShelf_0 : decode cX8_setShelf 0 = .ok (.aload_n 0, 1) := by decide +kernel
theorem dX8_setShelf_1 : decode cX8_setShelf 1 = .ok (.iload_n 1, 1) := by decide +kernel
theorem dX8_setShelf_2 : decode cX8_setShelf 2 = .ok (.iload_n 2, 1) := by decide +kernel
theorem dX8_setShelf_3 : decode cX8_setShelf 3 = .ok (.invokevirtual 60, 3) := by decide +kernel
theorem dX8_setShelf_6 : decode cX8_setShelf 6 = .ok (.ifCond .ne 6, 3) := by decide +kernel
theorem dX8_setShelf_9 : decode cX8_setShelf 9 = .ok (.bipush (-2), 2) := by decide +kernel
theorem dX8_setShelf_11 : decode cX8_setShelf 11 = .ok (.ireturn, 1) := by decide +kernel
theorem dX8_setShelf_12 : decode cX8_setShelf 12 = .ok (.aload_n 0, 1) := by decide +kernel
theorem dX8_setShelf_13 : decode cX8_setShelf 13 = .ok (.getfield 7, 3) := by decide +kernel
theorem dX8_setShelf_16 : decode cX8_setShelf 16 = .ok (.iload_n 1, 1) := by decide +kernel
theorem dX8_setShelf_17 : decode cX8_setShelf 17 = .ok (.iconst 4, 1) := by decide +kernel
theorem dX8_setShelf_18 : decode cX8_setShelf 18 = .ok (.iadd, 1) := by decide +kernel
theorem dX8_setShelf_19 : decode cX8_setShelf 19 = .ok (.iaload, 1) := by decide +kernel
theorem dX8_setShelf_20 : decode cX8_setShelf 20 = .ok (.iload_n 2, 1) := by decide +kernel
theorem dX8_setShelf_21 : decode cX8_setShelf 21 = .ok (.invokestatic 64, 3) := by decide +kernel
theorem dX8_setShelf_24 : decode cX8_setShelf 24 = .ok (.iload_n 3, 1) := by decide +kernel
theorem dX8_setShelf_25 : decode cX8_setShelf 25 = .ok (.if_icmp .eq 28, 3) := by decide +kernel
theorem dX8_setShelf_28 : decode cX8_setShelf 28 = .ok (.iload_n 3, 1) := by decide +kernel
theorem dX8_setShelf_29 : decode cX8_setShelf 29 = .ok (.ifCond .eq 27, 3) := by decide +kernel
theorem dX8_setShelf_32 : decode cX8_setShelf 32 = .ok (.aload_n 0, 1) := by decide +kernel
theorem dX8_setShelf_33 : decode cX8_setShelf 33 = .ok (.iload_n 1, 1) := by decide +kernel
theorem dX8_setShelf_34 : decode cX8_setShelf 34 = .ok (.iload_n 2, 1) := by decide +kernel
theorem dX8_setShelf_35 : decode cX8_setShelf 35 = .ok (.invokevirtual 67, 3) := by decide +kernel
theorem dX8_setShelf_38 : decode cX8_setShelf 38 = .ok (.ifCond .ge 15, 3) := by decide +kernel
theorem dX8_setShelf_41 : decode cX8_setShelf 41 = .ok (.aload_n 0, 1) := by decide +kernel
theorem dX8_setShelf_42 : decode cX8_setShelf 42 = .ok (.getfield 7, 3) := by decide +kernel
theorem dX8_setShelf_45 : decode cX8_setShelf 45 = .ok (.iload_n 1, 1) := by decide +kernel
theorem dX8_setShelf_46 : decode cX8_setShelf 46 = .ok (.iconst 2, 1) := by decide +kernel
theorem dX8_setShelf_47 : decode cX8_setShelf 47 = .ok (.iadd, 1) := by decide +kernel
theorem dX8_setShelf_48 : decode cX8_setShelf 48 = .ok (.iaload, 1) := by decide +kernel
theorem dX8_setShelf_49 : decode cX8_setShelf 49 = .ok (.iload_n 2, 1) := by decide +kernel
theorem dX8_setShelf_50 : decode cX8_setShelf 50 = .ok (.if_icmp .ne 6, 3) := by decide +kernel
theorem dX8_setShelf_53 : decode cX8_setShelf 53 = .ok (.bipush (-3), 2) := by decide +kernel
theorem dX8_setShelf_55 : decode cX8_setShelf 55 = .ok (.ireturn, 1) := by decide +kernel
theorem dX8_setShelf_56 : decode cX8_setShelf 56 = .ok (.aload_n 0, 1) := by decide +kernel
theorem dX8_setShelf_57 : decode cX8_setShelf 57 = .ok (.getfield 7, 3) := by decide +kernel
theorem dX8_setShelf_60 : decode cX8_setShelf 60 = .ok (.iload_n 1, 1) := by decide +kernel
theorem dX8_setShelf_61 : decode cX8_setShelf 61 = .ok (.iconst 4, 1) := by decide +kernel
theorem dX8_setShelf_62 : decode cX8_setShelf 62 = .ok (.iadd, 1) := by decide +kernel
theorem dX8_setShelf_63 : decode cX8_setShelf 63 = .ok (.dup2, 1) := by decide +kernel
theorem dX8_setShelf_64 : decode cX8_setShelf 64 = .ok (.iaload, 1) := by decide +kernel
theorem dX8_setShelf_65 : decode cX8_setShelf 65 = .ok (.iconst 1, 1) := by decide +kernel
theorem dX8_setShelf_66 : decode cX8_setShelf 66 = .ok (.iload_n 2, 1) := by decide +kernel
theorem dX8_setShelf_67 : decode cX8_setShelf 67 = .ok (.ishl, 1) := by decide +kernel
theorem dX8_setShelf_68 : decode cX8_setShelf 68 = .ok (.ixor, 1) := by decide +kernel
theorem dX8_setShelf_69 : decode cX8_setShelf 69 = .ok (.iastore, 1) := by decide +kernel
theorem dX8_setShelf_70 : decode cX8_setShelf 70 = .ok (.aload_n 0, 1) := by decide +kernel
theorem dX8_setShelf_71 : decode cX8_setShelf 71 = .ok (.getfield 7, 3) := by decide +kernel
theorem dX8_setShelf_74 : decode cX8_setShelf 74 = .ok (.iload_n 1, 1) := by decide +kernel
theorem dX8_setShelf_75 : decode cX8_setShelf 75 = .ok (.bipush 46, 2) := by decide +kernel
theorem dX8_setShelf_77 : decode cX8_setShelf 77 = .ok (.iadd, 1) := by decide +kernel
theorem dX8_setShelf_78 : decode cX8_setShelf 78 = .ok (.iconst 0, 1) := by decide +kernel
theorem dX8_setShelf_79 : decode cX8_setShelf 79 = .ok (.iastore, 1) := by decide +kernel
theorem dX8_setShelf_80 : decode cX8_setShelf 80 = .ok (.iconst 1, 1) := by decide +kernel
theorem dX8_setShelf_81 : decode cX8_setShelf 81 = .ok (.ireturn, 1) := by decide +kernel
theorem dX8_addReader_0 : decode cX8_addReader 0 = .ok (.aload_n 0, 1) := by decide +kernel
theorem dX8_addReader_1 : decode cX8_addReader 1 = .ok (.iload_n 1, 1) := by decide +kernel
theorem dX8_addReader_2 : decode cX8_addReader 2 = .ok (.iload_n 2, 1) := by decide +kernel
theorem dX8_addReader_3 : decode cX8_addReader 3 = .ok (.invokevirtual 60, 3) := by decide +kernel
theorem dX8_addReader_6 : decode cX8_addReader 6 = .ok (.ifCond .eq 41, 3) := by decide +kernel
theorem dX8_addReader_9 : decode cX8_addReader 9 = .ok (.iload_n 3, 1) := by decide +kernel
theorem dX8_addReader_10 : decode cX8_addReader 10 = .ok (.i2l, 1) := by decide +kernel
theorem dX8_addReader_11 : decode cX8_addReader 11 = .ok (.lconst 0, 1) := by decide +kernel
theorem dX8_addReader_12 : decode cX8_addReader 12 = .ok (.ldc2_w 50, 3) := by decide +kernel
theorem dX8_addReader_15 : decode cX8_addReader 15 = .ok (.invokestatic 52, 3) := by decide +kernel
theorem dX8_addReader_18 : decode cX8_addReader 18 = .ok (.ifCond .eq 29, 3) := by decide +kernel
theorem dX8_addReader_21 : decode cX8_addReader 21 = .ok (.iload 4, 2) := by decide +kernel
theorem dX8_addReader_23 : decode cX8_addReader 23 = .ok (.i2l, 1) := by decide +kernel
theorem dX8_addReader_24 : decode cX8_addReader 24 = .ok (.lconst 1, 1) := by decide +kernel
theorem dX8_addReader_25 : decode cX8_addReader 25 = .ok (.ldc2_w 71, 3) := by decide +kernel
theorem dX8_addReader_28 : decode cX8_addReader 28 = .ok (.invokestatic 52, 3) := by decide +kernel
theorem dX8_addReader_31 : decode cX8_addReader 31 = .ok (.ifCond .eq 16, 3) := by decide +kernel
theorem dX8_addReader_34 : decode cX8_addReader 34 = .ok (.iload 5, 2) := by decide +kernel
theorem dX8_addReader_36 : decode cX8_addReader 36 = .ok (.i2l, 1) := by decide +kernel
theorem dX8_addReader_37 : decode cX8_addReader 37 = .ok (.lconst 0, 1) := by decide +kernel
theorem dX8_addReader_38 : decode cX8_addReader 38 = .ok (.ldc2_w 73, 3) := by decide +kernel
theorem dX8_addReader_41 : decode cX8_addReader 41 = .ok (.invokestatic 52, 3) := by decide +kernel
theorem dX8_addReader_44 : decode cX8_addReader 44 = .ok (.ifCond .ne 6, 3) := by decide +kernel
theorem dX8_addReader_47 : decode cX8_addReader 47 = .ok (.bipush (-2), 2) := by decide +kernel
theorem dX8_addReader_49 : decode cX8_addReader 49 = .ok (.ireturn, 1) := by decide +kernel
theorem dX8_addReader_50 : decode cX8_addReader 50 = .ok (.aload_n 0, 1) := by decide +kernel
theorem dX8_addReader_51 : decode cX8_addReader 51 = .ok (.getfield 7, 3) := by decide +kernel
theorem dX8_addReader_54 : decode cX8_addReader 54 = .ok (.iload_n 1, 1) := by decide +kernel
theorem dX8_addReader_55 : decode cX8_addReader 55 = .ok (.iconst 4, 1) := by decide +kernel
theorem dX8_addReader_56 : decode cX8_addReader 56 = .ok (.iadd, 1) := by decide +kernel
theorem dX8_addReader_57 : decode cX8_addReader 57 = .ok (.iaload, 1) := by decide +kernel
theorem dX8_addReader_58 : decode cX8_addReader 58 = .ok (.iload_n 2, 1) := by decide +kernel
theorem dX8_addReader_59 : decode cX8_addReader 59 = .ok (.invokestatic 64, 3) := by decide +kernel
theorem dX8_addReader_62 : decode cX8_addReader 62 = .ok (.ifCond .ne 12, 3) := by decide +kernel
theorem dX8_addReader_65 : decode cX8_addReader 65 = .ok (.aload_n 0, 1) := by decide +kernel
theorem dX8_addReader_66 : decode cX8_addReader 66 = .ok (.iload_n 1, 1) := by decide +kernel
theorem dX8_addReader_67 : decode cX8_addReader 67 = .ok (.iload_n 2, 1) := by decide +kernel
theorem dX8_addReader_68 : decode cX8_addReader 68 = .ok (.invokevirtual 67, 3) := by decide +kernel
theorem dX8_addReader_71 : decode cX8_addReader 71 = .ok (.ifCond .lt 6, 3) := by decide +kernel
theorem dX8_addReader_74 : decode cX8_addReader 74 = .ok (.bipush (-3), 2) := by decide +kernel
theorem dX8_addReader_76 : decode cX8_addReader 76 = .ok (.ireturn, 1) := by decide +kernel
theorem dX8_addReader_77 : decode cX8_addReader 77 = .ok (.aload_n 0, 1) := by decide +kernel
theorem dX8_addReader_78 : decode cX8_addReader 78 = .ok (.getfield 7, 3) := by decide +kernel
theorem dX8_addReader_81 : decode cX8_addReader 81 = .ok (.iload_n 1, 1) := by decide +kernel
theorem dX8_addReader_82 : decode cX8_addReader 82 = .ok (.iconst 5, 1) := by decide +kernel
theorem dX8_addReader_83 : decode cX8_addReader 83 = .ok (.iadd, 1) := by decide +kernel
theorem dX8_addReader_84 : decode cX8_addReader 84 = .ok (.iaload, 1) := by decide +kernel
theorem dX8_addReader_85 : decode cX8_addReader 85 = .ok (.istore 6, 2) := by decide +kernel
theorem dX8_addReader_87 : decode cX8_addReader 87 = .ok (.iload 6, 2) := by decide +kernel
theorem dX8_addReader_89 : decode cX8_addReader 89 = .ok (.iconst 5, 1) := by decide +kernel
theorem dX8_addReader_90 : decode cX8_addReader 90 = .ok (.if_icmp .ne 6, 3) := by decide +kernel
theorem dX8_addReader_93 : decode cX8_addReader 93 = .ok (.bipush (-4), 2) := by decide +kernel
theorem dX8_addReader_95 : decode cX8_addReader 95 = .ok (.ireturn, 1) := by decide +kernel
theorem dX8_addReader_96 : decode cX8_addReader 96 = .ok (.aload_n 0, 1) := by decide +kernel
theorem dX8_addReader_97 : decode cX8_addReader 97 = .ok (.getfield 7, 3) := by decide +kernel
theorem dX8_addReader_100 : decode cX8_addReader 100 = .ok (.iload_n 1, 1) := by decide +kernel
theorem dX8_addReader_101 : decode cX8_addReader 101 = .ok (.bipush 6, 2) := by decide +kernel
theorem dX8_addReader_103 : decode cX8_addReader 103 = .ok (.iadd, 1) := by decide +kernel
theorem dX8_addReader_104 : decode cX8_addReader 104 = .ok (.iload 6, 2) := by decide +kernel
theorem dX8_addReader_106 : decode cX8_addReader 106 = .ok (.iadd, 1) := by decide +kernel
theorem dX8_addReader_107 : decode cX8_addReader 107 = .ok (.iload_n 2, 1) := by decide +kernel
theorem dX8_addReader_108 : decode cX8_addReader 108 = .ok (.iastore, 1) := by decide +kernel
theorem dX8_addReader_109 : decode cX8_addReader 109 = .ok (.aload_n 0, 1) := by decide +kernel
theorem dX8_addReader_110 : decode cX8_addReader 110 = .ok (.getfield 7, 3) := by decide +kernel
theorem dX8_addReader_113 : decode cX8_addReader 113 = .ok (.iload_n 1, 1) := by decide +kernel
theorem dX8_addReader_114 : decode cX8_addReader 114 = .ok (.bipush 11, 2) := by decide +kernel
theorem dX8_addReader_116 : decode cX8_addReader 116 = .ok (.iadd, 1) := by decide +kernel
theorem dX8_addReader_117 : decode cX8_addReader 117 = .ok (.iload 6, 2) := by decide +kernel
theorem dX8_addReader_119 : decode cX8_addReader 119 = .ok (.iadd, 1) := by decide +kernel
theorem dX8_addReader_120 : decode cX8_addReader 120 = .ok (.iload_n 3, 1) := by decide +kernel
theorem dX8_addReader_121 : decode cX8_addReader 121 = .ok (.iastore, 1) := by decide +kernel
theorem dX8_addReader_122 : decode cX8_addReader 122 = .ok (.aload_n 0, 1) := by decide +kernel
theorem dX8_addReader_123 : decode cX8_addReader 123 = .ok (.getfield 7, 3) := by decide +kernel
theorem dX8_addReader_126 : decode cX8_addReader 126 = .ok (.iload_n 1, 1) := by decide +kernel
theorem dX8_addReader_127 : decode cX8_addReader 127 = .ok (.bipush 16, 2) := by decide +kernel
theorem dX8_addReader_129 : decode cX8_addReader 129 = .ok (.iadd, 1) := by decide +kernel
theorem dX8_addReader_130 : decode cX8_addReader 130 = .ok (.iload 6, 2) := by decide +kernel
theorem dX8_addReader_132 : decode cX8_addReader 132 = .ok (.iadd, 1) := by decide +kernel
theorem dX8_addReader_133 : decode cX8_addReader 133 = .ok (.iload 4, 2) := by decide +kernel
theorem dX8_addReader_135 : decode cX8_addReader 135 = .ok (.iastore, 1) := by decide +kernel
theorem dX8_addReader_136 : decode cX8_addReader 136 = .ok (.aload_n 0, 1) := by decide +kernel
theorem dX8_addReader_137 : decode cX8_addReader 137 = .ok (.getfield 7, 3) := by decide +kernel
theorem dX8_addReader_140 : decode cX8_addReader 140 = .ok (.iload_n 1, 1) := by decide +kernel
theorem dX8_addReader_141 : decode cX8_addReader 141 = .ok (.bipush 21, 2) := by decide +kernel
theorem dX8_addReader_143 : decode cX8_addReader 143 = .ok (.iadd, 1) := by decide +kernel
theorem dX8_addReader_144 : decode cX8_addReader 144 = .ok (.iload 6, 2) := by decide +kernel
theorem dX8_addReader_146 : decode cX8_addReader 146 = .ok (.iadd, 1) := by decide +kernel
theorem dX8_addReader_147 : decode cX8_addReader 147 = .ok (.iload 5, 2) := by decide +kernel
theorem dX8_addReader_149 : decode cX8_addReader 149 = .ok (.iastore, 1) := by decide +kernel
theorem dX8_addReader_150 : decode cX8_addReader 150 = .ok (.aload_n 0, 1) := by decide +kernel
theorem dX8_addReader_151 : decode cX8_addReader 151 = .ok (.getfield 7, 3) := by decide +kernel
theorem dX8_addReader_154 : decode cX8_addReader 154 = .ok (.iload_n 1, 1) := by decide +kernel
theorem dX8_addReader_155 : decode cX8_addReader 155 = .ok (.bipush 26, 2) := by decide +kernel
theorem dX8_addReader_157 : decode cX8_addReader 157 = .ok (.iadd, 1) := by decide +kernel
theorem dX8_addReader_158 : decode cX8_addReader 158 = .ok (.iload 6, 2) := by decide +kernel
theorem dX8_addReader_160 : decode cX8_addReader 160 = .ok (.iadd, 1) := by decide +kernel
theorem dX8_addReader_161 : decode cX8_addReader 161 = .ok (.iconst 1, 1) := by decide +kernel
theorem dX8_addReader_162 : decode cX8_addReader 162 = .ok (.iastore, 1) := by decide +kernel
theorem dX8_addReader_163 : decode cX8_addReader 163 = .ok (.aload_n 0, 1) := by decide +kernel
theorem dX8_addReader_164 : decode cX8_addReader 164 = .ok (.getfield 7, 3) := by decide +kernel
theorem dX8_addReader_167 : decode cX8_addReader 167 = .ok (.iload_n 1, 1) := by decide +kernel
theorem dX8_addReader_168 : decode cX8_addReader 168 = .ok (.bipush 31, 2) := by decide +kernel
theorem dX8_addReader_170 : decode cX8_addReader 170 = .ok (.iadd, 1) := by decide +kernel
theorem dX8_addReader_171 : decode cX8_addReader 171 = .ok (.iload 6, 2) := by decide +kernel
theorem dX8_addReader_173 : decode cX8_addReader 173 = .ok (.iadd, 1) := by decide +kernel
theorem dX8_addReader_174 : decode cX8_addReader 174 = .ok (.iload 4, 2) := by decide +kernel
theorem dX8_addReader_176 : decode cX8_addReader 176 = .ok (.iastore, 1) := by decide +kernel
theorem dX8_addReader_177 : decode cX8_addReader 177 = .ok (.aload_n 0, 1) := by decide +kernel
theorem dX8_addReader_178 : decode cX8_addReader 178 = .ok (.getfield 7, 3) := by decide +kernel
theorem dX8_addReader_181 : decode cX8_addReader 181 = .ok (.iload_n 1, 1) := by decide +kernel
theorem dX8_addReader_182 : decode cX8_addReader 182 = .ok (.bipush 36, 2) := by decide +kernel
theorem dX8_addReader_184 : decode cX8_addReader 184 = .ok (.iadd, 1) := by decide +kernel
theorem dX8_addReader_185 : decode cX8_addReader 185 = .ok (.iload 6, 2) := by decide +kernel
theorem dX8_addReader_187 : decode cX8_addReader 187 = .ok (.iadd, 1) := by decide +kernel
theorem dX8_addReader_188 : decode cX8_addReader 188 = .ok (.iconst 0, 1) := by decide +kernel
theorem dX8_addReader_189 : decode cX8_addReader 189 = .ok (.iastore, 1) := by decide +kernel
theorem dX8_addReader_190 : decode cX8_addReader 190 = .ok (.aload_n 0, 1) := by decide +kernel
theorem dX8_addReader_191 : decode cX8_addReader 191 = .ok (.getfield 7, 3) := by decide +kernel
theorem dX8_addReader_194 : decode cX8_addReader 194 = .ok (.iload_n 1, 1) := by decide +kernel
theorem dX8_addReader_195 : decode cX8_addReader 195 = .ok (.bipush 41, 2) := by decide +kernel
theorem dX8_addReader_197 : decode cX8_addReader 197 = .ok (.iadd, 1) := by decide +kernel
theorem dX8_addReader_198 : decode cX8_addReader 198 = .ok (.iload 6, 2) := by decide +kernel
theorem dX8_addReader_200 : decode cX8_addReader 200 = .ok (.iadd, 1) := by decide +kernel
theorem dX8_addReader_201 : decode cX8_addReader 201 = .ok (.iconst 0, 1) := by decide +kernel
theorem dX8_addReader_202 : decode cX8_addReader 202 = .ok (.iastore, 1) := by decide +kernel
theorem dX8_addReader_203 : decode cX8_addReader 203 = .ok (.aload_n 0, 1) := by decide +kernel
theorem dX8_addReader_204 : decode cX8_addReader 204 = .ok (.getfield 7, 3) := by decide +kernel
theorem dX8_addReader_207 : decode cX8_addReader 207 = .ok (.iload_n 1, 1) := by decide +kernel
theorem dX8_addReader_208 : decode cX8_addReader 208 = .ok (.iconst 5, 1) := by decide +kernel
theorem dX8_addReader_209 : decode cX8_addReader 209 = .ok (.iadd, 1) := by decide +kernel
theorem dX8_addReader_210 : decode cX8_addReader 210 = .ok (.dup2, 1) := by decide +kernel
theorem dX8_addReader_211 : decode cX8_addReader 211 = .ok (.iaload, 1) := by decide +kernel
theorem dX8_addReader_212 : decode cX8_addReader 212 = .ok (.iconst 1, 1) := by decide +kernel
theorem dX8_addReader_213 : decode cX8_addReader 213 = .ok (.iadd, 1) := by decide +kernel
theorem dX8_addReader_214 : decode cX8_addReader 214 = .ok (.iastore, 1) := by decide +kernel
theorem dX8_addReader_215 : decode cX8_addReader 215 = .ok (.aload_n 0, 1) := by decide +kernel
theorem dX8_addReader_216 : decode cX8_addReader 216 = .ok (.getfield 7, 3) := by decide +kernel
theorem dX8_addReader_219 : decode cX8_addReader 219 = .ok (.iload_n 1, 1) := by decide +kernel
theorem dX8_addReader_220 : decode cX8_addReader 220 = .ok (.bipush 46, 2) := by decide +kernel
theorem dX8_addReader_222 : decode cX8_addReader 222 = .ok (.iadd, 1) := by decide +kernel
theorem dX8_addReader_223 : decode cX8_addReader 223 = .ok (.iconst 0, 1) := by decide +kernel
theorem dX8_addReader_224 : decode cX8_addReader 224 = .ok (.iastore, 1) := by decide +kernel
theorem dX8_addReader_225 : decode cX8_addReader 225 = .ok (.iload 6, 2) := by decide +kernel
theorem dX8_addReader_227 : decode cX8_addReader 227 = .ok (.ireturn, 1) := by decide +kernel
theorem dX8_setLamp_0 : decode cX8_setLamp 0 = .ok (.aload_n 0, 1) := by decide +kernel
theorem dX8_setLamp_1 : decode cX8_setLamp 1 = .ok (.iload_n 1, 1) := by decide +kernel
theorem dX8_setLamp_2 : decode cX8_setLamp 2 = .ok (.iload_n 2, 1) := by decide +kernel
theorem dX8_setLamp_3 : decode cX8_setLamp 3 = .ok (.invokevirtual 60, 3) := by decide +kernel
theorem dX8_setLamp_6 : decode cX8_setLamp 6 = .ok (.ifCond .ne 6, 3) := by decide +kernel
theorem dX8_setLamp_9 : decode cX8_setLamp 9 = .ok (.bipush (-10), 2) := by decide +kernel
theorem dX8_setLamp_11 : decode cX8_setLamp 11 = .ok (.ireturn, 1) := by decide +kernel
theorem dX8_setLamp_12 : decode cX8_setLamp 12 = .ok (.aload_n 0, 1) := by decide +kernel
theorem dX8_setLamp_13 : decode cX8_setLamp 13 = .ok (.getfield 7, 3) := by decide +kernel
theorem dX8_setLamp_16 : decode cX8_setLamp 16 = .ok (.iload_n 1, 1) := by decide +kernel
theorem dX8_setLamp_17 : decode cX8_setLamp 17 = .ok (.iconst 4, 1) := by decide +kernel
theorem dX8_setLamp_18 : decode cX8_setLamp 18 = .ok (.iadd, 1) := by decide +kernel
theorem dX8_setLamp_19 : decode cX8_setLamp 19 = .ok (.iaload, 1) := by decide +kernel
theorem dX8_setLamp_20 : decode cX8_setLamp 20 = .ok (.iload_n 2, 1) := by decide +kernel
theorem dX8_setLamp_21 : decode cX8_setLamp 21 = .ok (.invokestatic 64, 3) := by decide +kernel
theorem dX8_setLamp_24 : decode cX8_setLamp 24 = .ok (.ifCond .eq 6, 3) := by decide +kernel
theorem dX8_setLamp_27 : decode cX8_setLamp 27 = .ok (.bipush (-20), 2) := by decide +kernel
theorem dX8_setLamp_29 : decode cX8_setLamp 29 = .ok (.ireturn, 1) := by decide +kernel
theorem dX8_setLamp_30 : decode cX8_setLamp 30 = .ok (.aload_n 0, 1) := by decide +kernel
theorem dX8_setLamp_31 : decode cX8_setLamp 31 = .ok (.getfield 7, 3) := by decide +kernel
theorem dX8_setLamp_34 : decode cX8_setLamp 34 = .ok (.iload_n 1, 1) := by decide +kernel
theorem dX8_setLamp_35 : decode cX8_setLamp 35 = .ok (.iconst 2, 1) := by decide +kernel
theorem dX8_setLamp_36 : decode cX8_setLamp 36 = .ok (.iadd, 1) := by decide +kernel
theorem dX8_setLamp_37 : decode cX8_setLamp 37 = .ok (.iaload, 1) := by decide +kernel
theorem dX8_setLamp_38 : decode cX8_setLamp 38 = .ok (.istore_n 3, 1) := by decide +kernel
theorem dX8_setLamp_39 : decode cX8_setLamp 39 = .ok (.aload_n 0, 1) := by decide +kernel
theorem dX8_setLamp_40 : decode cX8_setLamp 40 = .ok (.getfield 7, 3) := by decide +kernel
theorem dX8_setLamp_43 : decode cX8_setLamp 43 = .ok (.iload_n 1, 1) := by decide +kernel
theorem dX8_setLamp_44 : decode cX8_setLamp 44 = .ok (.iconst 2, 1) := by decide +kernel
theorem dX8_setLamp_45 : decode cX8_setLamp 45 = .ok (.iadd, 1) := by decide +kernel
theorem dX8_setLamp_46 : decode cX8_setLamp 46 = .ok (.iload_n 2, 1) := by decide +kernel
theorem dX8_setLamp_47 : decode cX8_setLamp 47 = .ok (.iastore, 1) := by decide +kernel
theorem dX8_setLamp_48 : decode cX8_setLamp 48 = .ok (.iload_n 3, 1) := by decide +kernel
theorem dX8_setLamp_49 : decode cX8_setLamp 49 = .ok (.ireturn, 1) := by decide +kernel
theorem dX8_setOil_0 : decode cX8_setOil 0 = .ok (.iload_n 2, 1) := by decide +kernel
theorem dX8_setOil_1 : decode cX8_setOil 1 = .ok (.i2l, 1) := by decide +kernel
theorem dX8_setOil_2 : decode cX8_setOil 2 = .ok (.lconst 0, 1) := by decide +kernel
theorem dX8_setOil_3 : decode cX8_setOil 3 = .ok (.ldc2_w 75, 3) := by decide +kernel
theorem dX8_setOil_6 : decode cX8_setOil 6 = .ok (.invokestatic 52, 3) := by decide +kernel
theorem dX8_setOil_9 : decode cX8_setOil 9 = .ok (.ifCond .ne 6, 3) := by decide +kernel
theorem dX8_setOil_12 : decode cX8_setOil 12 = .ok (.bipush (-2), 2) := by decide +kernel
theorem dX8_setOil_14 : decode cX8_setOil 14 = .ok (.ireturn, 1) := by decide +kernel
theorem dX8_setOil_15 : decode cX8_setOil 15 = .ok (.aload_n 0, 1) := by decide +kernel
theorem dX8_setOil_16 : decode cX8_setOil 16 = .ok (.getfield 7, 3) := by decide +kernel
theorem dX8_setOil_19 : decode cX8_setOil 19 = .ok (.iload_n 1, 1) := by decide +kernel
theorem dX8_setOil_20 : decode cX8_setOil 20 = .ok (.iconst 3, 1) := by decide +kernel
theorem dX8_setOil_21 : decode cX8_setOil 21 = .ok (.iadd, 1) := by decide +kernel
theorem dX8_setOil_22 : decode cX8_setOil 22 = .ok (.iaload, 1) := by decide +kernel
theorem dX8_setOil_23 : decode cX8_setOil 23 = .ok (.istore_n 3, 1) := by decide +kernel
theorem dX8_setOil_24 : decode cX8_setOil 24 = .ok (.aload_n 0, 1) := by decide +kernel
theorem dX8_setOil_25 : decode cX8_setOil 25 = .ok (.getfield 7, 3) := by decide +kernel
theorem dX8_setOil_28 : decode cX8_setOil 28 = .ok (.iload_n 1, 1) := by decide +kernel
theorem dX8_setOil_29 : decode cX8_setOil 29 = .ok (.iconst 3, 1) := by decide +kernel
theorem dX8_setOil_30 : decode cX8_setOil 30 = .ok (.iadd, 1) := by decide +kernel
theorem dX8_setOil_31 : decode cX8_setOil 31 = .ok (.iload_n 2, 1) := by decide +kernel
theorem dX8_setOil_32 : decode cX8_setOil 32 = .ok (.iastore, 1) := by decide +kernel
theorem dX8_setOil_33 : decode cX8_setOil 33 = .ok (.iload_n 3, 1) := by decide +kernel
theorem dX8_setOil_34 : decode cX8_setOil 34 = .ok (.ireturn, 1) := by decide +kernel
theorem dX8_setString_0 : decode cX8_setString 0 = .ok (.iload_n 2, 1) := by decide +kernel
theorem dX8_setString_1 : decode cX8_setString 1 = .ok (.i2l, 1) := by decide +kernel
theorem dX8_setString_2 : decode cX8_setString 2 = .ok (.lconst 0, 1) := by decide +kernel
theorem dX8_setString_3 : decode cX8_setString 3 = .ok (.aload_n 0, 1) := by decide +kernel
theorem dX8_setString_4 : decode cX8_setString 4 = .ok (.getfield 7, 3) := by decide +kernel
theorem dX8_setString_7 : decode cX8_setString 7 = .ok (.iload_n 1, 1) := by decide +kernel
theorem dX8_setString_8 : decode cX8_setString 8 = .ok (.iconst 5, 1) := by decide +kernel
theorem dX8_setString_9 : decode cX8_setString 9 = .ok (.iadd, 1) := by decide +kernel
theorem dX8_setString_10 : decode cX8_setString 10 = .ok (.iaload, 1) := by decide +kernel
theorem dX8_setString_11 : decode cX8_setString 11 = .ok (.iconst 1, 1) := by decide +kernel
theorem dX8_setString_12 : decode cX8_setString 12 = .ok (.isub, 1) := by decide +kernel
theorem dX8_setString_13 : decode cX8_setString 13 = .ok (.i2l, 1) := by decide +kernel
theorem dX8_setString_14 : decode cX8_setString 14 = .ok (.invokestatic 52, 3) := by decide +kernel
theorem dX8_setString_17 : decode cX8_setString 17 = .ok (.ifCond .eq 15, 3) := by decide +kernel
theorem dX8_setString_20 : decode cX8_setString 20 = .ok (.iload_n 3, 1) := by decide +kernel
theorem dX8_setString_21 : decode cX8_setString 21 = .ok (.i2l, 1) := by decide +kernel
theorem dX8_setString_22 : decode cX8_setString 22 = .ok (.lconst 0, 1) := by decide +kernel
theorem dX8_setString_23 : decode cX8_setString 23 = .ok (.ldc2_w 73, 3) := by decide +kernel
theorem dX8_setString_26 : decode cX8_setString 26 = .ok (.invokestatic 52, 3) := by decide +kernel
theorem dX8_setString_29 : decode cX8_setString 29 = .ok (.ifCond .ne 6, 3) := by decide +kernel
theorem dX8_setString_32 : decode cX8_setString 32 = .ok (.bipush (-2), 2) := by decide +kernel
theorem dX8_setString_34 : decode cX8_setString 34 = .ok (.ireturn, 1) := by decide +kernel
theorem dX8_setString_35 : decode cX8_setString 35 = .ok (.aload_n 0, 1) := by decide +kernel
theorem dX8_setString_36 : decode cX8_setString 36 = .ok (.getfield 7, 3) := by decide +kernel
theorem dX8_setString_39 : decode cX8_setString 39 = .ok (.iload_n 1, 1) := by decide +kernel
theorem dX8_setString_40 : decode cX8_setString 40 = .ok (.bipush 26, 2) := by decide +kernel
theorem dX8_setString_42 : decode cX8_setString 42 = .ok (.iadd, 1) := by decide +kernel
theorem dX8_setString_43 : decode cX8_setString 43 = .ok (.iload_n 2, 1) := by decide +kernel
theorem dX8_setString_44 : decode cX8_setString 44 = .ok (.iadd, 1) := by decide +kernel
theorem dX8_setString_45 : decode cX8_setString 45 = .ok (.iaload, 1) := by decide +kernel
theorem dX8_setString_46 : decode cX8_setString 46 = .ok (.istore 4, 2) := by decide +kernel
theorem dX8_setString_48 : decode cX8_setString 48 = .ok (.aload_n 0, 1) := by decide +kernel
theorem dX8_setString_49 : decode cX8_setString 49 = .ok (.getfield 7, 3) := by decide +kernel
theorem dX8_setString_52 : decode cX8_setString 52 = .ok (.iload_n 1, 1) := by decide +kernel
theorem dX8_setString_53 : decode cX8_setString 53 = .ok (.bipush 26, 2) := by decide +kernel
theorem dX8_setString_55 : decode cX8_setString 55 = .ok (.iadd, 1) := by decide +kernel
theorem dX8_setString_56 : decode cX8_setString 56 = .ok (.iload_n 2, 1) := by decide +kernel
theorem dX8_setString_57 : decode cX8_setString 57 = .ok (.iadd, 1) := by decide +kernel
theorem dX8_setString_58 : decode cX8_setString 58 = .ok (.iload_n 3, 1) := by decide +kernel
theorem dX8_setString_59 : decode cX8_setString 59 = .ok (.iastore, 1) := by decide +kernel
theorem dX8_setString_60 : decode cX8_setString 60 = .ok (.iload 4, 2) := by decide +kernel
theorem dX8_setString_62 : decode cX8_setString 62 = .ok (.ireturn, 1) := by decide +kernel
theorem dX8_hall_0 : decode cX8_hall 0 = .ok (.aload_n 0, 1) := by decide +kernel
theorem dX8_hall_1 : decode cX8_hall 1 = .ok (.aload_n 0, 1) := by decide +kernel
theorem dX8_hall_2 : decode cX8_hall 2 = .ok (.iconst 0, 1) := by decide +kernel
theorem dX8_hall_3 : decode cX8_hall 3 = .ok (.iload_n 1, 1) := by decide +kernel
theorem dX8_hall_4 : decode cX8_hall 4 = .ok (.iload_n 2, 1) := by decide +kernel
theorem dX8_hall_5 : decode cX8_hall 5 = .ok (.invokevirtual 77, 3) := by decide +kernel
theorem dX8_hall_8 : decode cX8_hall 8 = .ok (.invokevirtual 81, 3) := by decide +kernel
theorem dX8_hall_11 : decode cX8_hall 11 = .ok (.ireturn, 1) := by decide +kernel
theorem dX8_shelf_0 : decode cX8_shelf 0 = .ok (.aload_n 0, 1) := by decide +kernel
theorem dX8_shelf_1 : decode cX8_shelf 1 = .ok (.aload_n 0, 1) := by decide +kernel
theorem dX8_shelf_2 : decode cX8_shelf 2 = .ok (.iconst 0, 1) := by decide +kernel
theorem dX8_shelf_3 : decode cX8_shelf 3 = .ok (.iload_n 1, 1) := by decide +kernel
theorem dX8_shelf_4 : decode cX8_shelf 4 = .ok (.iload_n 2, 1) := by decide +kernel
theorem dX8_shelf_5 : decode cX8_shelf 5 = .ok (.invokevirtual 84, 3) := by decide +kernel
theorem dX8_shelf_8 : decode cX8_shelf 8 = .ok (.invokevirtual 81, 3) := by decide +kernel
theorem dX8_shelf_11 : decode cX8_shelf 11 = .ok (.ireturn, 1) := by decide +kernel
theorem dX8_reader_0 : decode cX8_reader 0 = .ok (.aload_n 0, 1) := by decide +kernel
theorem dX8_reader_1 : decode cX8_reader 1 = .ok (.aload_n 0, 1) := by decide +kernel
theorem dX8_reader_2 : decode cX8_reader 2 = .ok (.iconst 0, 1) := by decide +kernel
theorem dX8_reader_3 : decode cX8_reader 3 = .ok (.iload_n 1, 1) := by decide +kernel
theorem dX8_reader_4 : decode cX8_reader 4 = .ok (.iload_n 2, 1) := by decide +kernel
theorem dX8_reader_5 : decode cX8_reader 5 = .ok (.iload_n 3, 1) := by decide +kernel
theorem dX8_reader_6 : decode cX8_reader 6 = .ok (.iload 4, 2) := by decide +kernel
theorem dX8_reader_8 : decode cX8_reader 8 = .ok (.invokevirtual 88, 3) := by decide +kernel
theorem dX8_reader_11 : decode cX8_reader 11 = .ok (.invokevirtual 81, 3) := by decide +kernel
theorem dX8_reader_14 : decode cX8_reader 14 = .ok (.ireturn, 1) := by decide +kernel
theorem dX8_lamp_0 : decode cX8_lamp 0 = .ok (.aload_n 0, 1) := by decide +kernel
theorem dX8_lamp_1 : decode cX8_lamp 1 = .ok (.iconst 0, 1) := by decide +kernel
theorem dX8_lamp_2 : decode cX8_lamp 2 = .ok (.iload_n 1, 1) := by decide +kernel
theorem dX8_lamp_3 : decode cX8_lamp 3 = .ok (.invokevirtual 92, 3) := by decide +kernel
theorem dX8_lamp_6 : decode cX8_lamp 6 = .ok (.istore_n 2, 1) := by decide +kernel
theorem dX8_lamp_7 : decode cX8_lamp 7 = .ok (.iload_n 2, 1) := by decide +kernel
theorem dX8_lamp_8 : decode cX8_lamp 8 = .ok (.ifCond .ge 11, 3) := by decide +kernel
theorem dX8_lamp_11 : decode cX8_lamp 11 = .ok (.aload_n 0, 1) := by decide +kernel
theorem dX8_lamp_12 : decode cX8_lamp 12 = .ok (.iload_n 2, 1) := by decide +kernel
theorem dX8_lamp_13 : decode cX8_lamp 13 = .ok (.invokevirtual 95, 3) := by decide +kernel
theorem dX8_lamp_16 : decode cX8_lamp 16 = .ok (.goto 4, 3) := by decide +kernel
theorem dX8_lamp_19 : decode cX8_lamp 19 = .ok (.iload_n 2, 1) := by decide +kernel
theorem dX8_lamp_20 : decode cX8_lamp 20 = .ok (.ireturn, 1) := by decide +kernel
theorem dX8_oil_0 : decode cX8_oil 0 = .ok (.aload_n 0, 1) := by decide +kernel
theorem dX8_oil_1 : decode cX8_oil 1 = .ok (.aload_n 0, 1) := by decide +kernel
theorem dX8_oil_2 : decode cX8_oil 2 = .ok (.iconst 0, 1) := by decide +kernel
theorem dX8_oil_3 : decode cX8_oil 3 = .ok (.iload_n 1, 1) := by decide +kernel
theorem dX8_oil_4 : decode cX8_oil 4 = .ok (.invokevirtual 98, 3) := by decide +kernel
theorem dX8_oil_7 : decode cX8_oil 7 = .ok (.invokevirtual 81, 3) := by decide +kernel
theorem dX8_oil_10 : decode cX8_oil 10 = .ok (.ireturn, 1) := by decide +kernel
theorem dX8_string_0 : decode cX8_string 0 = .ok (.aload_n 0, 1) := by decide +kernel
theorem dX8_string_1 : decode cX8_string 1 = .ok (.aload_n 0, 1) := by decide +kernel
theorem dX8_string_2 : decode cX8_string 2 = .ok (.iconst 0, 1) := by decide +kernel
theorem dX8_string_3 : decode cX8_string 3 = .ok (.iload_n 1, 1) := by decide +kernel
theorem dX8_string_4 : decode cX8_string 4 = .ok (.iload_n 2, 1) := by decide +kernel
theorem dX8_string_5 : decode cX8_string 5 = .ok (.invokevirtual 101, 3) := by decide +kernel
theorem dX8_string_8 : decode cX8_string 8 = .ok (.invokevirtual 81, 3) := by decide +kernel
theorem dX8_string_11 : decode cX8_string 11 = .ok (.ireturn, 1) := by decide +kernel
theorem dX8_isOne_0 : decode cX8_isOne 0 = .ok (.iload_n 1, 1) := by decide +kernel
theorem dX8_isOne_1 : decode cX8_isOne 1 = .ok (.i2l, 1) := by decide +kernel
theorem dX8_isOne_2 : decode cX8_isOne 2 = .ok (.lconst 0, 1) := by decide +kernel
theorem dX8_isOne_3 : decode cX8_isOne 3 = .ok (.aload_n 0, 1) := by decide +kernel
theorem dX8_isOne_4 : decode cX8_isOne 4 = .ok (.getfield 7, 3) := by decide +kernel
theorem dX8_isOne_7 : decode cX8_isOne 7 = .ok (.iconst 5, 1) := by decide +kernel
theorem dX8_isOne_8 : decode cX8_isOne 8 = .ok (.iaload, 1) := by decide +kernel
theorem dX8_isOne_9 : decode cX8_isOne 9 = .ok (.iconst 1, 1) := by decide +kernel
theorem dX8_isOne_10 : decode cX8_isOne 10 = .ok (.isub, 1) := by decide +kernel
theorem dX8_isOne_11 : decode cX8_isOne 11 = .ok (.i2l, 1) := by decide +kernel
theorem dX8_isOne_12 : decode cX8_isOne 12 = .ok (.invokestatic 52, 3) := by decide +kernel
theorem dX8_isOne_15 : decode cX8_isOne 15 = .ok (.ireturn, 1) := by decide +kernel
theorem dX8_lightOf_0 : decode cX8_lightOf 0 = .ok (.iload_n 1, 1) := by decide +kernel
theorem dX8_lightOf_1 : decode cX8_lightOf 1 = .ok (.aload_n 0, 1) := by decide +kernel
theorem dX8_lightOf_2 : decode cX8_lightOf 2 = .ok (.getfield 7, 3) := by decide +kernel
theorem dX8_lightOf_5 : decode cX8_lightOf 5 = .ok (.iconst 0, 1) := by decide +kernel
theorem dX8_lightOf_6 : decode cX8_lightOf 6 = .ok (.iaload, 1) := by decide +kernel
theorem dX8_lightOf_7 : decode cX8_lightOf 7 = .ok (.irem, 1) := by decide +kernel
theorem dX8_lightOf_8 : decode cX8_lightOf 8 = .ok (.istore_n 3, 1) := by decide +kernel
theorem dX8_lightOf_9 : decode cX8_lightOf 9 = .ok (.iload_n 1, 1) := by decide +kernel
theorem dX8_lightOf_10 : decode cX8_lightOf 10 = .ok (.aload_n 0, 1) := by decide +kernel
theorem dX8_lightOf_11 : decode cX8_lightOf 11 = .ok (.getfield 7, 3) := by decide +kernel
theorem dX8_lightOf_14 : decode cX8_lightOf 14 = .ok (.iconst 0, 1) := by decide +kernel
theorem dX8_lightOf_15 : decode cX8_lightOf 15 = .ok (.iaload, 1) := by decide +kernel
theorem dX8_lightOf_16 : decode cX8_lightOf 16 = .ok (.idiv, 1) := by decide +kernel
theorem dX8_lightOf_17 : decode cX8_lightOf 17 = .ok (.istore 4, 2) := by decide +kernel
theorem dX8_lightOf_19 : decode cX8_lightOf 19 = .ok (.iload_n 2, 1) := by decide +kernel
theorem dX8_lightOf_20 : decode cX8_lightOf 20 = .ok (.aload_n 0, 1) := by decide +kernel
theorem dX8_lightOf_21 : decode cX8_lightOf 21 = .ok (.getfield 7, 3) := by decide +kernel
theorem dX8_lightOf_24 : decode cX8_lightOf 24 = .ok (.iconst 0, 1) := by decide +kernel
theorem dX8_lightOf_25 : decode cX8_lightOf 25 = .ok (.iaload, 1) := by decide +kernel
theorem dX8_lightOf_26 : decode cX8_lightOf 26 = .ok (.irem, 1) := by decide +kernel
theorem dX8_lightOf_27 : decode cX8_lightOf 27 = .ok (.istore 5, 2) := by decide +kernel
theorem dX8_lightOf_29 : decode cX8_lightOf 29 = .ok (.iload_n 2, 1) := by decide +kernel
theorem dX8_lightOf_30 : decode cX8_lightOf 30 = .ok (.aload_n 0, 1) := by decide +kernel
theorem dX8_lightOf_31 : decode cX8_lightOf 31 = .ok (.getfield 7, 3) := by decide +kernel
theorem dX8_lightOf_34 : decode cX8_lightOf 34 = .ok (.iconst 0, 1) := by decide +kernel
theorem dX8_lightOf_35 : decode cX8_lightOf 35 = .ok (.iaload, 1) := by decide +kernel
theorem dX8_lightOf_36 : decode cX8_lightOf 36 = .ok (.idiv, 1) := by decide +kernel
theorem dX8_lightOf_37 : decode cX8_lightOf 37 = .ok (.istore 6, 2) := by decide +kernel
theorem dX8_lightOf_39 : decode cX8_lightOf 39 = .ok (.iconst 0, 1) := by decide +kernel
theorem dX8_lightOf_40 : decode cX8_lightOf 40 = .ok (.bipush 12, 2) := by decide +kernel
theorem dX8_lightOf_42 : decode cX8_lightOf 42 = .ok (.iconst 2, 1) := by decide +kernel
theorem dX8_lightOf_43 : decode cX8_lightOf 43 = .ok (.iload_n 3, 1) := by decide +kernel
theorem dX8_lightOf_44 : decode cX8_lightOf 44 = .ok (.iload 5, 2) := by decide +kernel
theorem dX8_lightOf_46 : decode cX8_lightOf 46 = .ok (.isub, 1) := by decide +kernel
theorem dX8_lightOf_47 : decode cX8_lightOf 47 = .ok (.invokestatic 104, 3) := by decide +kernel
theorem dX8_lightOf_50 : decode cX8_lightOf 50 = .ok (.iload 4, 2) := by decide +kernel
theorem dX8_lightOf_52 : decode cX8_lightOf 52 = .ok (.iload 6, 2) := by decide +kernel
theorem dX8_lightOf_54 : decode cX8_lightOf 54 = .ok (.isub, 1) := by decide +kernel
theorem dX8_lightOf_55 : decode cX8_lightOf 55 = .ok (.invokestatic 104, 3) := by decide +kernel
theorem dX8_lightOf_58 : decode cX8_lightOf 58 = .ok (.iadd, 1) := by decide +kernel
theorem dX8_lightOf_59 : decode cX8_lightOf 59 = .ok (.imul, 1) := by decide +kernel
theorem dX8_lightOf_60 : decode cX8_lightOf 60 = .ok (.isub, 1) := by decide +kernel
theorem dX8_lightOf_61 : decode cX8_lightOf 61 = .ok (.invokestatic 107, 3) := by decide +kernel
theorem dX8_lightOf_64 : decode cX8_lightOf 64 = .ok (.istore 7, 2) := by decide +kernel
theorem dX8_lightOf_66 : decode cX8_lightOf 66 = .ok (.iload_n 3, 1) := by decide +kernel
theorem dX8_lightOf_67 : decode cX8_lightOf 67 = .ok (.iload 5, 2) := by decide +kernel
theorem dX8_lightOf_69 : decode cX8_lightOf 69 = .ok (.if_icmp .eq 67, 3) := by decide +kernel
theorem dX8_lightOf_72 : decode cX8_lightOf 72 = .ok (.iload 4, 2) := by decide +kernel
theorem dX8_lightOf_74 : decode cX8_lightOf 74 = .ok (.iload 6, 2) := by decide +kernel
theorem dX8_lightOf_76 : decode cX8_lightOf 76 = .ok (.if_icmp .eq 60, 3) := by decide +kernel
theorem dX8_lightOf_79 : decode cX8_lightOf 79 = .ok (.aload_n 0, 1) := by decide +kernel
theorem dX8_lightOf_80 : decode cX8_lightOf 80 = .ok (.getfield 7, 3) := by decide +kernel
theorem dX8_lightOf_83 : decode cX8_lightOf 83 = .ok (.iconst 4, 1) := by decide +kernel
theorem dX8_lightOf_84 : decode cX8_lightOf 84 = .ok (.iaload, 1) := by decide +kernel
theorem dX8_lightOf_85 : decode cX8_lightOf 85 = .ok (.aload_n 0, 1) := by decide +kernel
theorem dX8_lightOf_86 : decode cX8_lightOf 86 = .ok (.getfield 7, 3) := by decide +kernel
theorem dX8_lightOf_89 : decode cX8_lightOf 89 = .ok (.iconst 0, 1) := by decide +kernel
theorem dX8_lightOf_90 : decode cX8_lightOf 90 = .ok (.iaload, 1) := by decide +kernel
theorem dX8_lightOf_91 : decode cX8_lightOf 91 = .ok (.iload 6, 2) := by decide +kernel
theorem dX8_lightOf_93 : decode cX8_lightOf 93 = .ok (.imul, 1) := by decide +kernel
theorem dX8_lightOf_94 : decode cX8_lightOf 94 = .ok (.iload_n 3, 1) := by decide +kernel
theorem dX8_lightOf_95 : decode cX8_lightOf 95 = .ok (.iadd, 1) := by decide +kernel
theorem dX8_lightOf_96 : decode cX8_lightOf 96 = .ok (.invokestatic 64, 3) := by decide +kernel
theorem dX8_lightOf_99 : decode cX8_lightOf 99 = .ok (.ifCond .eq 34, 3) := by decide +kernel
theorem dX8_lightOf_102 : decode cX8_lightOf 102 = .ok (.aload_n 0, 1) := by decide +kernel
theorem dX8_lightOf_103 : decode cX8_lightOf 103 = .ok (.getfield 7, 3) := by decide +kernel
theorem dX8_lightOf_106 : decode cX8_lightOf 106 = .ok (.iconst 4, 1) := by decide +kernel
theorem dX8_lightOf_107 : decode cX8_lightOf 107 = .ok (.iaload, 1) := by decide +kernel
theorem dX8_lightOf_108 : decode cX8_lightOf 108 = .ok (.aload_n 0, 1) := by decide +kernel
theorem dX8_lightOf_109 : decode cX8_lightOf 109 = .ok (.getfield 7, 3) := by decide +kernel
theorem dX8_lightOf_112 : decode cX8_lightOf 112 = .ok (.iconst 0, 1) := by decide +kernel
theorem dX8_lightOf_113 : decode cX8_lightOf 113 = .ok (.iaload, 1) := by decide +kernel
theorem dX8_lightOf_114 : decode cX8_lightOf 114 = .ok (.iload 4, 2) := by decide +kernel
theorem dX8_lightOf_116 : decode cX8_lightOf 116 = .ok (.imul, 1) := by decide +kernel
theorem dX8_lightOf_117 : decode cX8_lightOf 117 = .ok (.iload 5, 2) := by decide +kernel
theorem dX8_lightOf_119 : decode cX8_lightOf 119 = .ok (.iadd, 1) := by decide +kernel
theorem dX8_lightOf_120 : decode cX8_lightOf 120 = .ok (.invokestatic 64, 3) := by decide +kernel
theorem dX8_lightOf_123 : decode cX8_lightOf 123 = .ok (.ifCond .eq 10, 3) := by decide +kernel
theorem dX8_lightOf_126 : decode cX8_lightOf 126 = .ok (.iload 7, 2) := by decide +kernel
theorem dX8_lightOf_128 : decode cX8_lightOf 128 = .ok (.iconst 2, 1) := by decide +kernel
theorem dX8_lightOf_129 : decode cX8_lightOf 129 = .ok (.idiv, 1) := by decide +kernel
theorem dX8_lightOf_130 : decode cX8_lightOf 130 = .ok (.goto 5, 3) := by decide +kernel
theorem dX8_lightOf_133 : decode cX8_lightOf 133 = .ok (.iload 7, 2) := by decide +kernel
theorem dX8_lightOf_135 : decode cX8_lightOf 135 = .ok (.ireturn, 1) := by decide +kernel
theorem dX8_lightOf_136 : decode cX8_lightOf 136 = .ok (.iload_n 3, 1) := by decide +kernel
theorem dX8_lightOf_137 : decode cX8_lightOf 137 = .ok (.iload 5, 2) := by decide +kernel
theorem dX8_lightOf_139 : decode cX8_lightOf 139 = .ok (.if_icmp .ne 12, 3) := by decide +kernel
theorem dX8_lightOf_142 : decode cX8_lightOf 142 = .ok (.aload_n 0, 1) := by decide +kernel
theorem dX8_lightOf_143 : decode cX8_lightOf 143 = .ok (.getfield 7, 3) := by decide +kernel
theorem dX8_lightOf_146 : decode cX8_lightOf 146 = .ok (.iconst 0, 1) := by decide +kernel
theorem dX8_lightOf_147 : decode cX8_lightOf 147 = .ok (.iaload, 1) := by decide +kernel
theorem dX8_lightOf_148 : decode cX8_lightOf 148 = .ok (.goto 4, 3) := by decide +kernel
theorem dX8_lightOf_151 : decode cX8_lightOf 151 = .ok (.iconst 1, 1) := by decide +kernel
theorem dX8_lightOf_152 : decode cX8_lightOf 152 = .ok (.istore 8, 2) := by decide +kernel
theorem dX8_lightOf_154 : decode cX8_lightOf 154 = .ok (.iload_n 1, 1) := by decide +kernel
theorem dX8_lightOf_155 : decode cX8_lightOf 155 = .ok (.iload_n 2, 1) := by decide +kernel
theorem dX8_lightOf_156 : decode cX8_lightOf 156 = .ok (.invokestatic 110, 3) := by decide +kernel
theorem dX8_lightOf_159 : decode cX8_lightOf 159 = .ok (.iload 8, 2) := by decide +kernel
theorem dX8_lightOf_161 : decode cX8_lightOf 161 = .ok (.iadd, 1) := by decide +kernel
theorem dX8_lightOf_162 : decode cX8_lightOf 162 = .ok (.istore 9, 2) := by decide +kernel
theorem dX8_lightOf_164 : decode cX8_lightOf 164 = .ok (.iload 9, 2) := by decide +kernel
theorem dX8_lightOf_166 : decode cX8_lightOf 166 = .ok (.iload_n 1, 1) := by decide +kernel
theorem dX8_lightOf_167 : decode cX8_lightOf 167 = .ok (.iload_n 2, 1) := by decide +kernel
theorem dX8_lightOf_168 : decode cX8_lightOf 168 = .ok (.invokestatic 107, 3) := by decide +kernel
theorem dX8_lightOf_171 : decode cX8_lightOf 171 = .ok (.if_icmp .ge 37, 3) := by decide +kernel
theorem dX8_lightOf_174 : decode cX8_lightOf 174 = .ok (.iload 7, 2) := by decide +kernel
theorem dX8_lightOf_176 : decode cX8_lightOf 176 = .ok (.aload_n 0, 1) := by decide +kernel
theorem dX8_lightOf_177 : decode cX8_lightOf 177 = .ok (.getfield 7, 3) := by decide +kernel
theorem dX8_lightOf_180 : decode cX8_lightOf 180 = .ok (.iconst 4, 1) := by decide +kernel
theorem dX8_lightOf_181 : decode cX8_lightOf 181 = .ok (.iaload, 1) := by decide +kernel
theorem dX8_lightOf_182 : decode cX8_lightOf 182 = .ok (.iload 9, 2) := by decide +kernel
theorem dX8_lightOf_184 : decode cX8_lightOf 184 = .ok (.invokestatic 64, 3) := by decide +kernel
theorem dX8_lightOf_187 : decode cX8_lightOf 187 = .ok (.ifCond .eq 7, 3) := by decide +kernel
theorem dX8_lightOf_190 : decode cX8_lightOf 190 = .ok (.iconst 4, 1) := by decide +kernel
theorem dX8_lightOf_191 : decode cX8_lightOf 191 = .ok (.goto 4, 3) := by decide +kernel
theorem dX8_lightOf_194 : decode cX8_lightOf 194 = .ok (.iconst 0, 1) := by decide +kernel
theorem dX8_lightOf_195 : decode cX8_lightOf 195 = .ok (.isub, 1) := by decide +kernel
theorem dX8_lightOf_196 : decode cX8_lightOf 196 = .ok (.istore 7, 2) := by decide +kernel
theorem dX8_lightOf_198 : decode cX8_lightOf 198 = .ok (.iload 9, 2) := by decide +kernel
theorem dX8_lightOf_200 : decode cX8_lightOf 200 = .ok (.iload 8, 2) := by decide +kernel
theorem dX8_lightOf_202 : decode cX8_lightOf 202 = .ok (.iadd, 1) := by decide +kernel
theorem dX8_lightOf_203 : decode cX8_lightOf 203 = .ok (.istore 9, 2) := by decide +kernel
theorem dX8_lightOf_205 : decode cX8_lightOf 205 = .ok (.goto (-41), 3) := by decide +kernel
theorem dX8_lightOf_208 : decode cX8_lightOf 208 = .ok (.iconst 0, 1) := by decide +kernel
theorem dX8_lightOf_209 : decode cX8_lightOf 209 = .ok (.iload 7, 2) := by decide +kernel
theorem dX8_lightOf_211 : decode cX8_lightOf 211 = .ok (.invokestatic 107, 3) := by decide +kernel
theorem dX8_lightOf_214 : decode cX8_lightOf 214 = .ok (.ireturn, 1) := by decide +kernel
theorem dX8_light_0 : decode cX8_light 0 = .ok (.aload_n 0, 1) := by decide +kernel
theorem dX8_light_1 : decode cX8_light 1 = .ok (.iconst 0, 1) := by decide +kernel
theorem dX8_light_2 : decode cX8_light 2 = .ok (.iload_n 1, 1) := by decide +kernel
theorem dX8_light_3 : decode cX8_light 3 = .ok (.invokevirtual 60, 3) := by decide +kernel
theorem dX8_light_6 : decode cX8_light 6 = .ok (.ifCond .eq 21, 3) := by decide +kernel
theorem dX8_light_9 : decode cX8_light 9 = .ok (.aload_n 0, 1) := by decide +kernel
theorem dX8_light_10 : decode cX8_light 10 = .ok (.iconst 0, 1) := by decide +kernel
theorem dX8_light_11 : decode cX8_light 11 = .ok (.iload_n 2, 1) := by decide +kernel
theorem dX8_light_12 : decode cX8_light 12 = .ok (.invokevirtual 60, 3) := by decide +kernel
theorem dX8_light_15 : decode cX8_light 15 = .ok (.ifCond .eq 12, 3) := by decide +kernel
theorem dX8_light_18 : decode cX8_light 18 = .ok (.aload_n 0, 1) := by decide +kernel
theorem dX8_light_19 : decode cX8_light 19 = .ok (.iload_n 1, 1) := by decide +kernel
theorem dX8_light_20 : decode cX8_light 20 = .ok (.iload_n 2, 1) := by decide +kernel
theorem dX8_light_21 : decode cX8_light 21 = .ok (.invokevirtual 113, 3) := by decide +kernel
theorem dX8_light_24 : decode cX8_light 24 = .ok (.goto 9, 3) := by decide +kernel
theorem dX8_light_27 : decode cX8_light 27 = .ok (.aload_n 0, 1) := by decide +kernel
theorem dX8_light_28 : decode cX8_light 28 = .ok (.bipush (-2), 2) := by decide +kernel
theorem dX8_light_30 : decode cX8_light 30 = .ok (.invokevirtual 81, 3) := by decide +kernel
theorem dX8_light_33 : decode cX8_light 33 = .ok (.ireturn, 1) := by decide +kernel
theorem dX8_type_0 : decode cX8_type 0 = .ok (.iload_n 3, 1) := by decide +kernel
theorem dX8_type_1 : decode cX8_type 1 = .ok (.i2l, 1) := by decide +kernel
theorem dX8_type_2 : decode cX8_type 2 = .ok (.lconst 1, 1) := by decide +kernel
theorem dX8_type_3 : decode cX8_type 3 = .ok (.ldc2_w 116, 3) := by decide +kernel
theorem dX8_type_6 : decode cX8_type 6 = .ok (.invokestatic 52, 3) := by decide +kernel
theorem dX8_type_9 : decode cX8_type 9 = .ok (.ifCond .ne 10, 3) := by decide +kernel
theorem dX8_type_12 : decode cX8_type 12 = .ok (.aload_n 0, 1) := by decide +kernel
theorem dX8_type_13 : decode cX8_type 13 = .ok (.bipush (-2), 2) := by decide +kernel
theorem dX8_type_15 : decode cX8_type 15 = .ok (.invokevirtual 81, 3) := by decide +kernel
theorem dX8_type_18 : decode cX8_type 18 = .ok (.ireturn, 1) := by decide +kernel
theorem dX8_type_19 : decode cX8_type 19 = .ok (.aload_n 0, 1) := by decide +kernel
theorem dX8_type_20 : decode cX8_type 20 = .ok (.getfield 118, 3) := by decide +kernel
theorem dX8_type_23 : decode cX8_type 23 = .ok (.iload_n 3, 1) := by decide +kernel
theorem dX8_type_24 : decode cX8_type 24 = .ok (.iadd, 1) := by decide +kernel
theorem dX8_type_25 : decode cX8_type 25 = .ok (.sipush 200, 3) := by decide +kernel
theorem dX8_type_28 : decode cX8_type 28 = .ok (.if_icmp .le 10, 3) := by decide +kernel
theorem dX8_type_31 : decode cX8_type 31 = .ok (.aload_n 0, 1) := by decide +kernel
theorem dX8_type_32 : decode cX8_type 32 = .ok (.bipush (-4), 2) := by decide +kernel
theorem dX8_type_34 : decode cX8_type 34 = .ok (.invokevirtual 81, 3) := by decide +kernel
theorem dX8_type_37 : decode cX8_type 37 = .ok (.ireturn, 1) := by decide +kernel
theorem dX8_type_38 : decode cX8_type 38 = .ok (.iload_n 3, 1) := by decide +kernel
theorem dX8_type_39 : decode cX8_type 39 = .ok (.iconst 1, 1) := by decide +kernel
theorem dX8_type_40 : decode cX8_type 40 = .ok (.isub, 1) := by decide +kernel
theorem dX8_type_41 : decode cX8_type 41 = .ok (.istore 4, 2) := by decide +kernel
theorem dX8_type_43 : decode cX8_type 43 = .ok (.iload 4, 2) := by decide +kernel
theorem dX8_type_45 : decode cX8_type 45 = .ok (.ifCond .lt 40, 3) := by decide +kernel
theorem dX8_type_48 : decode cX8_type 48 = .ok (.aload_n 0, 1) := by decide +kernel
theorem dX8_type_49 : decode cX8_type 49 = .ok (.getfield 17, 3) := by decide +kernel
theorem dX8_type_52 : decode cX8_type 52 = .ok (.aload_n 0, 1) := by decide +kernel
theorem dX8_type_53 : decode cX8_type 53 = .ok (.getfield 118, 3) := by decide +kernel
theorem dX8_type_56 : decode cX8_type 56 = .ok (.lload_n 1, 1) := by decide +kernel
theorem dX8_type_57 : decode cX8_type 57 = .ok (.bipush 8, 2) := by decide +kernel
theorem dX8_type_59 : decode cX8_type 59 = .ok (.iload 4, 2) := by decide +kernel
theorem dX8_type_61 : decode cX8_type 61 = .ok (.imul, 1) := by decide +kernel
theorem dX8_type_62 : decode cX8_type 62 = .ok (.lshr, 1) := by decide +kernel
theorem dX8_type_63 : decode cX8_type 63 = .ok (.ldc2_w 122, 3) := by decide +kernel
theorem dX8_type_66 : decode cX8_type 66 = .ok (.land, 1) := by decide +kernel
theorem dX8_type_67 : decode cX8_type 67 = .ok (.l2i, 1) := by decide +kernel
theorem dX8_type_68 : decode cX8_type 68 = .ok (.iastore, 1) := by decide +kernel
theorem dX8_type_69 : decode cX8_type 69 = .ok (.aload_n 0, 1) := by decide +kernel
theorem dX8_type_70 : decode cX8_type 70 = .ok (.dup, 1) := by decide +kernel
theorem dX8_type_71 : decode cX8_type 71 = .ok (.getfield 118, 3) := by decide +kernel
theorem dX8_type_74 : decode cX8_type 74 = .ok (.iconst 1, 1) := by decide +kernel
theorem dX8_type_75 : decode cX8_type 75 = .ok (.iadd, 1) := by decide +kernel
theorem dX8_type_76 : decode cX8_type 76 = .ok (.putfield 118, 3) := by decide +kernel
theorem dX8_type_79 : decode cX8_type 79 = .ok (.iinc 4 (-1), 3) := by decide +kernel
theorem dX8_type_82 : decode cX8_type 82 = .ok (.goto (-39), 3) := by decide +kernel
theorem dX8_type_85 : decode cX8_type 85 = .ok (.aload_n 0, 1) := by decide +kernel
theorem dX8_type_86 : decode cX8_type 86 = .ok (.getfield 118, 3) := by decide +kernel
theorem dX8_type_89 : decode cX8_type 89 = .ok (.ireturn, 1) := by decide +kernel
theorem dX8_clear_0 : decode cX8_clear 0 = .ok (.aload_n 0, 1) := by decide +kernel
theorem dX8_clear_1 : decode cX8_clear 1 = .ok (.getfield 118, 3) := by decide +kernel
theorem dX8_clear_4 : decode cX8_clear 4 = .ok (.istore_n 1, 1) := by decide +kernel
theorem dX8_clear_5 : decode cX8_clear 5 = .ok (.aload_n 0, 1) := by decide +kernel
theorem dX8_clear_6 : decode cX8_clear 6 = .ok (.iconst 0, 1) := by decide +kernel
theorem dX8_clear_7 : decode cX8_clear 7 = .ok (.putfield 118, 3) := by decide +kernel
theorem dX8_clear_10 : decode cX8_clear 10 = .ok (.iload_n 1, 1) := by decide +kernel
theorem dX8_clear_11 : decode cX8_clear 11 = .ok (.ireturn, 1) := by decide +kernel
theorem dX8_isEnd_0 : decode cX8_isEnd 0 = .ok (.aload_n 0, 1) := by decide +kernel
theorem dX8_isEnd_1 : decode cX8_isEnd 1 = .ok (.getfield 124, 3) := by decide +kernel
theorem dX8_isEnd_4 : decode cX8_isEnd 4 = .ok (.aload_n 0, 1) := by decide +kernel
theorem dX8_isEnd_5 : decode cX8_isEnd 5 = .ok (.getfield 118, 3) := by decide +kernel
theorem dX8_isEnd_8 : decode cX8_isEnd 8 = .ok (.if_icmp .ge 30, 3) := by decide +kernel
theorem dX8_isEnd_11 : decode cX8_isEnd 11 = .ok (.aload_n 0, 1) := by decide +kernel
theorem dX8_isEnd_12 : decode cX8_isEnd 12 = .ok (.getfield 17, 3) := by decide +kernel
theorem dX8_isEnd_15 : decode cX8_isEnd 15 = .ok (.aload_n 0, 1) := by decide +kernel
theorem dX8_isEnd_16 : decode cX8_isEnd 16 = .ok (.getfield 124, 3) := by decide +kernel
theorem dX8_isEnd_19 : decode cX8_isEnd 19 = .ok (.iaload, 1) := by decide +kernel
theorem dX8_isEnd_20 : decode cX8_isEnd 20 = .ok (.bipush 32, 2) := by decide +kernel
theorem dX8_isEnd_22 : decode cX8_isEnd 22 = .ok (.if_icmp .ne 16, 3) := by decide +kernel
theorem dX8_isEnd_25 : decode cX8_isEnd 25 = .ok (.aload_n 0, 1) := by decide +kernel
theorem dX8_isEnd_26 : decode cX8_isEnd 26 = .ok (.dup, 1) := by decide +kernel
theorem dX8_isEnd_27 : decode cX8_isEnd 27 = .ok (.getfield 124, 3) := by decide +kernel
theorem dX8_isEnd_30 : decode cX8_isEnd 30 = .ok (.iconst 1, 1) := by decide +kernel
theorem dX8_isEnd_31 : decode cX8_isEnd 31 = .ok (.iadd, 1) := by decide +kernel
theorem dX8_isEnd_32 : decode cX8_isEnd 32 = .ok (.putfield 124, 3) := by decide +kernel
theorem dX8_isEnd_35 : decode cX8_isEnd 35 = .ok (.goto (-35), 3) := by decide +kernel
theorem dX8_isEnd_38 : decode cX8_isEnd 38 = .ok (.aload_n 0, 1) := by decide +kernel
theorem dX8_isEnd_39 : decode cX8_isEnd 39 = .ok (.getfield 124, 3) := by decide +kernel
theorem dX8_isEnd_42 : decode cX8_isEnd 42 = .ok (.aload_n 0, 1) := by decide +kernel
theorem dX8_isEnd_43 : decode cX8_isEnd 43 = .ok (.getfield 118, 3) := by decide +kernel
theorem dX8_isEnd_46 : decode cX8_isEnd 46 = .ok (.if_icmp .ne 7, 3) := by decide +kernel
theorem dX8_isEnd_49 : decode cX8_isEnd 49 = .ok (.iconst 1, 1) := by decide +kernel
theorem dX8_isEnd_50 : decode cX8_isEnd 50 = .ok (.goto 4, 3) := by decide +kernel
theorem dX8_isEnd_53 : decode cX8_isEnd 53 = .ok (.iconst 0, 1) := by decide +kernel
theorem dX8_isEnd_54 : decode cX8_isEnd 54 = .ok (.ireturn, 1) := by decide +kernel
theorem dX8_wordOf_0 : decode cX8_wordOf 0 = .ok (.lload_n 0, 1) := by decide +kernel
theorem dX8_wordOf_1 : decode cX8_wordOf 1 = .ok (.ldc2_w 127, 3) := by decide +kernel
theorem dX8_wordOf_4 : decode cX8_wordOf 4 = .ok (.lcmp, 1) := by decide +kernel
theorem dX8_wordOf_5 : decode cX8_wordOf 5 = .ok (.ifCond .ne 7, 3) := by decide +kernel
theorem dX8_wordOf_8 : decode cX8_wordOf 8 = .ok (.iconst 0, 1) := by decide +kernel
theorem dX8_wordOf_9 : decode cX8_wordOf 9 = .ok (.goto 64, 3) := by decide +kernel
theorem dX8_wordOf_12 : decode cX8_wordOf 12 = .ok (.lload_n 0, 1) := by decide +kernel
theorem dX8_wordOf_13 : decode cX8_wordOf 13 = .ok (.ldc2_w 129, 3) := by decide +kernel
theorem dX8_wordOf_16 : decode cX8_wordOf 16 = .ok (.lcmp, 1) := by decide +kernel
theorem dX8_wordOf_17 : decode cX8_wordOf 17 = .ok (.ifCond .ne 7, 3) := by decide +kernel
theorem dX8_wordOf_20 : decode cX8_wordOf 20 = .ok (.iconst 1, 1) := by decide +kernel
theorem dX8_wordOf_21 : decode cX8_wordOf 21 = .ok (.goto 52, 3) := by decide +kernel
theorem dX8_wordOf_24 : decode cX8_wordOf 24 = .ok (.lload_n 0, 1) := by decide +kernel
theorem dX8_wordOf_25 : decode cX8_wordOf 25 = .ok (.ldc2_w 131, 3) := by decide +kernel
theorem dX8_wordOf_28 : decode cX8_wordOf 28 = .ok (.lcmp, 1) := by decide +kernel
theorem dX8_wordOf_29 : decode cX8_wordOf 29 = .ok (.ifCond .ne 7, 3) := by decide +kernel
theorem dX8_wordOf_32 : decode cX8_wordOf 32 = .ok (.iconst 2, 1) := by decide +kernel
theorem dX8_wordOf_33 : decode cX8_wordOf 33 = .ok (.goto 40, 3) := by decide +kernel
theorem dX8_wordOf_36 : decode cX8_wordOf 36 = .ok (.lload_n 0, 1) := by decide +kernel
theorem dX8_wordOf_37 : decode cX8_wordOf 37 = .ok (.ldc2_w 133, 3) := by decide +kernel
theorem dX8_wordOf_40 : decode cX8_wordOf 40 = .ok (.lcmp, 1) := by decide +kernel
theorem dX8_wordOf_41 : decode cX8_wordOf 41 = .ok (.ifCond .ne 7, 3) := by decide +kernel
theorem dX8_wordOf_44 : decode cX8_wordOf 44 = .ok (.iconst 3, 1) := by decide +kernel
theorem dX8_wordOf_45 : decode cX8_wordOf 45 = .ok (.goto 28, 3) := by decide +kernel
theorem dX8_wordOf_48 : decode cX8_wordOf 48 = .ok (.lload_n 0, 1) := by decide +kernel
theorem dX8_wordOf_49 : decode cX8_wordOf 49 = .ok (.ldc2_w 135, 3) := by decide +kernel
theorem dX8_wordOf_52 : decode cX8_wordOf 52 = .ok (.lcmp, 1) := by decide +kernel
theorem dX8_wordOf_53 : decode cX8_wordOf 53 = .ok (.ifCond .ne 7, 3) := by decide +kernel
theorem dX8_wordOf_56 : decode cX8_wordOf 56 = .ok (.iconst 4, 1) := by decide +kernel
theorem dX8_wordOf_57 : decode cX8_wordOf 57 = .ok (.goto 16, 3) := by decide +kernel
theorem dX8_wordOf_60 : decode cX8_wordOf 60 = .ok (.lload_n 0, 1) := by decide +kernel
theorem dX8_wordOf_61 : decode cX8_wordOf 61 = .ok (.ldc2_w 137, 3) := by decide +kernel
theorem dX8_wordOf_64 : decode cX8_wordOf 64 = .ok (.lcmp, 1) := by decide +kernel
theorem dX8_wordOf_65 : decode cX8_wordOf 65 = .ok (.ifCond .ne 7, 3) := by decide +kernel
theorem dX8_wordOf_68 : decode cX8_wordOf 68 = .ok (.iconst 5, 1) := by decide +kernel
theorem dX8_wordOf_69 : decode cX8_wordOf 69 = .ok (.goto 4, 3) := by decide +kernel
theorem dX8_wordOf_72 : decode cX8_wordOf 72 = .ok (.iconst (-1), 1) := by decide +kernel
theorem dX8_wordOf_73 : decode cX8_wordOf 73 = .ok (.ireturn, 1) := by decide +kernel
theorem dX8_numbersOf_0 : decode cX8_numbersOf 0 = .ok (.iload_n 0, 1) := by decide +kernel
theorem dX8_numbersOf_1 : decode cX8_numbersOf 1 = .ok (.ifCond .eq 8, 3) := by decide +kernel
theorem dX8_numbersOf_4 : decode cX8_numbersOf 4 = .ok (.iload_n 0, 1) := by decide +kernel
theorem dX8_numbersOf_5 : decode cX8_numbersOf 5 = .ok (.iconst 5, 1) := by decide +kernel
theorem dX8_numbersOf_6 : decode cX8_numbersOf 6 = .ok (.if_icmp .ne 7, 3) := by decide +kernel
theorem dX8_numbersOf_9 : decode cX8_numbersOf 9 = .ok (.iconst 2, 1) := by decide +kernel
theorem dX8_numbersOf_10 : decode cX8_numbersOf 10 = .ok (.goto 13, 3) := by decide +kernel
theorem dX8_numbersOf_13 : decode cX8_numbersOf 13 = .ok (.iload_n 0, 1) := by decide +kernel
theorem dX8_numbersOf_14 : decode cX8_numbersOf 14 = .ok (.iconst 2, 1) := by decide +kernel
theorem dX8_numbersOf_15 : decode cX8_numbersOf 15 = .ok (.if_icmp .ne 7, 3) := by decide +kernel
theorem dX8_numbersOf_18 : decode cX8_numbersOf 18 = .ok (.iconst 4, 1) := by decide +kernel
theorem dX8_numbersOf_19 : decode cX8_numbersOf 19 = .ok (.goto 4, 3) := by decide +kernel
theorem dX8_numbersOf_22 : decode cX8_numbersOf 22 = .ok (.iconst 1, 1) := by decide +kernel
theorem dX8_numbersOf_23 : decode cX8_numbersOf 23 = .ok (.ireturn, 1) := by decide +kernel
theorem dX8_takeNumber_0 : decode cX8_takeNumber 0 = .ok (.aload_n 0, 1) := by decide +kernel
theorem dX8_takeNumber_1 : decode cX8_takeNumber 1 = .ok (.invokevirtual 139, 3) := by decide +kernel
theorem dX8_takeNumber_4 : decode cX8_takeNumber 4 = .ok (.ifCond .eq 13, 3) := by decide +kernel
theorem dX8_takeNumber_7 : decode cX8_takeNumber 7 = .ok (.aload_n 0, 1) := by decide +kernel
theorem dX8_takeNumber_8 : decode cX8_takeNumber 8 = .ok (.aload_n 0, 1) := by decide +kernel
theorem dX8_takeNumber_9 : decode cX8_takeNumber 9 = .ok (.getfield 118, 3) := by decide +kernel
theorem dX8_takeNumber_12 : decode cX8_takeNumber 12 = .ok (.putfield 143, 3) := by decide +kernel
theorem dX8_takeNumber_15 : decode cX8_takeNumber 15 = .ok (.iconst (-1), 1) := by decide +kernel
theorem dX8_takeNumber_16 : decode cX8_takeNumber 16 = .ok (.ireturn, 1) := by decide +kernel
theorem dX8_takeNumber_17 : decode cX8_takeNumber 17 = .ok (.aload_n 0, 1) := by decide +kernel
theorem dX8_takeNumber_18 : decode cX8_takeNumber 18 = .ok (.getfield 124, 3) := by decide +kernel
theorem dX8_takeNumber_21 : decode cX8_takeNumber 21 = .ok (.istore_n 1, 1) := by decide +kernel
theorem dX8_takeNumber_22 : decode cX8_takeNumber 22 = .ok (.iconst 0, 1) := by decide +kernel
theorem dX8_takeNumber_23 : decode cX8_takeNumber 23 = .ok (.istore_n 2, 1) := by decide +kernel
theorem dX8_takeNumber_24 : decode cX8_takeNumber 24 = .ok (.aload_n 0, 1) := by decide +kernel
theorem dX8_takeNumber_25 : decode cX8_takeNumber 25 = .ok (.getfield 124, 3) := by decide +kernel
theorem dX8_takeNumber_28 : decode cX8_takeNumber 28 = .ok (.aload_n 0, 1) := by decide +kernel
theorem dX8_takeNumber_29 : decode cX8_takeNumber 29 = .ok (.getfield 118, 3) := by decide +kernel
theorem dX8_takeNumber_32 : decode cX8_takeNumber 32 = .ok (.if_icmp .ge 70, 3) := by decide +kernel
theorem dX8_takeNumber_35 : decode cX8_takeNumber 35 = .ok (.aload_n 0, 1) := by decide +kernel
theorem dX8_takeNumber_36 : decode cX8_takeNumber 36 = .ok (.getfield 17, 3) := by decide +kernel
theorem dX8_takeNumber_39 : decode cX8_takeNumber 39 = .ok (.aload_n 0, 1) := by decide +kernel
theorem dX8_takeNumber_40 : decode cX8_takeNumber 40 = .ok (.getfield 124, 3) := by decide +kernel
theorem dX8_takeNumber_43 : decode cX8_takeNumber 43 = .ok (.iaload, 1) := by decide +kernel
theorem dX8_takeNumber_44 : decode cX8_takeNumber 44 = .ok (.i2l, 1) := by decide +kernel
theorem dX8_takeNumber_45 : decode cX8_takeNumber 45 = .ok (.ldc2_w 146, 3) := by decide +kernel
theorem dX8_takeNumber_48 : decode cX8_takeNumber 48 = .ok (.ldc2_w 148, 3) := by decide +kernel
theorem dX8_takeNumber_51 : decode cX8_takeNumber 51 = .ok (.invokestatic 52, 3) := by decide +kernel
theorem dX8_takeNumber_54 : decode cX8_takeNumber 54 = .ok (.ifCond .eq 48, 3) := by decide +kernel
theorem dX8_takeNumber_57 : decode cX8_takeNumber 57 = .ok (.aload_n 0, 1) := by decide +kernel
theorem dX8_takeNumber_58 : decode cX8_takeNumber 58 = .ok (.getfield 124, 3) := by decide +kernel
theorem dX8_takeNumber_61 : decode cX8_takeNumber 61 = .ok (.iload_n 1, 1) := by decide +kernel
theorem dX8_takeNumber_62 : decode cX8_takeNumber 62 = .ok (.isub, 1) := by decide +kernel
theorem dX8_takeNumber_63 : decode cX8_takeNumber 63 = .ok (.iconst 2, 1) := by decide +kernel
theorem dX8_takeNumber_64 : decode cX8_takeNumber 64 = .ok (.if_icmp .ge 23, 3) := by decide +kernel
theorem dX8_takeNumber_67 : decode cX8_takeNumber 67 = .ok (.bipush 10, 2) := by decide +kernel
theorem dX8_takeNumber_69 : decode cX8_takeNumber 69 = .ok (.iload_n 2, 1) := by decide +kernel
theorem dX8_takeNumber_70 : decode cX8_takeNumber 70 = .ok (.imul, 1) := by decide +kernel
theorem dX8_takeNumber_71 : decode cX8_takeNumber 71 = .ok (.aload_n 0, 1) := by decide +kernel
theorem dX8_takeNumber_72 : decode cX8_takeNumber 72 = .ok (.getfield 17, 3) := by decide +kernel
theorem dX8_takeNumber_75 : decode cX8_takeNumber 75 = .ok (.aload_n 0, 1) := by decide +kernel
theorem dX8_takeNumber_76 : decode cX8_takeNumber 76 = .ok (.getfield 124, 3) := by decide +kernel
theorem dX8_takeNumber_79 : decode cX8_takeNumber 79 = .ok (.iaload, 1) := by decide +kernel
theorem dX8_takeNumber_80 : decode cX8_takeNumber 80 = .ok (.iadd, 1) := by decide +kernel
theorem dX8_takeNumber_81 : decode cX8_takeNumber 81 = .ok (.bipush 48, 2) := by decide +kernel
theorem dX8_takeNumber_83 : decode cX8_takeNumber 83 = .ok (.isub, 1) := by decide +kernel
theorem dX8_takeNumber_84 : decode cX8_takeNumber 84 = .ok (.goto 4, 3) := by decide +kernel
theorem dX8_takeNumber_87 : decode cX8_takeNumber 87 = .ok (.iload_n 2, 1) := by decide +kernel
theorem dX8_takeNumber_88 : decode cX8_takeNumber 88 = .ok (.istore_n 2, 1) := by decide +kernel
theorem dX8_takeNumber_89 : decode cX8_takeNumber 89 = .ok (.aload_n 0, 1) := by decide +kernel
theorem dX8_takeNumber_90 : decode cX8_takeNumber 90 = .ok (.dup, 1) := by decide +kernel
theorem dX8_takeNumber_91 : decode cX8_takeNumber 91 = .ok (.getfield 124, 3) := by decide +kernel
theorem dX8_takeNumber_94 : decode cX8_takeNumber 94 = .ok (.iconst 1, 1) := by decide +kernel
theorem dX8_takeNumber_95 : decode cX8_takeNumber 95 = .ok (.iadd, 1) := by decide +kernel
theorem dX8_takeNumber_96 : decode cX8_takeNumber 96 = .ok (.putfield 124, 3) := by decide +kernel
theorem dX8_takeNumber_99 : decode cX8_takeNumber 99 = .ok (.goto (-75), 3) := by decide +kernel
theorem dX8_takeNumber_102 : decode cX8_takeNumber 102 = .ok (.aload_n 0, 1) := by decide +kernel
theorem dX8_takeNumber_103 : decode cX8_takeNumber 103 = .ok (.aload_n 0, 1) := by decide +kernel
theorem dX8_takeNumber_104 : decode cX8_takeNumber 104 = .ok (.getfield 124, 3) := by decide +kernel
theorem dX8_takeNumber_107 : decode cX8_takeNumber 107 = .ok (.iload_n 1, 1) := by decide +kernel
theorem dX8_takeNumber_108 : decode cX8_takeNumber 108 = .ok (.if_icmp .eq 13, 3) := by decide +kernel
theorem dX8_takeNumber_111 : decode cX8_takeNumber 111 = .ok (.aload_n 0, 1) := by decide +kernel
theorem dX8_takeNumber_112 : decode cX8_takeNumber 112 = .ok (.getfield 124, 3) := by decide +kernel
theorem dX8_takeNumber_115 : decode cX8_takeNumber 115 = .ok (.iload_n 1, 1) := by decide +kernel
theorem dX8_takeNumber_116 : decode cX8_takeNumber 116 = .ok (.isub, 1) := by decide +kernel
theorem dX8_takeNumber_117 : decode cX8_takeNumber 117 = .ok (.iconst 2, 1) := by decide +kernel
theorem dX8_takeNumber_118 : decode cX8_takeNumber 118 = .ok (.if_icmp .le 7, 3) := by decide +kernel
theorem dX8_takeNumber_121 : decode cX8_takeNumber 121 = .ok (.iload_n 1, 1) := by decide +kernel
theorem dX8_takeNumber_122 : decode cX8_takeNumber 122 = .ok (.goto 7, 3) := by decide +kernel
theorem dX8_takeNumber_125 : decode cX8_takeNumber 125 = .ok (.aload_n 0, 1) := by decide +kernel
theorem dX8_takeNumber_126 : decode cX8_takeNumber 126 = .ok (.getfield 143, 3) := by decide +kernel
theorem dX8_takeNumber_129 : decode cX8_takeNumber 129 = .ok (.putfield 143, 3) := by decide +kernel
theorem dX8_takeNumber_132 : decode cX8_takeNumber 132 = .ok (.iload_n 2, 1) := by decide +kernel
theorem dX8_takeNumber_133 : decode cX8_takeNumber 133 = .ok (.ireturn, 1) := by decide +kernel
theorem dX8_takeItem_0 : decode cX8_takeItem 0 = .ok (.aload_n 0, 1) := by decide +kernel
theorem dX8_takeItem_1 : decode cX8_takeItem 1 = .ok (.getfield 124, 3) := by decide +kernel
theorem dX8_takeItem_4 : decode cX8_takeItem 4 = .ok (.istore_n 1, 1) := by decide +kernel
theorem dX8_takeItem_5 : decode cX8_takeItem 5 = .ok (.lconst 0, 1) := by decide +kernel
theorem dX8_takeItem_6 : decode cX8_takeItem 6 = .ok (.lstore_n 2, 1) := by decide +kernel
theorem dX8_takeItem_7 : decode cX8_takeItem 7 = .ok (.aload_n 0, 1) := by decide +kernel
theorem dX8_takeItem_8 : decode cX8_takeItem 8 = .ok (.getfield 124, 3) := by decide +kernel
theorem dX8_takeItem_11 : decode cX8_takeItem 11 = .ok (.aload_n 0, 1) := by decide +kernel
theorem dX8_takeItem_12 : decode cX8_takeItem 12 = .ok (.getfield 118, 3) := by decide +kernel
theorem dX8_takeItem_15 : decode cX8_takeItem 15 = .ok (.if_icmp .ge 74, 3) := by decide +kernel
theorem dX8_takeItem_18 : decode cX8_takeItem 18 = .ok (.aload_n 0, 1) := by decide +kernel
theorem dX8_takeItem_19 : decode cX8_takeItem 19 = .ok (.getfield 17, 3) := by decide +kernel
theorem dX8_takeItem_22 : decode cX8_takeItem 22 = .ok (.aload_n 0, 1) := by decide +kernel
theorem dX8_takeItem_23 : decode cX8_takeItem 23 = .ok (.getfield 124, 3) := by decide +kernel
theorem dX8_takeItem_26 : decode cX8_takeItem 26 = .ok (.iaload, 1) := by decide +kernel
theorem dX8_takeItem_27 : decode cX8_takeItem 27 = .ok (.i2l, 1) := by decide +kernel
theorem dX8_takeItem_28 : decode cX8_takeItem 28 = .ok (.ldc2_w 150, 3) := by decide +kernel
theorem dX8_takeItem_31 : decode cX8_takeItem 31 = .ok (.ldc2_w 152, 3) := by decide +kernel
theorem dX8_takeItem_34 : decode cX8_takeItem 34 = .ok (.invokestatic 52, 3) := by decide +kernel
theorem dX8_takeItem_37 : decode cX8_takeItem 37 = .ok (.ifCond .eq 52, 3) := by decide +kernel
theorem dX8_takeItem_40 : decode cX8_takeItem 40 = .ok (.aload_n 0, 1) := by decide +kernel
theorem dX8_takeItem_41 : decode cX8_takeItem 41 = .ok (.getfield 124, 3) := by decide +kernel
theorem dX8_takeItem_44 : decode cX8_takeItem 44 = .ok (.iload_n 1, 1) := by decide +kernel
theorem dX8_takeItem_45 : decode cX8_takeItem 45 = .ok (.isub, 1) := by decide +kernel
theorem dX8_takeItem_46 : decode cX8_takeItem 46 = .ok (.bipush 7, 2) := by decide +kernel
theorem dX8_takeItem_48 : decode cX8_takeItem 48 = .ok (.if_icmp .ge 26, 3) := by decide +kernel
theorem dX8_takeItem_51 : decode cX8_takeItem 51 = .ok (.ldc2_w 154, 3) := by decide +kernel
theorem dX8_takeItem_54 : decode cX8_takeItem 54 = .ok (.lload_n 2, 1) := by decide +kernel
theorem dX8_takeItem_55 : decode cX8_takeItem 55 = .ok (.lmul, 1) := by decide +kernel
theorem dX8_takeItem_56 : decode cX8_takeItem 56 = .ok (.aload_n 0, 1) := by decide +kernel
theorem dX8_takeItem_57 : decode cX8_takeItem 57 = .ok (.getfield 17, 3) := by decide +kernel
theorem dX8_takeItem_60 : decode cX8_takeItem 60 = .ok (.aload_n 0, 1) := by decide +kernel
theorem dX8_takeItem_61 : decode cX8_takeItem 61 = .ok (.getfield 124, 3) := by decide +kernel
theorem dX8_takeItem_64 : decode cX8_takeItem 64 = .ok (.iaload, 1) := by decide +kernel
theorem dX8_takeItem_65 : decode cX8_takeItem 65 = .ok (.i2l, 1) := by decide +kernel
theorem dX8_takeItem_66 : decode cX8_takeItem 66 = .ok (.ladd, 1) := by decide +kernel
theorem dX8_takeItem_67 : decode cX8_takeItem 67 = .ok (.ldc2_w 156, 3) := by decide +kernel
theorem dX8_takeItem_70 : decode cX8_takeItem 70 = .ok (.lsub, 1) := by decide +kernel
theorem dX8_takeItem_71 : decode cX8_takeItem 71 = .ok (.goto 4, 3) := by decide +kernel
theorem dX8_takeItem_74 : decode cX8_takeItem 74 = .ok (.lload_n 2, 1) := by decide +kernel
theorem dX8_takeItem_75 : decode cX8_takeItem 75 = .ok (.lstore_n 2, 1) := by decide +kernel
theorem dX8_takeItem_76 : decode cX8_takeItem 76 = .ok (.aload_n 0, 1) := by decide +kernel
theorem dX8_takeItem_77 : decode cX8_takeItem 77 = .ok (.dup, 1) := by decide +kernel
theorem dX8_takeItem_78 : decode cX8_takeItem 78 = .ok (.getfield 124, 3) := by decide +kernel
theorem dX8_takeItem_81 : decode cX8_takeItem 81 = .ok (.iconst 1, 1) := by decide +kernel
theorem dX8_takeItem_82 : decode cX8_takeItem 82 = .ok (.iadd, 1) := by decide +kernel
theorem dX8_takeItem_83 : decode cX8_takeItem 83 = .ok (.putfield 124, 3) := by decide +kernel
theorem dX8_takeItem_86 : decode cX8_takeItem 86 = .ok (.goto (-79), 3) := by decide +kernel
theorem dX8_takeItem_89 : decode cX8_takeItem 89 = .ok (.lload_n 2, 1) := by decide +kernel
theorem dX8_takeItem_90 : decode cX8_takeItem 90 = .ok (.invokestatic 158, 3) := by decide +kernel
theorem dX8_takeItem_93 : decode cX8_takeItem 93 = .ok (.istore 4, 2) := by decide +kernel
theorem dX8_takeItem_95 : decode cX8_takeItem 95 = .ok (.aload_n 0, 1) := by decide +kernel
theorem dX8_takeItem_96 : decode cX8_takeItem 96 = .ok (.iload 4, 2) := by decide +kernel
theorem dX8_takeItem_98 : decode cX8_takeItem 98 = .ok (.iconst (-1), 1) := by decide +kernel
theorem dX8_takeItem_99 : decode cX8_takeItem 99 = .ok (.if_icmp .eq 28, 3) := by decide +kernel
theorem dX8_takeItem_102 : decode cX8_takeItem 102 = .ok (.iload 4, 2) := by decide +kernel
theorem dX8_takeItem_104 : decode cX8_takeItem 104 = .ok (.ifCond .ne 7, 3) := by decide +kernel
theorem dX8_takeItem_107 : decode cX8_takeItem 107 = .ok (.iconst 1, 1) := by decide +kernel
theorem dX8_takeItem_108 : decode cX8_takeItem 108 = .ok (.goto 4, 3) := by decide +kernel
theorem dX8_takeItem_111 : decode cX8_takeItem 111 = .ok (.iconst 0, 1) := by decide +kernel
theorem dX8_takeItem_112 : decode cX8_takeItem 112 = .ok (.aload_n 0, 1) := by decide +kernel
theorem dX8_takeItem_113 : decode cX8_takeItem 113 = .ok (.getfield 162, 3) := by decide +kernel
theorem dX8_takeItem_116 : decode cX8_takeItem 116 = .ok (.ifCond .ne 7, 3) := by decide +kernel
theorem dX8_takeItem_119 : decode cX8_takeItem 119 = .ok (.iconst 1, 1) := by decide +kernel
theorem dX8_takeItem_120 : decode cX8_takeItem 120 = .ok (.goto 4, 3) := by decide +kernel
theorem dX8_takeItem_123 : decode cX8_takeItem 123 = .ok (.iconst 0, 1) := by decide +kernel
theorem dX8_takeItem_124 : decode cX8_takeItem 124 = .ok (.if_icmp .eq 7, 3) := by decide +kernel
theorem dX8_takeItem_127 : decode cX8_takeItem 127 = .ok (.iload_n 1, 1) := by decide +kernel
theorem dX8_takeItem_128 : decode cX8_takeItem 128 = .ok (.goto 7, 3) := by decide +kernel
theorem dX8_takeItem_131 : decode cX8_takeItem 131 = .ok (.aload_n 0, 1) := by decide +kernel
theorem dX8_takeItem_132 : decode cX8_takeItem 132 = .ok (.getfield 143, 3) := by decide +kernel
theorem dX8_takeItem_135 : decode cX8_takeItem 135 = .ok (.putfield 143, 3) := by decide +kernel
theorem dX8_takeItem_138 : decode cX8_takeItem 138 = .ok (.aload_n 0, 1) := by decide +kernel
theorem dX8_takeItem_139 : decode cX8_takeItem 139 = .ok (.getfield 23, 3) := by decide +kernel
theorem dX8_takeItem_142 : decode cX8_takeItem 142 = .ok (.aload_n 0, 1) := by decide +kernel
theorem dX8_takeItem_143 : decode cX8_takeItem 143 = .ok (.getfield 162, 3) := by decide +kernel
theorem dX8_takeItem_146 : decode cX8_takeItem 146 = .ok (.iload 4, 2) := by decide +kernel
theorem dX8_takeItem_148 : decode cX8_takeItem 148 = .ok (.iastore, 1) := by decide +kernel
theorem dX8_takeItem_149 : decode cX8_takeItem 149 = .ok (.iconst 0, 1) := by decide +kernel
theorem dX8_takeItem_150 : decode cX8_takeItem 150 = .ok (.istore 5, 2) := by decide +kernel
theorem dX8_takeItem_152 : decode cX8_takeItem 152 = .ok (.iload 5, 2) := by decide +kernel
theorem dX8_takeItem_154 : decode cX8_takeItem 154 = .ok (.iload 4, 2) := by decide +kernel
theorem dX8_takeItem_156 : decode cX8_takeItem 156 = .ok (.invokestatic 165, 3) := by decide +kernel
theorem dX8_takeItem_159 : decode cX8_takeItem 159 = .ok (.if_icmp .ge 35, 3) := by decide +kernel
theorem dX8_takeItem_162 : decode cX8_takeItem 162 = .ok (.aload_n 0, 1) := by decide +kernel
theorem dX8_takeItem_163 : decode cX8_takeItem 163 = .ok (.getfield 143, 3) := by decide +kernel
theorem dX8_takeItem_166 : decode cX8_takeItem 166 = .ok (.iconst (-1), 1) := by decide +kernel
theorem dX8_takeItem_167 : decode cX8_takeItem 167 = .ok (.if_icmp .ne 27, 3) := by decide +kernel
theorem dX8_takeItem_170 : decode cX8_takeItem 170 = .ok (.aload_n 0, 1) := by decide +kernel
theorem dX8_takeItem_171 : decode cX8_takeItem 171 = .ok (.getfield 26, 3) := by decide +kernel
theorem dX8_takeItem_174 : decode cX8_takeItem 174 = .ok (.iconst 4, 1) := by decide +kernel
theorem dX8_takeItem_175 : decode cX8_takeItem 175 = .ok (.aload_n 0, 1) := by decide +kernel
theorem dX8_takeItem_176 : decode cX8_takeItem 176 = .ok (.getfield 162, 3) := by decide +kernel
theorem dX8_takeItem_179 : decode cX8_takeItem 179 = .ok (.imul, 1) := by decide +kernel
theorem dX8_takeItem_180 : decode cX8_takeItem 180 = .ok (.iload 5, 2) := by decide +kernel
theorem dX8_takeItem_182 : decode cX8_takeItem 182 = .ok (.iadd, 1) := by decide +kernel
theorem dX8_takeItem_183 : decode cX8_takeItem 183 = .ok (.aload_n 0, 1) := by decide +kernel
theorem dX8_takeItem_184 : decode cX8_takeItem 184 = .ok (.invokevirtual 168, 3) := by decide +kernel
theorem dX8_takeItem_187 : decode cX8_takeItem 187 = .ok (.iastore, 1) := by decide +kernel
theorem dX8_takeItem_188 : decode cX8_takeItem 188 = .ok (.iinc 5 1, 3) := by decide +kernel
theorem dX8_takeItem_191 : decode cX8_takeItem 191 = .ok (.goto (-39), 3) := by decide +kernel
theorem dX8_takeItem_194 : decode cX8_takeItem 194 = .ok (.aload_n 0, 1) := by decide +kernel
theorem dX8_takeItem_195 : decode cX8_takeItem 195 = .ok (.getfield 143, 3) := by decide +kernel
theorem dX8_takeItem_198 : decode cX8_takeItem 198 = .ok (.iconst (-1), 1) := by decide +kernel
theorem dX8_takeItem_199 : decode cX8_takeItem 199 = .ok (.if_icmp .ne 32, 3) := by decide +kernel
theorem dX8_takeItem_202 : decode cX8_takeItem 202 = .ok (.aload_n 0, 1) := by decide +kernel
theorem dX8_takeItem_203 : decode cX8_takeItem 203 = .ok (.invokevirtual 139, 3) := by decide +kernel
theorem dX8_takeItem_206 : decode cX8_takeItem 206 = .ok (.ifCond .ne 17, 3) := by decide +kernel
theorem dX8_takeItem_209 : decode cX8_takeItem 209 = .ok (.aload_n 0, 1) := by decide +kernel
theorem dX8_takeItem_210 : decode cX8_takeItem 210 = .ok (.getfield 17, 3) := by decide +kernel
theorem dX8_takeItem_213 : decode cX8_takeItem 213 = .ok (.aload_n 0, 1) := by decide +kernel
theorem dX8_takeItem_214 : decode cX8_takeItem 214 = .ok (.getfield 124, 3) := by decide +kernel
theorem dX8_takeItem_217 : decode cX8_takeItem 217 = .ok (.iaload, 1) := by decide +kernel
theorem dX8_takeItem_218 : decode cX8_takeItem 218 = .ok (.bipush 59, 2) := by decide +kernel
theorem dX8_takeItem_220 : decode cX8_takeItem 220 = .ok (.if_icmp .eq 11, 3) := by decide +kernel
theorem dX8_takeItem_223 : decode cX8_takeItem 223 = .ok (.aload_n 0, 1) := by decide +kernel
theorem dX8_takeItem_224 : decode cX8_takeItem 224 = .ok (.aload_n 0, 1) := by decide +kernel
theorem dX8_takeItem_225 : decode cX8_takeItem 225 = .ok (.getfield 124, 3) := by decide +kernel
theorem dX8_takeItem_228 : decode cX8_takeItem 228 = .ok (.putfield 143, 3) := by decide +kernel
theorem dX8_takeItem_231 : decode cX8_takeItem 231 = .ok (.aload_n 0, 1) := by decide +kernel
theorem dX8_takeItem_232 : decode cX8_takeItem 232 = .ok (.dup, 1) := by decide +kernel
theorem dX8_takeItem_233 : decode cX8_takeItem 233 = .ok (.getfield 124, 3) := by decide +kernel
theorem dX8_takeItem_236 : decode cX8_takeItem 236 = .ok (.iconst 1, 1) := by decide +kernel
theorem dX8_takeItem_237 : decode cX8_takeItem 237 = .ok (.iadd, 1) := by decide +kernel
theorem dX8_takeItem_238 : decode cX8_takeItem 238 = .ok (.putfield 124, 3) := by decide +kernel
theorem dX8_takeItem_241 : decode cX8_takeItem 241 = .ok (.aload_n 0, 1) := by decide +kernel
theorem dX8_takeItem_242 : decode cX8_takeItem 242 = .ok (.dup, 1) := by decide +kernel
theorem dX8_takeItem_243 : decode cX8_takeItem 243 = .ok (.getfield 162, 3) := by decide +kernel
theorem dX8_takeItem_246 : decode cX8_takeItem 246 = .ok (.iconst 1, 1) := by decide +kernel
theorem dX8_takeItem_247 : decode cX8_takeItem 247 = .ok (.iadd, 1) := by decide +kernel
theorem dX8_takeItem_248 : decode cX8_takeItem 248 = .ok (.putfield 162, 3) := by decide +kernel
theorem dX8_takeItem_251 : decode cX8_takeItem 251 = .ok (.return_, 1) := by decide +kernel
theorem dX8_tellItem_0 : decode cX8_tellItem 0 = .ok (.aload_n 0, 1) := by decide +kernel
theorem dX8_tellItem_1 : decode cX8_tellItem 1 = .ok (.getfield 26, 3) := by decide +kernel
theorem dX8_tellItem_4 : decode cX8_tellItem 4 = .ok (.iconst 4, 1) := by decide +kernel
theorem dX8_tellItem_5 : decode cX8_tellItem 5 = .ok (.iload_n 1, 1) := by decide +kernel
theorem dX8_tellItem_6 : decode cX8_tellItem 6 = .ok (.imul, 1) := by decide +kernel
theorem dX8_tellItem_7 : decode cX8_tellItem 7 = .ok (.iaload, 1) := by decide +kernel
theorem dX8_tellItem_8 : decode cX8_tellItem 8 = .ok (.istore_n 2, 1) := by decide +kernel
theorem dX8_tellItem_9 : decode cX8_tellItem 9 = .ok (.aload_n 0, 1) := by decide +kernel
theorem dX8_tellItem_10 : decode cX8_tellItem 10 = .ok (.getfield 26, 3) := by decide +kernel
theorem dX8_tellItem_13 : decode cX8_tellItem 13 = .ok (.iconst 4, 1) := by decide +kernel
theorem dX8_tellItem_14 : decode cX8_tellItem 14 = .ok (.iload_n 1, 1) := by decide +kernel
theorem dX8_tellItem_15 : decode cX8_tellItem 15 = .ok (.imul, 1) := by decide +kernel
theorem dX8_tellItem_16 : decode cX8_tellItem 16 = .ok (.iconst 1, 1) := by decide +kernel
theorem dX8_tellItem_17 : decode cX8_tellItem 17 = .ok (.iadd, 1) := by decide +kernel
theorem dX8_tellItem_18 : decode cX8_tellItem 18 = .ok (.iaload, 1) := by decide +kernel
theorem dX8_tellItem_19 : decode cX8_tellItem 19 = .ok (.istore_n 3, 1) := by decide +kernel
theorem dX8_tellItem_20 : decode cX8_tellItem 20 = .ok (.aload_n 0, 1) := by decide +kernel
theorem dX8_tellItem_21 : decode cX8_tellItem 21 = .ok (.getfield 23, 3) := by decide +kernel
theorem dX8_tellItem_24 : decode cX8_tellItem 24 = .ok (.iload_n 1, 1) := by decide +kernel
theorem dX8_tellItem_25 : decode cX8_tellItem 25 = .ok (.iaload, 1) := by decide +kernel
theorem dX8_tellItem_26 : decode cX8_tellItem 26 = .ok (.tableswitch 102 0 4 #[34, 44, 54, 84, 93], 34) := by decide +kernel
theorem dX8_tellItem_60 : decode cX8_tellItem 60 = .ok (.aload_n 0, 1) := by decide +kernel
theorem dX8_tellItem_61 : decode cX8_tellItem 61 = .ok (.sipush 600, 3) := by decide +kernel
theorem dX8_tellItem_64 : decode cX8_tellItem 64 = .ok (.iload_n 2, 1) := by decide +kernel
theorem dX8_tellItem_65 : decode cX8_tellItem 65 = .ok (.iload_n 3, 1) := by decide +kernel
theorem dX8_tellItem_66 : decode cX8_tellItem 66 = .ok (.invokevirtual 77, 3) := by decide +kernel
theorem dX8_tellItem_69 : decode cX8_tellItem 69 = .ok (.ireturn, 1) := by decide +kernel
theorem dX8_tellItem_70 : decode cX8_tellItem 70 = .ok (.aload_n 0, 1) := by decide +kernel
theorem dX8_tellItem_71 : decode cX8_tellItem 71 = .ok (.sipush 600, 3) := by decide +kernel
theorem dX8_tellItem_74 : decode cX8_tellItem 74 = .ok (.iload_n 2, 1) := by decide +kernel
theorem dX8_tellItem_75 : decode cX8_tellItem 75 = .ok (.iconst 1, 1) := by decide +kernel
theorem dX8_tellItem_76 : decode cX8_tellItem 76 = .ok (.invokevirtual 84, 3) := by decide +kernel
theorem dX8_tellItem_79 : decode cX8_tellItem 79 = .ok (.ireturn, 1) := by decide +kernel
theorem dX8_tellItem_80 : decode cX8_tellItem 80 = .ok (.aload_n 0, 1) := by decide +kernel
theorem dX8_tellItem_81 : decode cX8_tellItem 81 = .ok (.sipush 600, 3) := by decide +kernel
theorem dX8_tellItem_84 : decode cX8_tellItem 84 = .ok (.iload_n 2, 1) := by decide +kernel
theorem dX8_tellItem_85 : decode cX8_tellItem 85 = .ok (.iload_n 3, 1) := by decide +kernel
theorem dX8_tellItem_86 : decode cX8_tellItem 86 = .ok (.aload_n 0, 1) := by decide +kernel
theorem dX8_tellItem_87 : decode cX8_tellItem 87 = .ok (.getfield 26, 3) := by decide +kernel
theorem dX8_tellItem_90 : decode cX8_tellItem 90 = .ok (.iconst 4, 1) := by decide +kernel
theorem dX8_tellItem_91 : decode cX8_tellItem 91 = .ok (.iload_n 1, 1) := by decide +kernel
theorem dX8_tellItem_92 : decode cX8_tellItem 92 = .ok (.imul, 1) := by decide +kernel
theorem dX8_tellItem_93 : decode cX8_tellItem 93 = .ok (.iconst 2, 1) := by decide +kernel
theorem dX8_tellItem_94 : decode cX8_tellItem 94 = .ok (.iadd, 1) := by decide +kernel
theorem dX8_tellItem_95 : decode cX8_tellItem 95 = .ok (.iaload, 1) := by decide +kernel
theorem dX8_tellItem_96 : decode cX8_tellItem 96 = .ok (.aload_n 0, 1) := by decide +kernel
theorem dX8_tellItem_97 : decode cX8_tellItem 97 = .ok (.getfield 26, 3) := by decide +kernel
theorem dX8_tellItem_100 : decode cX8_tellItem 100 = .ok (.iconst 4, 1) := by decide +kernel
theorem dX8_tellItem_101 : decode cX8_tellItem 101 = .ok (.iload_n 1, 1) := by decide +kernel
theorem dX8_tellItem_102 : decode cX8_tellItem 102 = .ok (.imul, 1) := by decide +kernel
theorem dX8_tellItem_103 : decode cX8_tellItem 103 = .ok (.iconst 3, 1) := by decide +kernel
theorem dX8_tellItem_104 : decode cX8_tellItem 104 = .ok (.iadd, 1) := by decide +kernel
theorem dX8_tellItem_105 : decode cX8_tellItem 105 = .ok (.iaload, 1) := by decide +kernel
theorem dX8_tellItem_106 : decode cX8_tellItem 106 = .ok (.invokevirtual 88, 3) := by decide +kernel
theorem dX8_tellItem_109 : decode cX8_tellItem 109 = .ok (.ireturn, 1) := by decide +kernel
theorem dX8_tellItem_110 : decode cX8_tellItem 110 = .ok (.aload_n 0, 1) := by decide +kernel
theorem dX8_tellItem_111 : decode cX8_tellItem 111 = .ok (.sipush 600, 3) := by decide +kernel
theorem dX8_tellItem_114 : decode cX8_tellItem 114 = .ok (.iload_n 2, 1) := by decide +kernel
theorem dX8_tellItem_115 : decode cX8_tellItem 115 = .ok (.invokevirtual 92, 3) := by decide +kernel
theorem dX8_tellItem_118 : decode cX8_tellItem 118 = .ok (.ireturn, 1) := by decide +kernel
theorem dX8_tellItem_119 : decode cX8_tellItem 119 = .ok (.aload_n 0, 1) := by decide +kernel
theorem dX8_tellItem_120 : decode cX8_tellItem 120 = .ok (.sipush 600, 3) := by decide +kernel
theorem dX8_tellItem_123 : decode cX8_tellItem 123 = .ok (.iload_n 2, 1) := by decide +kernel
theorem dX8_tellItem_124 : decode cX8_tellItem 124 = .ok (.invokevirtual 98, 3) := by decide +kernel
theorem dX8_tellItem_127 : decode cX8_tellItem 127 = .ok (.ireturn, 1) := by decide +kernel
theorem dX8_tellItem_128 : decode cX8_tellItem 128 = .ok (.aload_n 0, 1) := by decide +kernel
theorem dX8_tellItem_129 : decode cX8_tellItem 129 = .ok (.sipush 600, 3) := by decide +kernel
theorem dX8_tellItem_132 : decode cX8_tellItem 132 = .ok (.iload_n 2, 1) := by decide +kernel
theorem dX8_tellItem_133 : decode cX8_tellItem 133 = .ok (.iload_n 3, 1) := by decide +kernel
theorem dX8_tellItem_134 : decode cX8_tellItem 134 = .ok (.invokevirtual 101, 3) := by decide +kernel
theorem dX8_tellItem_137 : decode cX8_tellItem 137 = .ok (.ireturn, 1) := by decide +kernel
theorem dX8_read_0 : decode cX8_read 0 = .ok (.aload_n 0, 1) := by decide +kernel
theorem dX8_read_1 : decode cX8_read 1 = .ok (.iconst 0, 1) := by decide +kernel
theorem dX8_read_2 : decode cX8_read 2 = .ok (.putfield 124, 3) := by decide +kernel
theorem dX8_read_5 : decode cX8_read 5 = .ok (.aload_n 0, 1) := by decide +kernel
theorem dX8_read_6 : decode cX8_read 6 = .ok (.iconst 0, 1) := by decide +kernel
theorem dX8_read_7 : decode cX8_read 7 = .ok (.putfield 162, 3) := by decide +kernel
theorem dX8_read_10 : decode cX8_read 10 = .ok (.aload_n 0, 1) := by decide +kernel
theorem dX8_read_11 : decode cX8_read 11 = .ok (.iconst (-1), 1) := by decide +kernel
theorem dX8_read_12 : decode cX8_read 12 = .ok (.putfield 143, 3) := by decide +kernel
theorem dX8_read_15 : decode cX8_read 15 = .ok (.aload_n 0, 1) := by decide +kernel
theorem dX8_read_16 : decode cX8_read 16 = .ok (.getfield 143, 3) := by decide +kernel
theorem dX8_read_19 : decode cX8_read 19 = .ok (.iconst (-1), 1) := by decide +kernel
theorem dX8_read_20 : decode cX8_read 20 = .ok (.if_icmp .ne 17, 3) := by decide +kernel
theorem dX8_read_23 : decode cX8_read 23 = .ok (.aload_n 0, 1) := by decide +kernel
theorem dX8_read_24 : decode cX8_read 24 = .ok (.invokevirtual 139, 3) := by decide +kernel
theorem dX8_read_27 : decode cX8_read 27 = .ok (.ifCond .ne 10, 3) := by decide +kernel
theorem dX8_read_30 : decode cX8_read 30 = .ok (.aload_n 0, 1) := by decide +kernel
theorem dX8_read_31 : decode cX8_read 31 = .ok (.invokevirtual 172, 3) := by decide +kernel
theorem dX8_read_34 : decode cX8_read 34 = .ok (.goto (-19), 3) := by decide +kernel
theorem dX8_read_37 : decode cX8_read 37 = .ok (.aload_n 0, 1) := by decide +kernel
theorem dX8_read_38 : decode cX8_read 38 = .ok (.aload_n 0, 1) := by decide +kernel
theorem dX8_read_39 : decode cX8_read 39 = .ok (.getfield 143, 3) := by decide +kernel
theorem dX8_read_42 : decode cX8_read 42 = .ok (.iconst (-1), 1) := by decide +kernel
theorem dX8_read_43 : decode cX8_read 43 = .ok (.if_icmp .ne 17, 3) := by decide +kernel
theorem dX8_read_46 : decode cX8_read 46 = .ok (.aload_n 0, 1) := by decide +kernel
theorem dX8_read_47 : decode cX8_read 47 = .ok (.getfield 162, 3) := by decide +kernel
theorem dX8_read_50 : decode cX8_read 50 = .ok (.ifCond .ne 10, 3) := by decide +kernel
theorem dX8_read_53 : decode cX8_read 53 = .ok (.aload_n 0, 1) := by decide +kernel
theorem dX8_read_54 : decode cX8_read 54 = .ok (.getfield 118, 3) := by decide +kernel
theorem dX8_read_57 : decode cX8_read 57 = .ok (.goto 7, 3) := by decide +kernel
theorem dX8_read_60 : decode cX8_read 60 = .ok (.aload_n 0, 1) := by decide +kernel
theorem dX8_read_61 : decode cX8_read 61 = .ok (.getfield 143, 3) := by decide +kernel
theorem dX8_read_64 : decode cX8_read 64 = .ok (.putfield 143, 3) := by decide +kernel
theorem dX8_read_67 : decode cX8_read 67 = .ok (.aload_n 0, 1) := by decide +kernel
theorem dX8_read_68 : decode cX8_read 68 = .ok (.getfield 143, 3) := by decide +kernel
theorem dX8_read_71 : decode cX8_read 71 = .ok (.iconst (-1), 1) := by decide +kernel
theorem dX8_read_72 : decode cX8_read 72 = .ok (.if_icmp .eq 11, 3) := by decide +kernel
theorem dX8_read_75 : decode cX8_read 75 = .ok (.bipush (-10), 2) := by decide +kernel
theorem dX8_read_77 : decode cX8_read 77 = .ok (.aload_n 0, 1) := by decide +kernel
theorem dX8_read_78 : decode cX8_read 78 = .ok (.getfield 143, 3) := by decide +kernel
theorem dX8_read_81 : decode cX8_read 81 = .ok (.isub, 1) := by decide +kernel
theorem dX8_read_82 : decode cX8_read 82 = .ok (.ireturn, 1) := by decide +kernel
theorem dX8_read_83 : decode cX8_read 83 = .ok (.iconst 0, 1) := by decide +kernel
theorem dX8_read_84 : decode cX8_read 84 = .ok (.istore_n 1, 1) := by decide +kernel
theorem dX8_read_85 : decode cX8_read 85 = .ok (.iload_n 1, 1) := by decide +kernel
theorem dX8_read_86 : decode cX8_read 86 = .ok (.aload_n 0, 1) := by decide +kernel
theorem dX8_read_87 : decode cX8_read 87 = .ok (.getfield 162, 3) := by decide +kernel
theorem dX8_read_90 : decode cX8_read 90 = .ok (.if_icmp .ge 23, 3) := by decide +kernel
theorem dX8_read_93 : decode cX8_read 93 = .ok (.aload_n 0, 1) := by decide +kernel
theorem dX8_read_94 : decode cX8_read 94 = .ok (.iload_n 1, 1) := by decide +kernel
theorem dX8_read_95 : decode cX8_read 95 = .ok (.invokevirtual 175, 3) := by decide +kernel
theorem dX8_read_98 : decode cX8_read 98 = .ok (.ifCond .ge 9, 3) := by decide +kernel
theorem dX8_read_101 : decode cX8_read 101 = .ok (.sipush (-1000), 3) := by decide +kernel
theorem dX8_read_104 : decode cX8_read 104 = .ok (.iload_n 1, 1) := by decide +kernel
theorem dX8_read_105 : decode cX8_read 105 = .ok (.isub, 1) := by decide +kernel
theorem dX8_read_106 : decode cX8_read 106 = .ok (.ireturn, 1) := by decide +kernel
theorem dX8_read_107 : decode cX8_read 107 = .ok (.iinc 1 1, 3) := by decide +kernel
theorem dX8_read_110 : decode cX8_read 110 = .ok (.goto (-25), 3) := by decide +kernel
theorem dX8_read_113 : decode cX8_read 113 = .ok (.aload_n 0, 1) := by decide +kernel
theorem dX8_read_114 : decode cX8_read 114 = .ok (.sipush 600, 3) := by decide +kernel
theorem dX8_read_117 : decode cX8_read 117 = .ok (.iconst 0, 1) := by decide +kernel
theorem dX8_read_118 : decode cX8_read 118 = .ok (.invokevirtual 178, 3) := by decide +kernel
theorem dX8_read_121 : decode cX8_read 121 = .ok (.aload_n 0, 1) := by decide +kernel
theorem dX8_read_122 : decode cX8_read 122 = .ok (.getfield 162, 3) := by decide +kernel
theorem dX8_read_125 : decode cX8_read 125 = .ok (.ireturn, 1) := by decide +kernel
theorem dX8_beginNow_0 : decode cX8_beginNow 0 = .ok (.iconst 0, 1) := by decide +kernel
theorem dX8_beginNow_1 : decode cX8_beginNow 1 = .ok (.istore_n 1, 1) := by decide +kernel
theorem dX8_beginNow_2 : decode cX8_beginNow 2 = .ok (.iload_n 1, 1) := by decide +kernel
theorem dX8_beginNow_3 : decode cX8_beginNow 3 = .ok (.iconst 5, 1) := by decide +kernel
theorem dX8_beginNow_4 : decode cX8_beginNow 4 = .ok (.if_icmp .ge 39, 3) := by decide +kernel
theorem dX8_beginNow_7 : decode cX8_beginNow 7 = .ok (.aload_n 0, 1) := by decide +kernel
theorem dX8_beginNow_8 : decode cX8_beginNow 8 = .ok (.getfield 29, 3) := by decide +kernel
theorem dX8_beginNow_11 : decode cX8_beginNow 11 = .ok (.iload_n 1, 1) := by decide +kernel
theorem dX8_beginNow_12 : decode cX8_beginNow 12 = .ok (.aload_n 0, 1) := by decide +kernel
theorem dX8_beginNow_13 : decode cX8_beginNow 13 = .ok (.getfield 7, 3) := by decide +kernel
theorem dX8_beginNow_16 : decode cX8_beginNow 16 = .ok (.bipush 31, 2) := by decide +kernel
theorem dX8_beginNow_18 : decode cX8_beginNow 18 = .ok (.iload_n 1, 1) := by decide +kernel
theorem dX8_beginNow_19 : decode cX8_beginNow 19 = .ok (.iadd, 1) := by decide +kernel
theorem dX8_beginNow_20 : decode cX8_beginNow 20 = .ok (.iaload, 1) := by decide +kernel
theorem dX8_beginNow_21 : decode cX8_beginNow 21 = .ok (.iastore, 1) := by decide +kernel
theorem dX8_beginNow_22 : decode cX8_beginNow 22 = .ok (.aload_n 0, 1) := by decide +kernel
theorem dX8_beginNow_23 : decode cX8_beginNow 23 = .ok (.getfield 32, 3) := by decide +kernel
theorem dX8_beginNow_26 : decode cX8_beginNow 26 = .ok (.iload_n 1, 1) := by decide +kernel
theorem dX8_beginNow_27 : decode cX8_beginNow 27 = .ok (.aload_n 0, 1) := by decide +kernel
theorem dX8_beginNow_28 : decode cX8_beginNow 28 = .ok (.getfield 7, 3) := by decide +kernel
theorem dX8_beginNow_31 : decode cX8_beginNow 31 = .ok (.bipush 36, 2) := by decide +kernel
theorem dX8_beginNow_33 : decode cX8_beginNow 33 = .ok (.iload_n 1, 1) := by decide +kernel
theorem dX8_beginNow_34 : decode cX8_beginNow 34 = .ok (.iadd, 1) := by decide +kernel
theorem dX8_beginNow_35 : decode cX8_beginNow 35 = .ok (.iaload, 1) := by decide +kernel
theorem dX8_beginNow_36 : decode cX8_beginNow 36 = .ok (.iastore, 1) := by decide +kernel
theorem dX8_beginNow_37 : decode cX8_beginNow 37 = .ok (.iinc 1 1, 3) := by decide +kernel
theorem dX8_beginNow_40 : decode cX8_beginNow 40 = .ok (.goto (-38), 3) := by decide +kernel
theorem dX8_beginNow_43 : decode cX8_beginNow 43 = .ok (.return_, 1) := by decide +kernel
theorem dX8_readsBy_0 : decode cX8_readsBy 0 = .ok (.iload_n 2, 1) := by decide +kernel
theorem dX8_readsBy_1 : decode cX8_readsBy 1 = .ok (.iconst 4, 1) := by decide +kernel
theorem dX8_readsBy_2 : decode cX8_readsBy 2 = .ok (.idiv, 1) := by decide +kernel
theorem dX8_readsBy_3 : decode cX8_readsBy 3 = .ok (.istore 4, 2) := by decide +kernel
theorem dX8_readsBy_5 : decode cX8_readsBy 5 = .ok (.iload 4, 2) := by decide +kernel
theorem dX8_readsBy_7 : decode cX8_readsBy 7 = .ok (.istore 5, 2) := by decide +kernel
theorem dX8_readsBy_9 : decode cX8_readsBy 9 = .ok (.aload_n 0, 1) := by decide +kernel
theorem dX8_readsBy_10 : decode cX8_readsBy 10 = .ok (.getfield 7, 3) := by decide +kernel
theorem dX8_readsBy_13 : decode cX8_readsBy 13 = .ok (.bipush 11, 2) := by decide +kernel
theorem dX8_readsBy_15 : decode cX8_readsBy 15 = .ok (.iload_n 1, 1) := by decide +kernel
theorem dX8_readsBy_16 : decode cX8_readsBy 16 = .ok (.iadd, 1) := by decide +kernel
theorem dX8_readsBy_17 : decode cX8_readsBy 17 = .ok (.iaload, 1) := by decide +kernel
theorem dX8_readsBy_18 : decode cX8_readsBy 18 = .ok (.tableswitch 138 1 5 #[34, 54, 43, 72, 98], 34) := by decide +kernel
theorem dX8_readsBy_52 : decode cX8_readsBy 52 = .ok (.iload 4, 2) := by decide +kernel
theorem dX8_readsBy_54 : decode cX8_readsBy 54 = .ok (.iconst 1, 1) := by decide +kernel
theorem dX8_readsBy_55 : decode cX8_readsBy 55 = .ok (.isub, 1) := by decide +kernel
theorem dX8_readsBy_56 : decode cX8_readsBy 56 = .ok (.istore 5, 2) := by decide +kernel
theorem dX8_readsBy_58 : decode cX8_readsBy 58 = .ok (.goto 98, 3) := by decide +kernel
theorem dX8_readsBy_61 : decode cX8_readsBy 61 = .ok (.iload 4, 2) := by decide +kernel
theorem dX8_readsBy_63 : decode cX8_readsBy 63 = .ok (.iconst 1, 1) := by decide +kernel
theorem dX8_readsBy_64 : decode cX8_readsBy 64 = .ok (.isub, 1) := by decide +kernel
theorem dX8_readsBy_65 : decode cX8_readsBy 65 = .ok (.iconst 2, 1) := by decide +kernel
theorem dX8_readsBy_66 : decode cX8_readsBy 66 = .ok (.idiv, 1) := by decide +kernel
theorem dX8_readsBy_67 : decode cX8_readsBy 67 = .ok (.istore 5, 2) := by decide +kernel
theorem dX8_readsBy_69 : decode cX8_readsBy 69 = .ok (.goto 87, 3) := by decide +kernel
theorem dX8_readsBy_72 : decode cX8_readsBy 72 = .ok (.iload_n 2, 1) := by decide +kernel
theorem dX8_readsBy_73 : decode cX8_readsBy 73 = .ok (.ifCond .le 10, 3) := by decide +kernel
theorem dX8_readsBy_76 : decode cX8_readsBy 76 = .ok (.iload 4, 2) := by decide +kernel
theorem dX8_readsBy_78 : decode cX8_readsBy 78 = .ok (.iconst 1, 1) := by decide +kernel
theorem dX8_readsBy_79 : decode cX8_readsBy 79 = .ok (.iadd, 1) := by decide +kernel
theorem dX8_readsBy_80 : decode cX8_readsBy 80 = .ok (.goto 5, 3) := by decide +kernel
theorem dX8_readsBy_83 : decode cX8_readsBy 83 = .ok (.iload 4, 2) := by decide +kernel
theorem dX8_readsBy_85 : decode cX8_readsBy 85 = .ok (.istore 5, 2) := by decide +kernel
theorem dX8_readsBy_87 : decode cX8_readsBy 87 = .ok (.goto 69, 3) := by decide +kernel
theorem dX8_readsBy_90 : decode cX8_readsBy 90 = .ok (.iload_n 2, 1) := by decide +kernel
theorem dX8_readsBy_91 : decode cX8_readsBy 91 = .ok (.ifCond .le 10, 3) := by decide +kernel
theorem dX8_readsBy_94 : decode cX8_readsBy 94 = .ok (.iload 4, 2) := by decide +kernel
theorem dX8_readsBy_96 : decode cX8_readsBy 96 = .ok (.iconst 1, 1) := by decide +kernel
theorem dX8_readsBy_97 : decode cX8_readsBy 97 = .ok (.iadd, 1) := by decide +kernel
theorem dX8_readsBy_98 : decode cX8_readsBy 98 = .ok (.goto 13, 3) := by decide +kernel
theorem dX8_readsBy_101 : decode cX8_readsBy 101 = .ok (.aload_n 0, 1) := by decide +kernel
theorem dX8_readsBy_102 : decode cX8_readsBy 102 = .ok (.getfield 32, 3) := by decide +kernel
theorem dX8_readsBy_105 : decode cX8_readsBy 105 = .ok (.iconst 5, 1) := by decide +kernel
theorem dX8_readsBy_106 : decode cX8_readsBy 106 = .ok (.iload_n 3, 1) := by decide +kernel
theorem dX8_readsBy_107 : decode cX8_readsBy 107 = .ok (.imul, 1) := by decide +kernel
theorem dX8_readsBy_108 : decode cX8_readsBy 108 = .ok (.iload_n 1, 1) := by decide +kernel
theorem dX8_readsBy_109 : decode cX8_readsBy 109 = .ok (.iadd, 1) := by decide +kernel
theorem dX8_readsBy_110 : decode cX8_readsBy 110 = .ok (.iaload, 1) := by decide +kernel
theorem dX8_readsBy_111 : decode cX8_readsBy 111 = .ok (.istore 5, 2) := by decide +kernel
theorem dX8_readsBy_113 : decode cX8_readsBy 113 = .ok (.goto 43, 3) := by decide +kernel
theorem dX8_readsBy_116 : decode cX8_readsBy 116 = .ok (.iconst 0, 1) := by decide +kernel
theorem dX8_readsBy_117 : decode cX8_readsBy 117 = .ok (.istore 6, 2) := by decide +kernel
theorem dX8_readsBy_119 : decode cX8_readsBy 119 = .ok (.iload 6, 2) := by decide +kernel
theorem dX8_readsBy_121 : decode cX8_readsBy 121 = .ok (.iload_n 1, 1) := by decide +kernel
theorem dX8_readsBy_122 : decode cX8_readsBy 122 = .ok (.if_icmp .ge 31, 3) := by decide +kernel
theorem dX8_readsBy_125 : decode cX8_readsBy 125 = .ok (.aload_n 0, 1) := by decide +kernel
theorem dX8_readsBy_126 : decode cX8_readsBy 126 = .ok (.getfield 29, 3) := by decide +kernel
theorem dX8_readsBy_129 : decode cX8_readsBy 129 = .ok (.iconst 5, 1) := by decide +kernel
theorem dX8_readsBy_130 : decode cX8_readsBy 130 = .ok (.iload_n 3, 1) := by decide +kernel
theorem dX8_readsBy_131 : decode cX8_readsBy 131 = .ok (.imul, 1) := by decide +kernel
theorem dX8_readsBy_132 : decode cX8_readsBy 132 = .ok (.iload 6, 2) := by decide +kernel
theorem dX8_readsBy_134 : decode cX8_readsBy 134 = .ok (.iadd, 1) := by decide +kernel
theorem dX8_readsBy_135 : decode cX8_readsBy 135 = .ok (.iaload, 1) := by decide +kernel
theorem dX8_readsBy_136 : decode cX8_readsBy 136 = .ok (.ifCond .le 7, 3) := by decide +kernel
theorem dX8_readsBy_139 : decode cX8_readsBy 139 = .ok (.iconst 0, 1) := by decide +kernel
theorem dX8_readsBy_140 : decode cX8_readsBy 140 = .ok (.goto 5, 3) := by decide +kernel
theorem dX8_readsBy_143 : decode cX8_readsBy 143 = .ok (.iload 5, 2) := by decide +kernel
theorem dX8_readsBy_145 : decode cX8_readsBy 145 = .ok (.istore 5, 2) := by decide +kernel
theorem dX8_readsBy_147 : decode cX8_readsBy 147 = .ok (.iinc 6 1, 3) := by decide +kernel
theorem dX8_readsBy_150 : decode cX8_readsBy 150 = .ok (.goto (-31), 3) := by decide +kernel
theorem dX8_readsBy_153 : decode cX8_readsBy 153 = .ok (.goto 3, 3) := by decide +kernel
theorem dX8_readsBy_156 : decode cX8_readsBy 156 = .ok (.iconst 0, 1) := by decide +kernel
theorem dX8_readsBy_157 : decode cX8_readsBy 157 = .ok (.iload 5, 2) := by decide +kernel
theorem dX8_readsBy_159 : decode cX8_readsBy 159 = .ok (.invokestatic 107, 3) := by decide +kernel
theorem dX8_readsBy_162 : decode cX8_readsBy 162 = .ok (.aload_n 0, 1) := by decide +kernel
theorem dX8_readsBy_163 : decode cX8_readsBy 163 = .ok (.getfield 29, 3) := by decide +kernel
theorem dX8_readsBy_166 : decode cX8_readsBy 166 = .ok (.iconst 5, 1) := by decide +kernel
theorem dX8_readsBy_167 : decode cX8_readsBy 167 = .ok (.iload_n 3, 1) := by decide +kernel
theorem dX8_readsBy_168 : decode cX8_readsBy 168 = .ok (.imul, 1) := by decide +kernel
theorem dX8_readsBy_169 : decode cX8_readsBy 169 = .ok (.iload_n 1, 1) := by decide +kernel
theorem dX8_readsBy_170 : decode cX8_readsBy 170 = .ok (.iadd, 1) := by decide +kernel
theorem dX8_readsBy_171 : decode cX8_readsBy 171 = .ok (.iaload, 1) := by decide +kernel
theorem dX8_readsBy_172 : decode cX8_readsBy 172 = .ok (.invokestatic 110, 3) := by decide +kernel
theorem dX8_readsBy_175 : decode cX8_readsBy 175 = .ok (.ireturn, 1) := by decide +kernel
theorem dX8_minute_0 : decode cX8_minute 0 = .ok (.iconst 0, 1) := by decide +kernel
theorem dX8_minute_1 : decode cX8_minute 1 = .ok (.istore 4, 2) := by decide +kernel
theorem dX8_minute_3 : decode cX8_minute 3 = .ok (.aload_n 0, 1) := by decide +kernel
theorem dX8_minute_4 : decode cX8_minute 4 = .ok (.iconst 0, 1) := by decide +kernel
theorem dX8_minute_5 : decode cX8_minute 5 = .ok (.putfield 182, 3) := by decide +kernel
theorem dX8_minute_8 : decode cX8_minute 8 = .ok (.iconst 0, 1) := by decide +kernel
theorem dX8_minute_9 : decode cX8_minute 9 = .ok (.istore 5, 2) := by decide +kernel
theorem dX8_minute_11 : decode cX8_minute 11 = .ok (.iload 5, 2) := by decide +kernel
theorem dX8_minute_13 : decode cX8_minute 13 = .ok (.aload_n 0, 1) := by decide +kernel
theorem dX8_minute_14 : decode cX8_minute 14 = .ok (.getfield 7, 3) := by decide +kernel
theorem dX8_minute_17 : decode cX8_minute 17 = .ok (.iconst 5, 1) := by decide +kernel
theorem dX8_minute_18 : decode cX8_minute 18 = .ok (.iaload, 1) := by decide +kernel
theorem dX8_minute_19 : decode cX8_minute 19 = .ok (.if_icmp .ge 163, 3) := by decide +kernel
theorem dX8_minute_22 : decode cX8_minute 22 = .ok (.iload_n 2, 1) := by decide +kernel
theorem dX8_minute_23 : decode cX8_minute 23 = .ok (.ifCond .ge 7, 3) := by decide +kernel
theorem dX8_minute_26 : decode cX8_minute 26 = .ok (.iconst 0, 1) := by decide +kernel
theorem dX8_minute_27 : decode cX8_minute 27 = .ok (.goto 18, 3) := by decide +kernel
theorem dX8_minute_30 : decode cX8_minute 30 = .ok (.aload_n 0, 1) := by decide +kernel
theorem dX8_minute_31 : decode cX8_minute 31 = .ok (.aload_n 0, 1) := by decide +kernel
theorem dX8_minute_32 : decode cX8_minute 32 = .ok (.getfield 7, 3) := by decide +kernel
theorem dX8_minute_35 : decode cX8_minute 35 = .ok (.bipush 6, 2) := by decide +kernel
theorem dX8_minute_37 : decode cX8_minute 37 = .ok (.iload 5, 2) := by decide +kernel
theorem dX8_minute_39 : decode cX8_minute 39 = .ok (.iadd, 1) := by decide +kernel
theorem dX8_minute_40 : decode cX8_minute 40 = .ok (.iaload, 1) := by decide +kernel
theorem dX8_minute_41 : decode cX8_minute 41 = .ok (.iload_n 2, 1) := by decide +kernel
theorem dX8_minute_42 : decode cX8_minute 42 = .ok (.invokevirtual 113, 3) := by decide +kernel
theorem dX8_minute_45 : decode cX8_minute 45 = .ok (.istore 6, 2) := by decide +kernel
theorem dX8_minute_47 : decode cX8_minute 47 = .ok (.iload_n 3, 1) := by decide +kernel
theorem dX8_minute_48 : decode cX8_minute 48 = .ok (.ifCond .ge 8, 3) := by decide +kernel
theorem dX8_minute_51 : decode cX8_minute 51 = .ok (.iload 6, 2) := by decide +kernel
theorem dX8_minute_53 : decode cX8_minute 53 = .ok (.goto 26, 3) := by decide +kernel
theorem dX8_minute_56 : decode cX8_minute 56 = .ok (.bipush 12, 2) := by decide +kernel
theorem dX8_minute_58 : decode cX8_minute 58 = .ok (.iload 6, 2) := by decide +kernel
theorem dX8_minute_60 : decode cX8_minute 60 = .ok (.aload_n 0, 1) := by decide +kernel
theorem dX8_minute_61 : decode cX8_minute 61 = .ok (.aload_n 0, 1) := by decide +kernel
theorem dX8_minute_62 : decode cX8_minute 62 = .ok (.getfield 7, 3) := by decide +kernel
theorem dX8_minute_65 : decode cX8_minute 65 = .ok (.bipush 6, 2) := by decide +kernel
theorem dX8_minute_67 : decode cX8_minute 67 = .ok (.iload 5, 2) := by decide +kernel
theorem dX8_minute_69 : decode cX8_minute 69 = .ok (.iadd, 1) := by decide +kernel
theorem dX8_minute_70 : decode cX8_minute 70 = .ok (.iaload, 1) := by decide +kernel
theorem dX8_minute_71 : decode cX8_minute 71 = .ok (.iload_n 3, 1) := by decide +kernel
theorem dX8_minute_72 : decode cX8_minute 72 = .ok (.invokevirtual 113, 3) := by decide +kernel
theorem dX8_minute_75 : decode cX8_minute 75 = .ok (.iadd, 1) := by decide +kernel
theorem dX8_minute_76 : decode cX8_minute 76 = .ok (.invokestatic 110, 3) := by decide +kernel
theorem dX8_minute_79 : decode cX8_minute 79 = .ok (.istore 6, 2) := by decide +kernel
theorem dX8_minute_81 : decode cX8_minute 81 = .ok (.aload_n 0, 1) := by decide +kernel
theorem dX8_minute_82 : decode cX8_minute 82 = .ok (.iload 5, 2) := by decide +kernel
theorem dX8_minute_84 : decode cX8_minute 84 = .ok (.iload 6, 2) := by decide +kernel
theorem dX8_minute_86 : decode cX8_minute 86 = .ok (.iload_n 1, 1) := by decide +kernel
theorem dX8_minute_87 : decode cX8_minute 87 = .ok (.invokevirtual 185, 3) := by decide +kernel
theorem dX8_minute_90 : decode cX8_minute 90 = .ok (.istore 7, 2) := by decide +kernel
theorem dX8_minute_92 : decode cX8_minute 92 = .ok (.aload_n 0, 1) := by decide +kernel
theorem dX8_minute_93 : decode cX8_minute 93 = .ok (.getfield 29, 3) := by decide +kernel
theorem dX8_minute_96 : decode cX8_minute 96 = .ok (.iconst 5, 1) := by decide +kernel
theorem dX8_minute_97 : decode cX8_minute 97 = .ok (.iload_n 1, 1) := by decide +kernel
theorem dX8_minute_98 : decode cX8_minute 98 = .ok (.imul, 1) := by decide +kernel
theorem dX8_minute_99 : decode cX8_minute 99 = .ok (.iconst 5, 1) := by decide +kernel
theorem dX8_minute_100 : decode cX8_minute 100 = .ok (.iadd, 1) := by decide +kernel
theorem dX8_minute_101 : decode cX8_minute 101 = .ok (.iload 5, 2) := by decide +kernel
theorem dX8_minute_103 : decode cX8_minute 103 = .ok (.iadd, 1) := by decide +kernel
theorem dX8_minute_104 : decode cX8_minute 104 = .ok (.aload_n 0, 1) := by decide +kernel
theorem dX8_minute_105 : decode cX8_minute 105 = .ok (.getfield 29, 3) := by decide +kernel
theorem dX8_minute_108 : decode cX8_minute 108 = .ok (.iconst 5, 1) := by decide +kernel
theorem dX8_minute_109 : decode cX8_minute 109 = .ok (.iload_n 1, 1) := by decide +kernel
theorem dX8_minute_110 : decode cX8_minute 110 = .ok (.imul, 1) := by decide +kernel
theorem dX8_minute_111 : decode cX8_minute 111 = .ok (.iload 5, 2) := by decide +kernel
theorem dX8_minute_113 : decode cX8_minute 113 = .ok (.iadd, 1) := by decide +kernel
theorem dX8_minute_114 : decode cX8_minute 114 = .ok (.iaload, 1) := by decide +kernel
theorem dX8_minute_115 : decode cX8_minute 115 = .ok (.iload 7, 2) := by decide +kernel
theorem dX8_minute_117 : decode cX8_minute 117 = .ok (.isub, 1) := by decide +kernel
theorem dX8_minute_118 : decode cX8_minute 118 = .ok (.iastore, 1) := by decide +kernel
theorem dX8_minute_119 : decode cX8_minute 119 = .ok (.aload_n 0, 1) := by decide +kernel
theorem dX8_minute_120 : decode cX8_minute 120 = .ok (.getfield 32, 3) := by decide +kernel
theorem dX8_minute_123 : decode cX8_minute 123 = .ok (.iconst 5, 1) := by decide +kernel
theorem dX8_minute_124 : decode cX8_minute 124 = .ok (.iload_n 1, 1) := by decide +kernel
theorem dX8_minute_125 : decode cX8_minute 125 = .ok (.imul, 1) := by decide +kernel
theorem dX8_minute_126 : decode cX8_minute 126 = .ok (.iconst 5, 1) := by decide +kernel
theorem dX8_minute_127 : decode cX8_minute 127 = .ok (.iadd, 1) := by decide +kernel
theorem dX8_minute_128 : decode cX8_minute 128 = .ok (.iload 5, 2) := by decide +kernel
theorem dX8_minute_130 : decode cX8_minute 130 = .ok (.iadd, 1) := by decide +kernel
theorem dX8_minute_131 : decode cX8_minute 131 = .ok (.iload 6, 2) := by decide +kernel
theorem dX8_minute_133 : decode cX8_minute 133 = .ok (.ifCond .le 12, 3) := by decide +kernel
theorem dX8_minute_136 : decode cX8_minute 136 = .ok (.iload 7, 2) := by decide +kernel
theorem dX8_minute_138 : decode cX8_minute 138 = .ok (.ifCond .le 7, 3) := by decide +kernel
theorem dX8_minute_141 : decode cX8_minute 141 = .ok (.iconst 1, 1) := by decide +kernel
theorem dX8_minute_142 : decode cX8_minute 142 = .ok (.goto 4, 3) := by decide +kernel
theorem dX8_minute_145 : decode cX8_minute 145 = .ok (.iconst 0, 1) := by decide +kernel
theorem dX8_minute_146 : decode cX8_minute 146 = .ok (.iastore, 1) := by decide +kernel
theorem dX8_minute_147 : decode cX8_minute 147 = .ok (.iload 4, 2) := by decide +kernel
theorem dX8_minute_149 : decode cX8_minute 149 = .ok (.iload 7, 2) := by decide +kernel
theorem dX8_minute_151 : decode cX8_minute 151 = .ok (.aload_n 0, 1) := by decide +kernel
theorem dX8_minute_152 : decode cX8_minute 152 = .ok (.getfield 7, 3) := by decide +kernel
theorem dX8_minute_155 : decode cX8_minute 155 = .ok (.bipush 21, 2) := by decide +kernel
theorem dX8_minute_157 : decode cX8_minute 157 = .ok (.iload 5, 2) := by decide +kernel
theorem dX8_minute_159 : decode cX8_minute 159 = .ok (.iadd, 1) := by decide +kernel
theorem dX8_minute_160 : decode cX8_minute 160 = .ok (.iaload, 1) := by decide +kernel
theorem dX8_minute_161 : decode cX8_minute 161 = .ok (.imul, 1) := by decide +kernel
theorem dX8_minute_162 : decode cX8_minute 162 = .ok (.iadd, 1) := by decide +kernel
theorem dX8_minute_163 : decode cX8_minute 163 = .ok (.istore 4, 2) := by decide +kernel
theorem dX8_minute_165 : decode cX8_minute 165 = .ok (.aload_n 0, 1) := by decide +kernel
theorem dX8_minute_166 : decode cX8_minute 166 = .ok (.dup, 1) := by decide +kernel
theorem dX8_minute_167 : decode cX8_minute 167 = .ok (.getfield 182, 3) := by decide +kernel
theorem dX8_minute_170 : decode cX8_minute 170 = .ok (.iload 7, 2) := by decide +kernel
theorem dX8_minute_172 : decode cX8_minute 172 = .ok (.iadd, 1) := by decide +kernel
theorem dX8_minute_173 : decode cX8_minute 173 = .ok (.putfield 182, 3) := by decide +kernel
theorem dX8_minute_176 : decode cX8_minute 176 = .ok (.iinc 5 1, 3) := by decide +kernel
theorem dX8_minute_179 : decode cX8_minute 179 = .ok (.goto (-168), 3) := by decide +kernel
theorem dX8_minute_182 : decode cX8_minute 182 = .ok (.iload 4, 2) := by decide +kernel
theorem dX8_minute_184 : decode cX8_minute 184 = .ok (.ireturn, 1) := by decide +kernel
theorem dX8_isBeside_0 : decode cX8_isBeside 0 = .ok (.iload_n 1, 1) := by decide +kernel
theorem dX8_isBeside_1 : decode cX8_isBeside 1 = .ok (.aload_n 0, 1) := by decide +kernel
theorem dX8_isBeside_2 : decode cX8_isBeside 2 = .ok (.getfield 7, 3) := by decide +kernel
theorem dX8_isBeside_5 : decode cX8_isBeside 5 = .ok (.iconst 0, 1) := by decide +kernel
theorem dX8_isBeside_6 : decode cX8_isBeside 6 = .ok (.iaload, 1) := by decide +kernel
theorem dX8_isBeside_7 : decode cX8_isBeside 7 = .ok (.irem, 1) := by decide +kernel
theorem dX8_isBeside_8 : decode cX8_isBeside 8 = .ok (.iload_n 2, 1) := by decide +kernel
theorem dX8_isBeside_9 : decode cX8_isBeside 9 = .ok (.aload_n 0, 1) := by decide +kernel
theorem dX8_isBeside_10 : decode cX8_isBeside 10 = .ok (.getfield 7, 3) := by decide +kernel
theorem dX8_isBeside_13 : decode cX8_isBeside 13 = .ok (.iconst 0, 1) := by decide +kernel
theorem dX8_isBeside_14 : decode cX8_isBeside 14 = .ok (.iaload, 1) := by decide +kernel
theorem dX8_isBeside_15 : decode cX8_isBeside 15 = .ok (.irem, 1) := by decide +kernel
theorem dX8_isBeside_16 : decode cX8_isBeside 16 = .ok (.isub, 1) := by decide +kernel
theorem dX8_isBeside_17 : decode cX8_isBeside 17 = .ok (.invokestatic 104, 3) := by decide +kernel
theorem dX8_isBeside_20 : decode cX8_isBeside 20 = .ok (.iload_n 1, 1) := by decide +kernel
theorem dX8_isBeside_21 : decode cX8_isBeside 21 = .ok (.aload_n 0, 1) := by decide +kernel
theorem dX8_isBeside_22 : decode cX8_isBeside 22 = .ok (.getfield 7, 3) := by decide +kernel
theorem dX8_isBeside_25 : decode cX8_isBeside 25 = .ok (.iconst 0, 1) := by decide +kernel
theorem dX8_isBeside_26 : decode cX8_isBeside 26 = .ok (.iaload, 1) := by decide +kernel
theorem dX8_isBeside_27 : decode cX8_isBeside 27 = .ok (.idiv, 1) := by decide +kernel
theorem dX8_isBeside_28 : decode cX8_isBeside 28 = .ok (.iload_n 2, 1) := by decide +kernel
theorem dX8_isBeside_29 : decode cX8_isBeside 29 = .ok (.aload_n 0, 1) := by decide +kernel
theorem dX8_isBeside_30 : decode cX8_isBeside 30 = .ok (.getfield 7, 3) := by decide +kernel
theorem dX8_isBeside_33 : decode cX8_isBeside 33 = .ok (.iconst 0, 1) := by decide +kernel
theorem dX8_isBeside_34 : decode cX8_isBeside 34 = .ok (.iaload, 1) := by decide +kernel
theorem dX8_isBeside_35 : decode cX8_isBeside 35 = .ok (.idiv, 1) := by decide +kernel
theorem dX8_isBeside_36 : decode cX8_isBeside 36 = .ok (.isub, 1) := by decide +kernel
theorem dX8_isBeside_37 : decode cX8_isBeside 37 = .ok (.invokestatic 104, 3) := by decide +kernel
theorem dX8_isBeside_40 : decode cX8_isBeside 40 = .ok (.iadd, 1) := by decide +kernel
theorem dX8_isBeside_41 : decode cX8_isBeside 41 = .ok (.iconst 2, 1) := by decide +kernel
theorem dX8_isBeside_42 : decode cX8_isBeside 42 = .ok (.if_icmp .ge 20, 3) := by decide +kernel
theorem dX8_isBeside_45 : decode cX8_isBeside 45 = .ok (.aload_n 0, 1) := by decide +kernel
theorem dX8_isBeside_46 : decode cX8_isBeside 46 = .ok (.getfield 7, 3) := by decide +kernel
theorem dX8_isBeside_49 : decode cX8_isBeside 49 = .ok (.iconst 4, 1) := by decide +kernel
theorem dX8_isBeside_50 : decode cX8_isBeside 50 = .ok (.iaload, 1) := by decide +kernel
theorem dX8_isBeside_51 : decode cX8_isBeside 51 = .ok (.iload_n 2, 1) := by decide +kernel
theorem dX8_isBeside_52 : decode cX8_isBeside 52 = .ok (.invokestatic 64, 3) := by decide +kernel
theorem dX8_isBeside_55 : decode cX8_isBeside 55 = .ok (.ifCond .ne 7, 3) := by decide +kernel
theorem dX8_isBeside_58 : decode cX8_isBeside 58 = .ok (.iconst 1, 1) := by decide +kernel
theorem dX8_isBeside_59 : decode cX8_isBeside 59 = .ok (.goto 4, 3) := by decide +kernel
theorem dX8_isBeside_62 : decode cX8_isBeside 62 = .ok (.iconst 0, 1) := by decide +kernel
theorem dX8_isBeside_63 : decode cX8_isBeside 63 = .ok (.ireturn, 1) := by decide +kernel
theorem dX8_minds_0 : decode cX8_minds 0 = .ok (.aload_n 0, 1) := by decide +kernel
theorem dX8_minds_1 : decode cX8_minds 1 = .ok (.getfield 7, 3) := by decide +kernel
theorem dX8_minds_4 : decode cX8_minds 4 = .ok (.bipush 46, 2) := by decide +kernel
theorem dX8_minds_6 : decode cX8_minds 6 = .ok (.iaload, 1) := by decide +kernel
theorem dX8_minds_7 : decode cX8_minds 7 = .ok (.bipush 12, 2) := by decide +kernel
theorem dX8_minds_9 : decode cX8_minds 9 = .ok (.if_icmp .ne 50, 3) := by decide +kernel
theorem dX8_minds_12 : decode cX8_minds 12 = .ok (.iconst 0, 1) := by decide +kernel
theorem dX8_minds_13 : decode cX8_minds 13 = .ok (.istore_n 1, 1) := by decide +kernel
theorem dX8_minds_14 : decode cX8_minds 14 = .ok (.iload_n 1, 1) := by decide +kernel
theorem dX8_minds_15 : decode cX8_minds 15 = .ok (.sipush 132, 3) := by decide +kernel
theorem dX8_minds_18 : decode cX8_minds 18 = .ok (.if_icmp .ge 30, 3) := by decide +kernel
theorem dX8_minds_21 : decode cX8_minds 21 = .ok (.aload_n 0, 1) := by decide +kernel
theorem dX8_minds_22 : decode cX8_minds 22 = .ok (.getfield 7, 3) := by decide +kernel
theorem dX8_minds_25 : decode cX8_minds 25 = .ok (.bipush 47, 2) := by decide +kernel
theorem dX8_minds_27 : decode cX8_minds 27 = .ok (.iload_n 1, 1) := by decide +kernel
theorem dX8_minds_28 : decode cX8_minds 28 = .ok (.iadd, 1) := by decide +kernel
theorem dX8_minds_29 : decode cX8_minds 29 = .ok (.aload_n 0, 1) := by decide +kernel
theorem dX8_minds_30 : decode cX8_minds 30 = .ok (.getfield 7, 3) := by decide +kernel
theorem dX8_minds_33 : decode cX8_minds 33 = .ok (.bipush 47, 2) := by decide +kernel
theorem dX8_minds_35 : decode cX8_minds 35 = .ok (.iload_n 1, 1) := by decide +kernel
theorem dX8_minds_36 : decode cX8_minds 36 = .ok (.iadd, 1) := by decide +kernel
theorem dX8_minds_37 : decode cX8_minds 37 = .ok (.bipush 12, 2) := by decide +kernel
theorem dX8_minds_39 : decode cX8_minds 39 = .ok (.iadd, 1) := by decide +kernel
theorem dX8_minds_40 : decode cX8_minds 40 = .ok (.iaload, 1) := by decide +kernel
theorem dX8_minds_41 : decode cX8_minds 41 = .ok (.iastore, 1) := by decide +kernel
theorem dX8_minds_42 : decode cX8_minds 42 = .ok (.iinc 1 1, 3) := by decide +kernel
theorem dX8_minds_45 : decode cX8_minds 45 = .ok (.goto (-31), 3) := by decide +kernel
theorem dX8_minds_48 : decode cX8_minds 48 = .ok (.aload_n 0, 1) := by decide +kernel
theorem dX8_minds_49 : decode cX8_minds 49 = .ok (.getfield 7, 3) := by decide +kernel
theorem dX8_minds_52 : decode cX8_minds 52 = .ok (.bipush 46, 2) := by decide +kernel
theorem dX8_minds_54 : decode cX8_minds 54 = .ok (.dup2, 1) := by decide +kernel
theorem dX8_minds_55 : decode cX8_minds 55 = .ok (.iaload, 1) := by decide +kernel
theorem dX8_minds_56 : decode cX8_minds 56 = .ok (.iconst 1, 1) := by decide +kernel
theorem dX8_minds_57 : decode cX8_minds 57 = .ok (.isub, 1) := by decide +kernel
theorem dX8_minds_58 : decode cX8_minds 58 = .ok (.iastore, 1) := by decide +kernel
theorem dX8_minds_59 : decode cX8_minds 59 = .ok (.bipush 47, 2) := by decide +kernel
theorem dX8_minds_61 : decode cX8_minds 61 = .ok (.bipush 12, 2) := by decide +kernel
theorem dX8_minds_63 : decode cX8_minds 63 = .ok (.aload_n 0, 1) := by decide +kernel
theorem dX8_minds_64 : decode cX8_minds 64 = .ok (.getfield 7, 3) := by decide +kernel
theorem dX8_minds_67 : decode cX8_minds 67 = .ok (.bipush 46, 2) := by decide +kernel
theorem dX8_minds_69 : decode cX8_minds 69 = .ok (.iaload, 1) := by decide +kernel
theorem dX8_minds_70 : decode cX8_minds 70 = .ok (.imul, 1) := by decide +kernel
theorem dX8_minds_71 : decode cX8_minds 71 = .ok (.iadd, 1) := by decide +kernel
theorem dX8_minds_72 : decode cX8_minds 72 = .ok (.istore_n 1, 1) := by decide +kernel
theorem dX8_minds_73 : decode cX8_minds 73 = .ok (.aload_n 0, 1) := by decide +kernel
theorem dX8_minds_74 : decode cX8_minds 74 = .ok (.getfield 7, 3) := by decide +kernel
theorem dX8_minds_77 : decode cX8_minds 77 = .ok (.iload_n 1, 1) := by decide +kernel
theorem dX8_minds_78 : decode cX8_minds 78 = .ok (.aload_n 0, 1) := by decide +kernel
theorem dX8_minds_79 : decode cX8_minds 79 = .ok (.getfield 7, 3) := by decide +kernel
theorem dX8_minds_82 : decode cX8_minds 82 = .ok (.iconst 2, 1) := by decide +kernel
theorem dX8_minds_83 : decode cX8_minds 83 = .ok (.iaload, 1) := by decide +kernel
theorem dX8_minds_84 : decode cX8_minds 84 = .ok (.iastore, 1) := by decide +kernel
theorem dX8_minds_85 : decode cX8_minds 85 = .ok (.aload_n 0, 1) := by decide +kernel
theorem dX8_minds_86 : decode cX8_minds 86 = .ok (.getfield 7, 3) := by decide +kernel
theorem dX8_minds_89 : decode cX8_minds 89 = .ok (.iload_n 1, 1) := by decide +kernel
theorem dX8_minds_90 : decode cX8_minds 90 = .ok (.iconst 1, 1) := by decide +kernel
theorem dX8_minds_91 : decode cX8_minds 91 = .ok (.iadd, 1) := by decide +kernel
theorem dX8_minds_92 : decode cX8_minds 92 = .ok (.aload_n 0, 1) := by decide +kernel
theorem dX8_minds_93 : decode cX8_minds 93 = .ok (.getfield 7, 3) := by decide +kernel
theorem dX8_minds_96 : decode cX8_minds 96 = .ok (.iconst 3, 1) := by decide +kernel
theorem dX8_minds_97 : decode cX8_minds 97 = .ok (.iaload, 1) := by decide +kernel
theorem dX8_minds_98 : decode cX8_minds 98 = .ok (.iastore, 1) := by decide +kernel
theorem dX8_minds_99 : decode cX8_minds 99 = .ok (.iconst 0, 1) := by decide +kernel
theorem dX8_minds_100 : decode cX8_minds 100 = .ok (.istore_n 2, 1) := by decide +kernel
theorem dX8_minds_101 : decode cX8_minds 101 = .ok (.iload_n 2, 1) := by decide +kernel
theorem dX8_minds_102 : decode cX8_minds 102 = .ok (.iconst 5, 1) := by decide +kernel
theorem dX8_minds_103 : decode cX8_minds 103 = .ok (.if_icmp .ge 48, 3) := by decide +kernel
theorem dX8_minds_106 : decode cX8_minds 106 = .ok (.aload_n 0, 1) := by decide +kernel
theorem dX8_minds_107 : decode cX8_minds 107 = .ok (.getfield 7, 3) := by decide +kernel
theorem dX8_minds_110 : decode cX8_minds 110 = .ok (.iload_n 1, 1) := by decide +kernel
theorem dX8_minds_111 : decode cX8_minds 111 = .ok (.iconst 2, 1) := by decide +kernel
theorem dX8_minds_112 : decode cX8_minds 112 = .ok (.iadd, 1) := by decide +kernel
theorem dX8_minds_113 : decode cX8_minds 113 = .ok (.iload_n 2, 1) := by decide +kernel
theorem dX8_minds_114 : decode cX8_minds 114 = .ok (.iadd, 1) := by decide +kernel
theorem dX8_minds_115 : decode cX8_minds 115 = .ok (.aload_n 0, 1) := by decide +kernel
theorem dX8_minds_116 : decode cX8_minds 116 = .ok (.getfield 7, 3) := by decide +kernel
theorem dX8_minds_119 : decode cX8_minds 119 = .ok (.bipush 31, 2) := by decide +kernel
theorem dX8_minds_121 : decode cX8_minds 121 = .ok (.iload_n 2, 1) := by decide +kernel
theorem dX8_minds_122 : decode cX8_minds 122 = .ok (.iadd, 1) := by decide +kernel
theorem dX8_minds_123 : decode cX8_minds 123 = .ok (.iaload, 1) := by decide +kernel
theorem dX8_minds_124 : decode cX8_minds 124 = .ok (.iastore, 1) := by decide +kernel
theorem dX8_minds_125 : decode cX8_minds 125 = .ok (.aload_n 0, 1) := by decide +kernel
theorem dX8_minds_126 : decode cX8_minds 126 = .ok (.getfield 7, 3) := by decide +kernel
theorem dX8_minds_129 : decode cX8_minds 129 = .ok (.iload_n 1, 1) := by decide +kernel
theorem dX8_minds_130 : decode cX8_minds 130 = .ok (.bipush 7, 2) := by decide +kernel
theorem dX8_minds_132 : decode cX8_minds 132 = .ok (.iadd, 1) := by decide +kernel
theorem dX8_minds_133 : decode cX8_minds 133 = .ok (.iload_n 2, 1) := by decide +kernel
theorem dX8_minds_134 : decode cX8_minds 134 = .ok (.iadd, 1) := by decide +kernel
theorem dX8_minds_135 : decode cX8_minds 135 = .ok (.aload_n 0, 1) := by decide +kernel
theorem dX8_minds_136 : decode cX8_minds 136 = .ok (.getfield 7, 3) := by decide +kernel
theorem dX8_minds_139 : decode cX8_minds 139 = .ok (.bipush 36, 2) := by decide +kernel
theorem dX8_minds_141 : decode cX8_minds 141 = .ok (.iload_n 2, 1) := by decide +kernel
theorem dX8_minds_142 : decode cX8_minds 142 = .ok (.iadd, 1) := by decide +kernel
theorem dX8_minds_143 : decode cX8_minds 143 = .ok (.iaload, 1) := by decide +kernel
theorem dX8_minds_144 : decode cX8_minds 144 = .ok (.iastore, 1) := by decide +kernel
theorem dX8_minds_145 : decode cX8_minds 145 = .ok (.iinc 2 1, 3) := by decide +kernel
theorem dX8_minds_148 : decode cX8_minds 148 = .ok (.goto (-47), 3) := by decide +kernel
theorem dX8_minds_151 : decode cX8_minds 151 = .ok (.aload_n 0, 1) := by decide +kernel
theorem dX8_minds_152 : decode cX8_minds 152 = .ok (.getfield 7, 3) := by decide +kernel
theorem dX8_minds_155 : decode cX8_minds 155 = .ok (.bipush 46, 2) := by decide +kernel
theorem dX8_minds_157 : decode cX8_minds 157 = .ok (.dup2, 1) := by decide +kernel
theorem dX8_minds_158 : decode cX8_minds 158 = .ok (.iaload, 1) := by decide +kernel
theorem dX8_minds_159 : decode cX8_minds 159 = .ok (.iconst 1, 1) := by decide +kernel
theorem dX8_minds_160 : decode cX8_minds 160 = .ok (.iadd, 1) := by decide +kernel
theorem dX8_minds_161 : decode cX8_minds 161 = .ok (.iastore, 1) := by decide +kernel
theorem dX8_minds_162 : decode cX8_minds 162 = .ok (.return_, 1) := by decide +kernel
theorem dX8_burn_0 : decode cX8_burn 0 = .ok (.aload_n 0, 1) := by decide +kernel
theorem dX8_burn_1 : decode cX8_burn 1 = .ok (.iconst 0, 1) := by decide +kernel
theorem dX8_burn_2 : decode cX8_burn 2 = .ok (.iload_n 1, 1) := by decide +kernel
theorem dX8_burn_3 : decode cX8_burn 3 = .ok (.invokevirtual 60, 3) := by decide +kernel
theorem dX8_burn_6 : decode cX8_burn 6 = .ok (.ifCond .ne 10, 3) := by decide +kernel
theorem dX8_burn_9 : decode cX8_burn 9 = .ok (.aload_n 0, 1) := by decide +kernel
theorem dX8_burn_10 : decode cX8_burn 10 = .ok (.bipush (-2), 2) := by decide +kernel
theorem dX8_burn_12 : decode cX8_burn 12 = .ok (.invokevirtual 81, 3) := by decide +kernel
theorem dX8_burn_15 : decode cX8_burn 15 = .ok (.ireturn, 1) := by decide +kernel
theorem dX8_burn_16 : decode cX8_burn 16 = .ok (.aload_n 0, 1) := by decide +kernel
theorem dX8_burn_17 : decode cX8_burn 17 = .ok (.aload_n 0, 1) := by decide +kernel
theorem dX8_burn_18 : decode cX8_burn 18 = .ok (.getfield 7, 3) := by decide +kernel
theorem dX8_burn_21 : decode cX8_burn 21 = .ok (.iconst 2, 1) := by decide +kernel
theorem dX8_burn_22 : decode cX8_burn 22 = .ok (.iaload, 1) := by decide +kernel
theorem dX8_burn_23 : decode cX8_burn 23 = .ok (.iload_n 1, 1) := by decide +kernel
theorem dX8_burn_24 : decode cX8_burn 24 = .ok (.invokevirtual 188, 3) := by decide +kernel
theorem dX8_burn_27 : decode cX8_burn 27 = .ok (.ifCond .ne 10, 3) := by decide +kernel
theorem dX8_burn_30 : decode cX8_burn 30 = .ok (.aload_n 0, 1) := by decide +kernel
theorem dX8_burn_31 : decode cX8_burn 31 = .ok (.bipush (-3), 2) := by decide +kernel
theorem dX8_burn_33 : decode cX8_burn 33 = .ok (.invokevirtual 81, 3) := by decide +kernel
theorem dX8_burn_36 : decode cX8_burn 36 = .ok (.ireturn, 1) := by decide +kernel
theorem dX8_burn_37 : decode cX8_burn 37 = .ok (.aload_n 0, 1) := by decide +kernel
theorem dX8_burn_38 : decode cX8_burn 38 = .ok (.invokevirtual 191, 3) := by decide +kernel
theorem dX8_burn_41 : decode cX8_burn 41 = .ok (.aload_n 0, 1) := by decide +kernel
theorem dX8_burn_42 : decode cX8_burn 42 = .ok (.getfield 7, 3) := by decide +kernel
theorem dX8_burn_45 : decode cX8_burn 45 = .ok (.iconst 2, 1) := by decide +kernel
theorem dX8_burn_46 : decode cX8_burn 46 = .ok (.iload_n 1, 1) := by decide +kernel
theorem dX8_burn_47 : decode cX8_burn 47 = .ok (.iastore, 1) := by decide +kernel
theorem dX8_burn_48 : decode cX8_burn 48 = .ok (.aload_n 0, 1) := by decide +kernel
theorem dX8_burn_49 : decode cX8_burn 49 = .ok (.invokevirtual 194, 3) := by decide +kernel
theorem dX8_burn_52 : decode cX8_burn 52 = .ok (.aload_n 0, 1) := by decide +kernel
theorem dX8_burn_53 : decode cX8_burn 53 = .ok (.iconst 0, 1) := by decide +kernel
theorem dX8_burn_54 : decode cX8_burn 54 = .ok (.aload_n 0, 1) := by decide +kernel
theorem dX8_burn_55 : decode cX8_burn 55 = .ok (.getfield 7, 3) := by decide +kernel
theorem dX8_burn_58 : decode cX8_burn 58 = .ok (.iconst 3, 1) := by decide +kernel
theorem dX8_burn_59 : decode cX8_burn 59 = .ok (.iaload, 1) := by decide +kernel
theorem dX8_burn_60 : decode cX8_burn 60 = .ok (.ifCond .le 7, 3) := by decide +kernel
theorem dX8_burn_63 : decode cX8_burn 63 = .ok (.iload_n 1, 1) := by decide +kernel
theorem dX8_burn_64 : decode cX8_burn 64 = .ok (.goto 4, 3) := by decide +kernel
theorem dX8_burn_67 : decode cX8_burn 67 = .ok (.iconst (-1), 1) := by decide +kernel
theorem dX8_burn_68 : decode cX8_burn 68 = .ok (.iconst (-1), 1) := by decide +kernel
theorem dX8_burn_69 : decode cX8_burn 69 = .ok (.invokevirtual 197, 3) := by decide +kernel
theorem dX8_burn_72 : decode cX8_burn 72 = .ok (.pop, 1) := by decide +kernel
theorem dX8_burn_73 : decode cX8_burn 73 = .ok (.aload_n 0, 1) := by decide +kernel
theorem dX8_burn_74 : decode cX8_burn 74 = .ok (.getfield 7, 3) := by decide +kernel
theorem dX8_burn_77 : decode cX8_burn 77 = .ok (.iconst 3, 1) := by decide +kernel
theorem dX8_burn_78 : decode cX8_burn 78 = .ok (.dup2, 1) := by decide +kernel
theorem dX8_burn_79 : decode cX8_burn 79 = .ok (.iaload, 1) := by decide +kernel
theorem dX8_burn_80 : decode cX8_burn 80 = .ok (.aload_n 0, 1) := by decide +kernel
theorem dX8_burn_81 : decode cX8_burn 81 = .ok (.getfield 7, 3) := by decide +kernel
theorem dX8_burn_84 : decode cX8_burn 84 = .ok (.iconst 3, 1) := by decide +kernel
theorem dX8_burn_85 : decode cX8_burn 85 = .ok (.iaload, 1) := by decide +kernel
theorem dX8_burn_86 : decode cX8_burn 86 = .ok (.ifCond .le 7, 3) := by decide +kernel
theorem dX8_burn_89 : decode cX8_burn 89 = .ok (.iconst 1, 1) := by decide +kernel
theorem dX8_burn_90 : decode cX8_burn 90 = .ok (.goto 4, 3) := by decide +kernel
theorem dX8_burn_93 : decode cX8_burn 93 = .ok (.iconst 0, 1) := by decide +kernel
theorem dX8_burn_94 : decode cX8_burn 94 = .ok (.isub, 1) := by decide +kernel
theorem dX8_burn_95 : decode cX8_burn 95 = .ok (.iastore, 1) := by decide +kernel
theorem dX8_burn_96 : decode cX8_burn 96 = .ok (.iconst 0, 1) := by decide +kernel
theorem dX8_burn_97 : decode cX8_burn 97 = .ok (.istore_n 2, 1) := by decide +kernel
theorem dX8_burn_98 : decode cX8_burn 98 = .ok (.iload_n 2, 1) := by decide +kernel
theorem dX8_burn_99 : decode cX8_burn 99 = .ok (.aload_n 0, 1) := by decide +kernel
theorem dX8_burn_100 : decode cX8_burn 100 = .ok (.getfield 7, 3) := by decide +kernel
theorem dX8_burn_103 : decode cX8_burn 103 = .ok (.iconst 5, 1) := by decide +kernel
theorem dX8_burn_104 : decode cX8_burn 104 = .ok (.iaload, 1) := by decide +kernel
theorem dX8_burn_105 : decode cX8_burn 105 = .ok (.if_icmp .ge 43, 3) := by decide +kernel
theorem dX8_burn_108 : decode cX8_burn 108 = .ok (.aload_n 0, 1) := by decide +kernel
theorem dX8_burn_109 : decode cX8_burn 109 = .ok (.getfield 7, 3) := by decide +kernel
theorem dX8_burn_112 : decode cX8_burn 112 = .ok (.bipush 31, 2) := by decide +kernel
theorem dX8_burn_114 : decode cX8_burn 114 = .ok (.iload_n 2, 1) := by decide +kernel
theorem dX8_burn_115 : decode cX8_burn 115 = .ok (.iadd, 1) := by decide +kernel
theorem dX8_burn_116 : decode cX8_burn 116 = .ok (.aload_n 0, 1) := by decide +kernel
theorem dX8_burn_117 : decode cX8_burn 117 = .ok (.getfield 29, 3) := by decide +kernel
theorem dX8_burn_120 : decode cX8_burn 120 = .ok (.iconst 5, 1) := by decide +kernel
theorem dX8_burn_121 : decode cX8_burn 121 = .ok (.iload_n 2, 1) := by decide +kernel
theorem dX8_burn_122 : decode cX8_burn 122 = .ok (.iadd, 1) := by decide +kernel
theorem dX8_burn_123 : decode cX8_burn 123 = .ok (.iaload, 1) := by decide +kernel
theorem dX8_burn_124 : decode cX8_burn 124 = .ok (.iastore, 1) := by decide +kernel
theorem dX8_burn_125 : decode cX8_burn 125 = .ok (.aload_n 0, 1) := by decide +kernel
theorem dX8_burn_126 : decode cX8_burn 126 = .ok (.getfield 7, 3) := by decide +kernel
theorem dX8_burn_129 : decode cX8_burn 129 = .ok (.bipush 36, 2) := by decide +kernel
theorem dX8_burn_131 : decode cX8_burn 131 = .ok (.iload_n 2, 1) := by decide +kernel
theorem dX8_burn_132 : decode cX8_burn 132 = .ok (.iadd, 1) := by decide +kernel
theorem dX8_burn_133 : decode cX8_burn 133 = .ok (.aload_n 0, 1) := by decide +kernel
theorem dX8_burn_134 : decode cX8_burn 134 = .ok (.getfield 32, 3) := by decide +kernel
theorem dX8_burn_137 : decode cX8_burn 137 = .ok (.iconst 5, 1) := by decide +kernel
theorem dX8_burn_138 : decode cX8_burn 138 = .ok (.iload_n 2, 1) := by decide +kernel
theorem dX8_burn_139 : decode cX8_burn 139 = .ok (.iadd, 1) := by decide +kernel
theorem dX8_burn_140 : decode cX8_burn 140 = .ok (.iaload, 1) := by decide +kernel
theorem dX8_burn_141 : decode cX8_burn 141 = .ok (.iastore, 1) := by decide +kernel
theorem dX8_burn_142 : decode cX8_burn 142 = .ok (.iinc 2 1, 3) := by decide +kernel
theorem dX8_burn_145 : decode cX8_burn 145 = .ok (.goto (-47), 3) := by decide +kernel
theorem dX8_burn_148 : decode cX8_burn 148 = .ok (.aload_n 0, 1) := by decide +kernel
theorem dX8_burn_149 : decode cX8_burn 149 = .ok (.getfield 182, 3) := by decide +kernel
theorem dX8_burn_152 : decode cX8_burn 152 = .ok (.ireturn, 1) := by decide +kernel
theorem dX8_undo_0 : decode cX8_undo 0 = .ok (.aload_n 0, 1) := by decide +kernel
theorem dX8_undo_1 : decode cX8_undo 1 = .ok (.getfield 7, 3) := by decide +kernel
theorem dX8_undo_4 : decode cX8_undo 4 = .ok (.bipush 46, 2) := by decide +kernel
theorem dX8_undo_6 : decode cX8_undo 6 = .ok (.iaload, 1) := by decide +kernel
theorem dX8_undo_7 : decode cX8_undo 7 = .ok (.ifCond .ne 10, 3) := by decide +kernel
theorem dX8_undo_10 : decode cX8_undo 10 = .ok (.aload_n 0, 1) := by decide +kernel
theorem dX8_undo_11 : decode cX8_undo 11 = .ok (.bipush (-3), 2) := by decide +kernel
theorem dX8_undo_13 : decode cX8_undo 13 = .ok (.invokevirtual 81, 3) := by decide +kernel
theorem dX8_undo_16 : decode cX8_undo 16 = .ok (.ireturn, 1) := by decide +kernel
theorem dX8_undo_17 : decode cX8_undo 17 = .ok (.aload_n 0, 1) := by decide +kernel
theorem dX8_undo_18 : decode cX8_undo 18 = .ok (.getfield 7, 3) := by decide +kernel
theorem dX8_undo_21 : decode cX8_undo 21 = .ok (.bipush 46, 2) := by decide +kernel
theorem dX8_undo_23 : decode cX8_undo 23 = .ok (.dup2, 1) := by decide +kernel
theorem dX8_undo_24 : decode cX8_undo 24 = .ok (.iaload, 1) := by decide +kernel
theorem dX8_undo_25 : decode cX8_undo 25 = .ok (.iconst 1, 1) := by decide +kernel
theorem dX8_undo_26 : decode cX8_undo 26 = .ok (.isub, 1) := by decide +kernel
theorem dX8_undo_27 : decode cX8_undo 27 = .ok (.iastore, 1) := by decide +kernel
theorem dX8_undo_28 : decode cX8_undo 28 = .ok (.bipush 47, 2) := by decide +kernel
theorem dX8_undo_30 : decode cX8_undo 30 = .ok (.bipush 12, 2) := by decide +kernel
theorem dX8_undo_32 : decode cX8_undo 32 = .ok (.aload_n 0, 1) := by decide +kernel
theorem dX8_undo_33 : decode cX8_undo 33 = .ok (.getfield 7, 3) := by decide +kernel
theorem dX8_undo_36 : decode cX8_undo 36 = .ok (.bipush 46, 2) := by decide +kernel
theorem dX8_undo_38 : decode cX8_undo 38 = .ok (.iaload, 1) := by decide +kernel
theorem dX8_undo_39 : decode cX8_undo 39 = .ok (.imul, 1) := by decide +kernel
theorem dX8_undo_40 : decode cX8_undo 40 = .ok (.iadd, 1) := by decide +kernel
theorem dX8_undo_41 : decode cX8_undo 41 = .ok (.istore_n 1, 1) := by decide +kernel
theorem dX8_undo_42 : decode cX8_undo 42 = .ok (.aload_n 0, 1) := by decide +kernel
theorem dX8_undo_43 : decode cX8_undo 43 = .ok (.getfield 7, 3) := by decide +kernel
theorem dX8_undo_46 : decode cX8_undo 46 = .ok (.iconst 2, 1) := by decide +kernel
theorem dX8_undo_47 : decode cX8_undo 47 = .ok (.aload_n 0, 1) := by decide +kernel
theorem dX8_undo_48 : decode cX8_undo 48 = .ok (.getfield 7, 3) := by decide +kernel
theorem dX8_undo_51 : decode cX8_undo 51 = .ok (.iload_n 1, 1) := by decide +kernel
theorem dX8_undo_52 : decode cX8_undo 52 = .ok (.iaload, 1) := by decide +kernel
theorem dX8_undo_53 : decode cX8_undo 53 = .ok (.iastore, 1) := by decide +kernel
theorem dX8_undo_54 : decode cX8_undo 54 = .ok (.aload_n 0, 1) := by decide +kernel
theorem dX8_undo_55 : decode cX8_undo 55 = .ok (.getfield 7, 3) := by decide +kernel
theorem dX8_undo_58 : decode cX8_undo 58 = .ok (.iconst 3, 1) := by decide +kernel
theorem dX8_undo_59 : decode cX8_undo 59 = .ok (.aload_n 0, 1) := by decide +kernel
theorem dX8_undo_60 : decode cX8_undo 60 = .ok (.getfield 7, 3) := by decide +kernel
theorem dX8_undo_63 : decode cX8_undo 63 = .ok (.iload_n 1, 1) := by decide +kernel
theorem dX8_undo_64 : decode cX8_undo 64 = .ok (.iconst 1, 1) := by decide +kernel
theorem dX8_undo_65 : decode cX8_undo 65 = .ok (.iadd, 1) := by decide +kernel
theorem dX8_undo_66 : decode cX8_undo 66 = .ok (.iaload, 1) := by decide +kernel
theorem dX8_undo_67 : decode cX8_undo 67 = .ok (.iastore, 1) := by decide +kernel
theorem dX8_undo_68 : decode cX8_undo 68 = .ok (.iconst 0, 1) := by decide +kernel
theorem dX8_undo_69 : decode cX8_undo 69 = .ok (.istore_n 2, 1) := by decide +kernel
theorem dX8_undo_70 : decode cX8_undo 70 = .ok (.iload_n 2, 1) := by decide +kernel
theorem dX8_undo_71 : decode cX8_undo 71 = .ok (.iconst 5, 1) := by decide +kernel
theorem dX8_undo_72 : decode cX8_undo 72 = .ok (.if_icmp .ge 48, 3) := by decide +kernel
theorem dX8_undo_75 : decode cX8_undo 75 = .ok (.aload_n 0, 1) := by decide +kernel
theorem dX8_undo_76 : decode cX8_undo 76 = .ok (.getfield 7, 3) := by decide +kernel
theorem dX8_undo_79 : decode cX8_undo 79 = .ok (.bipush 31, 2) := by decide +kernel
theorem dX8_undo_81 : decode cX8_undo 81 = .ok (.iload_n 2, 1) := by decide +kernel
theorem dX8_undo_82 : decode cX8_undo 82 = .ok (.iadd, 1) := by decide +kernel
theorem dX8_undo_83 : decode cX8_undo 83 = .ok (.aload_n 0, 1) := by decide +kernel
theorem dX8_undo_84 : decode cX8_undo 84 = .ok (.getfield 7, 3) := by decide +kernel
theorem dX8_undo_87 : decode cX8_undo 87 = .ok (.iload_n 1, 1) := by decide +kernel
theorem dX8_undo_88 : decode cX8_undo 88 = .ok (.iconst 2, 1) := by decide +kernel
theorem dX8_undo_89 : decode cX8_undo 89 = .ok (.iadd, 1) := by decide +kernel
theorem dX8_undo_90 : decode cX8_undo 90 = .ok (.iload_n 2, 1) := by decide +kernel
theorem dX8_undo_91 : decode cX8_undo 91 = .ok (.iadd, 1) := by decide +kernel
theorem dX8_undo_92 : decode cX8_undo 92 = .ok (.iaload, 1) := by decide +kernel
theorem dX8_undo_93 : decode cX8_undo 93 = .ok (.iastore, 1) := by decide +kernel
theorem dX8_undo_94 : decode cX8_undo 94 = .ok (.aload_n 0, 1) := by decide +kernel
theorem dX8_undo_95 : decode cX8_undo 95 = .ok (.getfield 7, 3) := by decide +kernel
theorem dX8_undo_98 : decode cX8_undo 98 = .ok (.bipush 36, 2) := by decide +kernel
theorem dX8_undo_100 : decode cX8_undo 100 = .ok (.iload_n 2, 1) := by decide +kernel
theorem dX8_undo_101 : decode cX8_undo 101 = .ok (.iadd, 1) := by decide +kernel
theorem dX8_undo_102 : decode cX8_undo 102 = .ok (.aload_n 0, 1) := by decide +kernel
theorem dX8_undo_103 : decode cX8_undo 103 = .ok (.getfield 7, 3) := by decide +kernel
theorem dX8_undo_106 : decode cX8_undo 106 = .ok (.iload_n 1, 1) := by decide +kernel
theorem dX8_undo_107 : decode cX8_undo 107 = .ok (.bipush 7, 2) := by decide +kernel
theorem dX8_undo_109 : decode cX8_undo 109 = .ok (.iadd, 1) := by decide +kernel
theorem dX8_undo_110 : decode cX8_undo 110 = .ok (.iload_n 2, 1) := by decide +kernel
theorem dX8_undo_111 : decode cX8_undo 111 = .ok (.iadd, 1) := by decide +kernel
theorem dX8_undo_112 : decode cX8_undo 112 = .ok (.iaload, 1) := by decide +kernel
theorem dX8_undo_113 : decode cX8_undo 113 = .ok (.iastore, 1) := by decide +kernel
theorem dX8_undo_114 : decode cX8_undo 114 = .ok (.iinc 2 1, 3) := by decide +kernel
theorem dX8_undo_117 : decode cX8_undo 117 = .ok (.goto (-47), 3) := by decide +kernel
theorem dX8_undo_120 : decode cX8_undo 120 = .ok (.iconst 1, 1) := by decide +kernel
theorem dX8_undo_121 : decode cX8_undo 121 = .ok (.ireturn, 1) := by decide +kernel
theorem dX8_left_0 : decode cX8_left 0 = .ok (.aload_n 0, 1) := by decide +kernel
theorem dX8_left_1 : decode cX8_left 1 = .ok (.iload_n 1, 1) := by decide +kernel
theorem dX8_left_2 : decode cX8_left 2 = .ok (.invokevirtual 200, 3) := by decide +kernel
theorem dX8_left_5 : decode cX8_left 5 = .ok (.ifCond .eq 15, 3) := by decide +kernel
theorem dX8_left_8 : decode cX8_left 8 = .ok (.aload_n 0, 1) := by decide +kernel
theorem dX8_left_9 : decode cX8_left 9 = .ok (.getfield 7, 3) := by decide +kernel
theorem dX8_left_12 : decode cX8_left 12 = .ok (.bipush 31, 2) := by decide +kernel
theorem dX8_left_14 : decode cX8_left 14 = .ok (.iload_n 1, 1) := by decide +kernel
theorem dX8_left_15 : decode cX8_left 15 = .ok (.iadd, 1) := by decide +kernel
theorem dX8_left_16 : decode cX8_left 16 = .ok (.iaload, 1) := by decide +kernel
theorem dX8_left_17 : decode cX8_left 17 = .ok (.goto 9, 3) := by decide +kernel
theorem dX8_left_20 : decode cX8_left 20 = .ok (.aload_n 0, 1) := by decide +kernel
theorem dX8_left_21 : decode cX8_left 21 = .ok (.bipush (-2), 2) := by decide +kernel
theorem dX8_left_23 : decode cX8_left 23 = .ok (.invokevirtual 81, 3) := by decide +kernel
theorem dX8_left_26 : decode cX8_left 26 = .ok (.ireturn, 1) := by decide +kernel
theorem dX8_besideBehind_0 : decode cX8_besideBehind 0 = .ok (.iload_n 2, 1) := by decide +kernel
theorem dX8_besideBehind_1 : decode cX8_besideBehind 1 = .ok (.iconst 1, 1) := by decide +kernel
theorem dX8_besideBehind_2 : decode cX8_besideBehind 2 = .ok (.iadd, 1) := by decide +kernel
theorem dX8_besideBehind_3 : decode cX8_besideBehind 3 = .ok (.istore_n 3, 1) := by decide +kernel
theorem dX8_besideBehind_4 : decode cX8_besideBehind 4 = .ok (.iload_n 3, 1) := by decide +kernel
theorem dX8_besideBehind_5 : decode cX8_besideBehind 5 = .ok (.aload_n 0, 1) := by decide +kernel
theorem dX8_besideBehind_6 : decode cX8_besideBehind 6 = .ok (.iconst 0, 1) := by decide +kernel
theorem dX8_besideBehind_7 : decode cX8_besideBehind 7 = .ok (.invokevirtual 56, 3) := by decide +kernel
theorem dX8_besideBehind_10 : decode cX8_besideBehind 10 = .ok (.if_icmp .ge 20, 3) := by decide +kernel
theorem dX8_besideBehind_13 : decode cX8_besideBehind 13 = .ok (.aload_n 0, 1) := by decide +kernel
theorem dX8_besideBehind_14 : decode cX8_besideBehind 14 = .ok (.iload_n 1, 1) := by decide +kernel
theorem dX8_besideBehind_15 : decode cX8_besideBehind 15 = .ok (.iload_n 3, 1) := by decide +kernel
theorem dX8_besideBehind_16 : decode cX8_besideBehind 16 = .ok (.invokevirtual 188, 3) := by decide +kernel
theorem dX8_besideBehind_19 : decode cX8_besideBehind 19 = .ok (.ifCond .eq 5, 3) := by decide +kernel
theorem dX8_besideBehind_22 : decode cX8_besideBehind 22 = .ok (.iload_n 3, 1) := by decide +kernel
theorem dX8_besideBehind_23 : decode cX8_besideBehind 23 = .ok (.ireturn, 1) := by decide +kernel
theorem dX8_besideBehind_24 : decode cX8_besideBehind 24 = .ok (.iinc 3 1, 3) := by decide +kernel
theorem dX8_besideBehind_27 : decode cX8_besideBehind 27 = .ok (.goto (-23), 3) := by decide +kernel
theorem dX8_besideBehind_30 : decode cX8_besideBehind 30 = .ok (.iconst (-1), 1) := by decide +kernel
theorem dX8_besideBehind_31 : decode cX8_besideBehind 31 = .ok (.ireturn, 1) := by decide +kernel
theorem dX8_end_0 : decode cX8_end 0 = .ok (.iconst 1, 1) := by decide +kernel
theorem dX8_end_1 : decode cX8_end 1 = .ok (.istore 4, 2) := by decide +kernel
theorem dX8_end_3 : decode cX8_end 3 = .ok (.iconst 0, 1) := by decide +kernel
theorem dX8_end_4 : decode cX8_end 4 = .ok (.istore 5, 2) := by decide +kernel
theorem dX8_end_6 : decode cX8_end 6 = .ok (.iload 5, 2) := by decide +kernel
theorem dX8_end_8 : decode cX8_end 8 = .ok (.aload_n 0, 1) := by decide +kernel
theorem dX8_end_9 : decode cX8_end 9 = .ok (.getfield 7, 3) := by decide +kernel
theorem dX8_end_12 : decode cX8_end 12 = .ok (.iconst 5, 1) := by decide +kernel
theorem dX8_end_13 : decode cX8_end 13 = .ok (.iaload, 1) := by decide +kernel
theorem dX8_end_14 : decode cX8_end 14 = .ok (.if_icmp .ge 81, 3) := by decide +kernel
theorem dX8_end_17 : decode cX8_end 17 = .ok (.aload_n 0, 1) := by decide +kernel
theorem dX8_end_18 : decode cX8_end 18 = .ok (.getfield 29, 3) := by decide +kernel
theorem dX8_end_21 : decode cX8_end 21 = .ok (.iconst 5, 1) := by decide +kernel
theorem dX8_end_22 : decode cX8_end 22 = .ok (.iload_n 1, 1) := by decide +kernel
theorem dX8_end_23 : decode cX8_end 23 = .ok (.imul, 1) := by decide +kernel
theorem dX8_end_24 : decode cX8_end 24 = .ok (.iload 5, 2) := by decide +kernel
theorem dX8_end_26 : decode cX8_end 26 = .ok (.iadd, 1) := by decide +kernel
theorem dX8_end_27 : decode cX8_end 27 = .ok (.iaload, 1) := by decide +kernel
theorem dX8_end_28 : decode cX8_end 28 = .ok (.istore 6, 2) := by decide +kernel
theorem dX8_end_30 : decode cX8_end 30 = .ok (.iload 4, 2) := by decide +kernel
theorem dX8_end_32 : decode cX8_end 32 = .ok (.ifCond .eq 54, 3) := by decide +kernel
theorem dX8_end_35 : decode cX8_end 35 = .ok (.iload_n 3, 1) := by decide +kernel
theorem dX8_end_36 : decode cX8_end 36 = .ok (.ifCond .eq 32, 3) := by decide +kernel
theorem dX8_end_39 : decode cX8_end 39 = .ok (.aload_n 0, 1) := by decide +kernel
theorem dX8_end_40 : decode cX8_end 40 = .ok (.getfield 7, 3) := by decide +kernel
theorem dX8_end_43 : decode cX8_end 43 = .ok (.bipush 16, 2) := by decide +kernel
theorem dX8_end_45 : decode cX8_end 45 = .ok (.iload 5, 2) := by decide +kernel
theorem dX8_end_47 : decode cX8_end 47 = .ok (.iadd, 1) := by decide +kernel
theorem dX8_end_48 : decode cX8_end 48 = .ok (.iaload, 1) := by decide +kernel
theorem dX8_end_49 : decode cX8_end 49 = .ok (.iload 6, 2) := by decide +kernel
theorem dX8_end_51 : decode cX8_end 51 = .ok (.isub, 1) := by decide +kernel
theorem dX8_end_52 : decode cX8_end 52 = .ok (.aload_n 0, 1) := by decide +kernel
theorem dX8_end_53 : decode cX8_end 53 = .ok (.getfield 7, 3) := by decide +kernel
theorem dX8_end_56 : decode cX8_end 56 = .ok (.bipush 41, 2) := by decide +kernel
theorem dX8_end_58 : decode cX8_end 58 = .ok (.iload 5, 2) := by decide +kernel
theorem dX8_end_60 : decode cX8_end 60 = .ok (.iadd, 1) := by decide +kernel
theorem dX8_end_61 : decode cX8_end 61 = .ok (.iaload, 1) := by decide +kernel
theorem dX8_end_62 : decode cX8_end 62 = .ok (.if_icmp .ne 24, 3) := by decide +kernel
theorem dX8_end_65 : decode cX8_end 65 = .ok (.goto 17, 3) := by decide +kernel
theorem dX8_end_68 : decode cX8_end 68 = .ok (.iload_n 2, 1) := by decide +kernel
theorem dX8_end_69 : decode cX8_end 69 = .ok (.iload 5, 2) := by decide +kernel
theorem dX8_end_71 : decode cX8_end 71 = .ok (.invokestatic 64, 3) := by decide +kernel
theorem dX8_end_74 : decode cX8_end 74 = .ok (.ifCond .eq 8, 3) := by decide +kernel
theorem dX8_end_77 : decode cX8_end 77 = .ok (.iload 6, 2) := by decide +kernel
theorem dX8_end_79 : decode cX8_end 79 = .ok (.ifCond .ne 7, 3) := by decide +kernel
theorem dX8_end_82 : decode cX8_end 82 = .ok (.iconst 1, 1) := by decide +kernel
theorem dX8_end_83 : decode cX8_end 83 = .ok (.goto 4, 3) := by decide +kernel
theorem dX8_end_86 : decode cX8_end 86 = .ok (.iconst 0, 1) := by decide +kernel
theorem dX8_end_87 : decode cX8_end 87 = .ok (.istore 4, 2) := by decide +kernel
theorem dX8_end_89 : decode cX8_end 89 = .ok (.iinc 5 1, 3) := by decide +kernel
theorem dX8_end_92 : decode cX8_end 92 = .ok (.goto (-86), 3) := by decide +kernel
theorem dX8_end_95 : decode cX8_end 95 = .ok (.iload 4, 2) := by decide +kernel
theorem dX8_end_97 : decode cX8_end 97 = .ok (.ifCond .eq 30, 3) := by decide +kernel
theorem dX8_end_100 : decode cX8_end 100 = .ok (.aload_n 0, 1) := by decide +kernel
theorem dX8_end_101 : decode cX8_end 101 = .ok (.dup, 1) := by decide +kernel
theorem dX8_end_102 : decode cX8_end 102 = .ok (.getfield 204, 3) := by decide +kernel
theorem dX8_end_105 : decode cX8_end 105 = .ok (.iconst 1, 1) := by decide +kernel
theorem dX8_end_106 : decode cX8_end 106 = .ok (.iadd, 1) := by decide +kernel
theorem dX8_end_107 : decode cX8_end 107 = .ok (.putfield 204, 3) := by decide +kernel
theorem dX8_end_110 : decode cX8_end 110 = .ok (.aload_n 0, 1) := by decide +kernel
theorem dX8_end_111 : decode cX8_end 111 = .ok (.dup, 1) := by decide +kernel
theorem dX8_end_112 : decode cX8_end 112 = .ok (.getfield 207, 3) := by decide +kernel
theorem dX8_end_115 : decode cX8_end 115 = .ok (.iconst 1, 1) := by decide +kernel
theorem dX8_end_116 : decode cX8_end 116 = .ok (.aload_n 0, 1) := by decide +kernel
theorem dX8_end_117 : decode cX8_end 117 = .ok (.getfield 35, 3) := by decide +kernel
theorem dX8_end_120 : decode cX8_end 120 = .ok (.iload_n 1, 1) := by decide +kernel
theorem dX8_end_121 : decode cX8_end 121 = .ok (.iaload, 1) := by decide +kernel
theorem dX8_end_122 : decode cX8_end 122 = .ok (.ishl, 1) := by decide +kernel
theorem dX8_end_123 : decode cX8_end 123 = .ok (.ior, 1) := by decide +kernel
theorem dX8_end_124 : decode cX8_end 124 = .ok (.putfield 207, 3) := by decide +kernel
theorem dX8_end_127 : decode cX8_end 127 = .ok (.iload 4, 2) := by decide +kernel
theorem dX8_end_129 : decode cX8_end 129 = .ok (.ifCond .eq 55, 3) := by decide +kernel
theorem dX8_end_132 : decode cX8_end 132 = .ok (.aload_n 0, 1) := by decide +kernel
theorem dX8_end_133 : decode cX8_end 133 = .ok (.getfield 41, 3) := by decide +kernel
theorem dX8_end_136 : decode cX8_end 136 = .ok (.iload_n 1, 1) := by decide +kernel
theorem dX8_end_137 : decode cX8_end 137 = .ok (.iaload, 1) := by decide +kernel
theorem dX8_end_138 : decode cX8_end 138 = .ok (.aload_n 0, 1) := by decide +kernel
theorem dX8_end_139 : decode cX8_end 139 = .ok (.getfield 210, 3) := by decide +kernel
theorem dX8_end_142 : decode cX8_end 142 = .ok (.if_icmp .le 42, 3) := by decide +kernel
theorem dX8_end_145 : decode cX8_end 145 = .ok (.aload_n 0, 1) := by decide +kernel
theorem dX8_end_146 : decode cX8_end 146 = .ok (.aload_n 0, 1) := by decide +kernel
theorem dX8_end_147 : decode cX8_end 147 = .ok (.getfield 41, 3) := by decide +kernel
theorem dX8_end_150 : decode cX8_end 150 = .ok (.iload_n 1, 1) := by decide +kernel
theorem dX8_end_151 : decode cX8_end 151 = .ok (.iaload, 1) := by decide +kernel
theorem dX8_end_152 : decode cX8_end 152 = .ok (.putfield 210, 3) := by decide +kernel
theorem dX8_end_155 : decode cX8_end 155 = .ok (.iconst 1, 1) := by decide +kernel
theorem dX8_end_156 : decode cX8_end 156 = .ok (.istore 5, 2) := by decide +kernel
theorem dX8_end_158 : decode cX8_end 158 = .ok (.iload 5, 2) := by decide +kernel
theorem dX8_end_160 : decode cX8_end 160 = .ok (.iload_n 1, 1) := by decide +kernel
theorem dX8_end_161 : decode cX8_end 161 = .ok (.if_icmp .gt 23, 3) := by decide +kernel
theorem dX8_end_164 : decode cX8_end 164 = .ok (.aload_n 0, 1) := by decide +kernel
theorem dX8_end_165 : decode cX8_end 165 = .ok (.getfield 38, 3) := by decide +kernel
theorem dX8_end_168 : decode cX8_end 168 = .ok (.iload 5, 2) := by decide +kernel
theorem dX8_end_170 : decode cX8_end 170 = .ok (.aload_n 0, 1) := by decide +kernel
theorem dX8_end_171 : decode cX8_end 171 = .ok (.getfield 35, 3) := by decide +kernel
theorem dX8_end_174 : decode cX8_end 174 = .ok (.iload 5, 2) := by decide +kernel
theorem dX8_end_176 : decode cX8_end 176 = .ok (.iaload, 1) := by decide +kernel
theorem dX8_end_177 : decode cX8_end 177 = .ok (.iastore, 1) := by decide +kernel
theorem dX8_end_178 : decode cX8_end 178 = .ok (.iinc 5 1, 3) := by decide +kernel
theorem dX8_end_181 : decode cX8_end 181 = .ok (.goto (-23), 3) := by decide +kernel
theorem dX8_end_184 : decode cX8_end 184 = .ok (.return_, 1) := by decide +kernel
theorem dX8_goAll_0 : decode cX8_goAll 0 = .ok (.aload_n 0, 1) := by decide +kernel
theorem dX8_goAll_1 : decode cX8_goAll 1 = .ok (.iconst (-1), 1) := by decide +kernel
theorem dX8_goAll_2 : decode cX8_goAll 2 = .ok (.putfield 210, 3) := by decide +kernel
theorem dX8_goAll_5 : decode cX8_goAll 5 = .ok (.aload_n 0, 1) := by decide +kernel
theorem dX8_goAll_6 : decode cX8_goAll 6 = .ok (.iconst 0, 1) := by decide +kernel
theorem dX8_goAll_7 : decode cX8_goAll 7 = .ok (.putfield 204, 3) := by decide +kernel
theorem dX8_goAll_10 : decode cX8_goAll 10 = .ok (.aload_n 0, 1) := by decide +kernel
theorem dX8_goAll_11 : decode cX8_goAll 11 = .ok (.iconst 0, 1) := by decide +kernel
theorem dX8_goAll_12 : decode cX8_goAll 12 = .ok (.putfield 207, 3) := by decide +kernel
theorem dX8_goAll_15 : decode cX8_goAll 15 = .ok (.aload_n 0, 1) := by decide +kernel
theorem dX8_goAll_16 : decode cX8_goAll 16 = .ok (.getfield 35, 3) := by decide +kernel
theorem dX8_goAll_19 : decode cX8_goAll 19 = .ok (.iconst 0, 1) := by decide +kernel
theorem dX8_goAll_20 : decode cX8_goAll 20 = .ok (.iload_n 1, 1) := by decide +kernel
theorem dX8_goAll_21 : decode cX8_goAll 21 = .ok (.iastore, 1) := by decide +kernel
theorem dX8_goAll_22 : decode cX8_goAll 22 = .ok (.aload_n 0, 1) := by decide +kernel
theorem dX8_goAll_23 : decode cX8_goAll 23 = .ok (.getfield 41, 3) := by decide +kernel
theorem dX8_goAll_26 : decode cX8_goAll 26 = .ok (.iconst 0, 1) := by decide +kernel
theorem dX8_goAll_27 : decode cX8_goAll 27 = .ok (.iconst 0, 1) := by decide +kernel
theorem dX8_goAll_28 : decode cX8_goAll 28 = .ok (.iastore, 1) := by decide +kernel
theorem dX8_goAll_29 : decode cX8_goAll 29 = .ok (.iconst 0, 1) := by decide +kernel
theorem dX8_goAll_30 : decode cX8_goAll 30 = .ok (.istore 5, 2) := by decide +kernel
theorem dX8_goAll_32 : decode cX8_goAll 32 = .ok (.iconst (-1), 1) := by decide +kernel
theorem dX8_goAll_33 : decode cX8_goAll 33 = .ok (.istore 6, 2) := by decide +kernel
theorem dX8_goAll_35 : decode cX8_goAll 35 = .ok (.iload 5, 2) := by decide +kernel
theorem dX8_goAll_37 : decode cX8_goAll 37 = .ok (.ifCond .lt 108, 3) := by decide +kernel
theorem dX8_goAll_40 : decode cX8_goAll 40 = .ok (.iload 5, 2) := by decide +kernel
theorem dX8_goAll_42 : decode cX8_goAll 42 = .ok (.iload_n 2, 1) := by decide +kernel
theorem dX8_goAll_43 : decode cX8_goAll 43 = .ok (.if_icmp .ne 7, 3) := by decide +kernel
theorem dX8_goAll_46 : decode cX8_goAll 46 = .ok (.iconst (-1), 1) := by decide +kernel
theorem dX8_goAll_47 : decode cX8_goAll 47 = .ok (.goto 16, 3) := by decide +kernel
theorem dX8_goAll_50 : decode cX8_goAll 50 = .ok (.aload_n 0, 1) := by decide +kernel
theorem dX8_goAll_51 : decode cX8_goAll 51 = .ok (.aload_n 0, 1) := by decide +kernel
theorem dX8_goAll_52 : decode cX8_goAll 52 = .ok (.getfield 35, 3) := by decide +kernel
theorem dX8_goAll_55 : decode cX8_goAll 55 = .ok (.iload 5, 2) := by decide +kernel
theorem dX8_goAll_57 : decode cX8_goAll 57 = .ok (.iaload, 1) := by decide +kernel
theorem dX8_goAll_58 : decode cX8_goAll 58 = .ok (.iload 6, 2) := by decide +kernel
theorem dX8_goAll_60 : decode cX8_goAll 60 = .ok (.invokevirtual 213, 3) := by decide +kernel
theorem dX8_goAll_63 : decode cX8_goAll 63 = .ok (.istore 7, 2) := by decide +kernel
theorem dX8_goAll_65 : decode cX8_goAll 65 = .ok (.iload 5, 2) := by decide +kernel
theorem dX8_goAll_67 : decode cX8_goAll 67 = .ok (.iload_n 2, 1) := by decide +kernel
theorem dX8_goAll_68 : decode cX8_goAll 68 = .ok (.if_icmp .ne 11, 3) := by decide +kernel
theorem dX8_goAll_71 : decode cX8_goAll 71 = .ok (.aload_n 0, 1) := by decide +kernel
theorem dX8_goAll_72 : decode cX8_goAll 72 = .ok (.iload_n 2, 1) := by decide +kernel
theorem dX8_goAll_73 : decode cX8_goAll 73 = .ok (.iload_n 3, 1) := by decide +kernel
theorem dX8_goAll_74 : decode cX8_goAll 74 = .ok (.iload 4, 2) := by decide +kernel
theorem dX8_goAll_76 : decode cX8_goAll 76 = .ok (.invokevirtual 216, 3) := by decide +kernel
theorem dX8_goAll_79 : decode cX8_goAll 79 = .ok (.iload 7, 2) := by decide +kernel
theorem dX8_goAll_81 : decode cX8_goAll 81 = .ok (.ifCond .ge 18, 3) := by decide +kernel
theorem dX8_goAll_84 : decode cX8_goAll 84 = .ok (.aload_n 0, 1) := by decide +kernel
theorem dX8_goAll_85 : decode cX8_goAll 85 = .ok (.getfield 35, 3) := by decide +kernel
theorem dX8_goAll_88 : decode cX8_goAll 88 = .ok (.iload 5, 2) := by decide +kernel
theorem dX8_goAll_90 : decode cX8_goAll 90 = .ok (.iaload, 1) := by decide +kernel
theorem dX8_goAll_91 : decode cX8_goAll 91 = .ok (.istore 6, 2) := by decide +kernel
theorem dX8_goAll_93 : decode cX8_goAll 93 = .ok (.iinc 5 (-1), 3) := by decide +kernel
theorem dX8_goAll_96 : decode cX8_goAll 96 = .ok (.goto 46, 3) := by decide +kernel
theorem dX8_goAll_99 : decode cX8_goAll 99 = .ok (.aload_n 0, 1) := by decide +kernel
theorem dX8_goAll_100 : decode cX8_goAll 100 = .ok (.getfield 35, 3) := by decide +kernel
theorem dX8_goAll_103 : decode cX8_goAll 103 = .ok (.iload 5, 2) := by decide +kernel
theorem dX8_goAll_105 : decode cX8_goAll 105 = .ok (.iconst 1, 1) := by decide +kernel
theorem dX8_goAll_106 : decode cX8_goAll 106 = .ok (.iadd, 1) := by decide +kernel
theorem dX8_goAll_107 : decode cX8_goAll 107 = .ok (.iload 7, 2) := by decide +kernel
theorem dX8_goAll_109 : decode cX8_goAll 109 = .ok (.iastore, 1) := by decide +kernel
theorem dX8_goAll_110 : decode cX8_goAll 110 = .ok (.aload_n 0, 1) := by decide +kernel
theorem dX8_goAll_111 : decode cX8_goAll 111 = .ok (.getfield 41, 3) := by decide +kernel
theorem dX8_goAll_114 : decode cX8_goAll 114 = .ok (.iload 5, 2) := by decide +kernel
theorem dX8_goAll_116 : decode cX8_goAll 116 = .ok (.iconst 1, 1) := by decide +kernel
theorem dX8_goAll_117 : decode cX8_goAll 117 = .ok (.iadd, 1) := by decide +kernel
theorem dX8_goAll_118 : decode cX8_goAll 118 = .ok (.aload_n 0, 1) := by decide +kernel
theorem dX8_goAll_119 : decode cX8_goAll 119 = .ok (.getfield 41, 3) := by decide +kernel
theorem dX8_goAll_122 : decode cX8_goAll 122 = .ok (.iload 5, 2) := by decide +kernel
theorem dX8_goAll_124 : decode cX8_goAll 124 = .ok (.iaload, 1) := by decide +kernel
theorem dX8_goAll_125 : decode cX8_goAll 125 = .ok (.aload_n 0, 1) := by decide +kernel
theorem dX8_goAll_126 : decode cX8_goAll 126 = .ok (.iload 5, 2) := by decide +kernel
theorem dX8_goAll_128 : decode cX8_goAll 128 = .ok (.iload 7, 2) := by decide +kernel
theorem dX8_goAll_130 : decode cX8_goAll 130 = .ok (.iconst (-1), 1) := by decide +kernel
theorem dX8_goAll_131 : decode cX8_goAll 131 = .ok (.invokevirtual 197, 3) := by decide +kernel
theorem dX8_goAll_134 : decode cX8_goAll 134 = .ok (.iadd, 1) := by decide +kernel
theorem dX8_goAll_135 : decode cX8_goAll 135 = .ok (.iastore, 1) := by decide +kernel
theorem dX8_goAll_136 : decode cX8_goAll 136 = .ok (.iinc 5 1, 3) := by decide +kernel
theorem dX8_goAll_139 : decode cX8_goAll 139 = .ok (.iconst (-1), 1) := by decide +kernel
theorem dX8_goAll_140 : decode cX8_goAll 140 = .ok (.istore 6, 2) := by decide +kernel
theorem dX8_goAll_142 : decode cX8_goAll 142 = .ok (.goto (-107), 3) := by decide +kernel
theorem dX8_goAll_145 : decode cX8_goAll 145 = .ok (.return_, 1) := by decide +kernel
theorem dX8_way_0 : decode cX8_way 0 = .ok (.iload_n 1, 1) := by decide +kernel
theorem dX8_way_1 : decode cX8_way 1 = .ok (.i2l, 1) := by decide +kernel
theorem dX8_way_2 : decode cX8_way 2 = .ok (.lconst 0, 1) := by decide +kernel
theorem dX8_way_3 : decode cX8_way 3 = .ok (.ldc2_w 220, 3) := by decide +kernel
theorem dX8_way_6 : decode cX8_way 6 = .ok (.invokestatic 52, 3) := by decide +kernel
theorem dX8_way_9 : decode cX8_way 9 = .ok (.ifCond .eq 18, 3) := by decide +kernel
theorem dX8_way_12 : decode cX8_way 12 = .ok (.iload_n 1, 1) := by decide +kernel
theorem dX8_way_13 : decode cX8_way 13 = .ok (.aload_n 0, 1) := by decide +kernel
theorem dX8_way_14 : decode cX8_way 14 = .ok (.getfield 7, 3) := by decide +kernel
theorem dX8_way_17 : decode cX8_way 17 = .ok (.iconst 3, 1) := by decide +kernel
theorem dX8_way_18 : decode cX8_way 18 = .ok (.iaload, 1) := by decide +kernel
theorem dX8_way_19 : decode cX8_way 19 = .ok (.if_icmp .gt 8, 3) := by decide +kernel
theorem dX8_way_22 : decode cX8_way 22 = .ok (.iload_n 2, 1) := by decide +kernel
theorem dX8_way_23 : decode cX8_way 23 = .ok (.iconst (-1), 1) := by decide +kernel
theorem dX8_way_24 : decode cX8_way 24 = .ok (.if_icmp .ge 10, 3) := by decide +kernel
theorem dX8_way_27 : decode cX8_way 27 = .ok (.aload_n 0, 1) := by decide +kernel
theorem dX8_way_28 : decode cX8_way 28 = .ok (.bipush (-10), 2) := by decide +kernel
theorem dX8_way_30 : decode cX8_way 30 = .ok (.invokevirtual 95, 3) := by decide +kernel
theorem dX8_way_33 : decode cX8_way 33 = .ok (.ireturn, 1) := by decide +kernel
theorem dX8_way_34 : decode cX8_way 34 = .ok (.aload_n 0, 1) := by decide +kernel
theorem dX8_way_35 : decode cX8_way 35 = .ok (.invokevirtual 194, 3) := by decide +kernel
theorem dX8_way_38 : decode cX8_way 38 = .ok (.aload_n 0, 1) := by decide +kernel
theorem dX8_way_39 : decode cX8_way 39 = .ok (.aload_n 0, 1) := by decide +kernel
theorem dX8_way_40 : decode cX8_way 40 = .ok (.getfield 7, 3) := by decide +kernel
theorem dX8_way_43 : decode cX8_way 43 = .ok (.iconst 2, 1) := by decide +kernel
theorem dX8_way_44 : decode cX8_way 44 = .ok (.iaload, 1) := by decide +kernel
theorem dX8_way_45 : decode cX8_way 45 = .ok (.iload_n 1, 1) := by decide +kernel
theorem dX8_way_46 : decode cX8_way 46 = .ok (.iconst 0, 1) := by decide +kernel
theorem dX8_way_47 : decode cX8_way 47 = .ok (.iconst 0, 1) := by decide +kernel
theorem dX8_way_48 : decode cX8_way 48 = .ok (.invokevirtual 222, 3) := by decide +kernel
theorem dX8_way_51 : decode cX8_way 51 = .ok (.iload_n 2, 1) := by decide +kernel
theorem dX8_way_52 : decode cX8_way 52 = .ok (.iconst (-1), 1) := by decide +kernel
theorem dX8_way_53 : decode cX8_way 53 = .ok (.if_icmp .ne 10, 3) := by decide +kernel
theorem dX8_way_56 : decode cX8_way 56 = .ok (.aload_n 0, 1) := by decide +kernel
theorem dX8_way_57 : decode cX8_way 57 = .ok (.getfield 210, 3) := by decide +kernel
theorem dX8_way_60 : decode cX8_way 60 = .ok (.goto 21, 3) := by decide +kernel
theorem dX8_way_63 : decode cX8_way 63 = .ok (.iload_n 2, 1) := by decide +kernel
theorem dX8_way_64 : decode cX8_way 64 = .ok (.iload_n 1, 1) := by decide +kernel
theorem dX8_way_65 : decode cX8_way 65 = .ok (.if_icmp .ge 14, 3) := by decide +kernel
theorem dX8_way_68 : decode cX8_way 68 = .ok (.aload_n 0, 1) := by decide +kernel
theorem dX8_way_69 : decode cX8_way 69 = .ok (.getfield 38, 3) := by decide +kernel
theorem dX8_way_72 : decode cX8_way 72 = .ok (.iload_n 2, 1) := by decide +kernel
theorem dX8_way_73 : decode cX8_way 73 = .ok (.iconst 1, 1) := by decide +kernel
theorem dX8_way_74 : decode cX8_way 74 = .ok (.iadd, 1) := by decide +kernel
theorem dX8_way_75 : decode cX8_way 75 = .ok (.iaload, 1) := by decide +kernel
theorem dX8_way_76 : decode cX8_way 76 = .ok (.goto 5, 3) := by decide +kernel
theorem dX8_way_79 : decode cX8_way 79 = .ok (.bipush (-5), 2) := by decide +kernel
theorem dX8_way_81 : decode cX8_way 81 = .ok (.ireturn, 1) := by decide +kernel
theorem dX8_done_0 : decode cX8_done 0 = .ok (.iload_n 1, 1) := by decide +kernel
theorem dX8_done_1 : decode cX8_done 1 = .ok (.i2l, 1) := by decide +kernel
theorem dX8_done_2 : decode cX8_done 2 = .ok (.lconst 0, 1) := by decide +kernel
theorem dX8_done_3 : decode cX8_done 3 = .ok (.ldc2_w 220, 3) := by decide +kernel
theorem dX8_done_6 : decode cX8_done 6 = .ok (.invokestatic 52, 3) := by decide +kernel
theorem dX8_done_9 : decode cX8_done 9 = .ok (.ifCond .eq 38, 3) := by decide +kernel
theorem dX8_done_12 : decode cX8_done 12 = .ok (.iload_n 1, 1) := by decide +kernel
theorem dX8_done_13 : decode cX8_done 13 = .ok (.aload_n 0, 1) := by decide +kernel
theorem dX8_done_14 : decode cX8_done 14 = .ok (.getfield 7, 3) := by decide +kernel
theorem dX8_done_17 : decode cX8_done 17 = .ok (.iconst 3, 1) := by decide +kernel
theorem dX8_done_18 : decode cX8_done 18 = .ok (.iaload, 1) := by decide +kernel
theorem dX8_done_19 : decode cX8_done 19 = .ok (.if_icmp .gt 28, 3) := by decide +kernel
theorem dX8_done_22 : decode cX8_done 22 = .ok (.iload_n 3, 1) := by decide +kernel
theorem dX8_done_23 : decode cX8_done 23 = .ok (.iconst (-1), 1) := by decide +kernel
theorem dX8_done_24 : decode cX8_done 24 = .ok (.if_icmp .lt 23, 3) := by decide +kernel
theorem dX8_done_27 : decode cX8_done 27 = .ok (.iload_n 2, 1) := by decide +kernel
theorem dX8_done_28 : decode cX8_done 28 = .ok (.i2l, 1) := by decide +kernel
theorem dX8_done_29 : decode cX8_done 29 = .ok (.lconst 0, 1) := by decide +kernel
theorem dX8_done_30 : decode cX8_done 30 = .ok (.iconst 1, 1) := by decide +kernel
theorem dX8_done_31 : decode cX8_done 31 = .ok (.aload_n 0, 1) := by decide +kernel
theorem dX8_done_32 : decode cX8_done 32 = .ok (.getfield 7, 3) := by decide +kernel
theorem dX8_done_35 : decode cX8_done 35 = .ok (.iconst 5, 1) := by decide +kernel
theorem dX8_done_36 : decode cX8_done 36 = .ok (.iaload, 1) := by decide +kernel
theorem dX8_done_37 : decode cX8_done 37 = .ok (.ishl, 1) := by decide +kernel
theorem dX8_done_38 : decode cX8_done 38 = .ok (.iconst 1, 1) := by decide +kernel
theorem dX8_done_39 : decode cX8_done 39 = .ok (.isub, 1) := by decide +kernel
theorem dX8_done_40 : decode cX8_done 40 = .ok (.i2l, 1) := by decide +kernel
theorem dX8_done_41 : decode cX8_done 41 = .ok (.invokestatic 52, 3) := by decide +kernel
theorem dX8_done_44 : decode cX8_done 44 = .ok (.ifCond .ne 10, 3) := by decide +kernel
theorem dX8_done_47 : decode cX8_done 47 = .ok (.aload_n 0, 1) := by decide +kernel
theorem dX8_done_48 : decode cX8_done 48 = .ok (.bipush (-10), 2) := by decide +kernel
theorem dX8_done_50 : decode cX8_done 50 = .ok (.invokevirtual 95, 3) := by decide +kernel
theorem dX8_done_53 : decode cX8_done 53 = .ok (.ireturn, 1) := by decide +kernel
theorem dX8_done_54 : decode cX8_done 54 = .ok (.aload_n 0, 1) := by decide +kernel
theorem dX8_done_55 : decode cX8_done 55 = .ok (.invokevirtual 194, 3) := by decide +kernel
theorem dX8_done_58 : decode cX8_done 58 = .ok (.aload_n 0, 1) := by decide +kernel
theorem dX8_done_59 : decode cX8_done 59 = .ok (.aload_n 0, 1) := by decide +kernel
theorem dX8_done_60 : decode cX8_done 60 = .ok (.getfield 7, 3) := by decide +kernel
theorem dX8_done_63 : decode cX8_done 63 = .ok (.iconst 2, 1) := by decide +kernel
theorem dX8_done_64 : decode cX8_done 64 = .ok (.iaload, 1) := by decide +kernel
theorem dX8_done_65 : decode cX8_done 65 = .ok (.iload_n 1, 1) := by decide +kernel
theorem dX8_done_66 : decode cX8_done 66 = .ok (.iload_n 2, 1) := by decide +kernel
theorem dX8_done_67 : decode cX8_done 67 = .ok (.iconst 0, 1) := by decide +kernel
theorem dX8_done_68 : decode cX8_done 68 = .ok (.invokevirtual 222, 3) := by decide +kernel
theorem dX8_done_71 : decode cX8_done 71 = .ok (.aload_n 0, 1) := by decide +kernel
theorem dX8_done_72 : decode cX8_done 72 = .ok (.getfield 204, 3) := by decide +kernel
theorem dX8_done_75 : decode cX8_done 75 = .ok (.ifCond .ne 7, 3) := by decide +kernel
theorem dX8_done_78 : decode cX8_done 78 = .ok (.iconst (-1), 1) := by decide +kernel
theorem dX8_done_79 : decode cX8_done 79 = .ok (.goto 33, 3) := by decide +kernel
theorem dX8_done_82 : decode cX8_done 82 = .ok (.iload_n 3, 1) := by decide +kernel
theorem dX8_done_83 : decode cX8_done 83 = .ok (.iconst (-1), 1) := by decide +kernel
theorem dX8_done_84 : decode cX8_done 84 = .ok (.if_icmp .ne 10, 3) := by decide +kernel
theorem dX8_done_87 : decode cX8_done 87 = .ok (.aload_n 0, 1) := by decide +kernel
theorem dX8_done_88 : decode cX8_done 88 = .ok (.getfield 210, 3) := by decide +kernel
theorem dX8_done_91 : decode cX8_done 91 = .ok (.goto 21, 3) := by decide +kernel
theorem dX8_done_94 : decode cX8_done 94 = .ok (.iload_n 3, 1) := by decide +kernel
theorem dX8_done_95 : decode cX8_done 95 = .ok (.iload_n 1, 1) := by decide +kernel
theorem dX8_done_96 : decode cX8_done 96 = .ok (.if_icmp .ge 14, 3) := by decide +kernel
theorem dX8_done_99 : decode cX8_done 99 = .ok (.aload_n 0, 1) := by decide +kernel
theorem dX8_done_100 : decode cX8_done 100 = .ok (.getfield 38, 3) := by decide +kernel
theorem dX8_done_103 : decode cX8_done 103 = .ok (.iload_n 3, 1) := by decide +kernel
theorem dX8_done_104 : decode cX8_done 104 = .ok (.iconst 1, 1) := by decide +kernel
theorem dX8_done_105 : decode cX8_done 105 = .ok (.iadd, 1) := by decide +kernel
theorem dX8_done_106 : decode cX8_done 106 = .ok (.iaload, 1) := by decide +kernel
theorem dX8_done_107 : decode cX8_done 107 = .ok (.goto 5, 3) := by decide +kernel
theorem dX8_done_110 : decode cX8_done 110 = .ok (.bipush (-5), 2) := by decide +kernel
theorem dX8_done_112 : decode cX8_done 112 = .ok (.ireturn, 1) := by decide +kernel
theorem dX8_findStand_0 : decode cX8_findStand 0 = .ok (.iconst (-1), 1) := by decide +kernel
theorem dX8_findStand_1 : decode cX8_findStand 1 = .ok (.istore_n 1, 1) := by decide +kernel
theorem dX8_findStand_2 : decode cX8_findStand 2 = .ok (.iconst 0, 1) := by decide +kernel
theorem dX8_findStand_3 : decode cX8_findStand 3 = .ok (.istore_n 2, 1) := by decide +kernel
theorem dX8_findStand_4 : decode cX8_findStand 4 = .ok (.iload_n 2, 1) := by decide +kernel
theorem dX8_findStand_5 : decode cX8_findStand 5 = .ok (.aload_n 0, 1) := by decide +kernel
theorem dX8_findStand_6 : decode cX8_findStand 6 = .ok (.iconst 0, 1) := by decide +kernel
theorem dX8_findStand_7 : decode cX8_findStand 7 = .ok (.invokevirtual 56, 3) := by decide +kernel
theorem dX8_findStand_10 : decode cX8_findStand 10 = .ok (.if_icmp .ge 57, 3) := by decide +kernel
theorem dX8_findStand_13 : decode cX8_findStand 13 = .ok (.aload_n 0, 1) := by decide +kernel
theorem dX8_findStand_14 : decode cX8_findStand 14 = .ok (.getfield 7, 3) := by decide +kernel
theorem dX8_findStand_17 : decode cX8_findStand 17 = .ok (.iconst 4, 1) := by decide +kernel
theorem dX8_findStand_18 : decode cX8_findStand 18 = .ok (.iaload, 1) := by decide +kernel
theorem dX8_findStand_19 : decode cX8_findStand 19 = .ok (.iload_n 2, 1) := by decide +kernel
theorem dX8_findStand_20 : decode cX8_findStand 20 = .ok (.invokestatic 64, 3) := by decide +kernel
theorem dX8_findStand_23 : decode cX8_findStand 23 = .ok (.ifCond .eq 7, 3) := by decide +kernel
theorem dX8_findStand_26 : decode cX8_findStand 26 = .ok (.iconst (-1), 1) := by decide +kernel
theorem dX8_findStand_27 : decode cX8_findStand 27 = .ok (.goto 10, 3) := by decide +kernel
theorem dX8_findStand_30 : decode cX8_findStand 30 = .ok (.aload_n 0, 1) := by decide +kernel
theorem dX8_findStand_31 : decode cX8_findStand 31 = .ok (.iconst 0, 1) := by decide +kernel
theorem dX8_findStand_32 : decode cX8_findStand 32 = .ok (.iload_n 2, 1) := by decide +kernel
theorem dX8_findStand_33 : decode cX8_findStand 33 = .ok (.iconst (-1), 1) := by decide +kernel
theorem dX8_findStand_34 : decode cX8_findStand 34 = .ok (.invokevirtual 197, 3) := by decide +kernel
theorem dX8_findStand_37 : decode cX8_findStand 37 = .ok (.istore_n 3, 1) := by decide +kernel
theorem dX8_findStand_38 : decode cX8_findStand 38 = .ok (.aload_n 0, 1) := by decide +kernel
theorem dX8_findStand_39 : decode cX8_findStand 39 = .ok (.iload_n 3, 1) := by decide +kernel
theorem dX8_findStand_40 : decode cX8_findStand 40 = .ok (.iload_n 1, 1) := by decide +kernel
theorem dX8_findStand_41 : decode cX8_findStand 41 = .ok (.if_icmp .le 7, 3) := by decide +kernel
theorem dX8_findStand_44 : decode cX8_findStand 44 = .ok (.iload_n 2, 1) := by decide +kernel
theorem dX8_findStand_45 : decode cX8_findStand 45 = .ok (.goto 7, 3) := by decide +kernel
theorem dX8_findStand_48 : decode cX8_findStand 48 = .ok (.aload_n 0, 1) := by decide +kernel
theorem dX8_findStand_49 : decode cX8_findStand 49 = .ok (.getfield 226, 3) := by decide +kernel
theorem dX8_findStand_52 : decode cX8_findStand 52 = .ok (.putfield 226, 3) := by decide +kernel
theorem dX8_findStand_55 : decode cX8_findStand 55 = .ok (.iload_n 1, 1) := by decide +kernel
theorem dX8_findStand_56 : decode cX8_findStand 56 = .ok (.iload_n 3, 1) := by decide +kernel
theorem dX8_findStand_57 : decode cX8_findStand 57 = .ok (.invokestatic 107, 3) := by decide +kernel
theorem dX8_findStand_60 : decode cX8_findStand 60 = .ok (.istore_n 1, 1) := by decide +kernel
theorem dX8_findStand_61 : decode cX8_findStand 61 = .ok (.iinc 2 1, 3) := by decide +kernel
theorem dX8_findStand_64 : decode cX8_findStand 64 = .ok (.goto (-60), 3) := by decide +kernel
theorem dX8_findStand_67 : decode cX8_findStand 67 = .ok (.iload_n 1, 1) := by decide +kernel
theorem dX8_findStand_68 : decode cX8_findStand 68 = .ok (.ireturn, 1) := by decide +kernel
theorem dX8_stand_0 : decode cX8_stand 0 = .ok (.iload_n 1, 1) := by decide +kernel
theorem dX8_stand_1 : decode cX8_stand 1 = .ok (.i2l, 1) := by decide +kernel
theorem dX8_stand_2 : decode cX8_stand 2 = .ok (.lconst 0, 1) := by decide +kernel
theorem dX8_stand_3 : decode cX8_stand 3 = .ok (.lconst 1, 1) := by decide +kernel
theorem dX8_stand_4 : decode cX8_stand 4 = .ok (.invokestatic 52, 3) := by decide +kernel
theorem dX8_stand_7 : decode cX8_stand 7 = .ok (.ifCond .ne 10, 3) := by decide +kernel
theorem dX8_stand_10 : decode cX8_stand 10 = .ok (.aload_n 0, 1) := by decide +kernel
theorem dX8_stand_11 : decode cX8_stand 11 = .ok (.bipush (-2), 2) := by decide +kernel
theorem dX8_stand_13 : decode cX8_stand 13 = .ok (.invokevirtual 81, 3) := by decide +kernel
theorem dX8_stand_16 : decode cX8_stand 16 = .ok (.ireturn, 1) := by decide +kernel
theorem dX8_stand_17 : decode cX8_stand 17 = .ok (.aload_n 0, 1) := by decide +kernel
theorem dX8_stand_18 : decode cX8_stand 18 = .ok (.invokevirtual 194, 3) := by decide +kernel
theorem dX8_stand_21 : decode cX8_stand 21 = .ok (.aload_n 0, 1) := by decide +kernel
theorem dX8_stand_22 : decode cX8_stand 22 = .ok (.invokevirtual 229, 3) := by decide +kernel
theorem dX8_stand_25 : decode cX8_stand 25 = .ok (.istore_n 2, 1) := by decide +kernel
theorem dX8_stand_26 : decode cX8_stand 26 = .ok (.iload_n 1, 1) := by decide +kernel
theorem dX8_stand_27 : decode cX8_stand 27 = .ok (.ifCond .ne 10, 3) := by decide +kernel
theorem dX8_stand_30 : decode cX8_stand 30 = .ok (.aload_n 0, 1) := by decide +kernel
theorem dX8_stand_31 : decode cX8_stand 31 = .ok (.getfield 226, 3) := by decide +kernel
theorem dX8_stand_34 : decode cX8_stand 34 = .ok (.goto 4, 3) := by decide +kernel
theorem dX8_stand_37 : decode cX8_stand 37 = .ok (.iload_n 2, 1) := by decide +kernel
theorem dX8_stand_38 : decode cX8_stand 38 = .ok (.ireturn, 1) := by decide +kernel
theorem dX8_two_0 : decode cX8_two 0 = .ok (.iload_n 1, 1) := by decide +kernel
theorem dX8_two_1 : decode cX8_two 1 = .ok (.i2l, 1) := by decide +kernel
theorem dX8_two_2 : decode cX8_two 2 = .ok (.lconst 0, 1) := by decide +kernel
theorem dX8_two_3 : decode cX8_two 3 = .ok (.lconst 1, 1) := by decide +kernel
theorem dX8_two_4 : decode cX8_two 4 = .ok (.invokestatic 52, 3) := by decide +kernel
theorem dX8_two_7 : decode cX8_two 7 = .ok (.ifCond .ne 10, 3) := by decide +kernel
theorem dX8_two_10 : decode cX8_two 10 = .ok (.aload_n 0, 1) := by decide +kernel
theorem dX8_two_11 : decode cX8_two 11 = .ok (.bipush (-2), 2) := by decide +kernel
theorem dX8_two_13 : decode cX8_two 13 = .ok (.invokevirtual 81, 3) := by decide +kernel
theorem dX8_two_16 : decode cX8_two 16 = .ok (.ireturn, 1) := by decide +kernel
theorem dX8_two_17 : decode cX8_two 17 = .ok (.aload_n 0, 1) := by decide +kernel
theorem dX8_two_18 : decode cX8_two 18 = .ok (.invokevirtual 194, 3) := by decide +kernel
theorem dX8_two_21 : decode cX8_two 21 = .ok (.iconst (-1), 1) := by decide +kernel
theorem dX8_two_22 : decode cX8_two 22 = .ok (.istore_n 2, 1) := by decide +kernel
theorem dX8_two_23 : decode cX8_two 23 = .ok (.iconst 0, 1) := by decide +kernel
theorem dX8_two_24 : decode cX8_two 24 = .ok (.istore_n 3, 1) := by decide +kernel
theorem dX8_two_25 : decode cX8_two 25 = .ok (.iconst 0, 1) := by decide +kernel
theorem dX8_two_26 : decode cX8_two 26 = .ok (.istore 4, 2) := by decide +kernel
theorem dX8_two_28 : decode cX8_two 28 = .ok (.iload 4, 2) := by decide +kernel
theorem dX8_two_30 : decode cX8_two 30 = .ok (.aload_n 0, 1) := by decide +kernel
theorem dX8_two_31 : decode cX8_two 31 = .ok (.iconst 0, 1) := by decide +kernel
theorem dX8_two_32 : decode cX8_two 32 = .ok (.invokevirtual 56, 3) := by decide +kernel
theorem dX8_two_35 : decode cX8_two 35 = .ok (.if_icmp .ge 100, 3) := by decide +kernel
theorem dX8_two_38 : decode cX8_two 38 = .ok (.iload 4, 2) := by decide +kernel
theorem dX8_two_40 : decode cX8_two 40 = .ok (.iconst 1, 1) := by decide +kernel
theorem dX8_two_41 : decode cX8_two 41 = .ok (.iadd, 1) := by decide +kernel
theorem dX8_two_42 : decode cX8_two 42 = .ok (.istore 5, 2) := by decide +kernel
theorem dX8_two_44 : decode cX8_two 44 = .ok (.iload 5, 2) := by decide +kernel
theorem dX8_two_46 : decode cX8_two 46 = .ok (.aload_n 0, 1) := by decide +kernel
theorem dX8_two_47 : decode cX8_two 47 = .ok (.iconst 0, 1) := by decide +kernel
theorem dX8_two_48 : decode cX8_two 48 = .ok (.invokevirtual 56, 3) := by decide +kernel
theorem dX8_two_51 : decode cX8_two 51 = .ok (.if_icmp .ge 78, 3) := by decide +kernel
theorem dX8_two_54 : decode cX8_two 54 = .ok (.aload_n 0, 1) := by decide +kernel
theorem dX8_two_55 : decode cX8_two 55 = .ok (.getfield 7, 3) := by decide +kernel
theorem dX8_two_58 : decode cX8_two 58 = .ok (.iconst 4, 1) := by decide +kernel
theorem dX8_two_59 : decode cX8_two 59 = .ok (.iaload, 1) := by decide +kernel
theorem dX8_two_60 : decode cX8_two 60 = .ok (.iload 4, 2) := by decide +kernel
theorem dX8_two_62 : decode cX8_two 62 = .ok (.invokestatic 64, 3) := by decide +kernel
theorem dX8_two_65 : decode cX8_two 65 = .ok (.ifCond .ne 17, 3) := by decide +kernel
theorem dX8_two_68 : decode cX8_two 68 = .ok (.aload_n 0, 1) := by decide +kernel
theorem dX8_two_69 : decode cX8_two 69 = .ok (.getfield 7, 3) := by decide +kernel
theorem dX8_two_72 : decode cX8_two 72 = .ok (.iconst 4, 1) := by decide +kernel
theorem dX8_two_73 : decode cX8_two 73 = .ok (.iaload, 1) := by decide +kernel
theorem dX8_two_74 : decode cX8_two 74 = .ok (.iload 5, 2) := by decide +kernel
theorem dX8_two_76 : decode cX8_two 76 = .ok (.invokestatic 64, 3) := by decide +kernel
theorem dX8_two_79 : decode cX8_two 79 = .ok (.ifCond .eq 7, 3) := by decide +kernel
theorem dX8_two_82 : decode cX8_two 82 = .ok (.iconst (-1), 1) := by decide +kernel
theorem dX8_two_83 : decode cX8_two 83 = .ok (.goto 12, 3) := by decide +kernel
theorem dX8_two_86 : decode cX8_two 86 = .ok (.aload_n 0, 1) := by decide +kernel
theorem dX8_two_87 : decode cX8_two 87 = .ok (.iconst 0, 1) := by decide +kernel
theorem dX8_two_88 : decode cX8_two 88 = .ok (.iload 4, 2) := by decide +kernel
theorem dX8_two_90 : decode cX8_two 90 = .ok (.iload 5, 2) := by decide +kernel
theorem dX8_two_92 : decode cX8_two 92 = .ok (.invokevirtual 197, 3) := by decide +kernel
theorem dX8_two_95 : decode cX8_two 95 = .ok (.istore 6, 2) := by decide +kernel
theorem dX8_two_97 : decode cX8_two 97 = .ok (.iload 6, 2) := by decide +kernel
theorem dX8_two_99 : decode cX8_two 99 = .ok (.iload_n 2, 1) := by decide +kernel
theorem dX8_two_100 : decode cX8_two 100 = .ok (.if_icmp .le 14, 3) := by decide +kernel
theorem dX8_two_103 : decode cX8_two 103 = .ok (.bipush 100, 2) := by decide +kernel
theorem dX8_two_105 : decode cX8_two 105 = .ok (.iload 4, 2) := by decide +kernel
theorem dX8_two_107 : decode cX8_two 107 = .ok (.imul, 1) := by decide +kernel
theorem dX8_two_108 : decode cX8_two 108 = .ok (.iload 5, 2) := by decide +kernel
theorem dX8_two_110 : decode cX8_two 110 = .ok (.iadd, 1) := by decide +kernel
theorem dX8_two_111 : decode cX8_two 111 = .ok (.goto 4, 3) := by decide +kernel
theorem dX8_two_114 : decode cX8_two 114 = .ok (.iload_n 3, 1) := by decide +kernel
theorem dX8_two_115 : decode cX8_two 115 = .ok (.istore_n 3, 1) := by decide +kernel
theorem dX8_two_116 : decode cX8_two 116 = .ok (.iload_n 2, 1) := by decide +kernel
theorem dX8_two_117 : decode cX8_two 117 = .ok (.iload 6, 2) := by decide +kernel
theorem dX8_two_119 : decode cX8_two 119 = .ok (.invokestatic 107, 3) := by decide +kernel
theorem dX8_two_122 : decode cX8_two 122 = .ok (.istore_n 2, 1) := by decide +kernel
theorem dX8_two_123 : decode cX8_two 123 = .ok (.iinc 5 1, 3) := by decide +kernel
theorem dX8_two_126 : decode cX8_two 126 = .ok (.goto (-82), 3) := by decide +kernel
theorem dX8_two_129 : decode cX8_two 129 = .ok (.iinc 4 1, 3) := by decide +kernel
theorem dX8_two_132 : decode cX8_two 132 = .ok (.goto (-104), 3) := by decide +kernel
theorem dX8_two_135 : decode cX8_two 135 = .ok (.iload_n 2, 1) := by decide +kernel
theorem dX8_two_136 : decode cX8_two 136 = .ok (.ifCond .ge 12, 3) := by decide +kernel
theorem dX8_two_139 : decode cX8_two 139 = .ok (.aload_n 0, 1) := by decide +kernel
theorem dX8_two_140 : decode cX8_two 140 = .ok (.bipush (-20), 2) := by decide +kernel
theorem dX8_two_142 : decode cX8_two 142 = .ok (.invokevirtual 95, 3) := by decide +kernel
theorem dX8_two_145 : decode cX8_two 145 = .ok (.goto 12, 3) := by decide +kernel
theorem dX8_two_148 : decode cX8_two 148 = .ok (.iload_n 1, 1) := by decide +kernel
theorem dX8_two_149 : decode cX8_two 149 = .ok (.ifCond .ne 7, 3) := by decide +kernel
theorem dX8_two_152 : decode cX8_two 152 = .ok (.iload_n 3, 1) := by decide +kernel
theorem dX8_two_153 : decode cX8_two 153 = .ok (.goto 4, 3) := by decide +kernel
theorem dX8_two_156 : decode cX8_two 156 = .ok (.iload_n 2, 1) := by decide +kernel
theorem dX8_two_157 : decode cX8_two 157 = .ok (.ireturn, 1) := by decide +kernel
theorem dX8_seats_0 : decode cX8_seats 0 = .ok (.aload_n 0, 1) := by decide +kernel
theorem dX8_seats_1 : decode cX8_seats 1 = .ok (.invokevirtual 194, 3) := by decide +kernel
theorem dX8_seats_4 : decode cX8_seats 4 = .ok (.aload_n 0, 1) := by decide +kernel
theorem dX8_seats_5 : decode cX8_seats 5 = .ok (.invokevirtual 229, 3) := by decide +kernel
theorem dX8_seats_8 : decode cX8_seats 8 = .ok (.istore_n 1, 1) := by decide +kernel
theorem dX8_seats_9 : decode cX8_seats 9 = .ok (.iconst (-1), 1) := by decide +kernel
theorem dX8_seats_10 : decode cX8_seats 10 = .ok (.istore_n 2, 1) := by decide +kernel
theorem dX8_seats_11 : decode cX8_seats 11 = .ok (.iconst 0, 1) := by decide +kernel
theorem dX8_seats_12 : decode cX8_seats 12 = .ok (.istore_n 3, 1) := by decide +kernel
theorem dX8_seats_13 : decode cX8_seats 13 = .ok (.iload_n 3, 1) := by decide +kernel
theorem dX8_seats_14 : decode cX8_seats 14 = .ok (.aload_n 0, 1) := by decide +kernel
theorem dX8_seats_15 : decode cX8_seats 15 = .ok (.getfield 7, 3) := by decide +kernel
theorem dX8_seats_18 : decode cX8_seats 18 = .ok (.iconst 5, 1) := by decide +kernel
theorem dX8_seats_19 : decode cX8_seats 19 = .ok (.iaload, 1) := by decide +kernel
theorem dX8_seats_20 : decode cX8_seats 20 = .ok (.if_icmp .ge 131, 3) := by decide +kernel
theorem dX8_seats_23 : decode cX8_seats 23 = .ok (.iload_n 3, 1) := by decide +kernel
theorem dX8_seats_24 : decode cX8_seats 24 = .ok (.iconst 1, 1) := by decide +kernel
theorem dX8_seats_25 : decode cX8_seats 25 = .ok (.iadd, 1) := by decide +kernel
theorem dX8_seats_26 : decode cX8_seats 26 = .ok (.istore 4, 2) := by decide +kernel
theorem dX8_seats_28 : decode cX8_seats 28 = .ok (.iload 4, 2) := by decide +kernel
theorem dX8_seats_30 : decode cX8_seats 30 = .ok (.aload_n 0, 1) := by decide +kernel
theorem dX8_seats_31 : decode cX8_seats 31 = .ok (.getfield 7, 3) := by decide +kernel
theorem dX8_seats_34 : decode cX8_seats 34 = .ok (.iconst 5, 1) := by decide +kernel
theorem dX8_seats_35 : decode cX8_seats 35 = .ok (.iaload, 1) := by decide +kernel
theorem dX8_seats_36 : decode cX8_seats 36 = .ok (.if_icmp .ge 109, 3) := by decide +kernel
theorem dX8_seats_39 : decode cX8_seats 39 = .ok (.aload_n 0, 1) := by decide +kernel
theorem dX8_seats_40 : decode cX8_seats 40 = .ok (.getfield 7, 3) := by decide +kernel
theorem dX8_seats_43 : decode cX8_seats 43 = .ok (.bipush 6, 2) := by decide +kernel
theorem dX8_seats_45 : decode cX8_seats 45 = .ok (.iload_n 3, 1) := by decide +kernel
theorem dX8_seats_46 : decode cX8_seats 46 = .ok (.iadd, 1) := by decide +kernel
theorem dX8_seats_47 : decode cX8_seats 47 = .ok (.iaload, 1) := by decide +kernel
theorem dX8_seats_48 : decode cX8_seats 48 = .ok (.istore 5, 2) := by decide +kernel
theorem dX8_seats_50 : decode cX8_seats 50 = .ok (.aload_n 0, 1) := by decide +kernel
theorem dX8_seats_51 : decode cX8_seats 51 = .ok (.getfield 7, 3) := by decide +kernel
theorem dX8_seats_54 : decode cX8_seats 54 = .ok (.bipush 6, 2) := by decide +kernel
theorem dX8_seats_56 : decode cX8_seats 56 = .ok (.iload 4, 2) := by decide +kernel
theorem dX8_seats_58 : decode cX8_seats 58 = .ok (.iadd, 1) := by decide +kernel
theorem dX8_seats_59 : decode cX8_seats 59 = .ok (.iaload, 1) := by decide +kernel
theorem dX8_seats_60 : decode cX8_seats 60 = .ok (.istore 6, 2) := by decide +kernel
theorem dX8_seats_62 : decode cX8_seats 62 = .ok (.aload_n 0, 1) := by decide +kernel
theorem dX8_seats_63 : decode cX8_seats 63 = .ok (.getfield 7, 3) := by decide +kernel
theorem dX8_seats_66 : decode cX8_seats 66 = .ok (.bipush 6, 2) := by decide +kernel
theorem dX8_seats_68 : decode cX8_seats 68 = .ok (.iload_n 3, 1) := by decide +kernel
theorem dX8_seats_69 : decode cX8_seats 69 = .ok (.iadd, 1) := by decide +kernel
theorem dX8_seats_70 : decode cX8_seats 70 = .ok (.iload 6, 2) := by decide +kernel
theorem dX8_seats_72 : decode cX8_seats 72 = .ok (.iastore, 1) := by decide +kernel
theorem dX8_seats_73 : decode cX8_seats 73 = .ok (.aload_n 0, 1) := by decide +kernel
theorem dX8_seats_74 : decode cX8_seats 74 = .ok (.getfield 7, 3) := by decide +kernel
theorem dX8_seats_77 : decode cX8_seats 77 = .ok (.bipush 6, 2) := by decide +kernel
theorem dX8_seats_79 : decode cX8_seats 79 = .ok (.iload 4, 2) := by decide +kernel
theorem dX8_seats_81 : decode cX8_seats 81 = .ok (.iadd, 1) := by decide +kernel
theorem dX8_seats_82 : decode cX8_seats 82 = .ok (.iload 5, 2) := by decide +kernel
theorem dX8_seats_84 : decode cX8_seats 84 = .ok (.iastore, 1) := by decide +kernel
theorem dX8_seats_85 : decode cX8_seats 85 = .ok (.aload_n 0, 1) := by decide +kernel
theorem dX8_seats_86 : decode cX8_seats 86 = .ok (.invokevirtual 229, 3) := by decide +kernel
theorem dX8_seats_89 : decode cX8_seats 89 = .ok (.istore 7, 2) := by decide +kernel
theorem dX8_seats_91 : decode cX8_seats 91 = .ok (.aload_n 0, 1) := by decide +kernel
theorem dX8_seats_92 : decode cX8_seats 92 = .ok (.getfield 7, 3) := by decide +kernel
theorem dX8_seats_95 : decode cX8_seats 95 = .ok (.bipush 6, 2) := by decide +kernel
theorem dX8_seats_97 : decode cX8_seats 97 = .ok (.iload_n 3, 1) := by decide +kernel
theorem dX8_seats_98 : decode cX8_seats 98 = .ok (.iadd, 1) := by decide +kernel
theorem dX8_seats_99 : decode cX8_seats 99 = .ok (.iload 5, 2) := by decide +kernel
theorem dX8_seats_101 : decode cX8_seats 101 = .ok (.iastore, 1) := by decide +kernel
theorem dX8_seats_102 : decode cX8_seats 102 = .ok (.aload_n 0, 1) := by decide +kernel
theorem dX8_seats_103 : decode cX8_seats 103 = .ok (.getfield 7, 3) := by decide +kernel
theorem dX8_seats_106 : decode cX8_seats 106 = .ok (.bipush 6, 2) := by decide +kernel
theorem dX8_seats_108 : decode cX8_seats 108 = .ok (.iload 4, 2) := by decide +kernel
theorem dX8_seats_110 : decode cX8_seats 110 = .ok (.iadd, 1) := by decide +kernel
theorem dX8_seats_111 : decode cX8_seats 111 = .ok (.iload 6, 2) := by decide +kernel
theorem dX8_seats_113 : decode cX8_seats 113 = .ok (.iastore, 1) := by decide +kernel
theorem dX8_seats_114 : decode cX8_seats 114 = .ok (.iload 7, 2) := by decide +kernel
theorem dX8_seats_116 : decode cX8_seats 116 = .ok (.iload_n 1, 1) := by decide +kernel
theorem dX8_seats_117 : decode cX8_seats 117 = .ok (.if_icmp .le 13, 3) := by decide +kernel
theorem dX8_seats_120 : decode cX8_seats 120 = .ok (.bipush 100, 2) := by decide +kernel
theorem dX8_seats_122 : decode cX8_seats 122 = .ok (.iload_n 3, 1) := by decide +kernel
theorem dX8_seats_123 : decode cX8_seats 123 = .ok (.imul, 1) := by decide +kernel
theorem dX8_seats_124 : decode cX8_seats 124 = .ok (.iload 4, 2) := by decide +kernel
theorem dX8_seats_126 : decode cX8_seats 126 = .ok (.iadd, 1) := by decide +kernel
theorem dX8_seats_127 : decode cX8_seats 127 = .ok (.goto 4, 3) := by decide +kernel
theorem dX8_seats_130 : decode cX8_seats 130 = .ok (.iload_n 2, 1) := by decide +kernel
theorem dX8_seats_131 : decode cX8_seats 131 = .ok (.istore_n 2, 1) := by decide +kernel
theorem dX8_seats_132 : decode cX8_seats 132 = .ok (.iload_n 1, 1) := by decide +kernel
theorem dX8_seats_133 : decode cX8_seats 133 = .ok (.iload 7, 2) := by decide +kernel
theorem dX8_seats_135 : decode cX8_seats 135 = .ok (.invokestatic 107, 3) := by decide +kernel
theorem dX8_seats_138 : decode cX8_seats 138 = .ok (.istore_n 1, 1) := by decide +kernel
theorem dX8_seats_139 : decode cX8_seats 139 = .ok (.iinc 4 1, 3) := by decide +kernel
theorem dX8_seats_142 : decode cX8_seats 142 = .ok (.goto (-114), 3) := by decide +kernel
theorem dX8_seats_145 : decode cX8_seats 145 = .ok (.iinc 3 1, 3) := by decide +kernel
theorem dX8_seats_148 : decode cX8_seats 148 = .ok (.goto (-135), 3) := by decide +kernel
theorem dX8_seats_151 : decode cX8_seats 151 = .ok (.iconst 0, 1) := by decide +kernel
theorem dX8_seats_152 : decode cX8_seats 152 = .ok (.istore_n 3, 1) := by decide +kernel
theorem dX8_seats_153 : decode cX8_seats 153 = .ok (.iload_n 3, 1) := by decide +kernel
theorem dX8_seats_154 : decode cX8_seats 154 = .ok (.aload_n 0, 1) := by decide +kernel
theorem dX8_seats_155 : decode cX8_seats 155 = .ok (.getfield 7, 3) := by decide +kernel
theorem dX8_seats_158 : decode cX8_seats 158 = .ok (.iconst 5, 1) := by decide +kernel
theorem dX8_seats_159 : decode cX8_seats 159 = .ok (.iaload, 1) := by decide +kernel
theorem dX8_seats_160 : decode cX8_seats 160 = .ok (.if_icmp .ge 120, 3) := by decide +kernel
theorem dX8_seats_163 : decode cX8_seats 163 = .ok (.aload_n 0, 1) := by decide +kernel
theorem dX8_seats_164 : decode cX8_seats 164 = .ok (.getfield 7, 3) := by decide +kernel
theorem dX8_seats_167 : decode cX8_seats 167 = .ok (.bipush 6, 2) := by decide +kernel
theorem dX8_seats_169 : decode cX8_seats 169 = .ok (.iload_n 3, 1) := by decide +kernel
theorem dX8_seats_170 : decode cX8_seats 170 = .ok (.iadd, 1) := by decide +kernel
theorem dX8_seats_171 : decode cX8_seats 171 = .ok (.iaload, 1) := by decide +kernel
theorem dX8_seats_172 : decode cX8_seats 172 = .ok (.istore 4, 2) := by decide +kernel
theorem dX8_seats_174 : decode cX8_seats 174 = .ok (.iconst 0, 1) := by decide +kernel
theorem dX8_seats_175 : decode cX8_seats 175 = .ok (.istore 5, 2) := by decide +kernel
theorem dX8_seats_177 : decode cX8_seats 177 = .ok (.iload 5, 2) := by decide +kernel
theorem dX8_seats_179 : decode cX8_seats 179 = .ok (.aload_n 0, 1) := by decide +kernel
theorem dX8_seats_180 : decode cX8_seats 180 = .ok (.iconst 0, 1) := by decide +kernel
theorem dX8_seats_181 : decode cX8_seats 181 = .ok (.invokevirtual 56, 3) := by decide +kernel
theorem dX8_seats_184 : decode cX8_seats 184 = .ok (.if_icmp .ge 90, 3) := by decide +kernel
theorem dX8_seats_187 : decode cX8_seats 187 = .ok (.aload_n 0, 1) := by decide +kernel
theorem dX8_seats_188 : decode cX8_seats 188 = .ok (.getfield 7, 3) := by decide +kernel
theorem dX8_seats_191 : decode cX8_seats 191 = .ok (.iconst 4, 1) := by decide +kernel
theorem dX8_seats_192 : decode cX8_seats 192 = .ok (.iaload, 1) := by decide +kernel
theorem dX8_seats_193 : decode cX8_seats 193 = .ok (.iload 5, 2) := by decide +kernel
theorem dX8_seats_195 : decode cX8_seats 195 = .ok (.invokestatic 64, 3) := by decide +kernel
theorem dX8_seats_198 : decode cX8_seats 198 = .ok (.ifCond .ne 70, 3) := by decide +kernel
theorem dX8_seats_201 : decode cX8_seats 201 = .ok (.aload_n 0, 1) := by decide +kernel
theorem dX8_seats_202 : decode cX8_seats 202 = .ok (.iconst 0, 1) := by decide +kernel
theorem dX8_seats_203 : decode cX8_seats 203 = .ok (.iload 5, 2) := by decide +kernel
theorem dX8_seats_205 : decode cX8_seats 205 = .ok (.invokevirtual 67, 3) := by decide +kernel
theorem dX8_seats_208 : decode cX8_seats 208 = .ok (.ifCond .ge 60, 3) := by decide +kernel
theorem dX8_seats_211 : decode cX8_seats 211 = .ok (.aload_n 0, 1) := by decide +kernel
theorem dX8_seats_212 : decode cX8_seats 212 = .ok (.getfield 7, 3) := by decide +kernel
theorem dX8_seats_215 : decode cX8_seats 215 = .ok (.bipush 6, 2) := by decide +kernel
theorem dX8_seats_217 : decode cX8_seats 217 = .ok (.iload_n 3, 1) := by decide +kernel
theorem dX8_seats_218 : decode cX8_seats 218 = .ok (.iadd, 1) := by decide +kernel
theorem dX8_seats_219 : decode cX8_seats 219 = .ok (.iload 5, 2) := by decide +kernel
theorem dX8_seats_221 : decode cX8_seats 221 = .ok (.iastore, 1) := by decide +kernel
theorem dX8_seats_222 : decode cX8_seats 222 = .ok (.aload_n 0, 1) := by decide +kernel
theorem dX8_seats_223 : decode cX8_seats 223 = .ok (.invokevirtual 229, 3) := by decide +kernel
theorem dX8_seats_226 : decode cX8_seats 226 = .ok (.istore 6, 2) := by decide +kernel
theorem dX8_seats_228 : decode cX8_seats 228 = .ok (.aload_n 0, 1) := by decide +kernel
theorem dX8_seats_229 : decode cX8_seats 229 = .ok (.getfield 7, 3) := by decide +kernel
theorem dX8_seats_232 : decode cX8_seats 232 = .ok (.bipush 6, 2) := by decide +kernel
theorem dX8_seats_234 : decode cX8_seats 234 = .ok (.iload_n 3, 1) := by decide +kernel
theorem dX8_seats_235 : decode cX8_seats 235 = .ok (.iadd, 1) := by decide +kernel
theorem dX8_seats_236 : decode cX8_seats 236 = .ok (.iload 4, 2) := by decide +kernel
theorem dX8_seats_238 : decode cX8_seats 238 = .ok (.iastore, 1) := by decide +kernel
theorem dX8_seats_239 : decode cX8_seats 239 = .ok (.iload 6, 2) := by decide +kernel
theorem dX8_seats_241 : decode cX8_seats 241 = .ok (.iload_n 1, 1) := by decide +kernel
theorem dX8_seats_242 : decode cX8_seats 242 = .ok (.if_icmp .le 17, 3) := by decide +kernel
theorem dX8_seats_245 : decode cX8_seats 245 = .ok (.sipush 1000, 3) := by decide +kernel
theorem dX8_seats_248 : decode cX8_seats 248 = .ok (.bipush 100, 2) := by decide +kernel
theorem dX8_seats_250 : decode cX8_seats 250 = .ok (.iload_n 3, 1) := by decide +kernel
theorem dX8_seats_251 : decode cX8_seats 251 = .ok (.imul, 1) := by decide +kernel
theorem dX8_seats_252 : decode cX8_seats 252 = .ok (.iadd, 1) := by decide +kernel
theorem dX8_seats_253 : decode cX8_seats 253 = .ok (.iload 5, 2) := by decide +kernel
theorem dX8_seats_255 : decode cX8_seats 255 = .ok (.iadd, 1) := by decide +kernel
theorem dX8_seats_256 : decode cX8_seats 256 = .ok (.goto 4, 3) := by decide +kernel
theorem dX8_seats_259 : decode cX8_seats 259 = .ok (.iload_n 2, 1) := by decide +kernel
theorem dX8_seats_260 : decode cX8_seats 260 = .ok (.istore_n 2, 1) := by decide +kernel
theorem dX8_seats_261 : decode cX8_seats 261 = .ok (.iload_n 1, 1) := by decide +kernel
theorem dX8_seats_262 : decode cX8_seats 262 = .ok (.iload 6, 2) := by decide +kernel
theorem dX8_seats_264 : decode cX8_seats 264 = .ok (.invokestatic 107, 3) := by decide +kernel
theorem dX8_seats_267 : decode cX8_seats 267 = .ok (.istore_n 1, 1) := by decide +kernel
theorem dX8_seats_268 : decode cX8_seats 268 = .ok (.iinc 5 1, 3) := by decide +kernel
theorem dX8_seats_271 : decode cX8_seats 271 = .ok (.goto (-94), 3) := by decide +kernel
theorem dX8_seats_274 : decode cX8_seats 274 = .ok (.iinc 3 1, 3) := by decide +kernel
theorem dX8_seats_277 : decode cX8_seats 277 = .ok (.goto (-124), 3) := by decide +kernel
theorem dX8_seats_280 : decode cX8_seats 280 = .ok (.iload_n 2, 1) := by decide +kernel
theorem dX8_seats_281 : decode cX8_seats 281 = .ok (.ireturn, 1) := by decide +kernel
theorem dX8_moved_0 : decode cX8_moved 0 = .ok (.aload_n 0, 1) := by decide +kernel
theorem dX8_moved_1 : decode cX8_moved 1 = .ok (.invokevirtual 194, 3) := by decide +kernel
theorem dX8_moved_4 : decode cX8_moved 4 = .ok (.aload_n 0, 1) := by decide +kernel
theorem dX8_moved_5 : decode cX8_moved 5 = .ok (.invokevirtual 229, 3) := by decide +kernel
theorem dX8_moved_8 : decode cX8_moved 8 = .ok (.istore_n 1, 1) := by decide +kernel
theorem dX8_moved_9 : decode cX8_moved 9 = .ok (.iconst (-1), 1) := by decide +kernel
theorem dX8_moved_10 : decode cX8_moved 10 = .ok (.istore_n 2, 1) := by decide +kernel
theorem dX8_moved_11 : decode cX8_moved 11 = .ok (.aload_n 0, 1) := by decide +kernel
theorem dX8_moved_12 : decode cX8_moved 12 = .ok (.getfield 7, 3) := by decide +kernel
theorem dX8_moved_15 : decode cX8_moved 15 = .ok (.iconst 4, 1) := by decide +kernel
theorem dX8_moved_16 : decode cX8_moved 16 = .ok (.iaload, 1) := by decide +kernel
theorem dX8_moved_17 : decode cX8_moved 17 = .ok (.istore_n 3, 1) := by decide +kernel
theorem dX8_moved_18 : decode cX8_moved 18 = .ok (.iconst 0, 1) := by decide +kernel
theorem dX8_moved_19 : decode cX8_moved 19 = .ok (.istore 4, 2) := by decide +kernel
theorem dX8_moved_21 : decode cX8_moved 21 = .ok (.iload 4, 2) := by decide +kernel
theorem dX8_moved_23 : decode cX8_moved 23 = .ok (.aload_n 0, 1) := by decide +kernel
theorem dX8_moved_24 : decode cX8_moved 24 = .ok (.iconst 0, 1) := by decide +kernel
theorem dX8_moved_25 : decode cX8_moved 25 = .ok (.invokevirtual 56, 3) := by decide +kernel
theorem dX8_moved_28 : decode cX8_moved 28 = .ok (.if_icmp .ge 125, 3) := by decide +kernel
theorem dX8_moved_31 : decode cX8_moved 31 = .ok (.iconst 0, 1) := by decide +kernel
theorem dX8_moved_32 : decode cX8_moved 32 = .ok (.istore 5, 2) := by decide +kernel
theorem dX8_moved_34 : decode cX8_moved 34 = .ok (.iload 5, 2) := by decide +kernel
theorem dX8_moved_36 : decode cX8_moved 36 = .ok (.aload_n 0, 1) := by decide +kernel
theorem dX8_moved_37 : decode cX8_moved 37 = .ok (.iconst 0, 1) := by decide +kernel
theorem dX8_moved_38 : decode cX8_moved 38 = .ok (.invokevirtual 56, 3) := by decide +kernel
theorem dX8_moved_41 : decode cX8_moved 41 = .ok (.if_icmp .ge 106, 3) := by decide +kernel
theorem dX8_moved_44 : decode cX8_moved 44 = .ok (.iload_n 3, 1) := by decide +kernel
theorem dX8_moved_45 : decode cX8_moved 45 = .ok (.iload 4, 2) := by decide +kernel
theorem dX8_moved_47 : decode cX8_moved 47 = .ok (.invokestatic 64, 3) := by decide +kernel
theorem dX8_moved_50 : decode cX8_moved 50 = .ok (.ifCond .eq 91, 3) := by decide +kernel
theorem dX8_moved_53 : decode cX8_moved 53 = .ok (.iload_n 3, 1) := by decide +kernel
theorem dX8_moved_54 : decode cX8_moved 54 = .ok (.iload 5, 2) := by decide +kernel
theorem dX8_moved_56 : decode cX8_moved 56 = .ok (.invokestatic 64, 3) := by decide +kernel
theorem dX8_moved_59 : decode cX8_moved 59 = .ok (.ifCond .ne 82, 3) := by decide +kernel
theorem dX8_moved_62 : decode cX8_moved 62 = .ok (.aload_n 0, 1) := by decide +kernel
theorem dX8_moved_63 : decode cX8_moved 63 = .ok (.iconst 0, 1) := by decide +kernel
theorem dX8_moved_64 : decode cX8_moved 64 = .ok (.iload 5, 2) := by decide +kernel
theorem dX8_moved_66 : decode cX8_moved 66 = .ok (.invokevirtual 67, 3) := by decide +kernel
theorem dX8_moved_69 : decode cX8_moved 69 = .ok (.ifCond .ge 72, 3) := by decide +kernel
theorem dX8_moved_72 : decode cX8_moved 72 = .ok (.aload_n 0, 1) := by decide +kernel
theorem dX8_moved_73 : decode cX8_moved 73 = .ok (.getfield 7, 3) := by decide +kernel
theorem dX8_moved_76 : decode cX8_moved 76 = .ok (.iconst 2, 1) := by decide +kernel
theorem dX8_moved_77 : decode cX8_moved 77 = .ok (.iaload, 1) := by decide +kernel
theorem dX8_moved_78 : decode cX8_moved 78 = .ok (.iload 5, 2) := by decide +kernel
theorem dX8_moved_80 : decode cX8_moved 80 = .ok (.if_icmp .eq 61, 3) := by decide +kernel
theorem dX8_moved_83 : decode cX8_moved 83 = .ok (.aload_n 0, 1) := by decide +kernel
theorem dX8_moved_84 : decode cX8_moved 84 = .ok (.getfield 7, 3) := by decide +kernel
theorem dX8_moved_87 : decode cX8_moved 87 = .ok (.iconst 4, 1) := by decide +kernel
theorem dX8_moved_88 : decode cX8_moved 88 = .ok (.iload_n 3, 1) := by decide +kernel
theorem dX8_moved_89 : decode cX8_moved 89 = .ok (.iconst 1, 1) := by decide +kernel
theorem dX8_moved_90 : decode cX8_moved 90 = .ok (.iload 4, 2) := by decide +kernel
theorem dX8_moved_92 : decode cX8_moved 92 = .ok (.ishl, 1) := by decide +kernel
theorem dX8_moved_93 : decode cX8_moved 93 = .ok (.iconst (-1), 1) := by decide +kernel
theorem dX8_moved_94 : decode cX8_moved 94 = .ok (.ixor, 1) := by decide +kernel
theorem dX8_moved_95 : decode cX8_moved 95 = .ok (.iand, 1) := by decide +kernel
theorem dX8_moved_96 : decode cX8_moved 96 = .ok (.iconst 1, 1) := by decide +kernel
theorem dX8_moved_97 : decode cX8_moved 97 = .ok (.iload 5, 2) := by decide +kernel
theorem dX8_moved_99 : decode cX8_moved 99 = .ok (.ishl, 1) := by decide +kernel
theorem dX8_moved_100 : decode cX8_moved 100 = .ok (.ior, 1) := by decide +kernel
theorem dX8_moved_101 : decode cX8_moved 101 = .ok (.iastore, 1) := by decide +kernel
theorem dX8_moved_102 : decode cX8_moved 102 = .ok (.aload_n 0, 1) := by decide +kernel
theorem dX8_moved_103 : decode cX8_moved 103 = .ok (.invokevirtual 229, 3) := by decide +kernel
theorem dX8_moved_106 : decode cX8_moved 106 = .ok (.istore 6, 2) := by decide +kernel
theorem dX8_moved_108 : decode cX8_moved 108 = .ok (.aload_n 0, 1) := by decide +kernel
theorem dX8_moved_109 : decode cX8_moved 109 = .ok (.getfield 7, 3) := by decide +kernel
theorem dX8_moved_112 : decode cX8_moved 112 = .ok (.iconst 4, 1) := by decide +kernel
theorem dX8_moved_113 : decode cX8_moved 113 = .ok (.iload_n 3, 1) := by decide +kernel
theorem dX8_moved_114 : decode cX8_moved 114 = .ok (.iastore, 1) := by decide +kernel
theorem dX8_moved_115 : decode cX8_moved 115 = .ok (.iload 6, 2) := by decide +kernel
theorem dX8_moved_117 : decode cX8_moved 117 = .ok (.iload_n 1, 1) := by decide +kernel
theorem dX8_moved_118 : decode cX8_moved 118 = .ok (.if_icmp .le 14, 3) := by decide +kernel
theorem dX8_moved_121 : decode cX8_moved 121 = .ok (.bipush 100, 2) := by decide +kernel
theorem dX8_moved_123 : decode cX8_moved 123 = .ok (.iload 4, 2) := by decide +kernel
theorem dX8_moved_125 : decode cX8_moved 125 = .ok (.imul, 1) := by decide +kernel
theorem dX8_moved_126 : decode cX8_moved 126 = .ok (.iload 5, 2) := by decide +kernel
theorem dX8_moved_128 : decode cX8_moved 128 = .ok (.iadd, 1) := by decide +kernel
theorem dX8_moved_129 : decode cX8_moved 129 = .ok (.goto 4, 3) := by decide +kernel
theorem dX8_moved_132 : decode cX8_moved 132 = .ok (.iload_n 2, 1) := by decide +kernel
theorem dX8_moved_133 : decode cX8_moved 133 = .ok (.istore_n 2, 1) := by decide +kernel
theorem dX8_moved_134 : decode cX8_moved 134 = .ok (.iload_n 1, 1) := by decide +kernel
theorem dX8_moved_135 : decode cX8_moved 135 = .ok (.iload 6, 2) := by decide +kernel
theorem dX8_moved_137 : decode cX8_moved 137 = .ok (.invokestatic 107, 3) := by decide +kernel
theorem dX8_moved_140 : decode cX8_moved 140 = .ok (.istore_n 1, 1) := by decide +kernel
theorem dX8_moved_141 : decode cX8_moved 141 = .ok (.iinc 5 1, 3) := by decide +kernel
theorem dX8_moved_144 : decode cX8_moved 144 = .ok (.goto (-110), 3) := by decide +kernel
theorem dX8_moved_147 : decode cX8_moved 147 = .ok (.iinc 4 1, 3) := by decide +kernel
theorem dX8_moved_150 : decode cX8_moved 150 = .ok (.goto (-129), 3) := by decide +kernel
theorem dX8_moved_153 : decode cX8_moved 153 = .ok (.iload_n 2, 1) := by decide +kernel
theorem dX8_moved_154 : decode cX8_moved 154 = .ok (.ireturn, 1) := by decide +kernel
theorem dX8_pulled_0 : decode cX8_pulled 0 = .ok (.iconst 0, 1) := by decide +kernel
theorem dX8_pulled_1 : decode cX8_pulled 1 = .ok (.istore_n 2, 1) := by decide +kernel
theorem dX8_pulled_2 : decode cX8_pulled 2 = .ok (.iconst 0, 1) := by decide +kernel
theorem dX8_pulled_3 : decode cX8_pulled 3 = .ok (.istore_n 3, 1) := by decide +kernel
theorem dX8_pulled_4 : decode cX8_pulled 4 = .ok (.iconst 0, 1) := by decide +kernel
theorem dX8_pulled_5 : decode cX8_pulled 5 = .ok (.istore 4, 2) := by decide +kernel
theorem dX8_pulled_7 : decode cX8_pulled 7 = .ok (.iload 4, 2) := by decide +kernel
theorem dX8_pulled_9 : decode cX8_pulled 9 = .ok (.aload_n 0, 1) := by decide +kernel
theorem dX8_pulled_10 : decode cX8_pulled 10 = .ok (.getfield 7, 3) := by decide +kernel
theorem dX8_pulled_13 : decode cX8_pulled 13 = .ok (.iconst 5, 1) := by decide +kernel
theorem dX8_pulled_14 : decode cX8_pulled 14 = .ok (.iaload, 1) := by decide +kernel
theorem dX8_pulled_15 : decode cX8_pulled 15 = .ok (.if_icmp .ge 144, 3) := by decide +kernel
theorem dX8_pulled_18 : decode cX8_pulled 18 = .ok (.aload_n 0, 1) := by decide +kernel
theorem dX8_pulled_19 : decode cX8_pulled 19 = .ok (.getfield 7, 3) := by decide +kernel
theorem dX8_pulled_22 : decode cX8_pulled 22 = .ok (.bipush 31, 2) := by decide +kernel
theorem dX8_pulled_24 : decode cX8_pulled 24 = .ok (.iload 4, 2) := by decide +kernel
theorem dX8_pulled_26 : decode cX8_pulled 26 = .ok (.iadd, 1) := by decide +kernel
theorem dX8_pulled_27 : decode cX8_pulled 27 = .ok (.iaload, 1) := by decide +kernel
theorem dX8_pulled_28 : decode cX8_pulled 28 = .ok (.ifCond .le 16, 3) := by decide +kernel
theorem dX8_pulled_31 : decode cX8_pulled 31 = .ok (.aload_n 0, 1) := by decide +kernel
theorem dX8_pulled_32 : decode cX8_pulled 32 = .ok (.getfield 7, 3) := by decide +kernel
theorem dX8_pulled_35 : decode cX8_pulled 35 = .ok (.bipush 26, 2) := by decide +kernel
theorem dX8_pulled_37 : decode cX8_pulled 37 = .ok (.iload 4, 2) := by decide +kernel
theorem dX8_pulled_39 : decode cX8_pulled 39 = .ok (.iadd, 1) := by decide +kernel
theorem dX8_pulled_40 : decode cX8_pulled 40 = .ok (.iaload, 1) := by decide +kernel
theorem dX8_pulled_41 : decode cX8_pulled 41 = .ok (.goto 4, 3) := by decide +kernel
theorem dX8_pulled_44 : decode cX8_pulled 44 = .ok (.iconst 0, 1) := by decide +kernel
theorem dX8_pulled_45 : decode cX8_pulled 45 = .ok (.istore 5, 2) := by decide +kernel
theorem dX8_pulled_47 : decode cX8_pulled 47 = .ok (.aload_n 0, 1) := by decide +kernel
theorem dX8_pulled_48 : decode cX8_pulled 48 = .ok (.getfield 7, 3) := by decide +kernel
theorem dX8_pulled_51 : decode cX8_pulled 51 = .ok (.bipush 6, 2) := by decide +kernel
theorem dX8_pulled_53 : decode cX8_pulled 53 = .ok (.iload 4, 2) := by decide +kernel
theorem dX8_pulled_55 : decode cX8_pulled 55 = .ok (.iadd, 1) := by decide +kernel
theorem dX8_pulled_56 : decode cX8_pulled 56 = .ok (.iaload, 1) := by decide +kernel
theorem dX8_pulled_57 : decode cX8_pulled 57 = .ok (.aload_n 0, 1) := by decide +kernel
theorem dX8_pulled_58 : decode cX8_pulled 58 = .ok (.getfield 7, 3) := by decide +kernel
theorem dX8_pulled_61 : decode cX8_pulled 61 = .ok (.iconst 0, 1) := by decide +kernel
theorem dX8_pulled_62 : decode cX8_pulled 62 = .ok (.iaload, 1) := by decide +kernel
theorem dX8_pulled_63 : decode cX8_pulled 63 = .ok (.irem, 1) := by decide +kernel
theorem dX8_pulled_64 : decode cX8_pulled 64 = .ok (.iload_n 1, 1) := by decide +kernel
theorem dX8_pulled_65 : decode cX8_pulled 65 = .ok (.aload_n 0, 1) := by decide +kernel
theorem dX8_pulled_66 : decode cX8_pulled 66 = .ok (.getfield 7, 3) := by decide +kernel
theorem dX8_pulled_69 : decode cX8_pulled 69 = .ok (.iconst 0, 1) := by decide +kernel
theorem dX8_pulled_70 : decode cX8_pulled 70 = .ok (.iaload, 1) := by decide +kernel
theorem dX8_pulled_71 : decode cX8_pulled 71 = .ok (.irem, 1) := by decide +kernel
theorem dX8_pulled_72 : decode cX8_pulled 72 = .ok (.isub, 1) := by decide +kernel
theorem dX8_pulled_73 : decode cX8_pulled 73 = .ok (.istore 6, 2) := by decide +kernel
theorem dX8_pulled_75 : decode cX8_pulled 75 = .ok (.aload_n 0, 1) := by decide +kernel
theorem dX8_pulled_76 : decode cX8_pulled 76 = .ok (.getfield 7, 3) := by decide +kernel
theorem dX8_pulled_79 : decode cX8_pulled 79 = .ok (.bipush 6, 2) := by decide +kernel
theorem dX8_pulled_81 : decode cX8_pulled 81 = .ok (.iload 4, 2) := by decide +kernel
theorem dX8_pulled_83 : decode cX8_pulled 83 = .ok (.iadd, 1) := by decide +kernel
theorem dX8_pulled_84 : decode cX8_pulled 84 = .ok (.iaload, 1) := by decide +kernel
theorem dX8_pulled_85 : decode cX8_pulled 85 = .ok (.aload_n 0, 1) := by decide +kernel
theorem dX8_pulled_86 : decode cX8_pulled 86 = .ok (.getfield 7, 3) := by decide +kernel
theorem dX8_pulled_89 : decode cX8_pulled 89 = .ok (.iconst 0, 1) := by decide +kernel
theorem dX8_pulled_90 : decode cX8_pulled 90 = .ok (.iaload, 1) := by decide +kernel
theorem dX8_pulled_91 : decode cX8_pulled 91 = .ok (.idiv, 1) := by decide +kernel
theorem dX8_pulled_92 : decode cX8_pulled 92 = .ok (.iload_n 1, 1) := by decide +kernel
theorem dX8_pulled_93 : decode cX8_pulled 93 = .ok (.aload_n 0, 1) := by decide +kernel
theorem dX8_pulled_94 : decode cX8_pulled 94 = .ok (.getfield 7, 3) := by decide +kernel
theorem dX8_pulled_97 : decode cX8_pulled 97 = .ok (.iconst 0, 1) := by decide +kernel
theorem dX8_pulled_98 : decode cX8_pulled 98 = .ok (.iaload, 1) := by decide +kernel
theorem dX8_pulled_99 : decode cX8_pulled 99 = .ok (.idiv, 1) := by decide +kernel
theorem dX8_pulled_100 : decode cX8_pulled 100 = .ok (.isub, 1) := by decide +kernel
theorem dX8_pulled_101 : decode cX8_pulled 101 = .ok (.istore 7, 2) := by decide +kernel
theorem dX8_pulled_103 : decode cX8_pulled 103 = .ok (.iload_n 2, 1) := by decide +kernel
theorem dX8_pulled_104 : decode cX8_pulled 104 = .ok (.iload 6, 2) := by decide +kernel
theorem dX8_pulled_106 : decode cX8_pulled 106 = .ok (.ifCond .le 8, 3) := by decide +kernel
theorem dX8_pulled_109 : decode cX8_pulled 109 = .ok (.iload 5, 2) := by decide +kernel
theorem dX8_pulled_111 : decode cX8_pulled 111 = .ok (.goto 15, 3) := by decide +kernel
theorem dX8_pulled_114 : decode cX8_pulled 114 = .ok (.iload 6, 2) := by decide +kernel
theorem dX8_pulled_116 : decode cX8_pulled 116 = .ok (.ifCond .ge 9, 3) := by decide +kernel
theorem dX8_pulled_119 : decode cX8_pulled 119 = .ok (.iload 5, 2) := by decide +kernel
theorem dX8_pulled_121 : decode cX8_pulled 121 = .ok (.ineg, 1) := by decide +kernel
theorem dX8_pulled_122 : decode cX8_pulled 122 = .ok (.goto 4, 3) := by decide +kernel
theorem dX8_pulled_125 : decode cX8_pulled 125 = .ok (.iconst 0, 1) := by decide +kernel
theorem dX8_pulled_126 : decode cX8_pulled 126 = .ok (.iadd, 1) := by decide +kernel
theorem dX8_pulled_127 : decode cX8_pulled 127 = .ok (.istore_n 2, 1) := by decide +kernel
theorem dX8_pulled_128 : decode cX8_pulled 128 = .ok (.iload_n 3, 1) := by decide +kernel
theorem dX8_pulled_129 : decode cX8_pulled 129 = .ok (.iload 7, 2) := by decide +kernel
theorem dX8_pulled_131 : decode cX8_pulled 131 = .ok (.ifCond .le 8, 3) := by decide +kernel
theorem dX8_pulled_134 : decode cX8_pulled 134 = .ok (.iload 5, 2) := by decide +kernel
theorem dX8_pulled_136 : decode cX8_pulled 136 = .ok (.goto 15, 3) := by decide +kernel
theorem dX8_pulled_139 : decode cX8_pulled 139 = .ok (.iload 7, 2) := by decide +kernel
theorem dX8_pulled_141 : decode cX8_pulled 141 = .ok (.ifCond .ge 9, 3) := by decide +kernel
theorem dX8_pulled_144 : decode cX8_pulled 144 = .ok (.iload 5, 2) := by decide +kernel
theorem dX8_pulled_146 : decode cX8_pulled 146 = .ok (.ineg, 1) := by decide +kernel
theorem dX8_pulled_147 : decode cX8_pulled 147 = .ok (.goto 4, 3) := by decide +kernel
theorem dX8_pulled_150 : decode cX8_pulled 150 = .ok (.iconst 0, 1) := by decide +kernel
theorem dX8_pulled_151 : decode cX8_pulled 151 = .ok (.iadd, 1) := by decide +kernel
theorem dX8_pulled_152 : decode cX8_pulled 152 = .ok (.istore_n 3, 1) := by decide +kernel
theorem dX8_pulled_153 : decode cX8_pulled 153 = .ok (.iinc 4 1, 3) := by decide +kernel
theorem dX8_pulled_156 : decode cX8_pulled 156 = .ok (.goto (-149), 3) := by decide +kernel
theorem dX8_pulled_159 : decode cX8_pulled 159 = .ok (.iload_n 2, 1) := by decide +kernel
theorem dX8_pulled_160 : decode cX8_pulled 160 = .ok (.invokestatic 104, 3) := by decide +kernel
theorem dX8_pulled_163 : decode cX8_pulled 163 = .ok (.iload_n 3, 1) := by decide +kernel
theorem dX8_pulled_164 : decode cX8_pulled 164 = .ok (.invokestatic 104, 3) := by decide +kernel
theorem dX8_pulled_167 : decode cX8_pulled 167 = .ok (.if_icmp .lt 7, 3) := by decide +kernel
theorem dX8_pulled_170 : decode cX8_pulled 170 = .ok (.iconst 1, 1) := by decide +kernel
theorem dX8_pulled_171 : decode cX8_pulled 171 = .ok (.goto 4, 3) := by decide +kernel
theorem dX8_pulled_174 : decode cX8_pulled 174 = .ok (.iconst 0, 1) := by decide +kernel
theorem dX8_pulled_175 : decode cX8_pulled 175 = .ok (.istore 4, 2) := by decide +kernel
theorem dX8_pulled_177 : decode cX8_pulled 177 = .ok (.iload 4, 2) := by decide +kernel
theorem dX8_pulled_179 : decode cX8_pulled 179 = .ok (.ifCond .eq 25, 3) := by decide +kernel
theorem dX8_pulled_182 : decode cX8_pulled 182 = .ok (.iload_n 1, 1) := by decide +kernel
theorem dX8_pulled_183 : decode cX8_pulled 183 = .ok (.iload_n 2, 1) := by decide +kernel
theorem dX8_pulled_184 : decode cX8_pulled 184 = .ok (.ifCond .le 7, 3) := by decide +kernel
theorem dX8_pulled_187 : decode cX8_pulled 187 = .ok (.iconst 1, 1) := by decide +kernel
theorem dX8_pulled_188 : decode cX8_pulled 188 = .ok (.goto 12, 3) := by decide +kernel
theorem dX8_pulled_191 : decode cX8_pulled 191 = .ok (.iload_n 2, 1) := by decide +kernel
theorem dX8_pulled_192 : decode cX8_pulled 192 = .ok (.ifCond .ge 7, 3) := by decide +kernel
theorem dX8_pulled_195 : decode cX8_pulled 195 = .ok (.iconst (-1), 1) := by decide +kernel
theorem dX8_pulled_196 : decode cX8_pulled 196 = .ok (.goto 4, 3) := by decide +kernel
theorem dX8_pulled_199 : decode cX8_pulled 199 = .ok (.iconst 0, 1) := by decide +kernel
theorem dX8_pulled_200 : decode cX8_pulled 200 = .ok (.iadd, 1) := by decide +kernel
theorem dX8_pulled_201 : decode cX8_pulled 201 = .ok (.goto 25, 3) := by decide +kernel
theorem dX8_pulled_204 : decode cX8_pulled 204 = .ok (.iload_n 1, 1) := by decide +kernel
theorem dX8_pulled_205 : decode cX8_pulled 205 = .ok (.iload_n 3, 1) := by decide +kernel
theorem dX8_pulled_206 : decode cX8_pulled 206 = .ok (.ifCond .le 12, 3) := by decide +kernel
theorem dX8_pulled_209 : decode cX8_pulled 209 = .ok (.aload_n 0, 1) := by decide +kernel
theorem dX8_pulled_210 : decode cX8_pulled 210 = .ok (.getfield 7, 3) := by decide +kernel
theorem dX8_pulled_213 : decode cX8_pulled 213 = .ok (.iconst 0, 1) := by decide +kernel
theorem dX8_pulled_214 : decode cX8_pulled 214 = .ok (.iaload, 1) := by decide +kernel
theorem dX8_pulled_215 : decode cX8_pulled 215 = .ok (.goto 10, 3) := by decide +kernel
theorem dX8_pulled_218 : decode cX8_pulled 218 = .ok (.aload_n 0, 1) := by decide +kernel
theorem dX8_pulled_219 : decode cX8_pulled 219 = .ok (.getfield 7, 3) := by decide +kernel
theorem dX8_pulled_222 : decode cX8_pulled 222 = .ok (.iconst 0, 1) := by decide +kernel
theorem dX8_pulled_223 : decode cX8_pulled 223 = .ok (.iaload, 1) := by decide +kernel
theorem dX8_pulled_224 : decode cX8_pulled 224 = .ok (.ineg, 1) := by decide +kernel
theorem dX8_pulled_225 : decode cX8_pulled 225 = .ok (.iadd, 1) := by decide +kernel
theorem dX8_pulled_226 : decode cX8_pulled 226 = .ok (.istore 5, 2) := by decide +kernel
theorem dX8_pulled_228 : decode cX8_pulled 228 = .ok (.aload_n 0, 1) := by decide +kernel
theorem dX8_pulled_229 : decode cX8_pulled 229 = .ok (.getfield 7, 3) := by decide +kernel
theorem dX8_pulled_232 : decode cX8_pulled 232 = .ok (.iconst 4, 1) := by decide +kernel
theorem dX8_pulled_233 : decode cX8_pulled 233 = .ok (.iaload, 1) := by decide +kernel
theorem dX8_pulled_234 : decode cX8_pulled 234 = .ok (.iload 5, 2) := by decide +kernel
theorem dX8_pulled_236 : decode cX8_pulled 236 = .ok (.invokestatic 64, 3) := by decide +kernel
theorem dX8_pulled_239 : decode cX8_pulled 239 = .ok (.ifCond .eq 7, 3) := by decide +kernel
theorem dX8_pulled_242 : decode cX8_pulled 242 = .ok (.iload_n 1, 1) := by decide +kernel
theorem dX8_pulled_243 : decode cX8_pulled 243 = .ok (.goto 5, 3) := by decide +kernel
theorem dX8_pulled_246 : decode cX8_pulled 246 = .ok (.iload 5, 2) := by decide +kernel
theorem dX8_pulled_248 : decode cX8_pulled 248 = .ok (.ireturn, 1) := by decide +kernel
theorem dX8_rest_0 : decode cX8_rest 0 = .ok (.iload_n 1, 1) := by decide +kernel
theorem dX8_rest_1 : decode cX8_rest 1 = .ok (.i2l, 1) := by decide +kernel
theorem dX8_rest_2 : decode cX8_rest 2 = .ok (.lconst 0, 1) := by decide +kernel
theorem dX8_rest_3 : decode cX8_rest 3 = .ok (.lconst 1, 1) := by decide +kernel
theorem dX8_rest_4 : decode cX8_rest 4 = .ok (.invokestatic 52, 3) := by decide +kernel
theorem dX8_rest_7 : decode cX8_rest 7 = .ok (.ifCond .ne 10, 3) := by decide +kernel
theorem dX8_rest_10 : decode cX8_rest 10 = .ok (.aload_n 0, 1) := by decide +kernel
theorem dX8_rest_11 : decode cX8_rest 11 = .ok (.bipush (-2), 2) := by decide +kernel
theorem dX8_rest_13 : decode cX8_rest 13 = .ok (.invokevirtual 81, 3) := by decide +kernel
theorem dX8_rest_16 : decode cX8_rest 16 = .ok (.ireturn, 1) := by decide +kernel
theorem dX8_rest_17 : decode cX8_rest 17 = .ok (.aload_n 0, 1) := by decide +kernel
theorem dX8_rest_18 : decode cX8_rest 18 = .ok (.getfield 7, 3) := by decide +kernel
theorem dX8_rest_21 : decode cX8_rest 21 = .ok (.iconst 2, 1) := by decide +kernel
theorem dX8_rest_22 : decode cX8_rest 22 = .ok (.iaload, 1) := by decide +kernel
theorem dX8_rest_23 : decode cX8_rest 23 = .ok (.istore_n 2, 1) := by decide +kernel
theorem dX8_rest_24 : decode cX8_rest 24 = .ok (.iconst 0, 1) := by decide +kernel
theorem dX8_rest_25 : decode cX8_rest 25 = .ok (.istore_n 3, 1) := by decide +kernel
theorem dX8_rest_26 : decode cX8_rest 26 = .ok (.iload_n 3, 1) := by decide +kernel
theorem dX8_rest_27 : decode cX8_rest 27 = .ok (.bipush 20, 2) := by decide +kernel
theorem dX8_rest_29 : decode cX8_rest 29 = .ok (.if_icmp .gt 35, 3) := by decide +kernel
theorem dX8_rest_32 : decode cX8_rest 32 = .ok (.aload_n 0, 1) := by decide +kernel
theorem dX8_rest_33 : decode cX8_rest 33 = .ok (.iload_n 2, 1) := by decide +kernel
theorem dX8_rest_34 : decode cX8_rest 34 = .ok (.invokevirtual 232, 3) := by decide +kernel
theorem dX8_rest_37 : decode cX8_rest 37 = .ok (.istore 4, 2) := by decide +kernel
theorem dX8_rest_39 : decode cX8_rest 39 = .ok (.iload 4, 2) := by decide +kernel
theorem dX8_rest_41 : decode cX8_rest 41 = .ok (.iload_n 2, 1) := by decide +kernel
theorem dX8_rest_42 : decode cX8_rest 42 = .ok (.if_icmp .ne 13, 3) := by decide +kernel
theorem dX8_rest_45 : decode cX8_rest 45 = .ok (.iload_n 1, 1) := by decide +kernel
theorem dX8_rest_46 : decode cX8_rest 46 = .ok (.ifCond .ne 7, 3) := by decide +kernel
theorem dX8_rest_49 : decode cX8_rest 49 = .ok (.iload_n 3, 1) := by decide +kernel
theorem dX8_rest_50 : decode cX8_rest 50 = .ok (.goto 4, 3) := by decide +kernel
theorem dX8_rest_53 : decode cX8_rest 53 = .ok (.iload_n 2, 1) := by decide +kernel
theorem dX8_rest_54 : decode cX8_rest 54 = .ok (.ireturn, 1) := by decide +kernel
theorem dX8_rest_55 : decode cX8_rest 55 = .ok (.iload 4, 2) := by decide +kernel
theorem dX8_rest_57 : decode cX8_rest 57 = .ok (.istore_n 2, 1) := by decide +kernel
theorem dX8_rest_58 : decode cX8_rest 58 = .ok (.iinc 3 1, 3) := by decide +kernel
theorem dX8_rest_61 : decode cX8_rest 61 = .ok (.goto (-35), 3) := by decide +kernel
theorem dX8_rest_64 : decode cX8_rest 64 = .ok (.iconst (-1), 1) := by decide +kernel
theorem dX8_rest_65 : decode cX8_rest 65 = .ok (.ireturn, 1) := by decide +kernel
theorem dX8_told_0 : decode cX8_told 0 = .ok (.aload_n 0, 1) := by decide +kernel
theorem dX8_told_1 : decode cX8_told 1 = .ok (.iload_n 1, 1) := by decide +kernel
theorem dX8_told_2 : decode cX8_told 2 = .ok (.invokevirtual 200, 3) := by decide +kernel
theorem dX8_told_5 : decode cX8_told 5 = .ok (.ifCond .eq 15, 3) := by decide +kernel
theorem dX8_told_8 : decode cX8_told 8 = .ok (.iload_n 2, 1) := by decide +kernel
theorem dX8_told_9 : decode cX8_told 9 = .ok (.i2l, 1) := by decide +kernel
theorem dX8_told_10 : decode cX8_told 10 = .ok (.lconst 0, 1) := by decide +kernel
theorem dX8_told_11 : decode cX8_told 11 = .ok (.ldc2_w 71, 3) := by decide +kernel
theorem dX8_told_14 : decode cX8_told 14 = .ok (.invokestatic 52, 3) := by decide +kernel
theorem dX8_told_17 : decode cX8_told 17 = .ok (.ifCond .ne 10, 3) := by decide +kernel
theorem dX8_told_20 : decode cX8_told 20 = .ok (.aload_n 0, 1) := by decide +kernel
theorem dX8_told_21 : decode cX8_told 21 = .ok (.bipush (-2), 2) := by decide +kernel
theorem dX8_told_23 : decode cX8_told 23 = .ok (.invokevirtual 81, 3) := by decide +kernel
theorem dX8_told_26 : decode cX8_told 26 = .ok (.ireturn, 1) := by decide +kernel
theorem dX8_told_27 : decode cX8_told 27 = .ok (.aload_n 0, 1) := by decide +kernel
theorem dX8_told_28 : decode cX8_told 28 = .ok (.getfield 7, 3) := by decide +kernel
theorem dX8_told_31 : decode cX8_told 31 = .ok (.bipush 41, 2) := by decide +kernel
theorem dX8_told_33 : decode cX8_told 33 = .ok (.iload_n 1, 1) := by decide +kernel
theorem dX8_told_34 : decode cX8_told 34 = .ok (.iadd, 1) := by decide +kernel
theorem dX8_told_35 : decode cX8_told 35 = .ok (.iaload, 1) := by decide +kernel
theorem dX8_told_36 : decode cX8_told 36 = .ok (.istore_n 3, 1) := by decide +kernel
theorem dX8_told_37 : decode cX8_told 37 = .ok (.aload_n 0, 1) := by decide +kernel
theorem dX8_told_38 : decode cX8_told 38 = .ok (.getfield 7, 3) := by decide +kernel
theorem dX8_told_41 : decode cX8_told 41 = .ok (.bipush 41, 2) := by decide +kernel
theorem dX8_told_43 : decode cX8_told 43 = .ok (.iload_n 1, 1) := by decide +kernel
theorem dX8_told_44 : decode cX8_told 44 = .ok (.iadd, 1) := by decide +kernel
theorem dX8_told_45 : decode cX8_told 45 = .ok (.iload_n 2, 1) := by decide +kernel
theorem dX8_told_46 : decode cX8_told 46 = .ok (.iastore, 1) := by decide +kernel
theorem dX8_told_47 : decode cX8_told 47 = .ok (.iload_n 3, 1) := by decide +kernel
theorem dX8_told_48 : decode cX8_told 48 = .ok (.ireturn, 1) := by decide +kernel
theorem dX8_been_0 : decode cX8_been 0 = .ok (.aload_n 0, 1) := by decide +kernel
theorem dX8_been_1 : decode cX8_been 1 = .ok (.iconst 0, 1) := by decide +kernel
theorem dX8_been_2 : decode cX8_been 2 = .ok (.iload_n 1, 1) := by decide +kernel
theorem dX8_been_3 : decode cX8_been 3 = .ok (.invokevirtual 60, 3) := by decide +kernel
theorem dX8_been_6 : decode cX8_been 6 = .ok (.ifCond .eq 38, 3) := by decide +kernel
theorem dX8_been_9 : decode cX8_been 9 = .ok (.aload_n 0, 1) := by decide +kernel
theorem dX8_been_10 : decode cX8_been 10 = .ok (.getfield 7, 3) := by decide +kernel
theorem dX8_been_13 : decode cX8_been 13 = .ok (.iconst 4, 1) := by decide +kernel
theorem dX8_been_14 : decode cX8_been 14 = .ok (.iaload, 1) := by decide +kernel
theorem dX8_been_15 : decode cX8_been 15 = .ok (.iload_n 1, 1) := by decide +kernel
theorem dX8_been_16 : decode cX8_been 16 = .ok (.invokestatic 64, 3) := by decide +kernel
theorem dX8_been_19 : decode cX8_been 19 = .ok (.ifCond .ne 25, 3) := by decide +kernel
theorem dX8_been_22 : decode cX8_been 22 = .ok (.iload_n 2, 1) := by decide +kernel
theorem dX8_been_23 : decode cX8_been 23 = .ok (.i2l, 1) := by decide +kernel
theorem dX8_been_24 : decode cX8_been 24 = .ok (.lconst 0, 1) := by decide +kernel
theorem dX8_been_25 : decode cX8_been 25 = .ok (.ldc2_w 50, 3) := by decide +kernel
theorem dX8_been_28 : decode cX8_been 28 = .ok (.invokestatic 52, 3) := by decide +kernel
theorem dX8_been_31 : decode cX8_been 31 = .ok (.ifCond .eq 13, 3) := by decide +kernel
theorem dX8_been_34 : decode cX8_been 34 = .ok (.iload_n 3, 1) := by decide +kernel
theorem dX8_been_35 : decode cX8_been 35 = .ok (.i2l, 1) := by decide +kernel
theorem dX8_been_36 : decode cX8_been 36 = .ok (.lconst 0, 1) := by decide +kernel
theorem dX8_been_37 : decode cX8_been 37 = .ok (.lconst 1, 1) := by decide +kernel
theorem dX8_been_38 : decode cX8_been 38 = .ok (.invokestatic 52, 3) := by decide +kernel
theorem dX8_been_41 : decode cX8_been 41 = .ok (.ifCond .ne 10, 3) := by decide +kernel
theorem dX8_been_44 : decode cX8_been 44 = .ok (.aload_n 0, 1) := by decide +kernel
theorem dX8_been_45 : decode cX8_been 45 = .ok (.bipush (-2), 2) := by decide +kernel
theorem dX8_been_47 : decode cX8_been 47 = .ok (.invokevirtual 81, 3) := by decide +kernel
theorem dX8_been_50 : decode cX8_been 50 = .ok (.ireturn, 1) := by decide +kernel
theorem dX8_been_51 : decode cX8_been 51 = .ok (.iconst 0, 1) := by decide +kernel
theorem dX8_been_52 : decode cX8_been 52 = .ok (.istore 4, 2) := by decide +kernel
theorem dX8_been_54 : decode cX8_been 54 = .ok (.iload 4, 2) := by decide +kernel
theorem dX8_been_56 : decode cX8_been 56 = .ok (.iconst 5, 1) := by decide +kernel
theorem dX8_been_57 : decode cX8_been 57 = .ok (.if_icmp .ge 34, 3) := by decide +kernel
theorem dX8_been_60 : decode cX8_been 60 = .ok (.aload_n 0, 1) := by decide +kernel
theorem dX8_been_61 : decode cX8_been 61 = .ok (.getfield 29, 3) := by decide +kernel
theorem dX8_been_64 : decode cX8_been 64 = .ok (.iload 4, 2) := by decide +kernel
theorem dX8_been_66 : decode cX8_been 66 = .ok (.aload_n 0, 1) := by decide +kernel
theorem dX8_been_67 : decode cX8_been 67 = .ok (.getfield 7, 3) := by decide +kernel
theorem dX8_been_70 : decode cX8_been 70 = .ok (.bipush 16, 2) := by decide +kernel
theorem dX8_been_72 : decode cX8_been 72 = .ok (.iload 4, 2) := by decide +kernel
theorem dX8_been_74 : decode cX8_been 74 = .ok (.iadd, 1) := by decide +kernel
theorem dX8_been_75 : decode cX8_been 75 = .ok (.iaload, 1) := by decide +kernel
theorem dX8_been_76 : decode cX8_been 76 = .ok (.iastore, 1) := by decide +kernel
theorem dX8_been_77 : decode cX8_been 77 = .ok (.aload_n 0, 1) := by decide +kernel
theorem dX8_been_78 : decode cX8_been 78 = .ok (.getfield 32, 3) := by decide +kernel
theorem dX8_been_81 : decode cX8_been 81 = .ok (.iload 4, 2) := by decide +kernel
theorem dX8_been_83 : decode cX8_been 83 = .ok (.iconst 0, 1) := by decide +kernel
theorem dX8_been_84 : decode cX8_been 84 = .ok (.iastore, 1) := by decide +kernel
theorem dX8_been_85 : decode cX8_been 85 = .ok (.iinc 4 1, 3) := by decide +kernel
theorem dX8_been_88 : decode cX8_been 88 = .ok (.goto (-34), 3) := by decide +kernel
theorem dX8_been_91 : decode cX8_been 91 = .ok (.aload_n 0, 1) := by decide +kernel
theorem dX8_been_92 : decode cX8_been 92 = .ok (.iload_n 1, 1) := by decide +kernel
theorem dX8_been_93 : decode cX8_been 93 = .ok (.iload_n 2, 1) := by decide +kernel
theorem dX8_been_94 : decode cX8_been 94 = .ok (.iconst 0, 1) := by decide +kernel
theorem dX8_been_95 : decode cX8_been 95 = .ok (.iconst 1, 1) := by decide +kernel
theorem dX8_been_96 : decode cX8_been 96 = .ok (.invokevirtual 222, 3) := by decide +kernel
theorem dX8_been_99 : decode cX8_been 99 = .ok (.iload_n 3, 1) := by decide +kernel
theorem dX8_been_100 : decode cX8_been 100 = .ok (.ifCond .ne 10, 3) := by decide +kernel
theorem dX8_been_103 : decode cX8_been 103 = .ok (.aload_n 0, 1) := by decide +kernel
theorem dX8_been_104 : decode cX8_been 104 = .ok (.getfield 204, 3) := by decide +kernel
theorem dX8_been_107 : decode cX8_been 107 = .ok (.goto 7, 3) := by decide +kernel
theorem dX8_been_110 : decode cX8_been 110 = .ok (.aload_n 0, 1) := by decide +kernel
theorem dX8_been_111 : decode cX8_been 111 = .ok (.getfield 207, 3) := by decide +kernel
theorem dX8_been_114 : decode cX8_been 114 = .ok (.ireturn, 1) := by decide +kernel
theorem dX8_image_0 : decode cX8_image 0 = .ok (.iload_n 1, 1) := by decide +kernel
theorem dX8_image_1 : decode cX8_image 1 = .ok (.i2l, 1) := by decide +kernel
theorem dX8_image_2 : decode cX8_image 2 = .ok (.lconst 0, 1) := by decide +kernel
theorem dX8_image_3 : decode cX8_image 3 = .ok (.lconst 1, 1) := by decide +kernel
theorem dX8_image_4 : decode cX8_image 4 = .ok (.invokestatic 52, 3) := by decide +kernel
theorem dX8_image_7 : decode cX8_image 7 = .ok (.ifCond .ne 10, 3) := by decide +kernel
theorem dX8_image_10 : decode cX8_image 10 = .ok (.aload_n 0, 1) := by decide +kernel
theorem dX8_image_11 : decode cX8_image 11 = .ok (.bipush (-2), 2) := by decide +kernel
theorem dX8_image_13 : decode cX8_image 13 = .ok (.invokevirtual 81, 3) := by decide +kernel
theorem dX8_image_16 : decode cX8_image 16 = .ok (.ireturn, 1) := by decide +kernel
theorem dX8_image_17 : decode cX8_image 17 = .ok (.aload_n 0, 1) := by decide +kernel
theorem dX8_image_18 : decode cX8_image 18 = .ok (.iconst 0, 1) := by decide +kernel
theorem dX8_image_19 : decode cX8_image 19 = .ok (.sipush 200, 3) := by decide +kernel
theorem dX8_image_22 : decode cX8_image 22 = .ok (.iconst 1, 1) := by decide +kernel
theorem dX8_image_23 : decode cX8_image 23 = .ok (.iload_n 1, 1) := by decide +kernel
theorem dX8_image_24 : decode cX8_image 24 = .ok (.iadd, 1) := by decide +kernel
theorem dX8_image_25 : decode cX8_image 25 = .ok (.imul, 1) := by decide +kernel
theorem dX8_image_26 : decode cX8_image 26 = .ok (.invokevirtual 178, 3) := by decide +kernel
theorem dX8_image_29 : decode cX8_image 29 = .ok (.aload_n 0, 1) := by decide +kernel
theorem dX8_image_30 : decode cX8_image 30 = .ok (.getfield 13, 3) := by decide +kernel
theorem dX8_image_33 : decode cX8_image 33 = .ok (.iload_n 1, 1) := by decide +kernel
theorem dX8_image_34 : decode cX8_image 34 = .ok (.iconst 1, 1) := by decide +kernel
theorem dX8_image_35 : decode cX8_image 35 = .ok (.bastore, 1) := by decide +kernel
theorem dX8_image_36 : decode cX8_image 36 = .ok (.iconst 1, 1) := by decide +kernel
theorem dX8_image_37 : decode cX8_image 37 = .ok (.ireturn, 1) := by decide +kernel
theorem dX8_from_0 : decode cX8_from 0 = .ok (.iload_n 1, 1) := by decide +kernel
theorem dX8_from_1 : decode cX8_from 1 = .ok (.i2l, 1) := by decide +kernel
theorem dX8_from_2 : decode cX8_from 2 = .ok (.lconst 0, 1) := by decide +kernel
theorem dX8_from_3 : decode cX8_from 3 = .ok (.lconst 1, 1) := by decide +kernel
theorem dX8_from_4 : decode cX8_from 4 = .ok (.invokestatic 52, 3) := by decide +kernel
theorem dX8_from_7 : decode cX8_from 7 = .ok (.ifCond .ne 10, 3) := by decide +kernel
theorem dX8_from_10 : decode cX8_from 10 = .ok (.aload_n 0, 1) := by decide +kernel
theorem dX8_from_11 : decode cX8_from 11 = .ok (.bipush (-2), 2) := by decide +kernel
theorem dX8_from_13 : decode cX8_from 13 = .ok (.invokevirtual 81, 3) := by decide +kernel
theorem dX8_from_16 : decode cX8_from 16 = .ok (.ireturn, 1) := by decide +kernel
theorem dX8_from_17 : decode cX8_from 17 = .ok (.aload_n 0, 1) := by decide +kernel
theorem dX8_from_18 : decode cX8_from 18 = .ok (.getfield 13, 3) := by decide +kernel
theorem dX8_from_21 : decode cX8_from 21 = .ok (.iload_n 1, 1) := by decide +kernel
theorem dX8_from_22 : decode cX8_from 22 = .ok (.baload, 1) := by decide +kernel
theorem dX8_from_23 : decode cX8_from 23 = .ok (.ifCond .ne 10, 3) := by decide +kernel
theorem dX8_from_26 : decode cX8_from 26 = .ok (.aload_n 0, 1) := by decide +kernel
theorem dX8_from_27 : decode cX8_from 27 = .ok (.bipush (-3), 2) := by decide +kernel
theorem dX8_from_29 : decode cX8_from 29 = .ok (.invokevirtual 81, 3) := by decide +kernel
theorem dX8_from_32 : decode cX8_from 32 = .ok (.ireturn, 1) := by decide +kernel
theorem dX8_from_33 : decode cX8_from 33 = .ok (.aload_n 0, 1) := by decide +kernel
theorem dX8_from_34 : decode cX8_from 34 = .ok (.sipush 200, 3) := by decide +kernel
theorem dX8_from_37 : decode cX8_from 37 = .ok (.iconst 1, 1) := by decide +kernel
theorem dX8_from_38 : decode cX8_from 38 = .ok (.iload_n 1, 1) := by decide +kernel
theorem dX8_from_39 : decode cX8_from 39 = .ok (.iadd, 1) := by decide +kernel
theorem dX8_from_40 : decode cX8_from 40 = .ok (.imul, 1) := by decide +kernel
theorem dX8_from_41 : decode cX8_from 41 = .ok (.iconst 0, 1) := by decide +kernel
theorem dX8_from_42 : decode cX8_from 42 = .ok (.invokevirtual 178, 3) := by decide +kernel
theorem dX8_from_45 : decode cX8_from 45 = .ok (.iconst 1, 1) := by decide +kernel
theorem dX8_from_46 : decode cX8_from 46 = .ok (.ireturn, 1) := by decide +kernel
theorem dX8_status_0 : decode cX8_status 0 = .ok (.iload_n 1, 1) := by decide +kernel
theorem dX8_status_1 : decode cX8_status 1 = .ok (.i2l, 1) := by decide +kernel
theorem dX8_status_2 : decode cX8_status 2 = .ok (.lconst 0, 1) := by decide +kernel
theorem dX8_status_3 : decode cX8_status 3 = .ok (.ldc2_w 48, 3) := by decide +kernel
theorem dX8_status_6 : decode cX8_status 6 = .ok (.invokestatic 52, 3) := by decide +kernel
theorem dX8_status_9 : decode cX8_status 9 = .ok (.ifCond .ne 15, 3) := by decide +kernel
theorem dX8_status_12 : decode cX8_status 12 = .ok (.aload_n 0, 1) := by decide +kernel
theorem dX8_status_13 : decode cX8_status 13 = .ok (.getfield 20, 3) := by decide +kernel
theorem dX8_status_16 : decode cX8_status 16 = .ok (.iconst 0, 1) := by decide +kernel
theorem dX8_status_17 : decode cX8_status 17 = .ok (.dup2, 1) := by decide +kernel
theorem dX8_status_18 : decode cX8_status 18 = .ok (.iaload, 1) := by decide +kernel
theorem dX8_status_19 : decode cX8_status 19 = .ok (.iconst 1, 1) := by decide +kernel
theorem dX8_status_20 : decode cX8_status 20 = .ok (.iadd, 1) := by decide +kernel
theorem dX8_status_21 : decode cX8_status 21 = .ok (.iastore, 1) := by decide +kernel
theorem dX8_status_22 : decode cX8_status 22 = .ok (.iconst (-1), 1) := by decide +kernel
theorem dX8_status_23 : decode cX8_status 23 = .ok (.ireturn, 1) := by decide +kernel
theorem dX8_status_24 : decode cX8_status 24 = .ok (.aload_n 0, 1) := by decide +kernel
theorem dX8_status_25 : decode cX8_status 25 = .ok (.getfield 20, 3) := by decide +kernel
theorem dX8_status_28 : decode cX8_status 28 = .ok (.iload_n 1, 1) := by decide +kernel
theorem dX8_status_29 : decode cX8_status 29 = .ok (.iaload, 1) := by decide +kernel
theorem dX8_status_30 : decode cX8_status 30 = .ok (.ireturn, 1) := by decide +kernel
theorem dX8_countOf_0 : decode cX8_countOf 0 = .ok (.iconst 0, 1) := by decide +kernel
theorem dX8_countOf_1 : decode cX8_countOf 1 = .ok (.istore_n 2, 1) := by decide +kernel
theorem dX8_countOf_2 : decode cX8_countOf 2 = .ok (.iconst 0, 1) := by decide +kernel
theorem dX8_countOf_3 : decode cX8_countOf 3 = .ok (.istore_n 3, 1) := by decide +kernel
theorem dX8_countOf_4 : decode cX8_countOf 4 = .ok (.iload_n 3, 1) := by decide +kernel
theorem dX8_countOf_5 : decode cX8_countOf 5 = .ok (.bipush 25, 2) := by decide +kernel
theorem dX8_countOf_7 : decode cX8_countOf 7 = .ok (.if_icmp .ge 22, 3) := by decide +kernel
theorem dX8_countOf_10 : decode cX8_countOf 10 = .ok (.iload_n 2, 1) := by decide +kernel
theorem dX8_countOf_11 : decode cX8_countOf 11 = .ok (.aload_n 0, 1) := by decide +kernel
theorem dX8_countOf_12 : decode cX8_countOf 12 = .ok (.getfield 7, 3) := by decide +kernel
theorem dX8_countOf_15 : decode cX8_countOf 15 = .ok (.iconst 4, 1) := by decide +kernel
theorem dX8_countOf_16 : decode cX8_countOf 16 = .ok (.iaload, 1) := by decide +kernel
theorem dX8_countOf_17 : decode cX8_countOf 17 = .ok (.iload_n 3, 1) := by decide +kernel
theorem dX8_countOf_18 : decode cX8_countOf 18 = .ok (.ishr, 1) := by decide +kernel
theorem dX8_countOf_19 : decode cX8_countOf 19 = .ok (.iconst 1, 1) := by decide +kernel
theorem dX8_countOf_20 : decode cX8_countOf 20 = .ok (.iand, 1) := by decide +kernel
theorem dX8_countOf_21 : decode cX8_countOf 21 = .ok (.iadd, 1) := by decide +kernel
theorem dX8_countOf_22 : decode cX8_countOf 22 = .ok (.istore_n 2, 1) := by decide +kernel
theorem dX8_countOf_23 : decode cX8_countOf 23 = .ok (.iinc 3 1, 3) := by decide +kernel
theorem dX8_countOf_26 : decode cX8_countOf 26 = .ok (.goto (-22), 3) := by decide +kernel
theorem dX8_countOf_29 : decode cX8_countOf 29 = .ok (.iload_n 1, 1) := by decide +kernel
theorem dX8_countOf_30 : decode cX8_countOf 30 = .ok (.ifCond .ne 12, 3) := by decide +kernel
theorem dX8_countOf_33 : decode cX8_countOf 33 = .ok (.aload_n 0, 1) := by decide +kernel
theorem dX8_countOf_34 : decode cX8_countOf 34 = .ok (.getfield 7, 3) := by decide +kernel
theorem dX8_countOf_37 : decode cX8_countOf 37 = .ok (.iconst 5, 1) := by decide +kernel
theorem dX8_countOf_38 : decode cX8_countOf 38 = .ok (.iaload, 1) := by decide +kernel
theorem dX8_countOf_39 : decode cX8_countOf 39 = .ok (.goto 72, 3) := by decide +kernel
theorem dX8_countOf_42 : decode cX8_countOf 42 = .ok (.iload_n 1, 1) := by decide +kernel
theorem dX8_countOf_43 : decode cX8_countOf 43 = .ok (.iconst 1, 1) := by decide +kernel
theorem dX8_countOf_44 : decode cX8_countOf 44 = .ok (.if_icmp .ne 7, 3) := by decide +kernel
theorem dX8_countOf_47 : decode cX8_countOf 47 = .ok (.iload_n 2, 1) := by decide +kernel
theorem dX8_countOf_48 : decode cX8_countOf 48 = .ok (.goto 63, 3) := by decide +kernel
theorem dX8_countOf_51 : decode cX8_countOf 51 = .ok (.iload_n 1, 1) := by decide +kernel
theorem dX8_countOf_52 : decode cX8_countOf 52 = .ok (.iconst 2, 1) := by decide +kernel
theorem dX8_countOf_53 : decode cX8_countOf 53 = .ok (.if_icmp .ne 12, 3) := by decide +kernel
theorem dX8_countOf_56 : decode cX8_countOf 56 = .ok (.aload_n 0, 1) := by decide +kernel
theorem dX8_countOf_57 : decode cX8_countOf 57 = .ok (.getfield 7, 3) := by decide +kernel
theorem dX8_countOf_60 : decode cX8_countOf 60 = .ok (.iconst 3, 1) := by decide +kernel
theorem dX8_countOf_61 : decode cX8_countOf 61 = .ok (.iaload, 1) := by decide +kernel
theorem dX8_countOf_62 : decode cX8_countOf 62 = .ok (.goto 49, 3) := by decide +kernel
theorem dX8_countOf_65 : decode cX8_countOf 65 = .ok (.iload_n 1, 1) := by decide +kernel
theorem dX8_countOf_66 : decode cX8_countOf 66 = .ok (.iconst 3, 1) := by decide +kernel
theorem dX8_countOf_67 : decode cX8_countOf 67 = .ok (.if_icmp .ne 13, 3) := by decide +kernel
theorem dX8_countOf_70 : decode cX8_countOf 70 = .ok (.aload_n 0, 1) := by decide +kernel
theorem dX8_countOf_71 : decode cX8_countOf 71 = .ok (.getfield 7, 3) := by decide +kernel
theorem dX8_countOf_74 : decode cX8_countOf 74 = .ok (.bipush 46, 2) := by decide +kernel
theorem dX8_countOf_76 : decode cX8_countOf 76 = .ok (.iaload, 1) := by decide +kernel
theorem dX8_countOf_77 : decode cX8_countOf 77 = .ok (.goto 34, 3) := by decide +kernel
theorem dX8_countOf_80 : decode cX8_countOf 80 = .ok (.iload_n 1, 1) := by decide +kernel
theorem dX8_countOf_81 : decode cX8_countOf 81 = .ok (.iconst 4, 1) := by decide +kernel
theorem dX8_countOf_82 : decode cX8_countOf 82 = .ok (.if_icmp .ne 10, 3) := by decide +kernel
theorem dX8_countOf_85 : decode cX8_countOf 85 = .ok (.aload_n 0, 1) := by decide +kernel
theorem dX8_countOf_86 : decode cX8_countOf 86 = .ok (.getfield 118, 3) := by decide +kernel
theorem dX8_countOf_89 : decode cX8_countOf 89 = .ok (.goto 22, 3) := by decide +kernel
theorem dX8_countOf_92 : decode cX8_countOf 92 = .ok (.iload_n 1, 1) := by decide +kernel
theorem dX8_countOf_93 : decode cX8_countOf 93 = .ok (.iconst 5, 1) := by decide +kernel
theorem dX8_countOf_94 : decode cX8_countOf 94 = .ok (.if_icmp .ne 11, 3) := by decide +kernel
theorem dX8_countOf_97 : decode cX8_countOf 97 = .ok (.aload_n 0, 1) := by decide +kernel
theorem dX8_countOf_98 : decode cX8_countOf 98 = .ok (.iconst 0, 1) := by decide +kernel
theorem dX8_countOf_99 : decode cX8_countOf 99 = .ok (.invokevirtual 56, 3) := by decide +kernel
theorem dX8_countOf_102 : decode cX8_countOf 102 = .ok (.goto 9, 3) := by decide +kernel
theorem dX8_countOf_105 : decode cX8_countOf 105 = .ok (.aload_n 0, 1) := by decide +kernel
theorem dX8_countOf_106 : decode cX8_countOf 106 = .ok (.getfield 7, 3) := by decide +kernel
theorem dX8_countOf_109 : decode cX8_countOf 109 = .ok (.iconst 2, 1) := by decide +kernel
theorem dX8_countOf_110 : decode cX8_countOf 110 = .ok (.iaload, 1) := by decide +kernel
theorem dX8_countOf_111 : decode cX8_countOf 111 = .ok (.ireturn, 1) := by decide +kernel
theorem dX8_count_0 : decode cX8_count 0 = .ok (.iload_n 1, 1) := by decide +kernel
theorem dX8_count_1 : decode cX8_count 1 = .ok (.i2l, 1) := by decide +kernel
theorem dX8_count_2 : decode cX8_count 2 = .ok (.lconst 0, 1) := by decide +kernel
theorem dX8_count_3 : decode cX8_count 3 = .ok (.ldc2_w 220, 3) := by decide +kernel
theorem dX8_count_6 : decode cX8_count 6 = .ok (.invokestatic 52, 3) := by decide +kernel
theorem dX8_count_9 : decode cX8_count 9 = .ok (.ifCond .eq 11, 3) := by decide +kernel
theorem dX8_count_12 : decode cX8_count 12 = .ok (.aload_n 0, 1) := by decide +kernel
theorem dX8_count_13 : decode cX8_count 13 = .ok (.iload_n 1, 1) := by decide +kernel
theorem dX8_count_14 : decode cX8_count 14 = .ok (.invokevirtual 235, 3) := by decide +kernel
theorem dX8_count_17 : decode cX8_count 17 = .ok (.goto 9, 3) := by decide +kernel
theorem dX8_count_20 : decode cX8_count 20 = .ok (.aload_n 0, 1) := by decide +kernel
theorem dX8_count_21 : decode cX8_count 21 = .ok (.bipush (-2), 2) := by decide +kernel
theorem dX8_count_23 : decode cX8_count 23 = .ok (.invokevirtual 81, 3) := by decide +kernel
theorem dX8_count_26 : decode cX8_count 26 = .ok (.ireturn, 1) := by decide +kernel
theorem dX8_mix_0 : decode cX8_mix 0 = .ok (.aload_n 0, 1) := by decide +kernel
theorem dX8_mix_1 : decode cX8_mix 1 = .ok (.ldc2_w 238, 3) := by decide +kernel
theorem dX8_mix_4 : decode cX8_mix 4 = .ok (.aload_n 0, 1) := by decide +kernel
theorem dX8_mix_5 : decode cX8_mix 5 = .ok (.getfield 240, 3) := by decide +kernel
theorem dX8_mix_8 : decode cX8_mix 8 = .ok (.lmul, 1) := by decide +kernel
theorem dX8_mix_9 : decode cX8_mix 9 = .ok (.lload_n 1, 1) := by decide +kernel
theorem dX8_mix_10 : decode cX8_mix 10 = .ok (.ladd, 1) := by decide +kernel
theorem dX8_mix_11 : decode cX8_mix 11 = .ok (.putfield 240, 3) := by decide +kernel
theorem dX8_mix_14 : decode cX8_mix 14 = .ok (.return_, 1) := by decide +kernel
theorem dX8_digest_0 : decode cX8_digest 0 = .ok (.aload_n 0, 1) := by decide +kernel
theorem dX8_digest_1 : decode cX8_digest 1 = .ok (.ldc2_w 244, 3) := by decide +kernel
theorem dX8_digest_4 : decode cX8_digest 4 = .ok (.putfield 240, 3) := by decide +kernel
theorem dX8_digest_7 : decode cX8_digest 7 = .ok (.iconst 0, 1) := by decide +kernel
theorem dX8_digest_8 : decode cX8_digest 8 = .ok (.istore_n 1, 1) := by decide +kernel
theorem dX8_digest_9 : decode cX8_digest 9 = .ok (.iload_n 1, 1) := by decide +kernel
theorem dX8_digest_10 : decode cX8_digest 10 = .ok (.bipush 7, 2) := by decide +kernel
theorem dX8_digest_12 : decode cX8_digest 12 = .ok (.if_icmp .ge 19, 3) := by decide +kernel
theorem dX8_digest_15 : decode cX8_digest 15 = .ok (.aload_n 0, 1) := by decide +kernel
theorem dX8_digest_16 : decode cX8_digest 16 = .ok (.aload_n 0, 1) := by decide +kernel
theorem dX8_digest_17 : decode cX8_digest 17 = .ok (.iload_n 1, 1) := by decide +kernel
theorem dX8_digest_18 : decode cX8_digest 18 = .ok (.invokevirtual 235, 3) := by decide +kernel
theorem dX8_digest_21 : decode cX8_digest 21 = .ok (.i2l, 1) := by decide +kernel
theorem dX8_digest_22 : decode cX8_digest 22 = .ok (.invokevirtual 246, 3) := by decide +kernel
theorem dX8_digest_25 : decode cX8_digest 25 = .ok (.iinc 1 1, 3) := by decide +kernel
theorem dX8_digest_28 : decode cX8_digest 28 = .ok (.goto (-19), 3) := by decide +kernel
theorem dX8_digest_31 : decode cX8_digest 31 = .ok (.aload_n 0, 1) := by decide +kernel
theorem dX8_digest_32 : decode cX8_digest 32 = .ok (.aload_n 0, 1) := by decide +kernel
theorem dX8_digest_33 : decode cX8_digest 33 = .ok (.getfield 7, 3) := by decide +kernel
theorem dX8_digest_36 : decode cX8_digest 36 = .ok (.iconst 0, 1) := by decide +kernel
theorem dX8_digest_37 : decode cX8_digest 37 = .ok (.iaload, 1) := by decide +kernel
theorem dX8_digest_38 : decode cX8_digest 38 = .ok (.i2l, 1) := by decide +kernel
theorem dX8_digest_39 : decode cX8_digest 39 = .ok (.invokevirtual 246, 3) := by decide +kernel
theorem dX8_digest_42 : decode cX8_digest 42 = .ok (.iconst 0, 1) := by decide +kernel
theorem dX8_digest_43 : decode cX8_digest 43 = .ok (.istore_n 1, 1) := by decide +kernel
theorem dX8_digest_44 : decode cX8_digest 44 = .ok (.iload_n 1, 1) := by decide +kernel
theorem dX8_digest_45 : decode cX8_digest 45 = .ok (.aload_n 0, 1) := by decide +kernel
theorem dX8_digest_46 : decode cX8_digest 46 = .ok (.getfield 7, 3) := by decide +kernel
theorem dX8_digest_49 : decode cX8_digest 49 = .ok (.iconst 5, 1) := by decide +kernel
theorem dX8_digest_50 : decode cX8_digest 50 = .ok (.iaload, 1) := by decide +kernel
theorem dX8_digest_51 : decode cX8_digest 51 = .ok (.if_icmp .ge 121, 3) := by decide +kernel
theorem dX8_digest_54 : decode cX8_digest 54 = .ok (.aload_n 0, 1) := by decide +kernel
theorem dX8_digest_55 : decode cX8_digest 55 = .ok (.aload_n 0, 1) := by decide +kernel
theorem dX8_digest_56 : decode cX8_digest 56 = .ok (.getfield 7, 3) := by decide +kernel
theorem dX8_digest_59 : decode cX8_digest 59 = .ok (.bipush 6, 2) := by decide +kernel
theorem dX8_digest_61 : decode cX8_digest 61 = .ok (.iload_n 1, 1) := by decide +kernel
theorem dX8_digest_62 : decode cX8_digest 62 = .ok (.iadd, 1) := by decide +kernel
theorem dX8_digest_63 : decode cX8_digest 63 = .ok (.iaload, 1) := by decide +kernel
theorem dX8_digest_64 : decode cX8_digest 64 = .ok (.i2l, 1) := by decide +kernel
theorem dX8_digest_65 : decode cX8_digest 65 = .ok (.invokevirtual 246, 3) := by decide +kernel
theorem dX8_digest_68 : decode cX8_digest 68 = .ok (.aload_n 0, 1) := by decide +kernel
theorem dX8_digest_69 : decode cX8_digest 69 = .ok (.aload_n 0, 1) := by decide +kernel
theorem dX8_digest_70 : decode cX8_digest 70 = .ok (.getfield 7, 3) := by decide +kernel
theorem dX8_digest_73 : decode cX8_digest 73 = .ok (.bipush 11, 2) := by decide +kernel
theorem dX8_digest_75 : decode cX8_digest 75 = .ok (.iload_n 1, 1) := by decide +kernel
theorem dX8_digest_76 : decode cX8_digest 76 = .ok (.iadd, 1) := by decide +kernel
theorem dX8_digest_77 : decode cX8_digest 77 = .ok (.iaload, 1) := by decide +kernel
theorem dX8_digest_78 : decode cX8_digest 78 = .ok (.i2l, 1) := by decide +kernel
theorem dX8_digest_79 : decode cX8_digest 79 = .ok (.invokevirtual 246, 3) := by decide +kernel
theorem dX8_digest_82 : decode cX8_digest 82 = .ok (.aload_n 0, 1) := by decide +kernel
theorem dX8_digest_83 : decode cX8_digest 83 = .ok (.aload_n 0, 1) := by decide +kernel
theorem dX8_digest_84 : decode cX8_digest 84 = .ok (.getfield 7, 3) := by decide +kernel
theorem dX8_digest_87 : decode cX8_digest 87 = .ok (.bipush 16, 2) := by decide +kernel
theorem dX8_digest_89 : decode cX8_digest 89 = .ok (.iload_n 1, 1) := by decide +kernel
theorem dX8_digest_90 : decode cX8_digest 90 = .ok (.iadd, 1) := by decide +kernel
theorem dX8_digest_91 : decode cX8_digest 91 = .ok (.iaload, 1) := by decide +kernel
theorem dX8_digest_92 : decode cX8_digest 92 = .ok (.i2l, 1) := by decide +kernel
theorem dX8_digest_93 : decode cX8_digest 93 = .ok (.invokevirtual 246, 3) := by decide +kernel
theorem dX8_digest_96 : decode cX8_digest 96 = .ok (.aload_n 0, 1) := by decide +kernel
theorem dX8_digest_97 : decode cX8_digest 97 = .ok (.aload_n 0, 1) := by decide +kernel
theorem dX8_digest_98 : decode cX8_digest 98 = .ok (.getfield 7, 3) := by decide +kernel
theorem dX8_digest_101 : decode cX8_digest 101 = .ok (.bipush 21, 2) := by decide +kernel
theorem dX8_digest_103 : decode cX8_digest 103 = .ok (.iload_n 1, 1) := by decide +kernel
theorem dX8_digest_104 : decode cX8_digest 104 = .ok (.iadd, 1) := by decide +kernel
theorem dX8_digest_105 : decode cX8_digest 105 = .ok (.iaload, 1) := by decide +kernel
theorem dX8_digest_106 : decode cX8_digest 106 = .ok (.i2l, 1) := by decide +kernel
theorem dX8_digest_107 : decode cX8_digest 107 = .ok (.invokevirtual 246, 3) := by decide +kernel
theorem dX8_digest_110 : decode cX8_digest 110 = .ok (.aload_n 0, 1) := by decide +kernel
theorem dX8_digest_111 : decode cX8_digest 111 = .ok (.aload_n 0, 1) := by decide +kernel
theorem dX8_digest_112 : decode cX8_digest 112 = .ok (.getfield 7, 3) := by decide +kernel
theorem dX8_digest_115 : decode cX8_digest 115 = .ok (.bipush 26, 2) := by decide +kernel
theorem dX8_digest_117 : decode cX8_digest 117 = .ok (.iload_n 1, 1) := by decide +kernel
theorem dX8_digest_118 : decode cX8_digest 118 = .ok (.iadd, 1) := by decide +kernel
theorem dX8_digest_119 : decode cX8_digest 119 = .ok (.iaload, 1) := by decide +kernel
theorem dX8_digest_120 : decode cX8_digest 120 = .ok (.i2l, 1) := by decide +kernel
theorem dX8_digest_121 : decode cX8_digest 121 = .ok (.invokevirtual 246, 3) := by decide +kernel
theorem dX8_digest_124 : decode cX8_digest 124 = .ok (.aload_n 0, 1) := by decide +kernel
theorem dX8_digest_125 : decode cX8_digest 125 = .ok (.aload_n 0, 1) := by decide +kernel
theorem dX8_digest_126 : decode cX8_digest 126 = .ok (.getfield 7, 3) := by decide +kernel
theorem dX8_digest_129 : decode cX8_digest 129 = .ok (.bipush 31, 2) := by decide +kernel
theorem dX8_digest_131 : decode cX8_digest 131 = .ok (.iload_n 1, 1) := by decide +kernel
theorem dX8_digest_132 : decode cX8_digest 132 = .ok (.iadd, 1) := by decide +kernel
theorem dX8_digest_133 : decode cX8_digest 133 = .ok (.iaload, 1) := by decide +kernel
theorem dX8_digest_134 : decode cX8_digest 134 = .ok (.i2l, 1) := by decide +kernel
theorem dX8_digest_135 : decode cX8_digest 135 = .ok (.invokevirtual 246, 3) := by decide +kernel
theorem dX8_digest_138 : decode cX8_digest 138 = .ok (.aload_n 0, 1) := by decide +kernel
theorem dX8_digest_139 : decode cX8_digest 139 = .ok (.aload_n 0, 1) := by decide +kernel
theorem dX8_digest_140 : decode cX8_digest 140 = .ok (.getfield 7, 3) := by decide +kernel
theorem dX8_digest_143 : decode cX8_digest 143 = .ok (.bipush 36, 2) := by decide +kernel
theorem dX8_digest_145 : decode cX8_digest 145 = .ok (.iload_n 1, 1) := by decide +kernel
theorem dX8_digest_146 : decode cX8_digest 146 = .ok (.iadd, 1) := by decide +kernel
theorem dX8_digest_147 : decode cX8_digest 147 = .ok (.iaload, 1) := by decide +kernel
theorem dX8_digest_148 : decode cX8_digest 148 = .ok (.i2l, 1) := by decide +kernel
theorem dX8_digest_149 : decode cX8_digest 149 = .ok (.invokevirtual 246, 3) := by decide +kernel
theorem dX8_digest_152 : decode cX8_digest 152 = .ok (.aload_n 0, 1) := by decide +kernel
theorem dX8_digest_153 : decode cX8_digest 153 = .ok (.aload_n 0, 1) := by decide +kernel
theorem dX8_digest_154 : decode cX8_digest 154 = .ok (.getfield 7, 3) := by decide +kernel
theorem dX8_digest_157 : decode cX8_digest 157 = .ok (.bipush 41, 2) := by decide +kernel
theorem dX8_digest_159 : decode cX8_digest 159 = .ok (.iload_n 1, 1) := by decide +kernel
theorem dX8_digest_160 : decode cX8_digest 160 = .ok (.iadd, 1) := by decide +kernel
theorem dX8_digest_161 : decode cX8_digest 161 = .ok (.iaload, 1) := by decide +kernel
theorem dX8_digest_162 : decode cX8_digest 162 = .ok (.i2l, 1) := by decide +kernel
theorem dX8_digest_163 : decode cX8_digest 163 = .ok (.invokevirtual 246, 3) := by decide +kernel
theorem dX8_digest_166 : decode cX8_digest 166 = .ok (.iinc 1 1, 3) := by decide +kernel
theorem dX8_digest_169 : decode cX8_digest 169 = .ok (.goto (-125), 3) := by decide +kernel
theorem dX8_digest_172 : decode cX8_digest 172 = .ok (.iconst 0, 1) := by decide +kernel
theorem dX8_digest_173 : decode cX8_digest 173 = .ok (.istore_n 1, 1) := by decide +kernel
theorem dX8_digest_174 : decode cX8_digest 174 = .ok (.iload_n 1, 1) := by decide +kernel
theorem dX8_digest_175 : decode cX8_digest 175 = .ok (.aload_n 0, 1) := by decide +kernel
theorem dX8_digest_176 : decode cX8_digest 176 = .ok (.iconst 0, 1) := by decide +kernel
theorem dX8_digest_177 : decode cX8_digest 177 = .ok (.invokevirtual 56, 3) := by decide +kernel
theorem dX8_digest_180 : decode cX8_digest 180 = .ok (.if_icmp .ge 31, 3) := by decide +kernel
theorem dX8_digest_183 : decode cX8_digest 183 = .ok (.aload_n 0, 1) := by decide +kernel
theorem dX8_digest_184 : decode cX8_digest 184 = .ok (.aload_n 0, 1) := by decide +kernel
theorem dX8_digest_185 : decode cX8_digest 185 = .ok (.getfield 7, 3) := by decide +kernel
theorem dX8_digest_188 : decode cX8_digest 188 = .ok (.iconst 4, 1) := by decide +kernel
theorem dX8_digest_189 : decode cX8_digest 189 = .ok (.iaload, 1) := by decide +kernel
theorem dX8_digest_190 : decode cX8_digest 190 = .ok (.iload_n 1, 1) := by decide +kernel
theorem dX8_digest_191 : decode cX8_digest 191 = .ok (.invokestatic 64, 3) := by decide +kernel
theorem dX8_digest_194 : decode cX8_digest 194 = .ok (.ifCond .eq 7, 3) := by decide +kernel
theorem dX8_digest_197 : decode cX8_digest 197 = .ok (.lconst 1, 1) := by decide +kernel
theorem dX8_digest_198 : decode cX8_digest 198 = .ok (.goto 4, 3) := by decide +kernel
theorem dX8_digest_201 : decode cX8_digest 201 = .ok (.lconst 0, 1) := by decide +kernel
theorem dX8_digest_202 : decode cX8_digest 202 = .ok (.invokevirtual 246, 3) := by decide +kernel
theorem dX8_digest_205 : decode cX8_digest 205 = .ok (.iinc 1 1, 3) := by decide +kernel
theorem dX8_digest_208 : decode cX8_digest 208 = .ok (.goto (-34), 3) := by decide +kernel
theorem dX8_digest_211 : decode cX8_digest 211 = .ok (.aload_n 0, 1) := by decide +kernel
theorem dX8_digest_212 : decode cX8_digest 212 = .ok (.getfield 240, 3) := by decide +kernel
theorem dX8_digest_215 : decode cX8_digest 215 = .ok (.lreturn, 1) := by decide +kernel

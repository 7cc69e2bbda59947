theorem dX0_init_0 : decode cX0_init 0 = .ok (.aload_n 0, 1) := by decide +kernel
theorem dX0_init_1 : decode cX0_init 1 = .ok (.invokespecial 3, 3) := by decide +kernel
theorem dX0_init_4 : decode cX0_init 4 = .ok (.aload_n 0, 1) := by decide +kernel
theorem dX0_init_5 : decode cX0_init 5 = .ok (.iconst 5, 1) := by decide +kernel
theorem dX0_init_6 : decode cX0_init 6 = .ok (.newarray .int, 2) := by decide +kernel
theorem dX0_init_8 : decode cX0_init 8 = .ok (.putfield 9, 3) := by decide +kernel
theorem dX0_init_11 : decode cX0_init 11 = .ok (.return_, 1) := by decide +kernel
theorem dX0_isLit_0 : decode cX0_isLit 0 = .ok (.aload_n 0, 1) := by decide +kernel
theorem dX0_isLit_1 : decode cX0_isLit 1 = .ok (.getfield 15, 3) := by decide +kernel
theorem dX0_isLit_4 : decode cX0_isLit 4 = .ok (.iload_n 1, 1) := by decide +kernel
theorem dX0_isLit_5 : decode cX0_isLit 5 = .ok (.ishr, 1) := by decide +kernel
theorem dX0_isLit_6 : decode cX0_isLit 6 = .ok (.iconst 1, 1) := by decide +kernel
theorem dX0_isLit_7 : decode cX0_isLit 7 = .ok (.iand, 1) := by decide +kernel
theorem dX0_isLit_8 : decode cX0_isLit 8 = .ok (.iconst 1, 1) := by decide +kernel
theorem dX0_isLit_9 : decode cX0_isLit 9 = .ok (.if_icmp .ne 7, 3) := by decide +kernel
theorem dX0_isLit_12 : decode cX0_isLit 12 = .ok (.iconst 1, 1) := by decide +kernel
theorem dX0_isLit_13 : decode cX0_isLit 13 = .ok (.goto 4, 3) := by decide +kernel
theorem dX0_isLit_16 : decode cX0_isLit 16 = .ok (.iconst 0, 1) := by decide +kernel
theorem dX0_isLit_17 : decode cX0_isLit 17 = .ok (.ireturn, 1) := by decide +kernel
theorem dX0_become_0 : decode cX0_become 0 = .ok (.aload_n 1, 1) := by decide +kernel
theorem dX0_become_1 : decode cX0_become 1 = .ok (.getfield 9, 3) := by decide +kernel
theorem dX0_become_4 : decode cX0_become 4 = .ok (.iconst 0, 1) := by decide +kernel
theorem dX0_become_5 : decode cX0_become 5 = .ok (.aload_n 0, 1) := by decide +kernel
theorem dX0_become_6 : decode cX0_become 6 = .ok (.getfield 9, 3) := by decide +kernel
theorem dX0_become_9 : decode cX0_become 9 = .ok (.iconst 0, 1) := by decide +kernel
theorem dX0_become_10 : decode cX0_become 10 = .ok (.iconst 5, 1) := by decide +kernel
theorem dX0_become_11 : decode cX0_become 11 = .ok (.invokestatic 19, 3) := by decide +kernel
theorem dX0_become_14 : decode cX0_become 14 = .ok (.aload_n 0, 1) := by decide +kernel
theorem dX0_become_15 : decode cX0_become 15 = .ok (.aload_n 1, 1) := by decide +kernel
theorem dX0_become_16 : decode cX0_become 16 = .ok (.getfield 15, 3) := by decide +kernel
theorem dX0_become_19 : decode cX0_become 19 = .ok (.putfield 15, 3) := by decide +kernel
theorem dX0_become_22 : decode cX0_become 22 = .ok (.return_, 1) := by decide +kernel
theorem dX1_init_0 : decode cX1_init 0 = .ok (.aload_n 0, 1) := by decide +kernel
theorem dX1_init_1 : decode cX1_init 1 = .ok (.invokespecial 3, 3) := by decide +kernel
theorem dX1_init_4 : decode cX1_init 4 = .ok (.aload_n 0, 1) := by decide +kernel
theorem dX1_init_5 : decode cX1_init 5 = .ok (.sipush 200, 3) := by decide +kernel
theorem dX1_init_8 : decode cX1_init 8 = .ok (.newarray .int, 2) := by decide +kernel
theorem dX1_init_10 : decode cX1_init 10 = .ok (.putfield 9, 3) := by decide +kernel
theorem dX1_init_13 : decode cX1_init 13 = .ok (.aload_n 0, 1) := by decide +kernel
theorem dX1_init_14 : decode cX1_init 14 = .ok (.bipush 40, 2) := by decide +kernel
theorem dX1_init_16 : decode cX1_init 16 = .ok (.newarray .int, 2) := by decide +kernel
theorem dX1_init_18 : decode cX1_init 18 = .ok (.putfield 15, 3) := by decide +kernel
theorem dX1_init_21 : decode cX1_init 21 = .ok (.aload_n 0, 1) := by decide +kernel
theorem dX1_init_22 : decode cX1_init 22 = .ok (.sipush 160, 3) := by decide +kernel
theorem dX1_init_25 : decode cX1_init 25 = .ok (.newarray .int, 2) := by decide +kernel
theorem dX1_init_27 : decode cX1_init 27 = .ok (.putfield 18, 3) := by decide +kernel
theorem dX1_init_30 : decode cX1_init 30 = .ok (.return_, 1) := by decide +kernel
theorem dX1_addBytes_0 : decode cX1_addBytes 0 = .ok (.iload_n 3, 1) := by decide +kernel
theorem dX1_addBytes_1 : decode cX1_addBytes 1 = .ok (.iconst 1, 1) := by decide +kernel
theorem dX1_addBytes_2 : decode cX1_addBytes 2 = .ok (.if_icmp .lt 9, 3) := by decide +kernel
theorem dX1_addBytes_5 : decode cX1_addBytes 5 = .ok (.iload_n 3, 1) := by decide +kernel
theorem dX1_addBytes_6 : decode cX1_addBytes 6 = .ok (.bipush 8, 2) := by decide +kernel
theorem dX1_addBytes_8 : decode cX1_addBytes 8 = .ok (.if_icmp .le 6, 3) := by decide +kernel
theorem dX1_addBytes_11 : decode cX1_addBytes 11 = .ok (.bipush (-2), 2) := by decide +kernel
theorem dX1_addBytes_13 : decode cX1_addBytes 13 = .ok (.ireturn, 1) := by decide +kernel
theorem dX1_addBytes_14 : decode cX1_addBytes 14 = .ok (.aload_n 0, 1) := by decide +kernel
theorem dX1_addBytes_15 : decode cX1_addBytes 15 = .ok (.getfield 21, 3) := by decide +kernel
theorem dX1_addBytes_18 : decode cX1_addBytes 18 = .ok (.iload_n 3, 1) := by decide +kernel
theorem dX1_addBytes_19 : decode cX1_addBytes 19 = .ok (.iadd, 1) := by decide +kernel
theorem dX1_addBytes_20 : decode cX1_addBytes 20 = .ok (.sipush 200, 3) := by decide +kernel
theorem dX1_addBytes_23 : decode cX1_addBytes 23 = .ok (.if_icmp .le 6, 3) := by decide +kernel
theorem dX1_addBytes_26 : decode cX1_addBytes 26 = .ok (.bipush (-4), 2) := by decide +kernel
theorem dX1_addBytes_28 : decode cX1_addBytes 28 = .ok (.ireturn, 1) := by decide +kernel
theorem dX1_addBytes_29 : decode cX1_addBytes 29 = .ok (.iload_n 3, 1) := by decide +kernel
theorem dX1_addBytes_30 : decode cX1_addBytes 30 = .ok (.iconst 1, 1) := by decide +kernel
theorem dX1_addBytes_31 : decode cX1_addBytes 31 = .ok (.isub, 1) := by decide +kernel
theorem dX1_addBytes_32 : decode cX1_addBytes 32 = .ok (.istore 4, 2) := by decide +kernel
theorem dX1_addBytes_34 : decode cX1_addBytes 34 = .ok (.iload 4, 2) := by decide +kernel
theorem dX1_addBytes_36 : decode cX1_addBytes 36 = .ok (.ifCond .lt 40, 3) := by decide +kernel
theorem dX1_addBytes_39 : decode cX1_addBytes 39 = .ok (.aload_n 0, 1) := by decide +kernel
theorem dX1_addBytes_40 : decode cX1_addBytes 40 = .ok (.getfield 9, 3) := by decide +kernel
theorem dX1_addBytes_43 : decode cX1_addBytes 43 = .ok (.aload_n 0, 1) := by decide +kernel
theorem dX1_addBytes_44 : decode cX1_addBytes 44 = .ok (.getfield 21, 3) := by decide +kernel
theorem dX1_addBytes_47 : decode cX1_addBytes 47 = .ok (.lload_n 1, 1) := by decide +kernel
theorem dX1_addBytes_48 : decode cX1_addBytes 48 = .ok (.bipush 8, 2) := by decide +kernel
theorem dX1_addBytes_50 : decode cX1_addBytes 50 = .ok (.iload 4, 2) := by decide +kernel
theorem dX1_addBytes_52 : decode cX1_addBytes 52 = .ok (.imul, 1) := by decide +kernel
theorem dX1_addBytes_53 : decode cX1_addBytes 53 = .ok (.lshr, 1) := by decide +kernel
theorem dX1_addBytes_54 : decode cX1_addBytes 54 = .ok (.l2i, 1) := by decide +kernel
theorem dX1_addBytes_55 : decode cX1_addBytes 55 = .ok (.sipush 255, 3) := by decide +kernel
theorem dX1_addBytes_58 : decode cX1_addBytes 58 = .ok (.iand, 1) := by decide +kernel
theorem dX1_addBytes_59 : decode cX1_addBytes 59 = .ok (.iastore, 1) := by decide +kernel
theorem dX1_addBytes_60 : decode cX1_addBytes 60 = .ok (.aload_n 0, 1) := by decide +kernel
theorem dX1_addBytes_61 : decode cX1_addBytes 61 = .ok (.dup, 1) := by decide +kernel
theorem dX1_addBytes_62 : decode cX1_addBytes 62 = .ok (.getfield 21, 3) := by decide +kernel
theorem dX1_addBytes_65 : decode cX1_addBytes 65 = .ok (.iconst 1, 1) := by decide +kernel
theorem dX1_addBytes_66 : decode cX1_addBytes 66 = .ok (.iadd, 1) := by decide +kernel
theorem dX1_addBytes_67 : decode cX1_addBytes 67 = .ok (.putfield 21, 3) := by decide +kernel
theorem dX1_addBytes_70 : decode cX1_addBytes 70 = .ok (.iinc 4 (-1), 3) := by decide +kernel
theorem dX1_addBytes_73 : decode cX1_addBytes 73 = .ok (.goto (-39), 3) := by decide +kernel
theorem dX1_addBytes_76 : decode cX1_addBytes 76 = .ok (.aload_n 0, 1) := by decide +kernel
theorem dX1_addBytes_77 : decode cX1_addBytes 77 = .ok (.getfield 21, 3) := by decide +kernel
theorem dX1_addBytes_80 : decode cX1_addBytes 80 = .ok (.ireturn, 1) := by decide +kernel
theorem dX1_empty_0 : decode cX1_empty 0 = .ok (.aload_n 0, 1) := by decide +kernel
theorem dX1_empty_1 : decode cX1_empty 1 = .ok (.getfield 21, 3) := by decide +kernel
theorem dX1_empty_4 : decode cX1_empty 4 = .ok (.istore_n 1, 1) := by decide +kernel
theorem dX1_empty_5 : decode cX1_empty 5 = .ok (.aload_n 0, 1) := by decide +kernel
theorem dX1_empty_6 : decode cX1_empty 6 = .ok (.iconst 0, 1) := by decide +kernel
theorem dX1_empty_7 : decode cX1_empty 7 = .ok (.putfield 21, 3) := by decide +kernel
theorem dX1_empty_10 : decode cX1_empty 10 = .ok (.iload_n 1, 1) := by decide +kernel
theorem dX1_empty_11 : decode cX1_empty 11 = .ok (.ireturn, 1) := by decide +kernel
theorem dX1_findItems_0 : decode cX1_findItems 0 = .ok (.aload_n 0, 1) := by decide +kernel
theorem dX1_findItems_1 : decode cX1_findItems 1 = .ok (.iconst 0, 1) := by decide +kernel
theorem dX1_findItems_2 : decode cX1_findItems 2 = .ok (.putfield 25, 3) := by decide +kernel
theorem dX1_findItems_5 : decode cX1_findItems 5 = .ok (.aload_n 0, 1) := by decide +kernel
theorem dX1_findItems_6 : decode cX1_findItems 6 = .ok (.iconst 0, 1) := by decide +kernel
theorem dX1_findItems_7 : decode cX1_findItems 7 = .ok (.putfield 28, 3) := by decide +kernel
theorem dX1_findItems_10 : decode cX1_findItems 10 = .ok (.iconst 0, 1) := by decide +kernel
theorem dX1_findItems_11 : decode cX1_findItems 11 = .ok (.istore_n 1, 1) := by decide +kernel
theorem dX1_findItems_12 : decode cX1_findItems 12 = .ok (.iload_n 1, 1) := by decide +kernel
theorem dX1_findItems_13 : decode cX1_findItems 13 = .ok (.bipush 40, 2) := by decide +kernel
theorem dX1_findItems_15 : decode cX1_findItems 15 = .ok (.if_icmp .ge 35, 3) := by decide +kernel
theorem dX1_findItems_18 : decode cX1_findItems 18 = .ok (.aload_n 0, 1) := by decide +kernel
theorem dX1_findItems_19 : decode cX1_findItems 19 = .ok (.getfield 25, 3) := by decide +kernel
theorem dX1_findItems_22 : decode cX1_findItems 22 = .ok (.ifCond .le 10, 3) := by decide +kernel
theorem dX1_findItems_25 : decode cX1_findItems 25 = .ok (.aload_n 0, 1) := by decide +kernel
theorem dX1_findItems_26 : decode cX1_findItems 26 = .ok (.invokevirtual 31, 3) := by decide +kernel
theorem dX1_findItems_29 : decode cX1_findItems 29 = .ok (.ifCond .ne 21, 3) := by decide +kernel
theorem dX1_findItems_32 : decode cX1_findItems 32 = .ok (.aload_n 0, 1) := by decide +kernel
theorem dX1_findItems_33 : decode cX1_findItems 33 = .ok (.invokevirtual 35, 3) := by decide +kernel
theorem dX1_findItems_36 : decode cX1_findItems 36 = .ok (.istore_n 2, 1) := by decide +kernel
theorem dX1_findItems_37 : decode cX1_findItems 37 = .ok (.iload_n 2, 1) := by decide +kernel
theorem dX1_findItems_38 : decode cX1_findItems 38 = .ok (.iconst (-1), 1) := by decide +kernel
theorem dX1_findItems_39 : decode cX1_findItems 39 = .ok (.if_icmp .eq 5, 3) := by decide +kernel
theorem dX1_findItems_42 : decode cX1_findItems 42 = .ok (.iload_n 2, 1) := by decide +kernel
theorem dX1_findItems_43 : decode cX1_findItems 43 = .ok (.ireturn, 1) := by decide +kernel
theorem dX1_findItems_44 : decode cX1_findItems 44 = .ok (.iinc 1 1, 3) := by decide +kernel
theorem dX1_findItems_47 : decode cX1_findItems 47 = .ok (.goto (-35), 3) := by decide +kernel
theorem dX1_findItems_50 : decode cX1_findItems 50 = .ok (.iconst (-1), 1) := by decide +kernel
theorem dX1_findItems_51 : decode cX1_findItems 51 = .ok (.ireturn, 1) := by decide +kernel
theorem dX1_tellItems_0 : decode cX1_tellItems 0 = .ok (.iconst 0, 1) := by decide +kernel
theorem dX1_tellItems_1 : decode cX1_tellItems 1 = .ok (.istore_n 2, 1) := by decide +kernel
theorem dX1_tellItems_2 : decode cX1_tellItems 2 = .ok (.iload_n 2, 1) := by decide +kernel
theorem dX1_tellItems_3 : decode cX1_tellItems 3 = .ok (.aload_n 0, 1) := by decide +kernel
theorem dX1_tellItems_4 : decode cX1_tellItems 4 = .ok (.getfield 25, 3) := by decide +kernel
theorem dX1_tellItems_7 : decode cX1_tellItems 7 = .ok (.if_icmp .ge 28, 3) := by decide +kernel
theorem dX1_tellItems_10 : decode cX1_tellItems 10 = .ok (.aload_n 0, 1) := by decide +kernel
theorem dX1_tellItems_11 : decode cX1_tellItems 11 = .ok (.aload_n 1, 1) := by decide +kernel
theorem dX1_tellItems_12 : decode cX1_tellItems 12 = .ok (.aload_n 0, 1) := by decide +kernel
theorem dX1_tellItems_13 : decode cX1_tellItems 13 = .ok (.getfield 15, 3) := by decide +kernel
theorem dX1_tellItems_16 : decode cX1_tellItems 16 = .ok (.iload_n 2, 1) := by decide +kernel
theorem dX1_tellItems_17 : decode cX1_tellItems 17 = .ok (.iaload, 1) := by decide +kernel
theorem dX1_tellItems_18 : decode cX1_tellItems 18 = .ok (.iload_n 2, 1) := by decide +kernel
theorem dX1_tellItems_19 : decode cX1_tellItems 19 = .ok (.iconst 4, 1) := by decide +kernel
theorem dX1_tellItems_20 : decode cX1_tellItems 20 = .ok (.imul, 1) := by decide +kernel
theorem dX1_tellItems_21 : decode cX1_tellItems 21 = .ok (.invokevirtual 39, 3) := by decide +kernel
theorem dX1_tellItems_24 : decode cX1_tellItems 24 = .ok (.ifCond .ge 5, 3) := by decide +kernel
theorem dX1_tellItems_27 : decode cX1_tellItems 27 = .ok (.iload_n 2, 1) := by decide +kernel
theorem dX1_tellItems_28 : decode cX1_tellItems 28 = .ok (.ireturn, 1) := by decide +kernel
theorem dX1_tellItems_29 : decode cX1_tellItems 29 = .ok (.iinc 2 1, 3) := by decide +kernel
theorem dX1_tellItems_32 : decode cX1_tellItems 32 = .ok (.goto (-30), 3) := by decide +kernel
theorem dX1_tellItems_35 : decode cX1_tellItems 35 = .ok (.iconst (-1), 1) := by decide +kernel
theorem dX1_tellItems_36 : decode cX1_tellItems 36 = .ok (.ireturn, 1) := by decide +kernel
theorem dX1_tellItem_0 : decode cX1_tellItem 0 = .ok (.aload_n 0, 1) := by decide +kernel
theorem dX1_tellItem_1 : decode cX1_tellItem 1 = .ok (.getfield 18, 3) := by decide +kernel
theorem dX1_tellItem_4 : decode cX1_tellItem 4 = .ok (.iload_n 3, 1) := by decide +kernel
theorem dX1_tellItem_5 : decode cX1_tellItem 5 = .ok (.iaload, 1) := by decide +kernel
theorem dX1_tellItem_6 : decode cX1_tellItem 6 = .ok (.istore 4, 2) := by decide +kernel
theorem dX1_tellItem_8 : decode cX1_tellItem 8 = .ok (.aload_n 0, 1) := by decide +kernel
theorem dX1_tellItem_9 : decode cX1_tellItem 9 = .ok (.getfield 18, 3) := by decide +kernel
theorem dX1_tellItem_12 : decode cX1_tellItem 12 = .ok (.iload_n 3, 1) := by decide +kernel
theorem dX1_tellItem_13 : decode cX1_tellItem 13 = .ok (.iconst 1, 1) := by decide +kernel
theorem dX1_tellItem_14 : decode cX1_tellItem 14 = .ok (.iadd, 1) := by decide +kernel
theorem dX1_tellItem_15 : decode cX1_tellItem 15 = .ok (.iaload, 1) := by decide +kernel
theorem dX1_tellItem_16 : decode cX1_tellItem 16 = .ok (.istore 5, 2) := by decide +kernel
theorem dX1_tellItem_18 : decode cX1_tellItem 18 = .ok (.iload_n 2, 1) := by decide +kernel
theorem dX1_tellItem_19 : decode cX1_tellItem 19 = .ok (.tableswitch 89 0 4 #[33, 42, 50, 75, 82], 33) := by decide +kernel
theorem dX1_tellItem_52 : decode cX1_tellItem 52 = .ok (.aload_n 1, 1) := by decide +kernel
theorem dX1_tellItem_53 : decode cX1_tellItem 53 = .ok (.iload 4, 2) := by decide +kernel
theorem dX1_tellItem_55 : decode cX1_tellItem 55 = .ok (.iload 5, 2) := by decide +kernel
theorem dX1_tellItem_57 : decode cX1_tellItem 57 = .ok (.invokevirtual 43, 3) := by decide +kernel
theorem dX1_tellItem_60 : decode cX1_tellItem 60 = .ok (.ireturn, 1) := by decide +kernel
theorem dX1_tellItem_61 : decode cX1_tellItem 61 = .ok (.aload_n 1, 1) := by decide +kernel
theorem dX1_tellItem_62 : decode cX1_tellItem 62 = .ok (.iload 4, 2) := by decide +kernel
theorem dX1_tellItem_64 : decode cX1_tellItem 64 = .ok (.iconst 1, 1) := by decide +kernel
theorem dX1_tellItem_65 : decode cX1_tellItem 65 = .ok (.invokevirtual 49, 3) := by decide +kernel
theorem dX1_tellItem_68 : decode cX1_tellItem 68 = .ok (.ireturn, 1) := by decide +kernel
theorem dX1_tellItem_69 : decode cX1_tellItem 69 = .ok (.aload_n 1, 1) := by decide +kernel
theorem dX1_tellItem_70 : decode cX1_tellItem 70 = .ok (.iload 4, 2) := by decide +kernel
theorem dX1_tellItem_72 : decode cX1_tellItem 72 = .ok (.iload 5, 2) := by decide +kernel
theorem dX1_tellItem_74 : decode cX1_tellItem 74 = .ok (.aload_n 0, 1) := by decide +kernel
theorem dX1_tellItem_75 : decode cX1_tellItem 75 = .ok (.getfield 18, 3) := by decide +kernel
theorem dX1_tellItem_78 : decode cX1_tellItem 78 = .ok (.iload_n 3, 1) := by decide +kernel
theorem dX1_tellItem_79 : decode cX1_tellItem 79 = .ok (.iconst 2, 1) := by decide +kernel
theorem dX1_tellItem_80 : decode cX1_tellItem 80 = .ok (.iadd, 1) := by decide +kernel
theorem dX1_tellItem_81 : decode cX1_tellItem 81 = .ok (.iaload, 1) := by decide +kernel
theorem dX1_tellItem_82 : decode cX1_tellItem 82 = .ok (.aload_n 0, 1) := by decide +kernel
theorem dX1_tellItem_83 : decode cX1_tellItem 83 = .ok (.getfield 18, 3) := by decide +kernel
theorem dX1_tellItem_86 : decode cX1_tellItem 86 = .ok (.iload_n 3, 1) := by decide +kernel
theorem dX1_tellItem_87 : decode cX1_tellItem 87 = .ok (.iconst 3, 1) := by decide +kernel
theorem dX1_tellItem_88 : decode cX1_tellItem 88 = .ok (.iadd, 1) := by decide +kernel
theorem dX1_tellItem_89 : decode cX1_tellItem 89 = .ok (.iaload, 1) := by decide +kernel
theorem dX1_tellItem_90 : decode cX1_tellItem 90 = .ok (.invokevirtual 53, 3) := by decide +kernel
theorem dX1_tellItem_93 : decode cX1_tellItem 93 = .ok (.ireturn, 1) := by decide +kernel
theorem dX1_tellItem_94 : decode cX1_tellItem 94 = .ok (.aload_n 1, 1) := by decide +kernel
theorem dX1_tellItem_95 : decode cX1_tellItem 95 = .ok (.iload 4, 2) := by decide +kernel
theorem dX1_tellItem_97 : decode cX1_tellItem 97 = .ok (.invokevirtual 57, 3) := by decide +kernel
theorem dX1_tellItem_100 : decode cX1_tellItem 100 = .ok (.ireturn, 1) := by decide +kernel
theorem dX1_tellItem_101 : decode cX1_tellItem 101 = .ok (.aload_n 1, 1) := by decide +kernel
theorem dX1_tellItem_102 : decode cX1_tellItem 102 = .ok (.iload 4, 2) := by decide +kernel
theorem dX1_tellItem_104 : decode cX1_tellItem 104 = .ok (.invokevirtual 61, 3) := by decide +kernel
theorem dX1_tellItem_107 : decode cX1_tellItem 107 = .ok (.ireturn, 1) := by decide +kernel
theorem dX1_tellItem_108 : decode cX1_tellItem 108 = .ok (.aload_n 1, 1) := by decide +kernel
theorem dX1_tellItem_109 : decode cX1_tellItem 109 = .ok (.iload 4, 2) := by decide +kernel
theorem dX1_tellItem_111 : decode cX1_tellItem 111 = .ok (.iload 5, 2) := by decide +kernel
theorem dX1_tellItem_113 : decode cX1_tellItem 113 = .ok (.invokevirtual 64, 3) := by decide +kernel
theorem dX1_tellItem_116 : decode cX1_tellItem 116 = .ok (.ireturn, 1) := by decide +kernel
theorem dX1_findItem_0 : decode cX1_findItem 0 = .ok (.aload_n 0, 1) := by decide +kernel
theorem dX1_findItem_1 : decode cX1_findItem 1 = .ok (.invokevirtual 67, 3) := by decide +kernel
theorem dX1_findItem_4 : decode cX1_findItem 4 = .ok (.iconst 1, 1) := by decide +kernel
theorem dX1_findItem_5 : decode cX1_findItem 5 = .ok (.if_icmp .eq 8, 3) := by decide +kernel
theorem dX1_findItem_8 : decode cX1_findItem 8 = .ok (.aload_n 0, 1) := by decide +kernel
theorem dX1_findItem_9 : decode cX1_findItem 9 = .ok (.getfield 70, 3) := by decide +kernel
theorem dX1_findItem_12 : decode cX1_findItem 12 = .ok (.ireturn, 1) := by decide +kernel
theorem dX1_findItem_13 : decode cX1_findItem 13 = .ok (.aload_n 0, 1) := by decide +kernel
theorem dX1_findItem_14 : decode cX1_findItem 14 = .ok (.invokevirtual 73, 3) := by decide +kernel
theorem dX1_findItem_17 : decode cX1_findItem 17 = .ok (.istore_n 1, 1) := by decide +kernel
theorem dX1_findItem_18 : decode cX1_findItem 18 = .ok (.iload_n 1, 1) := by decide +kernel
theorem dX1_findItem_19 : decode cX1_findItem 19 = .ok (.iconst (-1), 1) := by decide +kernel
theorem dX1_findItem_20 : decode cX1_findItem 20 = .ok (.if_icmp .eq 27, 3) := by decide +kernel
theorem dX1_findItem_23 : decode cX1_findItem 23 = .ok (.iload_n 1, 1) := by decide +kernel
theorem dX1_findItem_24 : decode cX1_findItem 24 = .ok (.ifCond .ne 7, 3) := by decide +kernel
theorem dX1_findItem_27 : decode cX1_findItem 27 = .ok (.iconst 1, 1) := by decide +kernel
theorem dX1_findItem_28 : decode cX1_findItem 28 = .ok (.goto 4, 3) := by decide +kernel
theorem dX1_findItem_31 : decode cX1_findItem 31 = .ok (.iconst 0, 1) := by decide +kernel
theorem dX1_findItem_32 : decode cX1_findItem 32 = .ok (.aload_n 0, 1) := by decide +kernel
theorem dX1_findItem_33 : decode cX1_findItem 33 = .ok (.getfield 25, 3) := by decide +kernel
theorem dX1_findItem_36 : decode cX1_findItem 36 = .ok (.ifCond .ne 7, 3) := by decide +kernel
theorem dX1_findItem_39 : decode cX1_findItem 39 = .ok (.iconst 1, 1) := by decide +kernel
theorem dX1_findItem_40 : decode cX1_findItem 40 = .ok (.goto 4, 3) := by decide +kernel
theorem dX1_findItem_43 : decode cX1_findItem 43 = .ok (.iconst 0, 1) := by decide +kernel
theorem dX1_findItem_44 : decode cX1_findItem 44 = .ok (.if_icmp .eq 8, 3) := by decide +kernel
theorem dX1_findItem_47 : decode cX1_findItem 47 = .ok (.aload_n 0, 1) := by decide +kernel
theorem dX1_findItem_48 : decode cX1_findItem 48 = .ok (.getfield 70, 3) := by decide +kernel
theorem dX1_findItem_51 : decode cX1_findItem 51 = .ok (.ireturn, 1) := by decide +kernel
theorem dX1_findItem_52 : decode cX1_findItem 52 = .ok (.aload_n 0, 1) := by decide +kernel
theorem dX1_findItem_53 : decode cX1_findItem 53 = .ok (.getfield 15, 3) := by decide +kernel
theorem dX1_findItem_56 : decode cX1_findItem 56 = .ok (.aload_n 0, 1) := by decide +kernel
theorem dX1_findItem_57 : decode cX1_findItem 57 = .ok (.getfield 25, 3) := by decide +kernel
theorem dX1_findItem_60 : decode cX1_findItem 60 = .ok (.iload_n 1, 1) := by decide +kernel
theorem dX1_findItem_61 : decode cX1_findItem 61 = .ok (.iastore, 1) := by decide +kernel
theorem dX1_findItem_62 : decode cX1_findItem 62 = .ok (.iconst 0, 1) := by decide +kernel
theorem dX1_findItem_63 : decode cX1_findItem 63 = .ok (.istore_n 2, 1) := by decide +kernel
theorem dX1_findItem_64 : decode cX1_findItem 64 = .ok (.iload_n 2, 1) := by decide +kernel
theorem dX1_findItem_65 : decode cX1_findItem 65 = .ok (.iload_n 1, 1) := by decide +kernel
theorem dX1_findItem_66 : decode cX1_findItem 66 = .ok (.invokestatic 76, 3) := by decide +kernel
theorem dX1_findItem_69 : decode cX1_findItem 69 = .ok (.if_icmp .ge 39, 3) := by decide +kernel
theorem dX1_findItem_72 : decode cX1_findItem 72 = .ok (.aload_n 0, 1) := by decide +kernel
theorem dX1_findItem_73 : decode cX1_findItem 73 = .ok (.invokevirtual 67, 3) := by decide +kernel
theorem dX1_findItem_76 : decode cX1_findItem 76 = .ok (.iconst 2, 1) := by decide +kernel
theorem dX1_findItem_77 : decode cX1_findItem 77 = .ok (.if_icmp .eq 8, 3) := by decide +kernel
theorem dX1_findItem_80 : decode cX1_findItem 80 = .ok (.aload_n 0, 1) := by decide +kernel
theorem dX1_findItem_81 : decode cX1_findItem 81 = .ok (.getfield 70, 3) := by decide +kernel
theorem dX1_findItem_84 : decode cX1_findItem 84 = .ok (.ireturn, 1) := by decide +kernel
theorem dX1_findItem_85 : decode cX1_findItem 85 = .ok (.aload_n 0, 1) := by decide +kernel
theorem dX1_findItem_86 : decode cX1_findItem 86 = .ok (.getfield 18, 3) := by decide +kernel
theorem dX1_findItem_89 : decode cX1_findItem 89 = .ok (.aload_n 0, 1) := by decide +kernel
theorem dX1_findItem_90 : decode cX1_findItem 90 = .ok (.getfield 25, 3) := by decide +kernel
theorem dX1_findItem_93 : decode cX1_findItem 93 = .ok (.iconst 4, 1) := by decide +kernel
theorem dX1_findItem_94 : decode cX1_findItem 94 = .ok (.imul, 1) := by decide +kernel
theorem dX1_findItem_95 : decode cX1_findItem 95 = .ok (.iload_n 2, 1) := by decide +kernel
theorem dX1_findItem_96 : decode cX1_findItem 96 = .ok (.iadd, 1) := by decide +kernel
theorem dX1_findItem_97 : decode cX1_findItem 97 = .ok (.aload_n 0, 1) := by decide +kernel
theorem dX1_findItem_98 : decode cX1_findItem 98 = .ok (.invokevirtual 79, 3) := by decide +kernel
theorem dX1_findItem_101 : decode cX1_findItem 101 = .ok (.iastore, 1) := by decide +kernel
theorem dX1_findItem_102 : decode cX1_findItem 102 = .ok (.iinc 2 1, 3) := by decide +kernel
theorem dX1_findItem_105 : decode cX1_findItem 105 = .ok (.goto (-41), 3) := by decide +kernel
theorem dX1_findItem_108 : decode cX1_findItem 108 = .ok (.aload_n 0, 1) := by decide +kernel
theorem dX1_findItem_109 : decode cX1_findItem 109 = .ok (.invokevirtual 67, 3) := by decide +kernel
theorem dX1_findItem_112 : decode cX1_findItem 112 = .ok (.iconst 3, 1) := by decide +kernel
theorem dX1_findItem_113 : decode cX1_findItem 113 = .ok (.if_icmp .eq 8, 3) := by decide +kernel
theorem dX1_findItem_116 : decode cX1_findItem 116 = .ok (.aload_n 0, 1) := by decide +kernel
theorem dX1_findItem_117 : decode cX1_findItem 117 = .ok (.getfield 70, 3) := by decide +kernel
theorem dX1_findItem_120 : decode cX1_findItem 120 = .ok (.ireturn, 1) := by decide +kernel
theorem dX1_findItem_121 : decode cX1_findItem 121 = .ok (.aload_n 0, 1) := by decide +kernel
theorem dX1_findItem_122 : decode cX1_findItem 122 = .ok (.dup, 1) := by decide +kernel
theorem dX1_findItem_123 : decode cX1_findItem 123 = .ok (.getfield 25, 3) := by decide +kernel
theorem dX1_findItem_126 : decode cX1_findItem 126 = .ok (.iconst 1, 1) := by decide +kernel
theorem dX1_findItem_127 : decode cX1_findItem 127 = .ok (.iadd, 1) := by decide +kernel
theorem dX1_findItem_128 : decode cX1_findItem 128 = .ok (.putfield 25, 3) := by decide +kernel
theorem dX1_findItem_131 : decode cX1_findItem 131 = .ok (.iconst (-1), 1) := by decide +kernel
theorem dX1_findItem_132 : decode cX1_findItem 132 = .ok (.ireturn, 1) := by decide +kernel
theorem dX1_isAtEnd_0 : decode cX1_isAtEnd 0 = .ok (.aload_n 0, 1) := by decide +kernel
theorem dX1_isAtEnd_1 : decode cX1_isAtEnd 1 = .ok (.aload_n 0, 1) := by decide +kernel
theorem dX1_isAtEnd_2 : decode cX1_isAtEnd 2 = .ok (.getfield 28, 3) := by decide +kernel
theorem dX1_isAtEnd_5 : decode cX1_isAtEnd 5 = .ok (.invokevirtual 82, 3) := by decide +kernel
theorem dX1_isAtEnd_8 : decode cX1_isAtEnd 8 = .ok (.aload_n 0, 1) := by decide +kernel
theorem dX1_isAtEnd_9 : decode cX1_isAtEnd 9 = .ok (.getfield 21, 3) := by decide +kernel
theorem dX1_isAtEnd_12 : decode cX1_isAtEnd 12 = .ok (.if_icmp .lt 7, 3) := by decide +kernel
theorem dX1_isAtEnd_15 : decode cX1_isAtEnd 15 = .ok (.iconst 1, 1) := by decide +kernel
theorem dX1_isAtEnd_16 : decode cX1_isAtEnd 16 = .ok (.goto 4, 3) := by decide +kernel
theorem dX1_isAtEnd_19 : decode cX1_isAtEnd 19 = .ok (.iconst 0, 1) := by decide +kernel
theorem dX1_isAtEnd_20 : decode cX1_isAtEnd 20 = .ok (.ireturn, 1) := by decide +kernel
theorem dX1_skipBlanks_0 : decode cX1_skipBlanks 0 = .ok (.iload_n 1, 1) := by decide +kernel
theorem dX1_skipBlanks_1 : decode cX1_skipBlanks 1 = .ok (.istore_n 2, 1) := by decide +kernel
theorem dX1_skipBlanks_2 : decode cX1_skipBlanks 2 = .ok (.iload_n 2, 1) := by decide +kernel
theorem dX1_skipBlanks_3 : decode cX1_skipBlanks 3 = .ok (.aload_n 0, 1) := by decide +kernel
theorem dX1_skipBlanks_4 : decode cX1_skipBlanks 4 = .ok (.getfield 21, 3) := by decide +kernel
theorem dX1_skipBlanks_7 : decode cX1_skipBlanks 7 = .ok (.if_icmp .ge 20, 3) := by decide +kernel
theorem dX1_skipBlanks_10 : decode cX1_skipBlanks 10 = .ok (.aload_n 0, 1) := by decide +kernel
theorem dX1_skipBlanks_11 : decode cX1_skipBlanks 11 = .ok (.getfield 9, 3) := by decide +kernel
theorem dX1_skipBlanks_14 : decode cX1_skipBlanks 14 = .ok (.iload_n 2, 1) := by decide +kernel
theorem dX1_skipBlanks_15 : decode cX1_skipBlanks 15 = .ok (.iaload, 1) := by decide +kernel
theorem dX1_skipBlanks_16 : decode cX1_skipBlanks 16 = .ok (.bipush 32, 2) := by decide +kernel
theorem dX1_skipBlanks_18 : decode cX1_skipBlanks 18 = .ok (.if_icmp .ne 9, 3) := by decide +kernel
theorem dX1_skipBlanks_21 : decode cX1_skipBlanks 21 = .ok (.iinc 2 1, 3) := by decide +kernel
theorem dX1_skipBlanks_24 : decode cX1_skipBlanks 24 = .ok (.goto (-22), 3) := by decide +kernel
theorem dX1_skipBlanks_27 : decode cX1_skipBlanks 27 = .ok (.iload_n 2, 1) := by decide +kernel
theorem dX1_skipBlanks_28 : decode cX1_skipBlanks 28 = .ok (.ireturn, 1) := by decide +kernel
theorem dX1_nextToken_0 : decode cX1_nextToken 0 = .ok (.aload_n 0, 1) := by decide +kernel
theorem dX1_nextToken_1 : decode cX1_nextToken 1 = .ok (.aload_n 0, 1) := by decide +kernel
theorem dX1_nextToken_2 : decode cX1_nextToken 2 = .ok (.aload_n 0, 1) := by decide +kernel
theorem dX1_nextToken_3 : decode cX1_nextToken 3 = .ok (.getfield 28, 3) := by decide +kernel
theorem dX1_nextToken_6 : decode cX1_nextToken 6 = .ok (.invokevirtual 82, 3) := by decide +kernel
theorem dX1_nextToken_9 : decode cX1_nextToken 9 = .ok (.putfield 70, 3) := by decide +kernel
theorem dX1_nextToken_12 : decode cX1_nextToken 12 = .ok (.aload_n 0, 1) := by decide +kernel
theorem dX1_nextToken_13 : decode cX1_nextToken 13 = .ok (.aload_n 0, 1) := by decide +kernel
theorem dX1_nextToken_14 : decode cX1_nextToken 14 = .ok (.getfield 70, 3) := by decide +kernel
theorem dX1_nextToken_17 : decode cX1_nextToken 17 = .ok (.putfield 28, 3) := by decide +kernel
theorem dX1_nextToken_20 : decode cX1_nextToken 20 = .ok (.aload_n 0, 1) := by decide +kernel
theorem dX1_nextToken_21 : decode cX1_nextToken 21 = .ok (.getfield 70, 3) := by decide +kernel
theorem dX1_nextToken_24 : decode cX1_nextToken 24 = .ok (.aload_n 0, 1) := by decide +kernel
theorem dX1_nextToken_25 : decode cX1_nextToken 25 = .ok (.getfield 21, 3) := by decide +kernel
theorem dX1_nextToken_28 : decode cX1_nextToken 28 = .ok (.if_icmp .lt 5, 3) := by decide +kernel
theorem dX1_nextToken_31 : decode cX1_nextToken 31 = .ok (.iconst 0, 1) := by decide +kernel
theorem dX1_nextToken_32 : decode cX1_nextToken 32 = .ok (.ireturn, 1) := by decide +kernel
theorem dX1_nextToken_33 : decode cX1_nextToken 33 = .ok (.aload_n 0, 1) := by decide +kernel
theorem dX1_nextToken_34 : decode cX1_nextToken 34 = .ok (.getfield 9, 3) := by decide +kernel
theorem dX1_nextToken_37 : decode cX1_nextToken 37 = .ok (.aload_n 0, 1) := by decide +kernel
theorem dX1_nextToken_38 : decode cX1_nextToken 38 = .ok (.getfield 70, 3) := by decide +kernel
theorem dX1_nextToken_41 : decode cX1_nextToken 41 = .ok (.iaload, 1) := by decide +kernel
theorem dX1_nextToken_42 : decode cX1_nextToken 42 = .ok (.invokestatic 85, 3) := by decide +kernel
theorem dX1_nextToken_45 : decode cX1_nextToken 45 = .ok (.ifCond .eq 44, 3) := by decide +kernel
theorem dX1_nextToken_48 : decode cX1_nextToken 48 = .ok (.aload_n 0, 1) := by decide +kernel
theorem dX1_nextToken_49 : decode cX1_nextToken 49 = .ok (.getfield 28, 3) := by decide +kernel
theorem dX1_nextToken_52 : decode cX1_nextToken 52 = .ok (.aload_n 0, 1) := by decide +kernel
theorem dX1_nextToken_53 : decode cX1_nextToken 53 = .ok (.getfield 21, 3) := by decide +kernel
theorem dX1_nextToken_56 : decode cX1_nextToken 56 = .ok (.if_icmp .ge 31, 3) := by decide +kernel
theorem dX1_nextToken_59 : decode cX1_nextToken 59 = .ok (.aload_n 0, 1) := by decide +kernel
theorem dX1_nextToken_60 : decode cX1_nextToken 60 = .ok (.getfield 9, 3) := by decide +kernel
theorem dX1_nextToken_63 : decode cX1_nextToken 63 = .ok (.aload_n 0, 1) := by decide +kernel
theorem dX1_nextToken_64 : decode cX1_nextToken 64 = .ok (.getfield 28, 3) := by decide +kernel
theorem dX1_nextToken_67 : decode cX1_nextToken 67 = .ok (.iaload, 1) := by decide +kernel
theorem dX1_nextToken_68 : decode cX1_nextToken 68 = .ok (.invokestatic 85, 3) := by decide +kernel
theorem dX1_nextToken_71 : decode cX1_nextToken 71 = .ok (.ifCond .eq 16, 3) := by decide +kernel
theorem dX1_nextToken_74 : decode cX1_nextToken 74 = .ok (.aload_n 0, 1) := by decide +kernel
theorem dX1_nextToken_75 : decode cX1_nextToken 75 = .ok (.dup, 1) := by decide +kernel
theorem dX1_nextToken_76 : decode cX1_nextToken 76 = .ok (.getfield 28, 3) := by decide +kernel
theorem dX1_nextToken_79 : decode cX1_nextToken 79 = .ok (.iconst 1, 1) := by decide +kernel
theorem dX1_nextToken_80 : decode cX1_nextToken 80 = .ok (.iadd, 1) := by decide +kernel
theorem dX1_nextToken_81 : decode cX1_nextToken 81 = .ok (.putfield 28, 3) := by decide +kernel
theorem dX1_nextToken_84 : decode cX1_nextToken 84 = .ok (.goto (-36), 3) := by decide +kernel
theorem dX1_nextToken_87 : decode cX1_nextToken 87 = .ok (.iconst 1, 1) := by decide +kernel
theorem dX1_nextToken_88 : decode cX1_nextToken 88 = .ok (.ireturn, 1) := by decide +kernel
theorem dX1_nextToken_89 : decode cX1_nextToken 89 = .ok (.aload_n 0, 1) := by decide +kernel
theorem dX1_nextToken_90 : decode cX1_nextToken 90 = .ok (.getfield 9, 3) := by decide +kernel
theorem dX1_nextToken_93 : decode cX1_nextToken 93 = .ok (.aload_n 0, 1) := by decide +kernel
theorem dX1_nextToken_94 : decode cX1_nextToken 94 = .ok (.getfield 70, 3) := by decide +kernel
theorem dX1_nextToken_97 : decode cX1_nextToken 97 = .ok (.iaload, 1) := by decide +kernel
theorem dX1_nextToken_98 : decode cX1_nextToken 98 = .ok (.invokestatic 89, 3) := by decide +kernel
theorem dX1_nextToken_101 : decode cX1_nextToken 101 = .ok (.ifCond .eq 61, 3) := by decide +kernel
theorem dX1_nextToken_104 : decode cX1_nextToken 104 = .ok (.aload_n 0, 1) := by decide +kernel
theorem dX1_nextToken_105 : decode cX1_nextToken 105 = .ok (.getfield 28, 3) := by decide +kernel
theorem dX1_nextToken_108 : decode cX1_nextToken 108 = .ok (.aload_n 0, 1) := by decide +kernel
theorem dX1_nextToken_109 : decode cX1_nextToken 109 = .ok (.getfield 21, 3) := by decide +kernel
theorem dX1_nextToken_112 : decode cX1_nextToken 112 = .ok (.if_icmp .ge 31, 3) := by decide +kernel
theorem dX1_nextToken_115 : decode cX1_nextToken 115 = .ok (.aload_n 0, 1) := by decide +kernel
theorem dX1_nextToken_116 : decode cX1_nextToken 116 = .ok (.getfield 9, 3) := by decide +kernel
theorem dX1_nextToken_119 : decode cX1_nextToken 119 = .ok (.aload_n 0, 1) := by decide +kernel
theorem dX1_nextToken_120 : decode cX1_nextToken 120 = .ok (.getfield 28, 3) := by decide +kernel
theorem dX1_nextToken_123 : decode cX1_nextToken 123 = .ok (.iaload, 1) := by decide +kernel
theorem dX1_nextToken_124 : decode cX1_nextToken 124 = .ok (.invokestatic 89, 3) := by decide +kernel
theorem dX1_nextToken_127 : decode cX1_nextToken 127 = .ok (.ifCond .eq 16, 3) := by decide +kernel
theorem dX1_nextToken_130 : decode cX1_nextToken 130 = .ok (.aload_n 0, 1) := by decide +kernel
theorem dX1_nextToken_131 : decode cX1_nextToken 131 = .ok (.dup, 1) := by decide +kernel
theorem dX1_nextToken_132 : decode cX1_nextToken 132 = .ok (.getfield 28, 3) := by decide +kernel
theorem dX1_nextToken_135 : decode cX1_nextToken 135 = .ok (.iconst 1, 1) := by decide +kernel
theorem dX1_nextToken_136 : decode cX1_nextToken 136 = .ok (.iadd, 1) := by decide +kernel
theorem dX1_nextToken_137 : decode cX1_nextToken 137 = .ok (.putfield 28, 3) := by decide +kernel
theorem dX1_nextToken_140 : decode cX1_nextToken 140 = .ok (.goto (-36), 3) := by decide +kernel
theorem dX1_nextToken_143 : decode cX1_nextToken 143 = .ok (.aload_n 0, 1) := by decide +kernel
theorem dX1_nextToken_144 : decode cX1_nextToken 144 = .ok (.getfield 28, 3) := by decide +kernel
theorem dX1_nextToken_147 : decode cX1_nextToken 147 = .ok (.aload_n 0, 1) := by decide +kernel
theorem dX1_nextToken_148 : decode cX1_nextToken 148 = .ok (.getfield 70, 3) := by decide +kernel
theorem dX1_nextToken_151 : decode cX1_nextToken 151 = .ok (.isub, 1) := by decide +kernel
theorem dX1_nextToken_152 : decode cX1_nextToken 152 = .ok (.iconst 2, 1) := by decide +kernel
theorem dX1_nextToken_153 : decode cX1_nextToken 153 = .ok (.if_icmp .gt 7, 3) := by decide +kernel
theorem dX1_nextToken_156 : decode cX1_nextToken 156 = .ok (.iconst 2, 1) := by decide +kernel
theorem dX1_nextToken_157 : decode cX1_nextToken 157 = .ok (.goto 4, 3) := by decide +kernel
theorem dX1_nextToken_160 : decode cX1_nextToken 160 = .ok (.iconst 4, 1) := by decide +kernel
theorem dX1_nextToken_161 : decode cX1_nextToken 161 = .ok (.ireturn, 1) := by decide +kernel
theorem dX1_nextToken_162 : decode cX1_nextToken 162 = .ok (.aload_n 0, 1) := by decide +kernel
theorem dX1_nextToken_163 : decode cX1_nextToken 163 = .ok (.dup, 1) := by decide +kernel
theorem dX1_nextToken_164 : decode cX1_nextToken 164 = .ok (.getfield 28, 3) := by decide +kernel
theorem dX1_nextToken_167 : decode cX1_nextToken 167 = .ok (.iconst 1, 1) := by decide +kernel
theorem dX1_nextToken_168 : decode cX1_nextToken 168 = .ok (.iadd, 1) := by decide +kernel
theorem dX1_nextToken_169 : decode cX1_nextToken 169 = .ok (.putfield 28, 3) := by decide +kernel
theorem dX1_nextToken_172 : decode cX1_nextToken 172 = .ok (.aload_n 0, 1) := by decide +kernel
theorem dX1_nextToken_173 : decode cX1_nextToken 173 = .ok (.getfield 9, 3) := by decide +kernel
theorem dX1_nextToken_176 : decode cX1_nextToken 176 = .ok (.aload_n 0, 1) := by decide +kernel
theorem dX1_nextToken_177 : decode cX1_nextToken 177 = .ok (.getfield 70, 3) := by decide +kernel
theorem dX1_nextToken_180 : decode cX1_nextToken 180 = .ok (.iaload, 1) := by decide +kernel
theorem dX1_nextToken_181 : decode cX1_nextToken 181 = .ok (.bipush 59, 2) := by decide +kernel
theorem dX1_nextToken_183 : decode cX1_nextToken 183 = .ok (.if_icmp .ne 7, 3) := by decide +kernel
theorem dX1_nextToken_186 : decode cX1_nextToken 186 = .ok (.iconst 3, 1) := by decide +kernel
theorem dX1_nextToken_187 : decode cX1_nextToken 187 = .ok (.goto 4, 3) := by decide +kernel
theorem dX1_nextToken_190 : decode cX1_nextToken 190 = .ok (.iconst 4, 1) := by decide +kernel
theorem dX1_nextToken_191 : decode cX1_nextToken 191 = .ok (.ireturn, 1) := by decide +kernel
theorem dX1_wordOfToken_0 : decode cX1_wordOfToken 0 = .ok (.iconst 0, 1) := by decide +kernel
theorem dX1_wordOfToken_1 : decode cX1_wordOfToken 1 = .ok (.istore_n 1, 1) := by decide +kernel
theorem dX1_wordOfToken_2 : decode cX1_wordOfToken 2 = .ok (.iload_n 1, 1) := by decide +kernel
theorem dX1_wordOfToken_3 : decode cX1_wordOfToken 3 = .ok (.bipush 6, 2) := by decide +kernel
theorem dX1_wordOfToken_5 : decode cX1_wordOfToken 5 = .ok (.if_icmp .ge 22, 3) := by decide +kernel
theorem dX1_wordOfToken_8 : decode cX1_wordOfToken 8 = .ok (.aload_n 0, 1) := by decide +kernel
theorem dX1_wordOfToken_9 : decode cX1_wordOfToken 9 = .ok (.iload_n 1, 1) := by decide +kernel
theorem dX1_wordOfToken_10 : decode cX1_wordOfToken 10 = .ok (.invokestatic 92, 3) := by decide +kernel
theorem dX1_wordOfToken_13 : decode cX1_wordOfToken 13 = .ok (.invokevirtual 96, 3) := by decide +kernel
theorem dX1_wordOfToken_16 : decode cX1_wordOfToken 16 = .ok (.ifCond .eq 5, 3) := by decide +kernel
theorem dX1_wordOfToken_19 : decode cX1_wordOfToken 19 = .ok (.iload_n 1, 1) := by decide +kernel
theorem dX1_wordOfToken_20 : decode cX1_wordOfToken 20 = .ok (.ireturn, 1) := by decide +kernel
theorem dX1_wordOfToken_21 : decode cX1_wordOfToken 21 = .ok (.iinc 1 1, 3) := by decide +kernel
theorem dX1_wordOfToken_24 : decode cX1_wordOfToken 24 = .ok (.goto (-22), 3) := by decide +kernel
theorem dX1_wordOfToken_27 : decode cX1_wordOfToken 27 = .ok (.iconst (-1), 1) := by decide +kernel
theorem dX1_wordOfToken_28 : decode cX1_wordOfToken 28 = .ok (.ireturn, 1) := by decide +kernel
theorem dX1_isToken_0 : decode cX1_isToken 0 = .ok (.aload_n 1, 1) := by decide +kernel
theorem dX1_isToken_1 : decode cX1_isToken 1 = .ok (.invokevirtual 100, 3) := by decide +kernel
theorem dX1_isToken_4 : decode cX1_isToken 4 = .ok (.aload_n 0, 1) := by decide +kernel
theorem dX1_isToken_5 : decode cX1_isToken 5 = .ok (.getfield 28, 3) := by decide +kernel
theorem dX1_isToken_8 : decode cX1_isToken 8 = .ok (.aload_n 0, 1) := by decide +kernel
theorem dX1_isToken_9 : decode cX1_isToken 9 = .ok (.getfield 70, 3) := by decide +kernel
theorem dX1_isToken_12 : decode cX1_isToken 12 = .ok (.isub, 1) := by decide +kernel
theorem dX1_isToken_13 : decode cX1_isToken 13 = .ok (.if_icmp .eq 5, 3) := by decide +kernel
theorem dX1_isToken_16 : decode cX1_isToken 16 = .ok (.iconst 0, 1) := by decide +kernel
theorem dX1_isToken_17 : decode cX1_isToken 17 = .ok (.ireturn, 1) := by decide +kernel
theorem dX1_isToken_18 : decode cX1_isToken 18 = .ok (.iconst 0, 1) := by decide +kernel
theorem dX1_isToken_19 : decode cX1_isToken 19 = .ok (.istore_n 2, 1) := by decide +kernel
theorem dX1_isToken_20 : decode cX1_isToken 20 = .ok (.iload_n 2, 1) := by decide +kernel
theorem dX1_isToken_21 : decode cX1_isToken 21 = .ok (.aload_n 1, 1) := by decide +kernel
theorem dX1_isToken_22 : decode cX1_isToken 22 = .ok (.invokevirtual 100, 3) := by decide +kernel
theorem dX1_isToken_25 : decode cX1_isToken 25 = .ok (.if_icmp .ge 30, 3) := by decide +kernel
theorem dX1_isToken_28 : decode cX1_isToken 28 = .ok (.aload_n 0, 1) := by decide +kernel
theorem dX1_isToken_29 : decode cX1_isToken 29 = .ok (.getfield 9, 3) := by decide +kernel
theorem dX1_isToken_32 : decode cX1_isToken 32 = .ok (.aload_n 0, 1) := by decide +kernel
theorem dX1_isToken_33 : decode cX1_isToken 33 = .ok (.getfield 70, 3) := by decide +kernel
theorem dX1_isToken_36 : decode cX1_isToken 36 = .ok (.iload_n 2, 1) := by decide +kernel
theorem dX1_isToken_37 : decode cX1_isToken 37 = .ok (.iadd, 1) := by decide +kernel
theorem dX1_isToken_38 : decode cX1_isToken 38 = .ok (.iaload, 1) := by decide +kernel
theorem dX1_isToken_39 : decode cX1_isToken 39 = .ok (.aload_n 1, 1) := by decide +kernel
theorem dX1_isToken_40 : decode cX1_isToken 40 = .ok (.iload_n 2, 1) := by decide +kernel
theorem dX1_isToken_41 : decode cX1_isToken 41 = .ok (.invokevirtual 104, 3) := by decide +kernel
theorem dX1_isToken_44 : decode cX1_isToken 44 = .ok (.if_icmp .eq 5, 3) := by decide +kernel
theorem dX1_isToken_47 : decode cX1_isToken 47 = .ok (.iconst 0, 1) := by decide +kernel
theorem dX1_isToken_48 : decode cX1_isToken 48 = .ok (.ireturn, 1) := by decide +kernel
theorem dX1_isToken_49 : decode cX1_isToken 49 = .ok (.iinc 2 1, 3) := by decide +kernel
theorem dX1_isToken_52 : decode cX1_isToken 52 = .ok (.goto (-32), 3) := by decide +kernel
theorem dX1_isToken_55 : decode cX1_isToken 55 = .ok (.iconst 1, 1) := by decide +kernel
theorem dX1_isToken_56 : decode cX1_isToken 56 = .ok (.ireturn, 1) := by decide +kernel
theorem dX1_numberOfToken_0 : decode cX1_numberOfToken 0 = .ok (.iconst 0, 1) := by decide +kernel
theorem dX1_numberOfToken_1 : decode cX1_numberOfToken 1 = .ok (.istore_n 1, 1) := by decide +kernel
theorem dX1_numberOfToken_2 : decode cX1_numberOfToken 2 = .ok (.aload_n 0, 1) := by decide +kernel
theorem dX1_numberOfToken_3 : decode cX1_numberOfToken 3 = .ok (.getfield 70, 3) := by decide +kernel
theorem dX1_numberOfToken_6 : decode cX1_numberOfToken 6 = .ok (.istore_n 2, 1) := by decide +kernel
theorem dX1_numberOfToken_7 : decode cX1_numberOfToken 7 = .ok (.iload_n 2, 1) := by decide +kernel
theorem dX1_numberOfToken_8 : decode cX1_numberOfToken 8 = .ok (.aload_n 0, 1) := by decide +kernel
theorem dX1_numberOfToken_9 : decode cX1_numberOfToken 9 = .ok (.getfield 28, 3) := by decide +kernel
theorem dX1_numberOfToken_12 : decode cX1_numberOfToken 12 = .ok (.if_icmp .ge 24, 3) := by decide +kernel
theorem dX1_numberOfToken_15 : decode cX1_numberOfToken 15 = .ok (.bipush 10, 2) := by decide +kernel
theorem dX1_numberOfToken_17 : decode cX1_numberOfToken 17 = .ok (.iload_n 1, 1) := by decide +kernel
theorem dX1_numberOfToken_18 : decode cX1_numberOfToken 18 = .ok (.imul, 1) := by decide +kernel
theorem dX1_numberOfToken_19 : decode cX1_numberOfToken 19 = .ok (.aload_n 0, 1) := by decide +kernel
theorem dX1_numberOfToken_20 : decode cX1_numberOfToken 20 = .ok (.getfield 9, 3) := by decide +kernel
theorem dX1_numberOfToken_23 : decode cX1_numberOfToken 23 = .ok (.iload_n 2, 1) := by decide +kernel
theorem dX1_numberOfToken_24 : decode cX1_numberOfToken 24 = .ok (.iaload, 1) := by decide +kernel
theorem dX1_numberOfToken_25 : decode cX1_numberOfToken 25 = .ok (.iadd, 1) := by decide +kernel
theorem dX1_numberOfToken_26 : decode cX1_numberOfToken 26 = .ok (.bipush 48, 2) := by decide +kernel
theorem dX1_numberOfToken_28 : decode cX1_numberOfToken 28 = .ok (.isub, 1) := by decide +kernel
theorem dX1_numberOfToken_29 : decode cX1_numberOfToken 29 = .ok (.istore_n 1, 1) := by decide +kernel
theorem dX1_numberOfToken_30 : decode cX1_numberOfToken 30 = .ok (.iinc 2 1, 3) := by decide +kernel
theorem dX1_numberOfToken_33 : decode cX1_numberOfToken 33 = .ok (.goto (-26), 3) := by decide +kernel
theorem dX1_numberOfToken_36 : decode cX1_numberOfToken 36 = .ok (.iload_n 1, 1) := by decide +kernel
theorem dX1_numberOfToken_37 : decode cX1_numberOfToken 37 = .ok (.ireturn, 1) := by decide +kernel
theorem dX1_nameOf_0 : decode cX1_nameOf 0 = .ok (.iload_n 0, 1) := by decide +kernel
theorem dX1_nameOf_1 : decode cX1_nameOf 1 = .ok (.tableswitch 50 0 4 #[35, 38, 41, 44, 47], 35) := by decide +kernel
theorem dX1_nameOf_36 : decode cX1_nameOf 36 = .ok (.ldc 108, 2) := by decide +kernel
theorem dX1_nameOf_38 : decode cX1_nameOf 38 = .ok (.areturn, 1) := by decide +kernel
theorem dX1_nameOf_39 : decode cX1_nameOf 39 = .ok (.ldc 110, 2) := by decide +kernel
theorem dX1_nameOf_41 : decode cX1_nameOf 41 = .ok (.areturn, 1) := by decide +kernel
theorem dX1_nameOf_42 : decode cX1_nameOf 42 = .ok (.ldc 112, 2) := by decide +kernel
theorem dX1_nameOf_44 : decode cX1_nameOf 44 = .ok (.areturn, 1) := by decide +kernel
theorem dX1_nameOf_45 : decode cX1_nameOf 45 = .ok (.ldc 114, 2) := by decide +kernel
theorem dX1_nameOf_47 : decode cX1_nameOf 47 = .ok (.areturn, 1) := by decide +kernel
theorem dX1_nameOf_48 : decode cX1_nameOf 48 = .ok (.ldc 116, 2) := by decide +kernel
theorem dX1_nameOf_50 : decode cX1_nameOf 50 = .ok (.areturn, 1) := by decide +kernel
theorem dX1_nameOf_51 : decode cX1_nameOf 51 = .ok (.ldc 118, 2) := by decide +kernel
theorem dX1_nameOf_53 : decode cX1_nameOf 53 = .ok (.areturn, 1) := by decide +kernel
theorem dX1_numbersOf_0 : decode cX1_numbersOf 0 = .ok (.iload_n 0, 1) := by decide +kernel
theorem dX1_numbersOf_1 : decode cX1_numbersOf 1 = .ok (.lookupswitch 39 #[(0, 37), (2, 35), (5, 37)], 35) := by decide +kernel
theorem dX1_numbersOf_36 : decode cX1_numbersOf 36 = .ok (.iconst 4, 1) := by decide +kernel
theorem dX1_numbersOf_37 : decode cX1_numbersOf 37 = .ok (.ireturn, 1) := by decide +kernel
theorem dX1_numbersOf_38 : decode cX1_numbersOf 38 = .ok (.iconst 2, 1) := by decide +kernel
theorem dX1_numbersOf_39 : decode cX1_numbersOf 39 = .ok (.ireturn, 1) := by decide +kernel
theorem dX1_numbersOf_40 : decode cX1_numbersOf 40 = .ok (.iconst 1, 1) := by decide +kernel
theorem dX1_numbersOf_41 : decode cX1_numbersOf 41 = .ok (.ireturn, 1) := by decide +kernel
theorem dX1_isLetter_0 : decode cX1_isLetter 0 = .ok (.iload_n 0, 1) := by decide +kernel
theorem dX1_isLetter_1 : decode cX1_isLetter 1 = .ok (.bipush 97, 2) := by decide +kernel
theorem dX1_isLetter_3 : decode cX1_isLetter 3 = .ok (.if_icmp .lt 13, 3) := by decide +kernel
theorem dX1_isLetter_6 : decode cX1_isLetter 6 = .ok (.iload_n 0, 1) := by decide +kernel
theorem dX1_isLetter_7 : decode cX1_isLetter 7 = .ok (.bipush 122, 2) := by decide +kernel
theorem dX1_isLetter_9 : decode cX1_isLetter 9 = .ok (.if_icmp .gt 7, 3) := by decide +kernel
theorem dX1_isLetter_12 : decode cX1_isLetter 12 = .ok (.iconst 1, 1) := by decide +kernel
theorem dX1_isLetter_13 : decode cX1_isLetter 13 = .ok (.goto 4, 3) := by decide +kernel
theorem dX1_isLetter_16 : decode cX1_isLetter 16 = .ok (.iconst 0, 1) := by decide +kernel
theorem dX1_isLetter_17 : decode cX1_isLetter 17 = .ok (.ireturn, 1) := by decide +kernel
theorem dX1_isFigure_0 : decode cX1_isFigure 0 = .ok (.iload_n 0, 1) := by decide +kernel
theorem dX1_isFigure_1 : decode cX1_isFigure 1 = .ok (.bipush 48, 2) := by decide +kernel
theorem dX1_isFigure_3 : decode cX1_isFigure 3 = .ok (.if_icmp .lt 13, 3) := by decide +kernel
theorem dX1_isFigure_6 : decode cX1_isFigure 6 = .ok (.iload_n 0, 1) := by decide +kernel
theorem dX1_isFigure_7 : decode cX1_isFigure 7 = .ok (.bipush 57, 2) := by decide +kernel
theorem dX1_isFigure_9 : decode cX1_isFigure 9 = .ok (.if_icmp .gt 7, 3) := by decide +kernel
theorem dX1_isFigure_12 : decode cX1_isFigure 12 = .ok (.iconst 1, 1) := by decide +kernel
theorem dX1_isFigure_13 : decode cX1_isFigure 13 = .ok (.goto 4, 3) := by decide +kernel
theorem dX1_isFigure_16 : decode cX1_isFigure 16 = .ok (.iconst 0, 1) := by decide +kernel
theorem dX1_isFigure_17 : decode cX1_isFigure 17 = .ok (.ireturn, 1) := by decide +kernel
theorem dX2_init_0 : decode cX2_init 0 = .ok (.aload_n 0, 1) := by decide +kernel
theorem dX2_init_1 : decode cX2_init 1 = .ok (.invokespecial 3, 3) := by decide +kernel
theorem dX2_init_4 : decode cX2_init 4 = .ok (.aload_n 0, 1) := by decide +kernel
theorem dX2_init_5 : decode cX2_init 5 = .ok (.iconst 5, 1) := by decide +kernel
theorem dX2_init_6 : decode cX2_init 6 = .ok (.anewarray 9, 3) := by decide +kernel
theorem dX2_init_9 : decode cX2_init 9 = .ok (.putfield 11, 3) := by decide +kernel
theorem dX2_init_12 : decode cX2_init 12 = .ok (.aload_n 0, 1) := by decide +kernel
theorem dX2_init_13 : decode cX2_init 13 = .ok (.new 17, 3) := by decide +kernel
theorem dX2_init_16 : decode cX2_init 16 = .ok (.dup, 1) := by decide +kernel
theorem dX2_init_17 : decode cX2_init 17 = .ok (.invokespecial 19, 3) := by decide +kernel
theorem dX2_init_20 : decode cX2_init 20 = .ok (.putfield 20, 3) := by decide +kernel
theorem dX2_init_23 : decode cX2_init 23 = .ok (.aload_n 0, 1) := by decide +kernel
theorem dX2_init_24 : decode cX2_init 24 = .ok (.new 24, 3) := by decide +kernel
theorem dX2_init_27 : decode cX2_init 27 = .ok (.dup, 1) := by decide +kernel
theorem dX2_init_28 : decode cX2_init 28 = .ok (.invokespecial 26, 3) := by decide +kernel
theorem dX2_init_31 : decode cX2_init 31 = .ok (.putfield 27, 3) := by decide +kernel
theorem dX2_init_34 : decode cX2_init 34 = .ok (.aload_n 0, 1) := by decide +kernel
theorem dX2_init_35 : decode cX2_init 35 = .ok (.iconst 5, 1) := by decide +kernel
theorem dX2_init_36 : decode cX2_init 36 = .ok (.newarray .int, 2) := by decide +kernel
theorem dX2_init_38 : decode cX2_init 38 = .ok (.putfield 31, 3) := by decide +kernel
theorem dX2_init_41 : decode cX2_init 41 = .ok (.iconst 0, 1) := by decide +kernel
theorem dX2_init_42 : decode cX2_init 42 = .ok (.istore_n 1, 1) := by decide +kernel
theorem dX2_init_43 : decode cX2_init 43 = .ok (.iload_n 1, 1) := by decide +kernel
theorem dX2_init_44 : decode cX2_init 44 = .ok (.iconst 5, 1) := by decide +kernel
theorem dX2_init_45 : decode cX2_init 45 = .ok (.if_icmp .ge 22, 3) := by decide +kernel
theorem dX2_init_48 : decode cX2_init 48 = .ok (.aload_n 0, 1) := by decide +kernel
theorem dX2_init_49 : decode cX2_init 49 = .ok (.getfield 11, 3) := by decide +kernel
theorem dX2_init_52 : decode cX2_init 52 = .ok (.iload_n 1, 1) := by decide +kernel
theorem dX2_init_53 : decode cX2_init 53 = .ok (.new 9, 3) := by decide +kernel
theorem dX2_init_56 : decode cX2_init 56 = .ok (.dup, 1) := by decide +kernel
theorem dX2_init_57 : decode cX2_init 57 = .ok (.invokespecial 35, 3) := by decide +kernel
theorem dX2_init_60 : decode cX2_init 60 = .ok (.aastore, 1) := by decide +kernel
theorem dX2_init_61 : decode cX2_init 61 = .ok (.iinc 1 1, 3) := by decide +kernel
theorem dX2_init_64 : decode cX2_init 64 = .ok (.goto (-21), 3) := by decide +kernel
theorem dX2_init_67 : decode cX2_init 67 = .ok (.aload_n 0, 1) := by decide +kernel
theorem dX2_init_68 : decode cX2_init 68 = .ok (.iconst 4, 1) := by decide +kernel
theorem dX2_init_69 : decode cX2_init 69 = .ok (.iconst 4, 1) := by decide +kernel
theorem dX2_init_70 : decode cX2_init 70 = .ok (.invokevirtual 36, 3) := by decide +kernel
theorem dX2_init_73 : decode cX2_init 73 = .ok (.pop, 1) := by decide +kernel
theorem dX2_init_74 : decode cX2_init 74 = .ok (.return_, 1) := by decide +kernel
theorem dX2_become_0 : decode cX2_become 0 = .ok (.aload_n 0, 1) := by decide +kernel
theorem dX2_become_1 : decode cX2_become 1 = .ok (.aload_n 1, 1) := by decide +kernel
theorem dX2_become_2 : decode cX2_become 2 = .ok (.getfield 40, 3) := by decide +kernel
theorem dX2_become_5 : decode cX2_become 5 = .ok (.putfield 40, 3) := by decide +kernel
theorem dX2_become_8 : decode cX2_become 8 = .ok (.aload_n 0, 1) := by decide +kernel
theorem dX2_become_9 : decode cX2_become 9 = .ok (.aload_n 1, 1) := by decide +kernel
theorem dX2_become_10 : decode cX2_become 10 = .ok (.getfield 44, 3) := by decide +kernel
theorem dX2_become_13 : decode cX2_become 13 = .ok (.putfield 44, 3) := by decide +kernel
theorem dX2_become_16 : decode cX2_become 16 = .ok (.aload_n 0, 1) := by decide +kernel
theorem dX2_become_17 : decode cX2_become 17 = .ok (.aload_n 1, 1) := by decide +kernel
theorem dX2_become_18 : decode cX2_become 18 = .ok (.getfield 47, 3) := by decide +kernel
theorem dX2_become_21 : decode cX2_become 21 = .ok (.putfield 47, 3) := by decide +kernel
theorem dX2_become_24 : decode cX2_become 24 = .ok (.aload_n 0, 1) := by decide +kernel
theorem dX2_become_25 : decode cX2_become 25 = .ok (.aload_n 1, 1) := by decide +kernel
theorem dX2_become_26 : decode cX2_become 26 = .ok (.getfield 50, 3) := by decide +kernel
theorem dX2_become_29 : decode cX2_become 29 = .ok (.putfield 50, 3) := by decide +kernel
theorem dX2_become_32 : decode cX2_become 32 = .ok (.aload_n 0, 1) := by decide +kernel
theorem dX2_become_33 : decode cX2_become 33 = .ok (.aload_n 1, 1) := by decide +kernel
theorem dX2_become_34 : decode cX2_become 34 = .ok (.getfield 53, 3) := by decide +kernel
theorem dX2_become_37 : decode cX2_become 37 = .ok (.putfield 53, 3) := by decide +kernel
theorem dX2_become_40 : decode cX2_become 40 = .ok (.aload_n 0, 1) := by decide +kernel
theorem dX2_become_41 : decode cX2_become 41 = .ok (.aload_n 1, 1) := by decide +kernel
theorem dX2_become_42 : decode cX2_become 42 = .ok (.getfield 56, 3) := by decide +kernel
theorem dX2_become_45 : decode cX2_become 45 = .ok (.putfield 56, 3) := by decide +kernel
theorem dX2_become_48 : decode cX2_become 48 = .ok (.aload_n 0, 1) := by decide +kernel
theorem dX2_become_49 : decode cX2_become 49 = .ok (.aload_n 1, 1) := by decide +kernel
theorem dX2_become_50 : decode cX2_become 50 = .ok (.getfield 59, 3) := by decide +kernel
theorem dX2_become_53 : decode cX2_become 53 = .ok (.putfield 59, 3) := by decide +kernel
theorem dX2_become_56 : decode cX2_become 56 = .ok (.iconst 0, 1) := by decide +kernel
theorem dX2_become_57 : decode cX2_become 57 = .ok (.istore_n 2, 1) := by decide +kernel
theorem dX2_become_58 : decode cX2_become 58 = .ok (.iload_n 2, 1) := by decide +kernel
theorem dX2_become_59 : decode cX2_become 59 = .ok (.iconst 5, 1) := by decide +kernel
theorem dX2_become_60 : decode cX2_become 60 = .ok (.if_icmp .ge 24, 3) := by decide +kernel
theorem dX2_become_63 : decode cX2_become 63 = .ok (.aload_n 0, 1) := by decide +kernel
theorem dX2_become_64 : decode cX2_become 64 = .ok (.getfield 11, 3) := by decide +kernel
theorem dX2_become_67 : decode cX2_become 67 = .ok (.iload_n 2, 1) := by decide +kernel
theorem dX2_become_68 : decode cX2_become 68 = .ok (.aaload, 1) := by decide +kernel
theorem dX2_become_69 : decode cX2_become 69 = .ok (.aload_n 1, 1) := by decide +kernel
theorem dX2_become_70 : decode cX2_become 70 = .ok (.getfield 11, 3) := by decide +kernel
theorem dX2_become_73 : decode cX2_become 73 = .ok (.iload_n 2, 1) := by decide +kernel
theorem dX2_become_74 : decode cX2_become 74 = .ok (.aaload, 1) := by decide +kernel
theorem dX2_become_75 : decode cX2_become 75 = .ok (.invokevirtual 62, 3) := by decide +kernel
theorem dX2_become_78 : decode cX2_become 78 = .ok (.iinc 2 1, 3) := by decide +kernel
theorem dX2_become_81 : decode cX2_become 81 = .ok (.goto (-23), 3) := by decide +kernel
theorem dX2_become_84 : decode cX2_become 84 = .ok (.aload_n 0, 1) := by decide +kernel
theorem dX2_become_85 : decode cX2_become 85 = .ok (.getfield 20, 3) := by decide +kernel
theorem dX2_become_88 : decode cX2_become 88 = .ok (.aload_n 1, 1) := by decide +kernel
theorem dX2_become_89 : decode cX2_become 89 = .ok (.getfield 20, 3) := by decide +kernel
theorem dX2_become_92 : decode cX2_become 92 = .ok (.invokevirtual 66, 3) := by decide +kernel
theorem dX2_become_95 : decode cX2_become 95 = .ok (.aload_n 0, 1) := by decide +kernel
theorem dX2_become_96 : decode cX2_become 96 = .ok (.getfield 27, 3) := by decide +kernel
theorem dX2_become_99 : decode cX2_become 99 = .ok (.aload_n 1, 1) := by decide +kernel
theorem dX2_become_100 : decode cX2_become 100 = .ok (.getfield 27, 3) := by decide +kernel
theorem dX2_become_103 : decode cX2_become 103 = .ok (.invokevirtual 69, 3) := by decide +kernel
theorem dX2_become_106 : decode cX2_become 106 = .ok (.return_, 1) := by decide +kernel
theorem dX2_setUp_0 : decode cX2_setUp 0 = .ok (.iload_n 1, 1) := by decide +kernel
theorem dX2_setUp_1 : decode cX2_setUp 1 = .ok (.iconst 2, 1) := by decide +kernel
theorem dX2_setUp_2 : decode cX2_setUp 2 = .ok (.if_icmp .lt 18, 3) := by decide +kernel
theorem dX2_setUp_5 : decode cX2_setUp 5 = .ok (.iload_n 1, 1) := by decide +kernel
theorem dX2_setUp_6 : decode cX2_setUp 6 = .ok (.iconst 5, 1) := by decide +kernel
theorem dX2_setUp_7 : decode cX2_setUp 7 = .ok (.if_icmp .gt 13, 3) := by decide +kernel
theorem dX2_setUp_10 : decode cX2_setUp 10 = .ok (.iload_n 2, 1) := by decide +kernel
theorem dX2_setUp_11 : decode cX2_setUp 11 = .ok (.iconst 2, 1) := by decide +kernel
theorem dX2_setUp_12 : decode cX2_setUp 12 = .ok (.if_icmp .lt 8, 3) := by decide +kernel
theorem dX2_setUp_15 : decode cX2_setUp 15 = .ok (.iload_n 2, 1) := by decide +kernel
theorem dX2_setUp_16 : decode cX2_setUp 16 = .ok (.iconst 5, 1) := by decide +kernel
theorem dX2_setUp_17 : decode cX2_setUp 17 = .ok (.if_icmp .le 6, 3) := by decide +kernel
theorem dX2_setUp_20 : decode cX2_setUp 20 = .ok (.bipush (-2), 2) := by decide +kernel
theorem dX2_setUp_22 : decode cX2_setUp 22 = .ok (.ireturn, 1) := by decide +kernel
theorem dX2_setUp_23 : decode cX2_setUp 23 = .ok (.aload_n 0, 1) := by decide +kernel
theorem dX2_setUp_24 : decode cX2_setUp 24 = .ok (.iload_n 1, 1) := by decide +kernel
theorem dX2_setUp_25 : decode cX2_setUp 25 = .ok (.putfield 40, 3) := by decide +kernel
theorem dX2_setUp_28 : decode cX2_setUp 28 = .ok (.aload_n 0, 1) := by decide +kernel
theorem dX2_setUp_29 : decode cX2_setUp 29 = .ok (.iload_n 2, 1) := by decide +kernel
theorem dX2_setUp_30 : decode cX2_setUp 30 = .ok (.putfield 44, 3) := by decide +kernel
theorem dX2_setUp_33 : decode cX2_setUp 33 = .ok (.aload_n 0, 1) := by decide +kernel
theorem dX2_setUp_34 : decode cX2_setUp 34 = .ok (.iload_n 1, 1) := by decide +kernel
theorem dX2_setUp_35 : decode cX2_setUp 35 = .ok (.iload_n 2, 1) := by decide +kernel
theorem dX2_setUp_36 : decode cX2_setUp 36 = .ok (.imul, 1) := by decide +kernel
theorem dX2_setUp_37 : decode cX2_setUp 37 = .ok (.putfield 47, 3) := by decide +kernel
theorem dX2_setUp_40 : decode cX2_setUp 40 = .ok (.aload_n 0, 1) := by decide +kernel
theorem dX2_setUp_41 : decode cX2_setUp 41 = .ok (.iconst 0, 1) := by decide +kernel
theorem dX2_setUp_42 : decode cX2_setUp 42 = .ok (.putfield 50, 3) := by decide +kernel
theorem dX2_setUp_45 : decode cX2_setUp 45 = .ok (.aload_n 0, 1) := by decide +kernel
theorem dX2_setUp_46 : decode cX2_setUp 46 = .ok (.bipush 8, 2) := by decide +kernel
theorem dX2_setUp_48 : decode cX2_setUp 48 = .ok (.putfield 53, 3) := by decide +kernel
theorem dX2_setUp_51 : decode cX2_setUp 51 = .ok (.aload_n 0, 1) := by decide +kernel
theorem dX2_setUp_52 : decode cX2_setUp 52 = .ok (.iconst 0, 1) := by decide +kernel
theorem dX2_setUp_53 : decode cX2_setUp 53 = .ok (.putfield 56, 3) := by decide +kernel
theorem dX2_setUp_56 : decode cX2_setUp 56 = .ok (.aload_n 0, 1) := by decide +kernel
theorem dX2_setUp_57 : decode cX2_setUp 57 = .ok (.iconst 0, 1) := by decide +kernel
theorem dX2_setUp_58 : decode cX2_setUp 58 = .ok (.putfield 59, 3) := by decide +kernel
theorem dX2_setUp_61 : decode cX2_setUp 61 = .ok (.aload_n 0, 1) := by decide +kernel
theorem dX2_setUp_62 : decode cX2_setUp 62 = .ok (.getfield 20, 3) := by decide +kernel
theorem dX2_setUp_65 : decode cX2_setUp 65 = .ok (.iconst 0, 1) := by decide +kernel
theorem dX2_setUp_66 : decode cX2_setUp 66 = .ok (.putfield 72, 3) := by decide +kernel
theorem dX2_setUp_69 : decode cX2_setUp 69 = .ok (.aload_n 0, 1) := by decide +kernel
theorem dX2_setUp_70 : decode cX2_setUp 70 = .ok (.getfield 27, 3) := by decide +kernel
theorem dX2_setUp_73 : decode cX2_setUp 73 = .ok (.iconst 0, 1) := by decide +kernel
theorem dX2_setUp_74 : decode cX2_setUp 74 = .ok (.putfield 75, 3) := by decide +kernel
theorem dX2_setUp_77 : decode cX2_setUp 77 = .ok (.aload_n 0, 1) := by decide +kernel
theorem dX2_setUp_78 : decode cX2_setUp 78 = .ok (.getfield 47, 3) := by decide +kernel
theorem dX2_setUp_81 : decode cX2_setUp 81 = .ok (.ireturn, 1) := by decide +kernel
theorem dX2_putShelf_0 : decode cX2_putShelf 0 = .ok (.aload_n 0, 1) := by decide +kernel
theorem dX2_putShelf_1 : decode cX2_putShelf 1 = .ok (.iload_n 1, 1) := by decide +kernel
theorem dX2_putShelf_2 : decode cX2_putShelf 2 = .ok (.invokevirtual 78, 3) := by decide +kernel
theorem dX2_putShelf_5 : decode cX2_putShelf 5 = .ok (.ifCond .ne 6, 3) := by decide +kernel
theorem dX2_putShelf_8 : decode cX2_putShelf 8 = .ok (.bipush (-2), 2) := by decide +kernel
theorem dX2_putShelf_10 : decode cX2_putShelf 10 = .ok (.ireturn, 1) := by decide +kernel
theorem dX2_putShelf_11 : decode cX2_putShelf 11 = .ok (.aload_n 0, 1) := by decide +kernel
theorem dX2_putShelf_12 : decode cX2_putShelf 12 = .ok (.iload_n 1, 1) := by decide +kernel
theorem dX2_putShelf_13 : decode cX2_putShelf 13 = .ok (.invokevirtual 82, 3) := by decide +kernel
theorem dX2_putShelf_16 : decode cX2_putShelf 16 = .ok (.iload_n 2, 1) := by decide +kernel
theorem dX2_putShelf_17 : decode cX2_putShelf 17 = .ok (.if_icmp .eq 20, 3) := by decide +kernel
theorem dX2_putShelf_20 : decode cX2_putShelf 20 = .ok (.aload_n 0, 1) := by decide +kernel
theorem dX2_putShelf_21 : decode cX2_putShelf 21 = .ok (.iload_n 1, 1) := by decide +kernel
theorem dX2_putShelf_22 : decode cX2_putShelf 22 = .ok (.invokevirtual 85, 3) := by decide +kernel
theorem dX2_putShelf_25 : decode cX2_putShelf 25 = .ok (.iconst (-1), 1) := by decide +kernel
theorem dX2_putShelf_26 : decode cX2_putShelf 26 = .ok (.if_icmp .ne 11, 3) := by decide +kernel
theorem dX2_putShelf_29 : decode cX2_putShelf 29 = .ok (.aload_n 0, 1) := by decide +kernel
theorem dX2_putShelf_30 : decode cX2_putShelf 30 = .ok (.getfield 50, 3) := by decide +kernel
theorem dX2_putShelf_33 : decode cX2_putShelf 33 = .ok (.iload_n 1, 1) := by decide +kernel
theorem dX2_putShelf_34 : decode cX2_putShelf 34 = .ok (.if_icmp .ne 6, 3) := by decide +kernel
theorem dX2_putShelf_37 : decode cX2_putShelf 37 = .ok (.bipush (-3), 2) := by decide +kernel
theorem dX2_putShelf_39 : decode cX2_putShelf 39 = .ok (.ireturn, 1) := by decide +kernel
theorem dX2_putShelf_40 : decode cX2_putShelf 40 = .ok (.aload_n 0, 1) := by decide +kernel
theorem dX2_putShelf_41 : decode cX2_putShelf 41 = .ok (.dup, 1) := by decide +kernel
theorem dX2_putShelf_42 : decode cX2_putShelf 42 = .ok (.getfield 59, 3) := by decide +kernel
theorem dX2_putShelf_45 : decode cX2_putShelf 45 = .ok (.iconst 1, 1) := by decide +kernel
theorem dX2_putShelf_46 : decode cX2_putShelf 46 = .ok (.iload_n 1, 1) := by decide +kernel
theorem dX2_putShelf_47 : decode cX2_putShelf 47 = .ok (.ishl, 1) := by decide +kernel
theorem dX2_putShelf_48 : decode cX2_putShelf 48 = .ok (.ixor, 1) := by decide +kernel
theorem dX2_putShelf_49 : decode cX2_putShelf 49 = .ok (.putfield 59, 3) := by decide +kernel
theorem dX2_putShelf_52 : decode cX2_putShelf 52 = .ok (.aload_n 0, 1) := by decide +kernel
theorem dX2_putShelf_53 : decode cX2_putShelf 53 = .ok (.getfield 27, 3) := by decide +kernel
theorem dX2_putShelf_56 : decode cX2_putShelf 56 = .ok (.iconst 0, 1) := by decide +kernel
theorem dX2_putShelf_57 : decode cX2_putShelf 57 = .ok (.putfield 75, 3) := by decide +kernel
theorem dX2_putShelf_60 : decode cX2_putShelf 60 = .ok (.iconst 1, 1) := by decide +kernel
theorem dX2_putShelf_61 : decode cX2_putShelf 61 = .ok (.ireturn, 1) := by decide +kernel
theorem dX2_addReader_0 : decode cX2_addReader 0 = .ok (.aload_n 0, 1) := by decide +kernel
theorem dX2_addReader_1 : decode cX2_addReader 1 = .ok (.iload_n 1, 1) := by decide +kernel
theorem dX2_addReader_2 : decode cX2_addReader 2 = .ok (.invokevirtual 78, 3) := by decide +kernel
theorem dX2_addReader_5 : decode cX2_addReader 5 = .ok (.ifCond .eq 35, 3) := by decide +kernel
theorem dX2_addReader_8 : decode cX2_addReader 8 = .ok (.iload_n 2, 1) := by decide +kernel
theorem dX2_addReader_9 : decode cX2_addReader 9 = .ok (.ifCond .lt 31, 3) := by decide +kernel
theorem dX2_addReader_12 : decode cX2_addReader 12 = .ok (.iload_n 2, 1) := by decide +kernel
theorem dX2_addReader_13 : decode cX2_addReader 13 = .ok (.iconst 5, 1) := by decide +kernel
theorem dX2_addReader_14 : decode cX2_addReader 14 = .ok (.if_icmp .gt 26, 3) := by decide +kernel
theorem dX2_addReader_17 : decode cX2_addReader 17 = .ok (.iload_n 3, 1) := by decide +kernel
theorem dX2_addReader_18 : decode cX2_addReader 18 = .ok (.iconst 1, 1) := by decide +kernel
theorem dX2_addReader_19 : decode cX2_addReader 19 = .ok (.if_icmp .lt 21, 3) := by decide +kernel
theorem dX2_addReader_22 : decode cX2_addReader 22 = .ok (.iload_n 3, 1) := by decide +kernel
theorem dX2_addReader_23 : decode cX2_addReader 23 = .ok (.bipush 20, 2) := by decide +kernel
theorem dX2_addReader_25 : decode cX2_addReader 25 = .ok (.if_icmp .gt 15, 3) := by decide +kernel
theorem dX2_addReader_28 : decode cX2_addReader 28 = .ok (.iload 4, 2) := by decide +kernel
theorem dX2_addReader_30 : decode cX2_addReader 30 = .ok (.ifCond .lt 10, 3) := by decide +kernel
theorem dX2_addReader_33 : decode cX2_addReader 33 = .ok (.iload 4, 2) := by decide +kernel
theorem dX2_addReader_35 : decode cX2_addReader 35 = .ok (.bipush 9, 2) := by decide +kernel
theorem dX2_addReader_37 : decode cX2_addReader 37 = .ok (.if_icmp .le 6, 3) := by decide +kernel
theorem dX2_addReader_40 : decode cX2_addReader 40 = .ok (.bipush (-2), 2) := by decide +kernel
theorem dX2_addReader_42 : decode cX2_addReader 42 = .ok (.ireturn, 1) := by decide +kernel
theorem dX2_addReader_43 : decode cX2_addReader 43 = .ok (.aload_n 0, 1) := by decide +kernel
theorem dX2_addReader_44 : decode cX2_addReader 44 = .ok (.iload_n 1, 1) := by decide +kernel
theorem dX2_addReader_45 : decode cX2_addReader 45 = .ok (.invokevirtual 89, 3) := by decide +kernel
theorem dX2_addReader_48 : decode cX2_addReader 48 = .ok (.ifCond .ne 6, 3) := by decide +kernel
theorem dX2_addReader_51 : decode cX2_addReader 51 = .ok (.bipush (-3), 2) := by decide +kernel
theorem dX2_addReader_53 : decode cX2_addReader 53 = .ok (.ireturn, 1) := by decide +kernel
theorem dX2_addReader_54 : decode cX2_addReader 54 = .ok (.aload_n 0, 1) := by decide +kernel
theorem dX2_addReader_55 : decode cX2_addReader 55 = .ok (.getfield 56, 3) := by decide +kernel
theorem dX2_addReader_58 : decode cX2_addReader 58 = .ok (.iconst 5, 1) := by decide +kernel
theorem dX2_addReader_59 : decode cX2_addReader 59 = .ok (.if_icmp .lt 6, 3) := by decide +kernel
theorem dX2_addReader_62 : decode cX2_addReader 62 = .ok (.bipush (-4), 2) := by decide +kernel
theorem dX2_addReader_64 : decode cX2_addReader 64 = .ok (.ireturn, 1) := by decide +kernel
theorem dX2_addReader_65 : decode cX2_addReader 65 = .ok (.aload_n 0, 1) := by decide +kernel
theorem dX2_addReader_66 : decode cX2_addReader 66 = .ok (.getfield 11, 3) := by decide +kernel
theorem dX2_addReader_69 : decode cX2_addReader 69 = .ok (.aload_n 0, 1) := by decide +kernel
theorem dX2_addReader_70 : decode cX2_addReader 70 = .ok (.getfield 56, 3) := by decide +kernel
theorem dX2_addReader_73 : decode cX2_addReader 73 = .ok (.aaload, 1) := by decide +kernel
theorem dX2_addReader_74 : decode cX2_addReader 74 = .ok (.astore 5, 2) := by decide +kernel
theorem dX2_addReader_76 : decode cX2_addReader 76 = .ok (.aload 5, 2) := by decide +kernel
theorem dX2_addReader_78 : decode cX2_addReader 78 = .ok (.iload_n 1, 1) := by decide +kernel
theorem dX2_addReader_79 : decode cX2_addReader 79 = .ok (.putfield 92, 3) := by decide +kernel
theorem dX2_addReader_82 : decode cX2_addReader 82 = .ok (.aload 5, 2) := by decide +kernel
theorem dX2_addReader_84 : decode cX2_addReader 84 = .ok (.iload_n 2, 1) := by decide +kernel
theorem dX2_addReader_85 : decode cX2_addReader 85 = .ok (.putfield 95, 3) := by decide +kernel
theorem dX2_addReader_88 : decode cX2_addReader 88 = .ok (.aload 5, 2) := by decide +kernel
theorem dX2_addReader_90 : decode cX2_addReader 90 = .ok (.iload_n 3, 1) := by decide +kernel
theorem dX2_addReader_91 : decode cX2_addReader 91 = .ok (.putfield 98, 3) := by decide +kernel
theorem dX2_addReader_94 : decode cX2_addReader 94 = .ok (.aload 5, 2) := by decide +kernel
theorem dX2_addReader_96 : decode cX2_addReader 96 = .ok (.iload 4, 2) := by decide +kernel
theorem dX2_addReader_98 : decode cX2_addReader 98 = .ok (.putfield 101, 3) := by decide +kernel
theorem dX2_addReader_101 : decode cX2_addReader 101 = .ok (.aload 5, 2) := by decide +kernel
theorem dX2_addReader_103 : decode cX2_addReader 103 = .ok (.iconst 1, 1) := by decide +kernel
theorem dX2_addReader_104 : decode cX2_addReader 104 = .ok (.putfield 104, 3) := by decide +kernel
theorem dX2_addReader_107 : decode cX2_addReader 107 = .ok (.aload 5, 2) := by decide +kernel
theorem dX2_addReader_109 : decode cX2_addReader 109 = .ok (.iconst 0, 1) := by decide +kernel
theorem dX2_addReader_110 : decode cX2_addReader 110 = .ok (.putfield 107, 3) := by decide +kernel
theorem dX2_addReader_113 : decode cX2_addReader 113 = .ok (.aload_n 0, 1) := by decide +kernel
theorem dX2_addReader_114 : decode cX2_addReader 114 = .ok (.getfield 20, 3) := by decide +kernel
theorem dX2_addReader_117 : decode cX2_addReader 117 = .ok (.getfield 110, 3) := by decide +kernel
theorem dX2_addReader_120 : decode cX2_addReader 120 = .ok (.aload_n 0, 1) := by decide +kernel
theorem dX2_addReader_121 : decode cX2_addReader 121 = .ok (.getfield 56, 3) := by decide +kernel
theorem dX2_addReader_124 : decode cX2_addReader 124 = .ok (.iload_n 3, 1) := by decide +kernel
theorem dX2_addReader_125 : decode cX2_addReader 125 = .ok (.iastore, 1) := by decide +kernel
theorem dX2_addReader_126 : decode cX2_addReader 126 = .ok (.aload_n 0, 1) := by decide +kernel
theorem dX2_addReader_127 : decode cX2_addReader 127 = .ok (.getfield 27, 3) := by decide +kernel
theorem dX2_addReader_130 : decode cX2_addReader 130 = .ok (.iconst 0, 1) := by decide +kernel
theorem dX2_addReader_131 : decode cX2_addReader 131 = .ok (.putfield 75, 3) := by decide +kernel
theorem dX2_addReader_134 : decode cX2_addReader 134 = .ok (.aload_n 0, 1) := by decide +kernel
theorem dX2_addReader_135 : decode cX2_addReader 135 = .ok (.dup, 1) := by decide +kernel
theorem dX2_addReader_136 : decode cX2_addReader 136 = .ok (.getfield 56, 3) := by decide +kernel
theorem dX2_addReader_139 : decode cX2_addReader 139 = .ok (.iconst 1, 1) := by decide +kernel
theorem dX2_addReader_140 : decode cX2_addReader 140 = .ok (.iadd, 1) := by decide +kernel
theorem dX2_addReader_141 : decode cX2_addReader 141 = .ok (.putfield 56, 3) := by decide +kernel
theorem dX2_addReader_144 : decode cX2_addReader 144 = .ok (.aload_n 0, 1) := by decide +kernel
theorem dX2_addReader_145 : decode cX2_addReader 145 = .ok (.getfield 56, 3) := by decide +kernel
theorem dX2_addReader_148 : decode cX2_addReader 148 = .ok (.iconst 1, 1) := by decide +kernel
theorem dX2_addReader_149 : decode cX2_addReader 149 = .ok (.isub, 1) := by decide +kernel
theorem dX2_addReader_150 : decode cX2_addReader 150 = .ok (.ireturn, 1) := by decide +kernel
theorem dX2_putLamp_0 : decode cX2_putLamp 0 = .ok (.aload_n 0, 1) := by decide +kernel
theorem dX2_putLamp_1 : decode cX2_putLamp 1 = .ok (.iload_n 1, 1) := by decide +kernel
theorem dX2_putLamp_2 : decode cX2_putLamp 2 = .ok (.invokevirtual 78, 3) := by decide +kernel
theorem dX2_putLamp_5 : decode cX2_putLamp 5 = .ok (.ifCond .ne 6, 3) := by decide +kernel
theorem dX2_putLamp_8 : decode cX2_putLamp 8 = .ok (.bipush (-2), 2) := by decide +kernel
theorem dX2_putLamp_10 : decode cX2_putLamp 10 = .ok (.ireturn, 1) := by decide +kernel
theorem dX2_putLamp_11 : decode cX2_putLamp 11 = .ok (.aload_n 0, 1) := by decide +kernel
theorem dX2_putLamp_12 : decode cX2_putLamp 12 = .ok (.iload_n 1, 1) := by decide +kernel
theorem dX2_putLamp_13 : decode cX2_putLamp 13 = .ok (.invokevirtual 82, 3) := by decide +kernel
theorem dX2_putLamp_16 : decode cX2_putLamp 16 = .ok (.ifCond .eq 6, 3) := by decide +kernel
theorem dX2_putLamp_19 : decode cX2_putLamp 19 = .ok (.bipush (-3), 2) := by decide +kernel
theorem dX2_putLamp_21 : decode cX2_putLamp 21 = .ok (.ireturn, 1) := by decide +kernel
theorem dX2_putLamp_22 : decode cX2_putLamp 22 = .ok (.aload_n 0, 1) := by decide +kernel
theorem dX2_putLamp_23 : decode cX2_putLamp 23 = .ok (.getfield 50, 3) := by decide +kernel
theorem dX2_putLamp_26 : decode cX2_putLamp 26 = .ok (.istore_n 2, 1) := by decide +kernel
theorem dX2_putLamp_27 : decode cX2_putLamp 27 = .ok (.aload_n 0, 1) := by decide +kernel
theorem dX2_putLamp_28 : decode cX2_putLamp 28 = .ok (.iload_n 1, 1) := by decide +kernel
theorem dX2_putLamp_29 : decode cX2_putLamp 29 = .ok (.putfield 50, 3) := by decide +kernel
theorem dX2_putLamp_32 : decode cX2_putLamp 32 = .ok (.iload_n 2, 1) := by decide +kernel
theorem dX2_putLamp_33 : decode cX2_putLamp 33 = .ok (.ireturn, 1) := by decide +kernel
theorem dX2_pourOil_0 : decode cX2_pourOil 0 = .ok (.iload_n 1, 1) := by decide +kernel
theorem dX2_pourOil_1 : decode cX2_pourOil 1 = .ok (.ifCond .lt 9, 3) := by decide +kernel
theorem dX2_pourOil_4 : decode cX2_pourOil 4 = .ok (.iload_n 1, 1) := by decide +kernel
theorem dX2_pourOil_5 : decode cX2_pourOil 5 = .ok (.bipush 12, 2) := by decide +kernel
theorem dX2_pourOil_7 : decode cX2_pourOil 7 = .ok (.if_icmp .le 6, 3) := by decide +kernel
theorem dX2_pourOil_10 : decode cX2_pourOil 10 = .ok (.bipush (-2), 2) := by decide +kernel
theorem dX2_pourOil_12 : decode cX2_pourOil 12 = .ok (.ireturn, 1) := by decide +kernel
theorem dX2_pourOil_13 : decode cX2_pourOil 13 = .ok (.aload_n 0, 1) := by decide +kernel
theorem dX2_pourOil_14 : decode cX2_pourOil 14 = .ok (.getfield 53, 3) := by decide +kernel
theorem dX2_pourOil_17 : decode cX2_pourOil 17 = .ok (.istore_n 2, 1) := by decide +kernel
theorem dX2_pourOil_18 : decode cX2_pourOil 18 = .ok (.aload_n 0, 1) := by decide +kernel
theorem dX2_pourOil_19 : decode cX2_pourOil 19 = .ok (.iload_n 1, 1) := by decide +kernel
theorem dX2_pourOil_20 : decode cX2_pourOil 20 = .ok (.putfield 53, 3) := by decide +kernel
theorem dX2_pourOil_23 : decode cX2_pourOil 23 = .ok (.iload_n 2, 1) := by decide +kernel
theorem dX2_pourOil_24 : decode cX2_pourOil 24 = .ok (.ireturn, 1) := by decide +kernel
theorem dX2_tieString_0 : decode cX2_tieString 0 = .ok (.aload_n 0, 1) := by decide +kernel
theorem dX2_tieString_1 : decode cX2_tieString 1 = .ok (.iload_n 1, 1) := by decide +kernel
theorem dX2_tieString_2 : decode cX2_tieString 2 = .ok (.invokevirtual 113, 3) := by decide +kernel
theorem dX2_tieString_5 : decode cX2_tieString 5 = .ok (.ifCond .eq 13, 3) := by decide +kernel
theorem dX2_tieString_8 : decode cX2_tieString 8 = .ok (.iload_n 2, 1) := by decide +kernel
theorem dX2_tieString_9 : decode cX2_tieString 9 = .ok (.ifCond .lt 9, 3) := by decide +kernel
theorem dX2_tieString_12 : decode cX2_tieString 12 = .ok (.iload_n 2, 1) := by decide +kernel
theorem dX2_tieString_13 : decode cX2_tieString 13 = .ok (.bipush 9, 2) := by decide +kernel
theorem dX2_tieString_15 : decode cX2_tieString 15 = .ok (.if_icmp .le 6, 3) := by decide +kernel
theorem dX2_tieString_18 : decode cX2_tieString 18 = .ok (.bipush (-2), 2) := by decide +kernel
theorem dX2_tieString_20 : decode cX2_tieString 20 = .ok (.ireturn, 1) := by decide +kernel
theorem dX2_tieString_21 : decode cX2_tieString 21 = .ok (.aload_n 0, 1) := by decide +kernel
theorem dX2_tieString_22 : decode cX2_tieString 22 = .ok (.getfield 11, 3) := by decide +kernel
theorem dX2_tieString_25 : decode cX2_tieString 25 = .ok (.iload_n 1, 1) := by decide +kernel
theorem dX2_tieString_26 : decode cX2_tieString 26 = .ok (.aaload, 1) := by decide +kernel
theorem dX2_tieString_27 : decode cX2_tieString 27 = .ok (.getfield 104, 3) := by decide +kernel
theorem dX2_tieString_30 : decode cX2_tieString 30 = .ok (.istore_n 3, 1) := by decide +kernel
theorem dX2_tieString_31 : decode cX2_tieString 31 = .ok (.aload_n 0, 1) := by decide +kernel
theorem dX2_tieString_32 : decode cX2_tieString 32 = .ok (.getfield 11, 3) := by decide +kernel
theorem dX2_tieString_35 : decode cX2_tieString 35 = .ok (.iload_n 1, 1) := by decide +kernel
theorem dX2_tieString_36 : decode cX2_tieString 36 = .ok (.aaload, 1) := by decide +kernel
theorem dX2_tieString_37 : decode cX2_tieString 37 = .ok (.iload_n 2, 1) := by decide +kernel
theorem dX2_tieString_38 : decode cX2_tieString 38 = .ok (.putfield 104, 3) := by decide +kernel
theorem dX2_tieString_41 : decode cX2_tieString 41 = .ok (.iload_n 3, 1) := by decide +kernel
theorem dX2_tieString_42 : decode cX2_tieString 42 = .ok (.ireturn, 1) := by decide +kernel
theorem dX2_tellPages_0 : decode cX2_tellPages 0 = .ok (.aload_n 0, 1) := by decide +kernel
theorem dX2_tellPages_1 : decode cX2_tellPages 1 = .ok (.iload_n 1, 1) := by decide +kernel
theorem dX2_tellPages_2 : decode cX2_tellPages 2 = .ok (.invokevirtual 113, 3) := by decide +kernel
theorem dX2_tellPages_5 : decode cX2_tellPages 5 = .ok (.ifCond .eq 13, 3) := by decide +kernel
theorem dX2_tellPages_8 : decode cX2_tellPages 8 = .ok (.iload_n 2, 1) := by decide +kernel
theorem dX2_tellPages_9 : decode cX2_tellPages 9 = .ok (.ifCond .lt 9, 3) := by decide +kernel
theorem dX2_tellPages_12 : decode cX2_tellPages 12 = .ok (.iload_n 2, 1) := by decide +kernel
theorem dX2_tellPages_13 : decode cX2_tellPages 13 = .ok (.bipush 20, 2) := by decide +kernel
theorem dX2_tellPages_15 : decode cX2_tellPages 15 = .ok (.if_icmp .le 6, 3) := by decide +kernel
theorem dX2_tellPages_18 : decode cX2_tellPages 18 = .ok (.bipush (-2), 2) := by decide +kernel
theorem dX2_tellPages_20 : decode cX2_tellPages 20 = .ok (.ireturn, 1) := by decide +kernel
theorem dX2_tellPages_21 : decode cX2_tellPages 21 = .ok (.aload_n 0, 1) := by decide +kernel
theorem dX2_tellPages_22 : decode cX2_tellPages 22 = .ok (.getfield 11, 3) := by decide +kernel
theorem dX2_tellPages_25 : decode cX2_tellPages 25 = .ok (.iload_n 1, 1) := by decide +kernel
theorem dX2_tellPages_26 : decode cX2_tellPages 26 = .ok (.aaload, 1) := by decide +kernel
theorem dX2_tellPages_27 : decode cX2_tellPages 27 = .ok (.getfield 107, 3) := by decide +kernel
theorem dX2_tellPages_30 : decode cX2_tellPages 30 = .ok (.istore_n 3, 1) := by decide +kernel
theorem dX2_tellPages_31 : decode cX2_tellPages 31 = .ok (.aload_n 0, 1) := by decide +kernel
theorem dX2_tellPages_32 : decode cX2_tellPages 32 = .ok (.getfield 11, 3) := by decide +kernel
theorem dX2_tellPages_35 : decode cX2_tellPages 35 = .ok (.iload_n 1, 1) := by decide +kernel
theorem dX2_tellPages_36 : decode cX2_tellPages 36 = .ok (.aaload, 1) := by decide +kernel
theorem dX2_tellPages_37 : decode cX2_tellPages 37 = .ok (.iload_n 2, 1) := by decide +kernel
theorem dX2_tellPages_38 : decode cX2_tellPages 38 = .ok (.putfield 107, 3) := by decide +kernel
theorem dX2_tellPages_41 : decode cX2_tellPages 41 = .ok (.iload_n 3, 1) := by decide +kernel
theorem dX2_tellPages_42 : decode cX2_tellPages 42 = .ok (.ireturn, 1) := by decide +kernel
theorem dX2_burnMinute_0 : decode cX2_burnMinute 0 = .ok (.aload_n 0, 1) := by decide +kernel
theorem dX2_burnMinute_1 : decode cX2_burnMinute 1 = .ok (.iload_n 1, 1) := by decide +kernel
theorem dX2_burnMinute_2 : decode cX2_burnMinute 2 = .ok (.invokevirtual 78, 3) := by decide +kernel
theorem dX2_burnMinute_5 : decode cX2_burnMinute 5 = .ok (.ifCond .ne 6, 3) := by decide +kernel
theorem dX2_burnMinute_8 : decode cX2_burnMinute 8 = .ok (.bipush (-2), 2) := by decide +kernel
theorem dX2_burnMinute_10 : decode cX2_burnMinute 10 = .ok (.ireturn, 1) := by decide +kernel
theorem dX2_burnMinute_11 : decode cX2_burnMinute 11 = .ok (.aload_n 0, 1) := by decide +kernel
theorem dX2_burnMinute_12 : decode cX2_burnMinute 12 = .ok (.iload_n 1, 1) := by decide +kernel
theorem dX2_burnMinute_13 : decode cX2_burnMinute 13 = .ok (.invokevirtual 82, 3) := by decide +kernel
theorem dX2_burnMinute_16 : decode cX2_burnMinute 16 = .ok (.ifCond .ne 16, 3) := by decide +kernel
theorem dX2_burnMinute_19 : decode cX2_burnMinute 19 = .ok (.aload_n 0, 1) := by decide +kernel
theorem dX2_burnMinute_20 : decode cX2_burnMinute 20 = .ok (.aload_n 0, 1) := by decide +kernel
theorem dX2_burnMinute_21 : decode cX2_burnMinute 21 = .ok (.getfield 50, 3) := by decide +kernel
theorem dX2_burnMinute_24 : decode cX2_burnMinute 24 = .ok (.iload_n 1, 1) := by decide +kernel
theorem dX2_burnMinute_25 : decode cX2_burnMinute 25 = .ok (.invokevirtual 116, 3) := by decide +kernel
theorem dX2_burnMinute_28 : decode cX2_burnMinute 28 = .ok (.iconst 1, 1) := by decide +kernel
theorem dX2_burnMinute_29 : decode cX2_burnMinute 29 = .ok (.if_icmp .le 6, 3) := by decide +kernel
theorem dX2_burnMinute_32 : decode cX2_burnMinute 32 = .ok (.bipush (-3), 2) := by decide +kernel
theorem dX2_burnMinute_34 : decode cX2_burnMinute 34 = .ok (.ireturn, 1) := by decide +kernel
theorem dX2_burnMinute_35 : decode cX2_burnMinute 35 = .ok (.aload_n 0, 1) := by decide +kernel
theorem dX2_burnMinute_36 : decode cX2_burnMinute 36 = .ok (.getfield 27, 3) := by decide +kernel
theorem dX2_burnMinute_39 : decode cX2_burnMinute 39 = .ok (.aload_n 0, 1) := by decide +kernel
theorem dX2_burnMinute_40 : decode cX2_burnMinute 40 = .ok (.invokevirtual 119, 3) := by decide +kernel
theorem dX2_burnMinute_43 : decode cX2_burnMinute 43 = .ok (.aload_n 0, 1) := by decide +kernel
theorem dX2_burnMinute_44 : decode cX2_burnMinute 44 = .ok (.iload_n 1, 1) := by decide +kernel
theorem dX2_burnMinute_45 : decode cX2_burnMinute 45 = .ok (.putfield 50, 3) := by decide +kernel
theorem dX2_burnMinute_48 : decode cX2_burnMinute 48 = .ok (.iconst 0, 1) := by decide +kernel
theorem dX2_burnMinute_49 : decode cX2_burnMinute 49 = .ok (.istore_n 2, 1) := by decide +kernel
theorem dX2_burnMinute_50 : decode cX2_burnMinute 50 = .ok (.iload_n 2, 1) := by decide +kernel
theorem dX2_burnMinute_51 : decode cX2_burnMinute 51 = .ok (.aload_n 0, 1) := by decide +kernel
theorem dX2_burnMinute_52 : decode cX2_burnMinute 52 = .ok (.getfield 56, 3) := by decide +kernel
theorem dX2_burnMinute_55 : decode cX2_burnMinute 55 = .ok (.if_icmp .ge 43, 3) := by decide +kernel
theorem dX2_burnMinute_58 : decode cX2_burnMinute 58 = .ok (.aload_n 0, 1) := by decide +kernel
theorem dX2_burnMinute_59 : decode cX2_burnMinute 59 = .ok (.getfield 31, 3) := by decide +kernel
theorem dX2_burnMinute_62 : decode cX2_burnMinute 62 = .ok (.iload_n 2, 1) := by decide +kernel
theorem dX2_burnMinute_63 : decode cX2_burnMinute 63 = .ok (.aload_n 0, 1) := by decide +kernel
theorem dX2_burnMinute_64 : decode cX2_burnMinute 64 = .ok (.getfield 53, 3) := by decide +kernel
theorem dX2_burnMinute_67 : decode cX2_burnMinute 67 = .ok (.ifCond .le 23, 3) := by decide +kernel
theorem dX2_burnMinute_70 : decode cX2_burnMinute 70 = .ok (.aload_n 0, 1) := by decide +kernel
theorem dX2_burnMinute_71 : decode cX2_burnMinute 71 = .ok (.aload_n 0, 1) := by decide +kernel
theorem dX2_burnMinute_72 : decode cX2_burnMinute 72 = .ok (.getfield 11, 3) := by decide +kernel
theorem dX2_burnMinute_75 : decode cX2_burnMinute 75 = .ok (.iload_n 2, 1) := by decide +kernel
theorem dX2_burnMinute_76 : decode cX2_burnMinute 76 = .ok (.aaload, 1) := by decide +kernel
theorem dX2_burnMinute_77 : decode cX2_burnMinute 77 = .ok (.getfield 92, 3) := by decide +kernel
theorem dX2_burnMinute_80 : decode cX2_burnMinute 80 = .ok (.aload_n 0, 1) := by decide +kernel
theorem dX2_burnMinute_81 : decode cX2_burnMinute 81 = .ok (.getfield 50, 3) := by decide +kernel
theorem dX2_burnMinute_84 : decode cX2_burnMinute 84 = .ok (.invokevirtual 123, 3) := by decide +kernel
theorem dX2_burnMinute_87 : decode cX2_burnMinute 87 = .ok (.goto 4, 3) := by decide +kernel
theorem dX2_burnMinute_90 : decode cX2_burnMinute 90 = .ok (.iconst 0, 1) := by decide +kernel
theorem dX2_burnMinute_91 : decode cX2_burnMinute 91 = .ok (.iastore, 1) := by decide +kernel
theorem dX2_burnMinute_92 : decode cX2_burnMinute 92 = .ok (.iinc 2 1, 3) := by decide +kernel
theorem dX2_burnMinute_95 : decode cX2_burnMinute 95 = .ok (.goto (-45), 3) := by decide +kernel
theorem dX2_burnMinute_98 : decode cX2_burnMinute 98 = .ok (.aload_n 0, 1) := by decide +kernel
theorem dX2_burnMinute_99 : decode cX2_burnMinute 99 = .ok (.iconst 0, 1) := by decide +kernel
theorem dX2_burnMinute_100 : decode cX2_burnMinute 100 = .ok (.aload_n 0, 1) := by decide +kernel
theorem dX2_burnMinute_101 : decode cX2_burnMinute 101 = .ok (.getfield 53, 3) := by decide +kernel
theorem dX2_burnMinute_104 : decode cX2_burnMinute 104 = .ok (.iconst 1, 1) := by decide +kernel
theorem dX2_burnMinute_105 : decode cX2_burnMinute 105 = .ok (.isub, 1) := by decide +kernel
theorem dX2_burnMinute_106 : decode cX2_burnMinute 106 = .ok (.invokestatic 126, 3) := by decide +kernel
theorem dX2_burnMinute_109 : decode cX2_burnMinute 109 = .ok (.putfield 53, 3) := by decide +kernel
theorem dX2_burnMinute_112 : decode cX2_burnMinute 112 = .ok (.aload_n 0, 1) := by decide +kernel
theorem dX2_burnMinute_113 : decode cX2_burnMinute 113 = .ok (.aload_n 0, 1) := by decide +kernel
theorem dX2_burnMinute_114 : decode cX2_burnMinute 114 = .ok (.getfield 31, 3) := by decide +kernel
theorem dX2_burnMinute_117 : decode cX2_burnMinute 117 = .ok (.iconst 0, 1) := by decide +kernel
theorem dX2_burnMinute_118 : decode cX2_burnMinute 118 = .ok (.aload_n 0, 1) := by decide +kernel
theorem dX2_burnMinute_119 : decode cX2_burnMinute 119 = .ok (.getfield 20, 3) := by decide +kernel
theorem dX2_burnMinute_122 : decode cX2_burnMinute 122 = .ok (.aload_n 0, 1) := by decide +kernel
theorem dX2_burnMinute_123 : decode cX2_burnMinute 123 = .ok (.getfield 20, 3) := by decide +kernel
theorem dX2_burnMinute_126 : decode cX2_burnMinute 126 = .ok (.invokestatic 131, 3) := by decide +kernel
theorem dX2_burnMinute_129 : decode cX2_burnMinute 129 = .ok (.ireturn, 1) := by decide +kernel
theorem dX2_takeBackMinute_0 : decode cX2_takeBackMinute 0 = .ok (.aload_n 0, 1) := by decide +kernel
theorem dX2_takeBackMinute_1 : decode cX2_takeBackMinute 1 = .ok (.getfield 27, 3) := by decide +kernel
theorem dX2_takeBackMinute_4 : decode cX2_takeBackMinute 4 = .ok (.getfield 75, 3) := by decide +kernel
theorem dX2_takeBackMinute_7 : decode cX2_takeBackMinute 7 = .ok (.iconst 1, 1) := by decide +kernel
theorem dX2_takeBackMinute_8 : decode cX2_takeBackMinute 8 = .ok (.if_icmp .ge 6, 3) := by decide +kernel
theorem dX2_takeBackMinute_11 : decode cX2_takeBackMinute 11 = .ok (.bipush (-3), 2) := by decide +kernel
theorem dX2_takeBackMinute_13 : decode cX2_takeBackMinute 13 = .ok (.ireturn, 1) := by decide +kernel
theorem dX2_takeBackMinute_14 : decode cX2_takeBackMinute 14 = .ok (.aload_n 0, 1) := by decide +kernel
theorem dX2_takeBackMinute_15 : decode cX2_takeBackMinute 15 = .ok (.getfield 27, 3) := by decide +kernel
theorem dX2_takeBackMinute_18 : decode cX2_takeBackMinute 18 = .ok (.aload_n 0, 1) := by decide +kernel
theorem dX2_takeBackMinute_19 : decode cX2_takeBackMinute 19 = .ok (.invokevirtual 135, 3) := by decide +kernel
theorem dX2_takeBackMinute_22 : decode cX2_takeBackMinute 22 = .ok (.iconst 1, 1) := by decide +kernel
theorem dX2_takeBackMinute_23 : decode cX2_takeBackMinute 23 = .ok (.ireturn, 1) := by decide +kernel
theorem dX2_hasSquare_0 : decode cX2_hasSquare 0 = .ok (.iload_n 1, 1) := by decide +kernel
theorem dX2_hasSquare_1 : decode cX2_hasSquare 1 = .ok (.ifCond .lt 15, 3) := by decide +kernel
theorem dX2_hasSquare_4 : decode cX2_hasSquare 4 = .ok (.iload_n 1, 1) := by decide +kernel
theorem dX2_hasSquare_5 : decode cX2_hasSquare 5 = .ok (.aload_n 0, 1) := by decide +kernel
theorem dX2_hasSquare_6 : decode cX2_hasSquare 6 = .ok (.getfield 47, 3) := by decide +kernel
theorem dX2_hasSquare_9 : decode cX2_hasSquare 9 = .ok (.if_icmp .ge 7, 3) := by decide +kernel
theorem dX2_hasSquare_12 : decode cX2_hasSquare 12 = .ok (.iconst 1, 1) := by decide +kernel
theorem dX2_hasSquare_13 : decode cX2_hasSquare 13 = .ok (.goto 4, 3) := by decide +kernel
theorem dX2_hasSquare_16 : decode cX2_hasSquare 16 = .ok (.iconst 0, 1) := by decide +kernel
theorem dX2_hasSquare_17 : decode cX2_hasSquare 17 = .ok (.ireturn, 1) := by decide +kernel
theorem dX2_hasReader_0 : decode cX2_hasReader 0 = .ok (.iload_n 1, 1) := by decide +kernel
theorem dX2_hasReader_1 : decode cX2_hasReader 1 = .ok (.ifCond .lt 15, 3) := by decide +kernel
theorem dX2_hasReader_4 : decode cX2_hasReader 4 = .ok (.iload_n 1, 1) := by decide +kernel
theorem dX2_hasReader_5 : decode cX2_hasReader 5 = .ok (.aload_n 0, 1) := by decide +kernel
theorem dX2_hasReader_6 : decode cX2_hasReader 6 = .ok (.getfield 56, 3) := by decide +kernel
theorem dX2_hasReader_9 : decode cX2_hasReader 9 = .ok (.if_icmp .ge 7, 3) := by decide +kernel
theorem dX2_hasReader_12 : decode cX2_hasReader 12 = .ok (.iconst 1, 1) := by decide +kernel
theorem dX2_hasReader_13 : decode cX2_hasReader 13 = .ok (.goto 4, 3) := by decide +kernel
theorem dX2_hasReader_16 : decode cX2_hasReader 16 = .ok (.iconst 0, 1) := by decide +kernel
theorem dX2_hasReader_17 : decode cX2_hasReader 17 = .ok (.ireturn, 1) := by decide +kernel
theorem dX2_hasShelf_0 : decode cX2_hasShelf 0 = .ok (.iload_n 1, 1) := by decide +kernel
theorem dX2_hasShelf_1 : decode cX2_hasShelf 1 = .ok (.ifCond .lt 27, 3) := by decide +kernel
theorem dX2_hasShelf_4 : decode cX2_hasShelf 4 = .ok (.iload_n 1, 1) := by decide +kernel
theorem dX2_hasShelf_5 : decode cX2_hasShelf 5 = .ok (.aload_n 0, 1) := by decide +kernel
theorem dX2_hasShelf_6 : decode cX2_hasShelf 6 = .ok (.getfield 47, 3) := by decide +kernel
theorem dX2_hasShelf_9 : decode cX2_hasShelf 9 = .ok (.if_icmp .ge 19, 3) := by decide +kernel
theorem dX2_hasShelf_12 : decode cX2_hasShelf 12 = .ok (.aload_n 0, 1) := by decide +kernel
theorem dX2_hasShelf_13 : decode cX2_hasShelf 13 = .ok (.getfield 59, 3) := by decide +kernel
theorem dX2_hasShelf_16 : decode cX2_hasShelf 16 = .ok (.iload_n 1, 1) := by decide +kernel
theorem dX2_hasShelf_17 : decode cX2_hasShelf 17 = .ok (.ishr, 1) := by decide +kernel
theorem dX2_hasShelf_18 : decode cX2_hasShelf 18 = .ok (.iconst 1, 1) := by decide +kernel
theorem dX2_hasShelf_19 : decode cX2_hasShelf 19 = .ok (.iand, 1) := by decide +kernel
theorem dX2_hasShelf_20 : decode cX2_hasShelf 20 = .ok (.iconst 1, 1) := by decide +kernel
theorem dX2_hasShelf_21 : decode cX2_hasShelf 21 = .ok (.if_icmp .ne 7, 3) := by decide +kernel
theorem dX2_hasShelf_24 : decode cX2_hasShelf 24 = .ok (.iconst 1, 1) := by decide +kernel
theorem dX2_hasShelf_25 : decode cX2_hasShelf 25 = .ok (.goto 4, 3) := by decide +kernel
theorem dX2_hasShelf_28 : decode cX2_hasShelf 28 = .ok (.iconst 0, 1) := by decide +kernel
theorem dX2_hasShelf_29 : decode cX2_hasShelf 29 = .ok (.ireturn, 1) := by decide +kernel
theorem dX2_isOpen_0 : decode cX2_isOpen 0 = .ok (.iload_n 1, 1) := by decide +kernel
theorem dX2_isOpen_1 : decode cX2_isOpen 1 = .ok (.ifCond .lt 23, 3) := by decide +kernel
theorem dX2_isOpen_4 : decode cX2_isOpen 4 = .ok (.iload_n 1, 1) := by decide +kernel
theorem dX2_isOpen_5 : decode cX2_isOpen 5 = .ok (.aload_n 0, 1) := by decide +kernel
theorem dX2_isOpen_6 : decode cX2_isOpen 6 = .ok (.getfield 47, 3) := by decide +kernel
theorem dX2_isOpen_9 : decode cX2_isOpen 9 = .ok (.if_icmp .ge 15, 3) := by decide +kernel
theorem dX2_isOpen_12 : decode cX2_isOpen 12 = .ok (.aload_n 0, 1) := by decide +kernel
theorem dX2_isOpen_13 : decode cX2_isOpen 13 = .ok (.iload_n 1, 1) := by decide +kernel
theorem dX2_isOpen_14 : decode cX2_isOpen 14 = .ok (.invokevirtual 82, 3) := by decide +kernel
theorem dX2_isOpen_17 : decode cX2_isOpen 17 = .ok (.ifCond .ne 7, 3) := by decide +kernel
theorem dX2_isOpen_20 : decode cX2_isOpen 20 = .ok (.iconst 1, 1) := by decide +kernel
theorem dX2_isOpen_21 : decode cX2_isOpen 21 = .ok (.goto 4, 3) := by decide +kernel
theorem dX2_isOpen_24 : decode cX2_isOpen 24 = .ok (.iconst 0, 1) := by decide +kernel
theorem dX2_isOpen_25 : decode cX2_isOpen 25 = .ok (.ireturn, 1) := by decide +kernel
theorem dX2_isFree_0 : decode cX2_isFree 0 = .ok (.aload_n 0, 1) := by decide +kernel
theorem dX2_isFree_1 : decode cX2_isFree 1 = .ok (.iload_n 1, 1) := by decide +kernel
theorem dX2_isFree_2 : decode cX2_isFree 2 = .ok (.invokevirtual 138, 3) := by decide +kernel
theorem dX2_isFree_5 : decode cX2_isFree 5 = .ok (.ifCond .eq 16, 3) := by decide +kernel
theorem dX2_isFree_8 : decode cX2_isFree 8 = .ok (.aload_n 0, 1) := by decide +kernel
theorem dX2_isFree_9 : decode cX2_isFree 9 = .ok (.iload_n 1, 1) := by decide +kernel
theorem dX2_isFree_10 : decode cX2_isFree 10 = .ok (.invokevirtual 85, 3) := by decide +kernel
theorem dX2_isFree_13 : decode cX2_isFree 13 = .ok (.iconst (-1), 1) := by decide +kernel
theorem dX2_isFree_14 : decode cX2_isFree 14 = .ok (.if_icmp .ne 7, 3) := by decide +kernel
theorem dX2_isFree_17 : decode cX2_isFree 17 = .ok (.iconst 1, 1) := by decide +kernel
theorem dX2_isFree_18 : decode cX2_isFree 18 = .ok (.goto 4, 3) := by decide +kernel
theorem dX2_isFree_21 : decode cX2_isFree 21 = .ok (.iconst 0, 1) := by decide +kernel
theorem dX2_isFree_22 : decode cX2_isFree 22 = .ok (.ireturn, 1) := by decide +kernel
theorem dX2_readerAt_0 : decode cX2_readerAt 0 = .ok (.iconst 0, 1) := by decide +kernel
theorem dX2_readerAt_1 : decode cX2_readerAt 1 = .ok (.istore_n 2, 1) := by decide +kernel
theorem dX2_readerAt_2 : decode cX2_readerAt 2 = .ok (.iload_n 2, 1) := by decide +kernel
theorem dX2_readerAt_3 : decode cX2_readerAt 3 = .ok (.aload_n 0, 1) := by decide +kernel
theorem dX2_readerAt_4 : decode cX2_readerAt 4 = .ok (.getfield 56, 3) := by decide +kernel
theorem dX2_readerAt_7 : decode cX2_readerAt 7 = .ok (.if_icmp .ge 24, 3) := by decide +kernel
theorem dX2_readerAt_10 : decode cX2_readerAt 10 = .ok (.aload_n 0, 1) := by decide +kernel
theorem dX2_readerAt_11 : decode cX2_readerAt 11 = .ok (.getfield 11, 3) := by decide +kernel
theorem dX2_readerAt_14 : decode cX2_readerAt 14 = .ok (.iload_n 2, 1) := by decide +kernel
theorem dX2_readerAt_15 : decode cX2_readerAt 15 = .ok (.aaload, 1) := by decide +kernel
theorem dX2_readerAt_16 : decode cX2_readerAt 16 = .ok (.getfield 92, 3) := by decide +kernel
theorem dX2_readerAt_19 : decode cX2_readerAt 19 = .ok (.iload_n 1, 1) := by decide +kernel
theorem dX2_readerAt_20 : decode cX2_readerAt 20 = .ok (.if_icmp .ne 5, 3) := by decide +kernel
theorem dX2_readerAt_23 : decode cX2_readerAt 23 = .ok (.iload_n 2, 1) := by decide +kernel
theorem dX2_readerAt_24 : decode cX2_readerAt 24 = .ok (.ireturn, 1) := by decide +kernel
theorem dX2_readerAt_25 : decode cX2_readerAt 25 = .ok (.iinc 2 1, 3) := by decide +kernel
theorem dX2_readerAt_28 : decode cX2_readerAt 28 = .ok (.goto (-26), 3) := by decide +kernel
theorem dX2_readerAt_31 : decode cX2_readerAt 31 = .ok (.iconst (-1), 1) := by decide +kernel
theorem dX2_readerAt_32 : decode cX2_readerAt 32 = .ok (.ireturn, 1) := by decide +kernel
theorem dX2_column_0 : decode cX2_column 0 = .ok (.aload_n 0, 1) := by decide +kernel
theorem dX2_column_1 : decode cX2_column 1 = .ok (.getfield 40, 3) := by decide +kernel
theorem dX2_column_4 : decode cX2_column 4 = .ok (.ifCond .le 12, 3) := by decide +kernel
theorem dX2_column_7 : decode cX2_column 7 = .ok (.iload_n 1, 1) := by decide +kernel
theorem dX2_column_8 : decode cX2_column 8 = .ok (.aload_n 0, 1) := by decide +kernel
theorem dX2_column_9 : decode cX2_column 9 = .ok (.getfield 40, 3) := by decide +kernel
theorem dX2_column_12 : decode cX2_column 12 = .ok (.irem, 1) := by decide +kernel
theorem dX2_column_13 : decode cX2_column 13 = .ok (.goto 4, 3) := by decide +kernel
theorem dX2_column_16 : decode cX2_column 16 = .ok (.iconst 0, 1) := by decide +kernel
theorem dX2_column_17 : decode cX2_column 17 = .ok (.ireturn, 1) := by decide +kernel
theorem dX2_row_0 : decode cX2_row 0 = .ok (.aload_n 0, 1) := by decide +kernel
theorem dX2_row_1 : decode cX2_row 1 = .ok (.getfield 40, 3) := by decide +kernel
theorem dX2_row_4 : decode cX2_row 4 = .ok (.ifCond .le 12, 3) := by decide +kernel
theorem dX2_row_7 : decode cX2_row 7 = .ok (.iload_n 1, 1) := by decide +kernel
theorem dX2_row_8 : decode cX2_row 8 = .ok (.aload_n 0, 1) := by decide +kernel
theorem dX2_row_9 : decode cX2_row 9 = .ok (.getfield 40, 3) := by decide +kernel
theorem dX2_row_12 : decode cX2_row 12 = .ok (.idiv, 1) := by decide +kernel
theorem dX2_row_13 : decode cX2_row 13 = .ok (.goto 4, 3) := by decide +kernel
theorem dX2_row_16 : decode cX2_row 16 = .ok (.iconst 0, 1) := by decide +kernel
theorem dX2_row_17 : decode cX2_row 17 = .ok (.ireturn, 1) := by decide +kernel
theorem dX2_stepsBetween_0 : decode cX2_stepsBetween 0 = .ok (.aload_n 0, 1) := by decide +kernel
theorem dX2_stepsBetween_1 : decode cX2_stepsBetween 1 = .ok (.iload_n 1, 1) := by decide +kernel
theorem dX2_stepsBetween_2 : decode cX2_stepsBetween 2 = .ok (.invokevirtual 141, 3) := by decide +kernel
theorem dX2_stepsBetween_5 : decode cX2_stepsBetween 5 = .ok (.aload_n 0, 1) := by decide +kernel
theorem dX2_stepsBetween_6 : decode cX2_stepsBetween 6 = .ok (.iload_n 2, 1) := by decide +kernel
theorem dX2_stepsBetween_7 : decode cX2_stepsBetween 7 = .ok (.invokevirtual 141, 3) := by decide +kernel
theorem dX2_stepsBetween_10 : decode cX2_stepsBetween 10 = .ok (.isub, 1) := by decide +kernel
theorem dX2_stepsBetween_11 : decode cX2_stepsBetween 11 = .ok (.invokestatic 144, 3) := by decide +kernel
theorem dX2_stepsBetween_14 : decode cX2_stepsBetween 14 = .ok (.aload_n 0, 1) := by decide +kernel
theorem dX2_stepsBetween_15 : decode cX2_stepsBetween 15 = .ok (.iload_n 1, 1) := by decide +kernel
theorem dX2_stepsBetween_16 : decode cX2_stepsBetween 16 = .ok (.invokevirtual 147, 3) := by decide +kernel
theorem dX2_stepsBetween_19 : decode cX2_stepsBetween 19 = .ok (.aload_n 0, 1) := by decide +kernel
theorem dX2_stepsBetween_20 : decode cX2_stepsBetween 20 = .ok (.iload_n 2, 1) := by decide +kernel
theorem dX2_stepsBetween_21 : decode cX2_stepsBetween 21 = .ok (.invokevirtual 147, 3) := by decide +kernel
theorem dX2_stepsBetween_24 : decode cX2_stepsBetween 24 = .ok (.isub, 1) := by decide +kernel
theorem dX2_stepsBetween_25 : decode cX2_stepsBetween 25 = .ok (.invokestatic 144, 3) := by decide +kernel
theorem dX2_stepsBetween_28 : decode cX2_stepsBetween 28 = .ok (.iadd, 1) := by decide +kernel
theorem dX2_stepsBetween_29 : decode cX2_stepsBetween 29 = .ok (.ireturn, 1) := by decide +kernel
theorem dX2_squareBeside_0 : decode cX2_squareBeside 0 = .ok (.aload_n 0, 1) := by decide +kernel
theorem dX2_squareBeside_1 : decode cX2_squareBeside 1 = .ok (.iload_n 1, 1) := by decide +kernel
theorem dX2_squareBeside_2 : decode cX2_squareBeside 2 = .ok (.invokevirtual 141, 3) := by decide +kernel
theorem dX2_squareBeside_5 : decode cX2_squareBeside 5 = .ok (.iload_n 2, 1) := by decide +kernel
theorem dX2_squareBeside_6 : decode cX2_squareBeside 6 = .ok (.iconst 3, 1) := by decide +kernel
theorem dX2_squareBeside_7 : decode cX2_squareBeside 7 = .ok (.if_icmp .ne 7, 3) := by decide +kernel
theorem dX2_squareBeside_10 : decode cX2_squareBeside 10 = .ok (.iconst 1, 1) := by decide +kernel
theorem dX2_squareBeside_11 : decode cX2_squareBeside 11 = .ok (.goto 4, 3) := by decide +kernel
theorem dX2_squareBeside_14 : decode cX2_squareBeside 14 = .ok (.iconst 0, 1) := by decide +kernel
theorem dX2_squareBeside_15 : decode cX2_squareBeside 15 = .ok (.iadd, 1) := by decide +kernel
theorem dX2_squareBeside_16 : decode cX2_squareBeside 16 = .ok (.iload_n 2, 1) := by decide +kernel
theorem dX2_squareBeside_17 : decode cX2_squareBeside 17 = .ok (.iconst 1, 1) := by decide +kernel
theorem dX2_squareBeside_18 : decode cX2_squareBeside 18 = .ok (.if_icmp .ne 7, 3) := by decide +kernel
theorem dX2_squareBeside_21 : decode cX2_squareBeside 21 = .ok (.iconst 1, 1) := by decide +kernel
theorem dX2_squareBeside_22 : decode cX2_squareBeside 22 = .ok (.goto 4, 3) := by decide +kernel
theorem dX2_squareBeside_25 : decode cX2_squareBeside 25 = .ok (.iconst 0, 1) := by decide +kernel
theorem dX2_squareBeside_26 : decode cX2_squareBeside 26 = .ok (.isub, 1) := by decide +kernel
theorem dX2_squareBeside_27 : decode cX2_squareBeside 27 = .ok (.istore_n 3, 1) := by decide +kernel
theorem dX2_squareBeside_28 : decode cX2_squareBeside 28 = .ok (.aload_n 0, 1) := by decide +kernel
theorem dX2_squareBeside_29 : decode cX2_squareBeside 29 = .ok (.iload_n 1, 1) := by decide +kernel
theorem dX2_squareBeside_30 : decode cX2_squareBeside 30 = .ok (.invokevirtual 147, 3) := by decide +kernel
theorem dX2_squareBeside_33 : decode cX2_squareBeside 33 = .ok (.iload_n 2, 1) := by decide +kernel
theorem dX2_squareBeside_34 : decode cX2_squareBeside 34 = .ok (.iconst 4, 1) := by decide +kernel
theorem dX2_squareBeside_35 : decode cX2_squareBeside 35 = .ok (.if_icmp .ne 7, 3) := by decide +kernel
theorem dX2_squareBeside_38 : decode cX2_squareBeside 38 = .ok (.iconst 1, 1) := by decide +kernel
theorem dX2_squareBeside_39 : decode cX2_squareBeside 39 = .ok (.goto 4, 3) := by decide +kernel
theorem dX2_squareBeside_42 : decode cX2_squareBeside 42 = .ok (.iconst 0, 1) := by decide +kernel
theorem dX2_squareBeside_43 : decode cX2_squareBeside 43 = .ok (.iadd, 1) := by decide +kernel
theorem dX2_squareBeside_44 : decode cX2_squareBeside 44 = .ok (.iload_n 2, 1) := by decide +kernel
theorem dX2_squareBeside_45 : decode cX2_squareBeside 45 = .ok (.ifCond .ne 7, 3) := by decide +kernel
theorem dX2_squareBeside_48 : decode cX2_squareBeside 48 = .ok (.iconst 1, 1) := by decide +kernel
theorem dX2_squareBeside_49 : decode cX2_squareBeside 49 = .ok (.goto 4, 3) := by decide +kernel
theorem dX2_squareBeside_52 : decode cX2_squareBeside 52 = .ok (.iconst 0, 1) := by decide +kernel
theorem dX2_squareBeside_53 : decode cX2_squareBeside 53 = .ok (.isub, 1) := by decide +kernel
theorem dX2_squareBeside_54 : decode cX2_squareBeside 54 = .ok (.istore 4, 2) := by decide +kernel
theorem dX2_squareBeside_56 : decode cX2_squareBeside 56 = .ok (.iload_n 3, 1) := by decide +kernel
theorem dX2_squareBeside_57 : decode cX2_squareBeside 57 = .ok (.ifCond .lt 25, 3) := by decide +kernel
theorem dX2_squareBeside_60 : decode cX2_squareBeside 60 = .ok (.iload_n 3, 1) := by decide +kernel
theorem dX2_squareBeside_61 : decode cX2_squareBeside 61 = .ok (.aload_n 0, 1) := by decide +kernel
theorem dX2_squareBeside_62 : decode cX2_squareBeside 62 = .ok (.getfield 40, 3) := by decide +kernel
theorem dX2_squareBeside_65 : decode cX2_squareBeside 65 = .ok (.if_icmp .ge 17, 3) := by decide +kernel
theorem dX2_squareBeside_68 : decode cX2_squareBeside 68 = .ok (.iload 4, 2) := by decide +kernel
theorem dX2_squareBeside_70 : decode cX2_squareBeside 70 = .ok (.ifCond .lt 12, 3) := by decide +kernel
theorem dX2_squareBeside_73 : decode cX2_squareBeside 73 = .ok (.iload 4, 2) := by decide +kernel
theorem dX2_squareBeside_75 : decode cX2_squareBeside 75 = .ok (.aload_n 0, 1) := by decide +kernel
theorem dX2_squareBeside_76 : decode cX2_squareBeside 76 = .ok (.getfield 44, 3) := by decide +kernel
theorem dX2_squareBeside_79 : decode cX2_squareBeside 79 = .ok (.if_icmp .lt 5, 3) := by decide +kernel
theorem dX2_squareBeside_82 : decode cX2_squareBeside 82 = .ok (.iconst (-1), 1) := by decide +kernel
theorem dX2_squareBeside_83 : decode cX2_squareBeside 83 = .ok (.ireturn, 1) := by decide +kernel
theorem dX2_squareBeside_84 : decode cX2_squareBeside 84 = .ok (.iload 4, 2) := by decide +kernel
theorem dX2_squareBeside_86 : decode cX2_squareBeside 86 = .ok (.aload_n 0, 1) := by decide +kernel
theorem dX2_squareBeside_87 : decode cX2_squareBeside 87 = .ok (.getfield 40, 3) := by decide +kernel
theorem dX2_squareBeside_90 : decode cX2_squareBeside 90 = .ok (.imul, 1) := by decide +kernel
theorem dX2_squareBeside_91 : decode cX2_squareBeside 91 = .ok (.iload_n 3, 1) := by decide +kernel
theorem dX2_squareBeside_92 : decode cX2_squareBeside 92 = .ok (.iadd, 1) := by decide +kernel
theorem dX2_squareBeside_93 : decode cX2_squareBeside 93 = .ok (.istore 5, 2) := by decide +kernel
theorem dX2_squareBeside_95 : decode cX2_squareBeside 95 = .ok (.aload_n 0, 1) := by decide +kernel
theorem dX2_squareBeside_96 : decode cX2_squareBeside 96 = .ok (.iload 5, 2) := by decide +kernel
theorem dX2_squareBeside_98 : decode cX2_squareBeside 98 = .ok (.invokevirtual 138, 3) := by decide +kernel
theorem dX2_squareBeside_101 : decode cX2_squareBeside 101 = .ok (.ifCond .eq 8, 3) := by decide +kernel
theorem dX2_squareBeside_104 : decode cX2_squareBeside 104 = .ok (.iload 5, 2) := by decide +kernel
theorem dX2_squareBeside_106 : decode cX2_squareBeside 106 = .ok (.goto 4, 3) := by decide +kernel
theorem dX2_squareBeside_109 : decode cX2_squareBeside 109 = .ok (.iconst (-1), 1) := by decide +kernel
theorem dX2_squareBeside_110 : decode cX2_squareBeside 110 = .ok (.ireturn, 1) := by decide +kernel
theorem dX2_lightAt_0 : decode cX2_lightAt 0 = .ok (.aload_n 0, 1) := by decide +kernel
theorem dX2_lightAt_1 : decode cX2_lightAt 1 = .ok (.iload_n 1, 1) := by decide +kernel
theorem dX2_lightAt_2 : decode cX2_lightAt 2 = .ok (.invokevirtual 141, 3) := by decide +kernel
theorem dX2_lightAt_5 : decode cX2_lightAt 5 = .ok (.aload_n 0, 1) := by decide +kernel
theorem dX2_lightAt_6 : decode cX2_lightAt 6 = .ok (.iload_n 2, 1) := by decide +kernel
theorem dX2_lightAt_7 : decode cX2_lightAt 7 = .ok (.invokevirtual 141, 3) := by decide +kernel
theorem dX2_lightAt_10 : decode cX2_lightAt 10 = .ok (.isub, 1) := by decide +kernel
theorem dX2_lightAt_11 : decode cX2_lightAt 11 = .ok (.invokestatic 144, 3) := by decide +kernel
theorem dX2_lightAt_14 : decode cX2_lightAt 14 = .ok (.istore_n 3, 1) := by decide +kernel
theorem dX2_lightAt_15 : decode cX2_lightAt 15 = .ok (.aload_n 0, 1) := by decide +kernel
theorem dX2_lightAt_16 : decode cX2_lightAt 16 = .ok (.iload_n 1, 1) := by decide +kernel
theorem dX2_lightAt_17 : decode cX2_lightAt 17 = .ok (.invokevirtual 147, 3) := by decide +kernel
theorem dX2_lightAt_20 : decode cX2_lightAt 20 = .ok (.aload_n 0, 1) := by decide +kernel
theorem dX2_lightAt_21 : decode cX2_lightAt 21 = .ok (.iload_n 2, 1) := by decide +kernel
theorem dX2_lightAt_22 : decode cX2_lightAt 22 = .ok (.invokevirtual 147, 3) := by decide +kernel
theorem dX2_lightAt_25 : decode cX2_lightAt 25 = .ok (.isub, 1) := by decide +kernel
theorem dX2_lightAt_26 : decode cX2_lightAt 26 = .ok (.invokestatic 144, 3) := by decide +kernel
theorem dX2_lightAt_29 : decode cX2_lightAt 29 = .ok (.istore 4, 2) := by decide +kernel
theorem dX2_lightAt_31 : decode cX2_lightAt 31 = .ok (.bipush 12, 2) := by decide +kernel
theorem dX2_lightAt_33 : decode cX2_lightAt 33 = .ok (.iconst 2, 1) := by decide +kernel
theorem dX2_lightAt_34 : decode cX2_lightAt 34 = .ok (.iload_n 3, 1) := by decide +kernel
theorem dX2_lightAt_35 : decode cX2_lightAt 35 = .ok (.iload 4, 2) := by decide +kernel
theorem dX2_lightAt_37 : decode cX2_lightAt 37 = .ok (.iadd, 1) := by decide +kernel
theorem dX2_lightAt_38 : decode cX2_lightAt 38 = .ok (.imul, 1) := by decide +kernel
theorem dX2_lightAt_39 : decode cX2_lightAt 39 = .ok (.isub, 1) := by decide +kernel
theorem dX2_lightAt_40 : decode cX2_lightAt 40 = .ok (.istore 5, 2) := by decide +kernel
theorem dX2_lightAt_42 : decode cX2_lightAt 42 = .ok (.iload 4, 2) := by decide +kernel
theorem dX2_lightAt_44 : decode cX2_lightAt 44 = .ok (.ifCond .ne 20, 3) := by decide +kernel
theorem dX2_lightAt_47 : decode cX2_lightAt 47 = .ok (.iload 5, 2) := by decide +kernel
theorem dX2_lightAt_49 : decode cX2_lightAt 49 = .ok (.iconst 4, 1) := by decide +kernel
theorem dX2_lightAt_50 : decode cX2_lightAt 50 = .ok (.aload_n 0, 1) := by decide +kernel
theorem dX2_lightAt_51 : decode cX2_lightAt 51 = .ok (.iload_n 1, 1) := by decide +kernel
theorem dX2_lightAt_52 : decode cX2_lightAt 52 = .ok (.iload_n 2, 1) := by decide +kernel
theorem dX2_lightAt_53 : decode cX2_lightAt 53 = .ok (.iconst 1, 1) := by decide +kernel
theorem dX2_lightAt_54 : decode cX2_lightAt 54 = .ok (.invokevirtual 150, 3) := by decide +kernel
theorem dX2_lightAt_57 : decode cX2_lightAt 57 = .ok (.imul, 1) := by decide +kernel
theorem dX2_lightAt_58 : decode cX2_lightAt 58 = .ok (.isub, 1) := by decide +kernel
theorem dX2_lightAt_59 : decode cX2_lightAt 59 = .ok (.istore 5, 2) := by decide +kernel
theorem dX2_lightAt_61 : decode cX2_lightAt 61 = .ok (.goto 79, 3) := by decide +kernel
theorem dX2_lightAt_64 : decode cX2_lightAt 64 = .ok (.iload_n 3, 1) := by decide +kernel
theorem dX2_lightAt_65 : decode cX2_lightAt 65 = .ok (.ifCond .ne 23, 3) := by decide +kernel
theorem dX2_lightAt_68 : decode cX2_lightAt 68 = .ok (.iload 5, 2) := by decide +kernel
theorem dX2_lightAt_70 : decode cX2_lightAt 70 = .ok (.iconst 4, 1) := by decide +kernel
theorem dX2_lightAt_71 : decode cX2_lightAt 71 = .ok (.aload_n 0, 1) := by decide +kernel
theorem dX2_lightAt_72 : decode cX2_lightAt 72 = .ok (.iload_n 1, 1) := by decide +kernel
theorem dX2_lightAt_73 : decode cX2_lightAt 73 = .ok (.iload_n 2, 1) := by decide +kernel
theorem dX2_lightAt_74 : decode cX2_lightAt 74 = .ok (.aload_n 0, 1) := by decide +kernel
theorem dX2_lightAt_75 : decode cX2_lightAt 75 = .ok (.getfield 40, 3) := by decide +kernel
theorem dX2_lightAt_78 : decode cX2_lightAt 78 = .ok (.invokevirtual 150, 3) := by decide +kernel
theorem dX2_lightAt_81 : decode cX2_lightAt 81 = .ok (.imul, 1) := by decide +kernel
theorem dX2_lightAt_82 : decode cX2_lightAt 82 = .ok (.isub, 1) := by decide +kernel
theorem dX2_lightAt_83 : decode cX2_lightAt 83 = .ok (.istore 5, 2) := by decide +kernel
theorem dX2_lightAt_85 : decode cX2_lightAt 85 = .ok (.goto 55, 3) := by decide +kernel
theorem dX2_lightAt_88 : decode cX2_lightAt 88 = .ok (.aload_n 0, 1) := by decide +kernel
theorem dX2_lightAt_89 : decode cX2_lightAt 89 = .ok (.aload_n 0, 1) := by decide +kernel
theorem dX2_lightAt_90 : decode cX2_lightAt 90 = .ok (.iload_n 1, 1) := by decide +kernel
theorem dX2_lightAt_91 : decode cX2_lightAt 91 = .ok (.invokevirtual 147, 3) := by decide +kernel
theorem dX2_lightAt_94 : decode cX2_lightAt 94 = .ok (.aload_n 0, 1) := by decide +kernel
theorem dX2_lightAt_95 : decode cX2_lightAt 95 = .ok (.getfield 40, 3) := by decide +kernel
theorem dX2_lightAt_98 : decode cX2_lightAt 98 = .ok (.imul, 1) := by decide +kernel
theorem dX2_lightAt_99 : decode cX2_lightAt 99 = .ok (.aload_n 0, 1) := by decide +kernel
theorem dX2_lightAt_100 : decode cX2_lightAt 100 = .ok (.iload_n 2, 1) := by decide +kernel
theorem dX2_lightAt_101 : decode cX2_lightAt 101 = .ok (.invokevirtual 141, 3) := by decide +kernel
theorem dX2_lightAt_104 : decode cX2_lightAt 104 = .ok (.iadd, 1) := by decide +kernel
theorem dX2_lightAt_105 : decode cX2_lightAt 105 = .ok (.invokevirtual 82, 3) := by decide +kernel
theorem dX2_lightAt_108 : decode cX2_lightAt 108 = .ok (.ifCond .eq 32, 3) := by decide +kernel
theorem dX2_lightAt_111 : decode cX2_lightAt 111 = .ok (.aload_n 0, 1) := by decide +kernel
theorem dX2_lightAt_112 : decode cX2_lightAt 112 = .ok (.aload_n 0, 1) := by decide +kernel
theorem dX2_lightAt_113 : decode cX2_lightAt 113 = .ok (.iload_n 2, 1) := by decide +kernel
theorem dX2_lightAt_114 : decode cX2_lightAt 114 = .ok (.invokevirtual 147, 3) := by decide +kernel
theorem dX2_lightAt_117 : decode cX2_lightAt 117 = .ok (.aload_n 0, 1) := by decide +kernel
theorem dX2_lightAt_118 : decode cX2_lightAt 118 = .ok (.getfield 40, 3) := by decide +kernel
theorem dX2_lightAt_121 : decode cX2_lightAt 121 = .ok (.imul, 1) := by decide +kernel
theorem dX2_lightAt_122 : decode cX2_lightAt 122 = .ok (.aload_n 0, 1) := by decide +kernel
theorem dX2_lightAt_123 : decode cX2_lightAt 123 = .ok (.iload_n 1, 1) := by decide +kernel
theorem dX2_lightAt_124 : decode cX2_lightAt 124 = .ok (.invokevirtual 141, 3) := by decide +kernel
theorem dX2_lightAt_127 : decode cX2_lightAt 127 = .ok (.iadd, 1) := by decide +kernel
theorem dX2_lightAt_128 : decode cX2_lightAt 128 = .ok (.invokevirtual 82, 3) := by decide +kernel
theorem dX2_lightAt_131 : decode cX2_lightAt 131 = .ok (.ifCond .eq 9, 3) := by decide +kernel
theorem dX2_lightAt_134 : decode cX2_lightAt 134 = .ok (.iload 5, 2) := by decide +kernel
theorem dX2_lightAt_136 : decode cX2_lightAt 136 = .ok (.iconst 2, 1) := by decide +kernel
theorem dX2_lightAt_137 : decode cX2_lightAt 137 = .ok (.idiv, 1) := by decide +kernel
theorem dX2_lightAt_138 : decode cX2_lightAt 138 = .ok (.istore 5, 2) := by decide +kernel
theorem dX2_lightAt_140 : decode cX2_lightAt 140 = .ok (.iconst 0, 1) := by decide +kernel
theorem dX2_lightAt_141 : decode cX2_lightAt 141 = .ok (.iload 5, 2) := by decide +kernel
theorem dX2_lightAt_143 : decode cX2_lightAt 143 = .ok (.invokestatic 126, 3) := by decide +kernel
theorem dX2_lightAt_146 : decode cX2_lightAt 146 = .ok (.ireturn, 1) := by decide +kernel
theorem dX2_shelvesBetween_0 : decode cX2_shelvesBetween 0 = .ok (.iload_n 1, 1) := by decide +kernel
theorem dX2_shelvesBetween_1 : decode cX2_shelvesBetween 1 = .ok (.iload_n 2, 1) := by decide +kernel
theorem dX2_shelvesBetween_2 : decode cX2_shelvesBetween 2 = .ok (.invokestatic 126, 3) := by decide +kernel
theorem dX2_shelvesBetween_5 : decode cX2_shelvesBetween 5 = .ok (.istore 4, 2) := by decide +kernel
theorem dX2_shelvesBetween_7 : decode cX2_shelvesBetween 7 = .ok (.iconst 0, 1) := by decide +kernel
theorem dX2_shelvesBetween_8 : decode cX2_shelvesBetween 8 = .ok (.istore 5, 2) := by decide +kernel
theorem dX2_shelvesBetween_10 : decode cX2_shelvesBetween 10 = .ok (.iload_n 1, 1) := by decide +kernel
theorem dX2_shelvesBetween_11 : decode cX2_shelvesBetween 11 = .ok (.iload_n 2, 1) := by decide +kernel
theorem dX2_shelvesBetween_12 : decode cX2_shelvesBetween 12 = .ok (.invokestatic 154, 3) := by decide +kernel
theorem dX2_shelvesBetween_15 : decode cX2_shelvesBetween 15 = .ok (.iload_n 3, 1) := by decide +kernel
theorem dX2_shelvesBetween_16 : decode cX2_shelvesBetween 16 = .ok (.iadd, 1) := by decide +kernel
theorem dX2_shelvesBetween_17 : decode cX2_shelvesBetween 17 = .ok (.istore 6, 2) := by decide +kernel
theorem dX2_shelvesBetween_19 : decode cX2_shelvesBetween 19 = .ok (.iload_n 3, 1) := by decide +kernel
theorem dX2_shelvesBetween_20 : decode cX2_shelvesBetween 20 = .ok (.ifCond .le 33, 3) := by decide +kernel
theorem dX2_shelvesBetween_23 : decode cX2_shelvesBetween 23 = .ok (.iload 6, 2) := by decide +kernel
theorem dX2_shelvesBetween_25 : decode cX2_shelvesBetween 25 = .ok (.iload 4, 2) := by decide +kernel
theorem dX2_shelvesBetween_27 : decode cX2_shelvesBetween 27 = .ok (.if_icmp .ge 26, 3) := by decide +kernel
theorem dX2_shelvesBetween_30 : decode cX2_shelvesBetween 30 = .ok (.iload 5, 2) := by decide +kernel
theorem dX2_shelvesBetween_32 : decode cX2_shelvesBetween 32 = .ok (.aload_n 0, 1) := by decide +kernel
theorem dX2_shelvesBetween_33 : decode cX2_shelvesBetween 33 = .ok (.getfield 59, 3) := by decide +kernel
theorem dX2_shelvesBetween_36 : decode cX2_shelvesBetween 36 = .ok (.iload 6, 2) := by decide +kernel
theorem dX2_shelvesBetween_38 : decode cX2_shelvesBetween 38 = .ok (.ishr, 1) := by decide +kernel
theorem dX2_shelvesBetween_39 : decode cX2_shelvesBetween 39 = .ok (.iconst 1, 1) := by decide +kernel
theorem dX2_shelvesBetween_40 : decode cX2_shelvesBetween 40 = .ok (.iand, 1) := by decide +kernel
theorem dX2_shelvesBetween_41 : decode cX2_shelvesBetween 41 = .ok (.iadd, 1) := by decide +kernel
theorem dX2_shelvesBetween_42 : decode cX2_shelvesBetween 42 = .ok (.istore 5, 2) := by decide +kernel
theorem dX2_shelvesBetween_44 : decode cX2_shelvesBetween 44 = .ok (.iload 6, 2) := by decide +kernel
theorem dX2_shelvesBetween_46 : decode cX2_shelvesBetween 46 = .ok (.iload_n 3, 1) := by decide +kernel
theorem dX2_shelvesBetween_47 : decode cX2_shelvesBetween 47 = .ok (.iadd, 1) := by decide +kernel
theorem dX2_shelvesBetween_48 : decode cX2_shelvesBetween 48 = .ok (.istore 6, 2) := by decide +kernel
theorem dX2_shelvesBetween_50 : decode cX2_shelvesBetween 50 = .ok (.goto (-31), 3) := by decide +kernel
theorem dX2_shelvesBetween_53 : decode cX2_shelvesBetween 53 = .ok (.iload 5, 2) := by decide +kernel
theorem dX2_shelvesBetween_55 : decode cX2_shelvesBetween 55 = .ok (.ireturn, 1) := by decide +kernel
theorem dX2_fillLights_0 : decode cX2_fillLights 0 = .ok (.iconst 0, 1) := by decide +kernel
theorem dX2_fillLights_1 : decode cX2_fillLights 1 = .ok (.istore_n 2, 1) := by decide +kernel
theorem dX2_fillLights_2 : decode cX2_fillLights 2 = .ok (.iload_n 2, 1) := by decide +kernel
theorem dX2_fillLights_3 : decode cX2_fillLights 3 = .ok (.aload_n 0, 1) := by decide +kernel
theorem dX2_fillLights_4 : decode cX2_fillLights 4 = .ok (.getfield 47, 3) := by decide +kernel
theorem dX2_fillLights_7 : decode cX2_fillLights 7 = .ok (.if_icmp .ge 74, 3) := by decide +kernel
theorem dX2_fillLights_10 : decode cX2_fillLights 10 = .ok (.iload_n 2, 1) := by decide +kernel
theorem dX2_fillLights_11 : decode cX2_fillLights 11 = .ok (.iconst 5, 1) := by decide +kernel
theorem dX2_fillLights_12 : decode cX2_fillLights 12 = .ok (.imul, 1) := by decide +kernel
theorem dX2_fillLights_13 : decode cX2_fillLights 13 = .ok (.istore_n 3, 1) := by decide +kernel
theorem dX2_fillLights_14 : decode cX2_fillLights 14 = .ok (.aload_n 0, 1) := by decide +kernel
theorem dX2_fillLights_15 : decode cX2_fillLights 15 = .ok (.iload_n 2, 1) := by decide +kernel
theorem dX2_fillLights_16 : decode cX2_fillLights 16 = .ok (.invokevirtual 82, 3) := by decide +kernel
theorem dX2_fillLights_19 : decode cX2_fillLights 19 = .ok (.ifCond .ne 56, 3) := by decide +kernel
theorem dX2_fillLights_22 : decode cX2_fillLights 22 = .ok (.iload_n 3, 1) := by decide +kernel
theorem dX2_fillLights_23 : decode cX2_fillLights 23 = .ok (.aload_n 0, 1) := by decide +kernel
theorem dX2_fillLights_24 : decode cX2_fillLights 24 = .ok (.getfield 56, 3) := by decide +kernel
theorem dX2_fillLights_27 : decode cX2_fillLights 27 = .ok (.iadd, 1) := by decide +kernel
theorem dX2_fillLights_28 : decode cX2_fillLights 28 = .ok (.aload_n 1, 1) := by decide +kernel
theorem dX2_fillLights_29 : decode cX2_fillLights 29 = .ok (.arraylength, 1) := by decide +kernel
theorem dX2_fillLights_30 : decode cX2_fillLights 30 = .ok (.if_icmp .le 6, 3) := by decide +kernel
theorem dX2_fillLights_33 : decode cX2_fillLights 33 = .ok (.goto 42, 3) := by decide +kernel
theorem dX2_fillLights_36 : decode cX2_fillLights 36 = .ok (.iconst 0, 1) := by decide +kernel
theorem dX2_fillLights_37 : decode cX2_fillLights 37 = .ok (.istore 4, 2) := by decide +kernel
theorem dX2_fillLights_39 : decode cX2_fillLights 39 = .ok (.iload 4, 2) := by decide +kernel
theorem dX2_fillLights_41 : decode cX2_fillLights 41 = .ok (.aload_n 0, 1) := by decide +kernel
theorem dX2_fillLights_42 : decode cX2_fillLights 42 = .ok (.getfield 56, 3) := by decide +kernel
theorem dX2_fillLights_45 : decode cX2_fillLights 45 = .ok (.if_icmp .ge 30, 3) := by decide +kernel
theorem dX2_fillLights_48 : decode cX2_fillLights 48 = .ok (.aload_n 1, 1) := by decide +kernel
theorem dX2_fillLights_49 : decode cX2_fillLights 49 = .ok (.iload_n 3, 1) := by decide +kernel
theorem dX2_fillLights_50 : decode cX2_fillLights 50 = .ok (.iload 4, 2) := by decide +kernel
theorem dX2_fillLights_52 : decode cX2_fillLights 52 = .ok (.iadd, 1) := by decide +kernel
theorem dX2_fillLights_53 : decode cX2_fillLights 53 = .ok (.aload_n 0, 1) := by decide +kernel
theorem dX2_fillLights_54 : decode cX2_fillLights 54 = .ok (.aload_n 0, 1) := by decide +kernel
theorem dX2_fillLights_55 : decode cX2_fillLights 55 = .ok (.getfield 11, 3) := by decide +kernel
theorem dX2_fillLights_58 : decode cX2_fillLights 58 = .ok (.iload 4, 2) := by decide +kernel
theorem dX2_fillLights_60 : decode cX2_fillLights 60 = .ok (.aaload, 1) := by decide +kernel
theorem dX2_fillLights_61 : decode cX2_fillLights 61 = .ok (.getfield 92, 3) := by decide +kernel
theorem dX2_fillLights_64 : decode cX2_fillLights 64 = .ok (.iload_n 2, 1) := by decide +kernel
theorem dX2_fillLights_65 : decode cX2_fillLights 65 = .ok (.invokevirtual 123, 3) := by decide +kernel
theorem dX2_fillLights_68 : decode cX2_fillLights 68 = .ok (.iastore, 1) := by decide +kernel
theorem dX2_fillLights_69 : decode cX2_fillLights 69 = .ok (.iinc 4 1, 3) := by decide +kernel
theorem dX2_fillLights_72 : decode cX2_fillLights 72 = .ok (.goto (-33), 3) := by decide +kernel
theorem dX2_fillLights_75 : decode cX2_fillLights 75 = .ok (.iinc 2 1, 3) := by decide +kernel
theorem dX2_fillLights_78 : decode cX2_fillLights 78 = .ok (.goto (-76), 3) := by decide +kernel
theorem dX2_fillLights_81 : decode cX2_fillLights 81 = .ok (.return_, 1) := by decide +kernel
theorem dX2_squareAfterRound_0 : decode cX2_squareAfterRound 0 = .ok (.iconst 0, 1) := by decide +kernel
theorem dX2_squareAfterRound_1 : decode cX2_squareAfterRound 1 = .ok (.istore_n 2, 1) := by decide +kernel
theorem dX2_squareAfterRound_2 : decode cX2_squareAfterRound 2 = .ok (.iconst 0, 1) := by decide +kernel
theorem dX2_squareAfterRound_3 : decode cX2_squareAfterRound 3 = .ok (.istore_n 3, 1) := by decide +kernel
theorem dX2_squareAfterRound_4 : decode cX2_squareAfterRound 4 = .ok (.iconst 0, 1) := by decide +kernel
theorem dX2_squareAfterRound_5 : decode cX2_squareAfterRound 5 = .ok (.istore 4, 2) := by decide +kernel
theorem dX2_squareAfterRound_7 : decode cX2_squareAfterRound 7 = .ok (.iload 4, 2) := by decide +kernel
theorem dX2_squareAfterRound_9 : decode cX2_squareAfterRound 9 = .ok (.aload_n 0, 1) := by decide +kernel
theorem dX2_squareAfterRound_10 : decode cX2_squareAfterRound 10 = .ok (.getfield 56, 3) := by decide +kernel
theorem dX2_squareAfterRound_13 : decode cX2_squareAfterRound 13 = .ok (.if_icmp .ge 83, 3) := by decide +kernel
theorem dX2_squareAfterRound_16 : decode cX2_squareAfterRound 16 = .ok (.aload_n 0, 1) := by decide +kernel
theorem dX2_squareAfterRound_17 : decode cX2_squareAfterRound 17 = .ok (.getfield 20, 3) := by decide +kernel
theorem dX2_squareAfterRound_20 : decode cX2_squareAfterRound 20 = .ok (.getfield 110, 3) := by decide +kernel
theorem dX2_squareAfterRound_23 : decode cX2_squareAfterRound 23 = .ok (.iload 4, 2) := by decide +kernel
theorem dX2_squareAfterRound_25 : decode cX2_squareAfterRound 25 = .ok (.iaload, 1) := by decide +kernel
theorem dX2_squareAfterRound_26 : decode cX2_squareAfterRound 26 = .ok (.ifCond .le 64, 3) := by decide +kernel
theorem dX2_squareAfterRound_29 : decode cX2_squareAfterRound 29 = .ok (.aload_n 0, 1) := by decide +kernel
theorem dX2_squareAfterRound_30 : decode cX2_squareAfterRound 30 = .ok (.getfield 11, 3) := by decide +kernel
theorem dX2_squareAfterRound_33 : decode cX2_squareAfterRound 33 = .ok (.iload 4, 2) := by decide +kernel
theorem dX2_squareAfterRound_35 : decode cX2_squareAfterRound 35 = .ok (.aaload, 1) := by decide +kernel
theorem dX2_squareAfterRound_36 : decode cX2_squareAfterRound 36 = .ok (.astore 5, 2) := by decide +kernel
theorem dX2_squareAfterRound_38 : decode cX2_squareAfterRound 38 = .ok (.iload_n 2, 1) := by decide +kernel
theorem dX2_squareAfterRound_39 : decode cX2_squareAfterRound 39 = .ok (.aload 5, 2) := by decide +kernel
theorem dX2_squareAfterRound_41 : decode cX2_squareAfterRound 41 = .ok (.getfield 104, 3) := by decide +kernel
theorem dX2_squareAfterRound_44 : decode cX2_squareAfterRound 44 = .ok (.aload_n 0, 1) := by decide +kernel
theorem dX2_squareAfterRound_45 : decode cX2_squareAfterRound 45 = .ok (.aload 5, 2) := by decide +kernel
theorem dX2_squareAfterRound_47 : decode cX2_squareAfterRound 47 = .ok (.getfield 92, 3) := by decide +kernel
theorem dX2_squareAfterRound_50 : decode cX2_squareAfterRound 50 = .ok (.invokevirtual 141, 3) := by decide +kernel
theorem dX2_squareAfterRound_53 : decode cX2_squareAfterRound 53 = .ok (.aload_n 0, 1) := by decide +kernel
theorem dX2_squareAfterRound_54 : decode cX2_squareAfterRound 54 = .ok (.iload_n 1, 1) := by decide +kernel
theorem dX2_squareAfterRound_55 : decode cX2_squareAfterRound 55 = .ok (.invokevirtual 141, 3) := by decide +kernel
theorem dX2_squareAfterRound_58 : decode cX2_squareAfterRound 58 = .ok (.invokestatic 157, 3) := by decide +kernel
theorem dX2_squareAfterRound_61 : decode cX2_squareAfterRound 61 = .ok (.imul, 1) := by decide +kernel
theorem dX2_squareAfterRound_62 : decode cX2_squareAfterRound 62 = .ok (.iadd, 1) := by decide +kernel
theorem dX2_squareAfterRound_63 : decode cX2_squareAfterRound 63 = .ok (.istore_n 2, 1) := by decide +kernel
theorem dX2_squareAfterRound_64 : decode cX2_squareAfterRound 64 = .ok (.iload_n 3, 1) := by decide +kernel
theorem dX2_squareAfterRound_65 : decode cX2_squareAfterRound 65 = .ok (.aload 5, 2) := by decide +kernel
theorem dX2_squareAfterRound_67 : decode cX2_squareAfterRound 67 = .ok (.getfield 104, 3) := by decide +kernel
theorem dX2_squareAfterRound_70 : decode cX2_squareAfterRound 70 = .ok (.aload_n 0, 1) := by decide +kernel
theorem dX2_squareAfterRound_71 : decode cX2_squareAfterRound 71 = .ok (.aload 5, 2) := by decide +kernel
theorem dX2_squareAfterRound_73 : decode cX2_squareAfterRound 73 = .ok (.getfield 92, 3) := by decide +kernel
theorem dX2_squareAfterRound_76 : decode cX2_squareAfterRound 76 = .ok (.invokevirtual 147, 3) := by decide +kernel
theorem dX2_squareAfterRound_79 : decode cX2_squareAfterRound 79 = .ok (.aload_n 0, 1) := by decide +kernel
theorem dX2_squareAfterRound_80 : decode cX2_squareAfterRound 80 = .ok (.iload_n 1, 1) := by decide +kernel
theorem dX2_squareAfterRound_81 : decode cX2_squareAfterRound 81 = .ok (.invokevirtual 147, 3) := by decide +kernel
theorem dX2_squareAfterRound_84 : decode cX2_squareAfterRound 84 = .ok (.invokestatic 157, 3) := by decide +kernel
theorem dX2_squareAfterRound_87 : decode cX2_squareAfterRound 87 = .ok (.imul, 1) := by decide +kernel
theorem dX2_squareAfterRound_88 : decode cX2_squareAfterRound 88 = .ok (.iadd, 1) := by decide +kernel
theorem dX2_squareAfterRound_89 : decode cX2_squareAfterRound 89 = .ok (.istore_n 3, 1) := by decide +kernel
theorem dX2_squareAfterRound_90 : decode cX2_squareAfterRound 90 = .ok (.iinc 4 1, 3) := by decide +kernel
theorem dX2_squareAfterRound_93 : decode cX2_squareAfterRound 93 = .ok (.goto (-86), 3) := by decide +kernel
theorem dX2_squareAfterRound_96 : decode cX2_squareAfterRound 96 = .ok (.iload_n 2, 1) := by decide +kernel
theorem dX2_squareAfterRound_97 : decode cX2_squareAfterRound 97 = .ok (.invokestatic 144, 3) := by decide +kernel
theorem dX2_squareAfterRound_100 : decode cX2_squareAfterRound 100 = .ok (.iload_n 3, 1) := by decide +kernel
theorem dX2_squareAfterRound_101 : decode cX2_squareAfterRound 101 = .ok (.invokestatic 144, 3) := by decide +kernel
theorem dX2_squareAfterRound_104 : decode cX2_squareAfterRound 104 = .ok (.if_icmp .lt 12, 3) := by decide +kernel
theorem dX2_squareAfterRound_107 : decode cX2_squareAfterRound 107 = .ok (.iload_n 1, 1) := by decide +kernel
theorem dX2_squareAfterRound_108 : decode cX2_squareAfterRound 108 = .ok (.iload_n 2, 1) := by decide +kernel
theorem dX2_squareAfterRound_109 : decode cX2_squareAfterRound 109 = .ok (.invokestatic 162, 3) := by decide +kernel
theorem dX2_squareAfterRound_112 : decode cX2_squareAfterRound 112 = .ok (.iadd, 1) := by decide +kernel
theorem dX2_squareAfterRound_113 : decode cX2_squareAfterRound 113 = .ok (.goto 14, 3) := by decide +kernel
theorem dX2_squareAfterRound_116 : decode cX2_squareAfterRound 116 = .ok (.iload_n 1, 1) := by decide +kernel
theorem dX2_squareAfterRound_117 : decode cX2_squareAfterRound 117 = .ok (.aload_n 0, 1) := by decide +kernel
theorem dX2_squareAfterRound_118 : decode cX2_squareAfterRound 118 = .ok (.getfield 40, 3) := by decide +kernel
theorem dX2_squareAfterRound_121 : decode cX2_squareAfterRound 121 = .ok (.iload_n 3, 1) := by decide +kernel
theorem dX2_squareAfterRound_122 : decode cX2_squareAfterRound 122 = .ok (.invokestatic 162, 3) := by decide +kernel
theorem dX2_squareAfterRound_125 : decode cX2_squareAfterRound 125 = .ok (.imul, 1) := by decide +kernel
theorem dX2_squareAfterRound_126 : decode cX2_squareAfterRound 126 = .ok (.iadd, 1) := by decide +kernel
theorem dX2_squareAfterRound_127 : decode cX2_squareAfterRound 127 = .ok (.istore 4, 2) := by decide +kernel
theorem dX2_squareAfterRound_129 : decode cX2_squareAfterRound 129 = .ok (.aload_n 0, 1) := by decide +kernel
theorem dX2_squareAfterRound_130 : decode cX2_squareAfterRound 130 = .ok (.iload 4, 2) := by decide +kernel
theorem dX2_squareAfterRound_132 : decode cX2_squareAfterRound 132 = .ok (.invokevirtual 138, 3) := by decide +kernel
theorem dX2_squareAfterRound_135 : decode cX2_squareAfterRound 135 = .ok (.ifCond .eq 8, 3) := by decide +kernel
theorem dX2_squareAfterRound_138 : decode cX2_squareAfterRound 138 = .ok (.iload 4, 2) := by decide +kernel
theorem dX2_squareAfterRound_140 : decode cX2_squareAfterRound 140 = .ok (.goto 4, 3) := by decide +kernel
theorem dX2_squareAfterRound_143 : decode cX2_squareAfterRound 143 = .ok (.iload_n 1, 1) := by decide +kernel
theorem dX2_squareAfterRound_144 : decode cX2_squareAfterRound 144 = .ok (.ireturn, 1) := by decide +kernel
theorem dX3_init_0 : decode cX3_init 0 = .ok (.aload_n 0, 1) := by decide +kernel
theorem dX3_init_1 : decode cX3_init 1 = .ok (.invokespecial 3, 3) := by decide +kernel
theorem dX3_init_4 : decode cX3_init 4 = .ok (.aload_n 0, 1) := by decide +kernel
theorem dX3_init_5 : decode cX3_init 5 = .ok (.bipush 12, 2) := by decide +kernel
theorem dX3_init_7 : decode cX3_init 7 = .ok (.newarray .int, 2) := by decide +kernel
theorem dX3_init_9 : decode cX3_init 9 = .ok (.putfield 9, 3) := by decide +kernel
theorem dX3_init_12 : decode cX3_init 12 = .ok (.aload_n 0, 1) := by decide +kernel
theorem dX3_init_13 : decode cX3_init 13 = .ok (.bipush 12, 2) := by decide +kernel
theorem dX3_init_15 : decode cX3_init 15 = .ok (.newarray .int, 2) := by decide +kernel
theorem dX3_init_17 : decode cX3_init 17 = .ok (.putfield 15, 3) := by decide +kernel
theorem dX3_init_20 : decode cX3_init 20 = .ok (.aload_n 0, 1) := by decide +kernel
theorem dX3_init_21 : decode cX3_init 21 = .ok (.bipush 12, 2) := by decide +kernel
theorem dX3_init_23 : decode cX3_init 23 = .ok (.newarray .int, 2) := by decide +kernel
theorem dX3_init_25 : decode cX3_init 25 = .ok (.putfield 18, 3) := by decide +kernel
theorem dX3_init_28 : decode cX3_init 28 = .ok (.aload_n 0, 1) := by decide +kernel
theorem dX3_init_29 : decode cX3_init 29 = .ok (.bipush 60, 2) := by decide +kernel
theorem dX3_init_31 : decode cX3_init 31 = .ok (.newarray .int, 2) := by decide +kernel
theorem dX3_init_33 : decode cX3_init 33 = .ok (.putfield 21, 3) := by decide +kernel
theorem dX3_init_36 : decode cX3_init 36 = .ok (.return_, 1) := by decide +kernel
theorem dX3_keep_0 : decode cX3_keep 0 = .ok (.aload_n 0, 1) := by decide +kernel
theorem dX3_keep_1 : decode cX3_keep 1 = .ok (.getfield 24, 3) := by decide +kernel
theorem dX3_keep_4 : decode cX3_keep 4 = .ok (.bipush 12, 2) := by decide +kernel
theorem dX3_keep_6 : decode cX3_keep 6 = .ok (.if_icmp .lt 7, 3) := by decide +kernel
theorem dX3_keep_9 : decode cX3_keep 9 = .ok (.aload_n 0, 1) := by decide +kernel
theorem dX3_keep_10 : decode cX3_keep 10 = .ok (.invokevirtual 28, 3) := by decide +kernel
theorem dX3_keep_13 : decode cX3_keep 13 = .ok (.aload_n 0, 1) := by decide +kernel
theorem dX3_keep_14 : decode cX3_keep 14 = .ok (.getfield 9, 3) := by decide +kernel
theorem dX3_keep_17 : decode cX3_keep 17 = .ok (.aload_n 0, 1) := by decide +kernel
theorem dX3_keep_18 : decode cX3_keep 18 = .ok (.getfield 24, 3) := by decide +kernel
theorem dX3_keep_21 : decode cX3_keep 21 = .ok (.aload_n 1, 1) := by decide +kernel
theorem dX3_keep_22 : decode cX3_keep 22 = .ok (.getfield 31, 3) := by decide +kernel
theorem dX3_keep_25 : decode cX3_keep 25 = .ok (.iastore, 1) := by decide +kernel
theorem dX3_keep_26 : decode cX3_keep 26 = .ok (.aload_n 0, 1) := by decide +kernel
theorem dX3_keep_27 : decode cX3_keep 27 = .ok (.getfield 15, 3) := by decide +kernel
theorem dX3_keep_30 : decode cX3_keep 30 = .ok (.aload_n 0, 1) := by decide +kernel
theorem dX3_keep_31 : decode cX3_keep 31 = .ok (.getfield 24, 3) := by decide +kernel
theorem dX3_keep_34 : decode cX3_keep 34 = .ok (.aload_n 1, 1) := by decide +kernel
theorem dX3_keep_35 : decode cX3_keep 35 = .ok (.getfield 35, 3) := by decide +kernel
theorem dX3_keep_38 : decode cX3_keep 38 = .ok (.iastore, 1) := by decide +kernel
theorem dX3_keep_39 : decode cX3_keep 39 = .ok (.aload_n 0, 1) := by decide +kernel
theorem dX3_keep_40 : decode cX3_keep 40 = .ok (.getfield 18, 3) := by decide +kernel
theorem dX3_keep_43 : decode cX3_keep 43 = .ok (.aload_n 0, 1) := by decide +kernel
theorem dX3_keep_44 : decode cX3_keep 44 = .ok (.getfield 24, 3) := by decide +kernel
theorem dX3_keep_47 : decode cX3_keep 47 = .ok (.aload_n 1, 1) := by decide +kernel
theorem dX3_keep_48 : decode cX3_keep 48 = .ok (.getfield 37, 3) := by decide +kernel
theorem dX3_keep_51 : decode cX3_keep 51 = .ok (.getfield 41, 3) := by decide +kernel
theorem dX3_keep_54 : decode cX3_keep 54 = .ok (.iastore, 1) := by decide +kernel
theorem dX3_keep_55 : decode cX3_keep 55 = .ok (.aload_n 1, 1) := by decide +kernel
theorem dX3_keep_56 : decode cX3_keep 56 = .ok (.getfield 37, 3) := by decide +kernel
theorem dX3_keep_59 : decode cX3_keep 59 = .ok (.getfield 45, 3) := by decide +kernel
theorem dX3_keep_62 : decode cX3_keep 62 = .ok (.iconst 0, 1) := by decide +kernel
theorem dX3_keep_63 : decode cX3_keep 63 = .ok (.aload_n 0, 1) := by decide +kernel
theorem dX3_keep_64 : decode cX3_keep 64 = .ok (.getfield 21, 3) := by decide +kernel
theorem dX3_keep_67 : decode cX3_keep 67 = .ok (.aload_n 0, 1) := by decide +kernel
theorem dX3_keep_68 : decode cX3_keep 68 = .ok (.getfield 24, 3) := by decide +kernel
theorem dX3_keep_71 : decode cX3_keep 71 = .ok (.iconst 5, 1) := by decide +kernel
theorem dX3_keep_72 : decode cX3_keep 72 = .ok (.imul, 1) := by decide +kernel
theorem dX3_keep_73 : decode cX3_keep 73 = .ok (.iconst 5, 1) := by decide +kernel
theorem dX3_keep_74 : decode cX3_keep 74 = .ok (.invokestatic 46, 3) := by decide +kernel
theorem dX3_keep_77 : decode cX3_keep 77 = .ok (.aload_n 0, 1) := by decide +kernel
theorem dX3_keep_78 : decode cX3_keep 78 = .ok (.dup, 1) := by decide +kernel
theorem dX3_keep_79 : decode cX3_keep 79 = .ok (.getfield 24, 3) := by decide +kernel
theorem dX3_keep_82 : decode cX3_keep 82 = .ok (.iconst 1, 1) := by decide +kernel
theorem dX3_keep_83 : decode cX3_keep 83 = .ok (.iadd, 1) := by decide +kernel
theorem dX3_keep_84 : decode cX3_keep 84 = .ok (.putfield 24, 3) := by decide +kernel
theorem dX3_keep_87 : decode cX3_keep 87 = .ok (.return_, 1) := by decide +kernel
theorem dX3_giveBack_0 : decode cX3_giveBack 0 = .ok (.aload_n 0, 1) := by decide +kernel
theorem dX3_giveBack_1 : decode cX3_giveBack 1 = .ok (.getfield 24, 3) := by decide +kernel
theorem dX3_giveBack_4 : decode cX3_giveBack 4 = .ok (.iconst 1, 1) := by decide +kernel
theorem dX3_giveBack_5 : decode cX3_giveBack 5 = .ok (.if_icmp .ge 4, 3) := by decide +kernel
theorem dX3_giveBack_8 : decode cX3_giveBack 8 = .ok (.return_, 1) := by decide +kernel
theorem dX3_giveBack_9 : decode cX3_giveBack 9 = .ok (.aload_n 0, 1) := by decide +kernel
theorem dX3_giveBack_10 : decode cX3_giveBack 10 = .ok (.dup, 1) := by decide +kernel
theorem dX3_giveBack_11 : decode cX3_giveBack 11 = .ok (.getfield 24, 3) := by decide +kernel
theorem dX3_giveBack_14 : decode cX3_giveBack 14 = .ok (.iconst 1, 1) := by decide +kernel
theorem dX3_giveBack_15 : decode cX3_giveBack 15 = .ok (.isub, 1) := by decide +kernel
theorem dX3_giveBack_16 : decode cX3_giveBack 16 = .ok (.putfield 24, 3) := by decide +kernel
theorem dX3_giveBack_19 : decode cX3_giveBack 19 = .ok (.aload_n 1, 1) := by decide +kernel
theorem dX3_giveBack_20 : decode cX3_giveBack 20 = .ok (.aload_n 0, 1) := by decide +kernel
theorem dX3_giveBack_21 : decode cX3_giveBack 21 = .ok (.getfield 9, 3) := by decide +kernel
theorem dX3_giveBack_24 : decode cX3_giveBack 24 = .ok (.aload_n 0, 1) := by decide +kernel
theorem dX3_giveBack_25 : decode cX3_giveBack 25 = .ok (.getfield 24, 3) := by decide +kernel
theorem dX3_giveBack_28 : decode cX3_giveBack 28 = .ok (.iaload, 1) := by decide +kernel
theorem dX3_giveBack_29 : decode cX3_giveBack 29 = .ok (.putfield 31, 3) := by decide +kernel
theorem dX3_giveBack_32 : decode cX3_giveBack 32 = .ok (.aload_n 1, 1) := by decide +kernel
theorem dX3_giveBack_33 : decode cX3_giveBack 33 = .ok (.aload_n 0, 1) := by decide +kernel
theorem dX3_giveBack_34 : decode cX3_giveBack 34 = .ok (.getfield 15, 3) := by decide +kernel
theorem dX3_giveBack_37 : decode cX3_giveBack 37 = .ok (.aload_n 0, 1) := by decide +kernel
theorem dX3_giveBack_38 : decode cX3_giveBack 38 = .ok (.getfield 24, 3) := by decide +kernel
theorem dX3_giveBack_41 : decode cX3_giveBack 41 = .ok (.iaload, 1) := by decide +kernel
theorem dX3_giveBack_42 : decode cX3_giveBack 42 = .ok (.putfield 35, 3) := by decide +kernel
theorem dX3_giveBack_45 : decode cX3_giveBack 45 = .ok (.aload_n 1, 1) := by decide +kernel
theorem dX3_giveBack_46 : decode cX3_giveBack 46 = .ok (.getfield 37, 3) := by decide +kernel
theorem dX3_giveBack_49 : decode cX3_giveBack 49 = .ok (.aload_n 0, 1) := by decide +kernel
theorem dX3_giveBack_50 : decode cX3_giveBack 50 = .ok (.getfield 18, 3) := by decide +kernel
theorem dX3_giveBack_53 : decode cX3_giveBack 53 = .ok (.aload_n 0, 1) := by decide +kernel
theorem dX3_giveBack_54 : decode cX3_giveBack 54 = .ok (.getfield 24, 3) := by decide +kernel
theorem dX3_giveBack_57 : decode cX3_giveBack 57 = .ok (.iaload, 1) := by decide +kernel
theorem dX3_giveBack_58 : decode cX3_giveBack 58 = .ok (.putfield 41, 3) := by decide +kernel
theorem dX3_giveBack_61 : decode cX3_giveBack 61 = .ok (.aload_n 0, 1) := by decide +kernel
theorem dX3_giveBack_62 : decode cX3_giveBack 62 = .ok (.getfield 21, 3) := by decide +kernel
theorem dX3_giveBack_65 : decode cX3_giveBack 65 = .ok (.aload_n 0, 1) := by decide +kernel
theorem dX3_giveBack_66 : decode cX3_giveBack 66 = .ok (.getfield 24, 3) := by decide +kernel
theorem dX3_giveBack_69 : decode cX3_giveBack 69 = .ok (.iconst 5, 1) := by decide +kernel
theorem dX3_giveBack_70 : decode cX3_giveBack 70 = .ok (.imul, 1) := by decide +kernel
theorem dX3_giveBack_71 : decode cX3_giveBack 71 = .ok (.aload_n 1, 1) := by decide +kernel
theorem dX3_giveBack_72 : decode cX3_giveBack 72 = .ok (.getfield 37, 3) := by decide +kernel
theorem dX3_giveBack_75 : decode cX3_giveBack 75 = .ok (.getfield 45, 3) := by decide +kernel
theorem dX3_giveBack_78 : decode cX3_giveBack 78 = .ok (.iconst 0, 1) := by decide +kernel
theorem dX3_giveBack_79 : decode cX3_giveBack 79 = .ok (.iconst 5, 1) := by decide +kernel
theorem dX3_giveBack_80 : decode cX3_giveBack 80 = .ok (.invokestatic 46, 3) := by decide +kernel
theorem dX3_giveBack_83 : decode cX3_giveBack 83 = .ok (.return_, 1) := by decide +kernel
theorem dX3_become_0 : decode cX3_become 0 = .ok (.aload_n 1, 1) := by decide +kernel
theorem dX3_become_1 : decode cX3_become 1 = .ok (.getfield 9, 3) := by decide +kernel
theorem dX3_become_4 : decode cX3_become 4 = .ok (.iconst 0, 1) := by decide +kernel
theorem dX3_become_5 : decode cX3_become 5 = .ok (.aload_n 0, 1) := by decide +kernel
theorem dX3_become_6 : decode cX3_become 6 = .ok (.getfield 9, 3) := by decide +kernel
theorem dX3_become_9 : decode cX3_become 9 = .ok (.iconst 0, 1) := by decide +kernel
theorem dX3_become_10 : decode cX3_become 10 = .ok (.bipush 12, 2) := by decide +kernel
theorem dX3_become_12 : decode cX3_become 12 = .ok (.invokestatic 46, 3) := by decide +kernel
theorem dX3_become_15 : decode cX3_become 15 = .ok (.aload_n 1, 1) := by decide +kernel
theorem dX3_become_16 : decode cX3_become 16 = .ok (.getfield 15, 3) := by decide +kernel
theorem dX3_become_19 : decode cX3_become 19 = .ok (.iconst 0, 1) := by decide +kernel
theorem dX3_become_20 : decode cX3_become 20 = .ok (.aload_n 0, 1) := by decide +kernel
theorem dX3_become_21 : decode cX3_become 21 = .ok (.getfield 15, 3) := by decide +kernel
theorem dX3_become_24 : decode cX3_become 24 = .ok (.iconst 0, 1) := by decide +kernel
theorem dX3_become_25 : decode cX3_become 25 = .ok (.bipush 12, 2) := by decide +kernel
theorem dX3_become_27 : decode cX3_become 27 = .ok (.invokestatic 46, 3) := by decide +kernel
theorem dX3_become_30 : decode cX3_become 30 = .ok (.aload_n 1, 1) := by decide +kernel
theorem dX3_become_31 : decode cX3_become 31 = .ok (.getfield 18, 3) := by decide +kernel
theorem dX3_become_34 : decode cX3_become 34 = .ok (.iconst 0, 1) := by decide +kernel
theorem dX3_become_35 : decode cX3_become 35 = .ok (.aload_n 0, 1) := by decide +kernel
theorem dX3_become_36 : decode cX3_become 36 = .ok (.getfield 18, 3) := by decide +kernel
theorem dX3_become_39 : decode cX3_become 39 = .ok (.iconst 0, 1) := by decide +kernel
theorem dX3_become_40 : decode cX3_become 40 = .ok (.bipush 12, 2) := by decide +kernel
theorem dX3_become_42 : decode cX3_become 42 = .ok (.invokestatic 46, 3) := by decide +kernel
theorem dX3_become_45 : decode cX3_become 45 = .ok (.aload_n 1, 1) := by decide +kernel
theorem dX3_become_46 : decode cX3_become 46 = .ok (.getfield 21, 3) := by decide +kernel
theorem dX3_become_49 : decode cX3_become 49 = .ok (.iconst 0, 1) := by decide +kernel
theorem dX3_become_50 : decode cX3_become 50 = .ok (.aload_n 0, 1) := by decide +kernel
theorem dX3_become_51 : decode cX3_become 51 = .ok (.getfield 21, 3) := by decide +kernel
theorem dX3_become_54 : decode cX3_become 54 = .ok (.iconst 0, 1) := by decide +kernel
theorem dX3_become_55 : decode cX3_become 55 = .ok (.bipush 60, 2) := by decide +kernel
theorem dX3_become_57 : decode cX3_become 57 = .ok (.invokestatic 46, 3) := by decide +kernel
theorem dX3_become_60 : decode cX3_become 60 = .ok (.aload_n 0, 1) := by decide +kernel
theorem dX3_become_61 : decode cX3_become 61 = .ok (.aload_n 1, 1) := by decide +kernel
theorem dX3_become_62 : decode cX3_become 62 = .ok (.getfield 24, 3) := by decide +kernel
theorem dX3_become_65 : decode cX3_become 65 = .ok (.putfield 24, 3) := by decide +kernel
theorem dX3_become_68 : decode cX3_become 68 = .ok (.return_, 1) := by decide +kernel
theorem dX3_dropOldest_0 : decode cX3_dropOldest 0 = .ok (.bipush 11, 2) := by decide +kernel
theorem dX3_dropOldest_2 : decode cX3_dropOldest 2 = .ok (.istore_n 1, 1) := by decide +kernel
theorem dX3_dropOldest_3 : decode cX3_dropOldest 3 = .ok (.aload_n 0, 1) := by decide +kernel
theorem dX3_dropOldest_4 : decode cX3_dropOldest 4 = .ok (.getfield 9, 3) := by decide +kernel
theorem dX3_dropOldest_7 : decode cX3_dropOldest 7 = .ok (.iconst 1, 1) := by decide +kernel
theorem dX3_dropOldest_8 : decode cX3_dropOldest 8 = .ok (.aload_n 0, 1) := by decide +kernel
theorem dX3_dropOldest_9 : decode cX3_dropOldest 9 = .ok (.getfield 9, 3) := by decide +kernel
theorem dX3_dropOldest_12 : decode cX3_dropOldest 12 = .ok (.iconst 0, 1) := by decide +kernel
theorem dX3_dropOldest_13 : decode cX3_dropOldest 13 = .ok (.iload_n 1, 1) := by decide +kernel
theorem dX3_dropOldest_14 : decode cX3_dropOldest 14 = .ok (.invokestatic 46, 3) := by decide +kernel
theorem dX3_dropOldest_17 : decode cX3_dropOldest 17 = .ok (.aload_n 0, 1) := by decide +kernel
theorem dX3_dropOldest_18 : decode cX3_dropOldest 18 = .ok (.getfield 15, 3) := by decide +kernel
theorem dX3_dropOldest_21 : decode cX3_dropOldest 21 = .ok (.iconst 1, 1) := by decide +kernel
theorem dX3_dropOldest_22 : decode cX3_dropOldest 22 = .ok (.aload_n 0, 1) := by decide +kernel
theorem dX3_dropOldest_23 : decode cX3_dropOldest 23 = .ok (.getfield 15, 3) := by decide +kernel
theorem dX3_dropOldest_26 : decode cX3_dropOldest 26 = .ok (.iconst 0, 1) := by decide +kernel
theorem dX3_dropOldest_27 : decode cX3_dropOldest 27 = .ok (.iload_n 1, 1) := by decide +kernel
theorem dX3_dropOldest_28 : decode cX3_dropOldest 28 = .ok (.invokestatic 46, 3) := by decide +kernel
theorem dX3_dropOldest_31 : decode cX3_dropOldest 31 = .ok (.aload_n 0, 1) := by decide +kernel
theorem dX3_dropOldest_32 : decode cX3_dropOldest 32 = .ok (.getfield 18, 3) := by decide +kernel
theorem dX3_dropOldest_35 : decode cX3_dropOldest 35 = .ok (.iconst 1, 1) := by decide +kernel
theorem dX3_dropOldest_36 : decode cX3_dropOldest 36 = .ok (.aload_n 0, 1) := by decide +kernel
theorem dX3_dropOldest_37 : decode cX3_dropOldest 37 = .ok (.getfield 18, 3) := by decide +kernel
theorem dX3_dropOldest_40 : decode cX3_dropOldest 40 = .ok (.iconst 0, 1) := by decide +kernel
theorem dX3_dropOldest_41 : decode cX3_dropOldest 41 = .ok (.iload_n 1, 1) := by decide +kernel
theorem dX3_dropOldest_42 : decode cX3_dropOldest 42 = .ok (.invokestatic 46, 3) := by decide +kernel
theorem dX3_dropOldest_45 : decode cX3_dropOldest 45 = .ok (.aload_n 0, 1) := by decide +kernel
theorem dX3_dropOldest_46 : decode cX3_dropOldest 46 = .ok (.getfield 21, 3) := by decide +kernel
theorem dX3_dropOldest_49 : decode cX3_dropOldest 49 = .ok (.iconst 5, 1) := by decide +kernel
theorem dX3_dropOldest_50 : decode cX3_dropOldest 50 = .ok (.aload_n 0, 1) := by decide +kernel
theorem dX3_dropOldest_51 : decode cX3_dropOldest 51 = .ok (.getfield 21, 3) := by decide +kernel
theorem dX3_dropOldest_54 : decode cX3_dropOldest 54 = .ok (.iconst 0, 1) := by decide +kernel
theorem dX3_dropOldest_55 : decode cX3_dropOldest 55 = .ok (.iload_n 1, 1) := by decide +kernel
theorem dX3_dropOldest_56 : decode cX3_dropOldest 56 = .ok (.iconst 5, 1) := by decide +kernel
theorem dX3_dropOldest_57 : decode cX3_dropOldest 57 = .ok (.imul, 1) := by decide +kernel
theorem dX3_dropOldest_58 : decode cX3_dropOldest 58 = .ok (.invokestatic 46, 3) := by decide +kernel
theorem dX3_dropOldest_61 : decode cX3_dropOldest 61 = .ok (.aload_n 0, 1) := by decide +kernel
theorem dX3_dropOldest_62 : decode cX3_dropOldest 62 = .ok (.iload_n 1, 1) := by decide +kernel
theorem dX3_dropOldest_63 : decode cX3_dropOldest 63 = .ok (.putfield 24, 3) := by decide +kernel
theorem dX3_dropOldest_66 : decode cX3_dropOldest 66 = .ok (.return_, 1) := by decide +kernel

theorem dX4_init_0 : decode cX4_init 0 = .ok (.aload_n 0, 1) := by decide +kernel
theorem dX4_init_1 : decode cX4_init 1 = .ok (.invokespecial 3, 3) := by decide +kernel
theorem dX4_init_4 : decode cX4_init 4 = .ok (.aload_n 0, 1) := by decide +kernel
theorem dX4_init_5 : decode cX4_init 5 = .ok (.bipush 125, 2) := by decide +kernel
theorem dX4_init_7 : decode cX4_init 7 = .ok (.newarray .int, 2) := by decide +kernel
theorem dX4_init_9 : decode cX4_init 9 = .ok (.putfield 9, 3) := by decide +kernel
theorem dX4_init_12 : decode cX4_init 12 = .ok (.aload_n 0, 1) := by decide +kernel
theorem dX4_init_13 : decode cX4_init 13 = .ok (.iconst 5, 1) := by decide +kernel
theorem dX4_init_14 : decode cX4_init 14 = .ok (.newarray .int, 2) := by decide +kernel
theorem dX4_init_16 : decode cX4_init 16 = .ok (.putfield 15, 3) := by decide +kernel
theorem dX4_init_19 : decode cX4_init 19 = .ok (.aload_n 0, 1) := by decide +kernel
theorem dX4_init_20 : decode cX4_init 20 = .ok (.new 18, 3) := by decide +kernel
theorem dX4_init_23 : decode cX4_init 23 = .ok (.dup, 1) := by decide +kernel
theorem dX4_init_24 : decode cX4_init 24 = .ok (.invokespecial 20, 3) := by decide +kernel
theorem dX4_init_27 : decode cX4_init 27 = .ok (.putfield 21, 3) := by decide +kernel
theorem dX4_init_30 : decode cX4_init 30 = .ok (.return_, 1) := by decide +kernel
theorem dX4_findStand_0 : decode cX4_findStand 0 = .ok (.aload_n 1, 1) := by decide +kernel
theorem dX4_findStand_1 : decode cX4_findStand 1 = .ok (.aload_n 0, 1) := by decide +kernel
theorem dX4_findStand_2 : decode cX4_findStand 2 = .ok (.getfield 9, 3) := by decide +kernel
theorem dX4_findStand_5 : decode cX4_findStand 5 = .ok (.invokevirtual 25, 3) := by decide +kernel
theorem dX4_findStand_8 : decode cX4_findStand 8 = .ok (.aload_n 0, 1) := by decide +kernel
theorem dX4_findStand_9 : decode cX4_findStand 9 = .ok (.invokevirtual 31, 3) := by decide +kernel
theorem dX4_findStand_12 : decode cX4_findStand 12 = .ok (.iconst 0, 1) := by decide +kernel
theorem dX4_findStand_13 : decode cX4_findStand 13 = .ok (.istore_n 2, 1) := by decide +kernel
theorem dX4_findStand_14 : decode cX4_findStand 14 = .ok (.iload_n 2, 1) := by decide +kernel
theorem dX4_findStand_15 : decode cX4_findStand 15 = .ok (.aload_n 1, 1) := by decide +kernel
theorem dX4_findStand_16 : decode cX4_findStand 16 = .ok (.getfield 34, 3) := by decide +kernel
theorem dX4_findStand_19 : decode cX4_findStand 19 = .ok (.if_icmp .ge 31, 3) := by decide +kernel
theorem dX4_findStand_22 : decode cX4_findStand 22 = .ok (.aload_n 1, 1) := by decide +kernel
theorem dX4_findStand_23 : decode cX4_findStand 23 = .ok (.iload_n 2, 1) := by decide +kernel
theorem dX4_findStand_24 : decode cX4_findStand 24 = .ok (.invokevirtual 38, 3) := by decide +kernel
theorem dX4_findStand_27 : decode cX4_findStand 27 = .ok (.ifCond .eq 17, 3) := by decide +kernel
theorem dX4_findStand_30 : decode cX4_findStand 30 = .ok (.aload_n 0, 1) := by decide +kernel
theorem dX4_findStand_31 : decode cX4_findStand 31 = .ok (.aload_n 1, 1) := by decide +kernel
theorem dX4_findStand_32 : decode cX4_findStand 32 = .ok (.aload_n 0, 1) := by decide +kernel
theorem dX4_findStand_33 : decode cX4_findStand 33 = .ok (.getfield 9, 3) := by decide +kernel
theorem dX4_findStand_36 : decode cX4_findStand 36 = .ok (.iload_n 2, 1) := by decide +kernel
theorem dX4_findStand_37 : decode cX4_findStand 37 = .ok (.iconst 5, 1) := by decide +kernel
theorem dX4_findStand_38 : decode cX4_findStand 38 = .ok (.imul, 1) := by decide +kernel
theorem dX4_findStand_39 : decode cX4_findStand 39 = .ok (.iload_n 2, 1) := by decide +kernel
theorem dX4_findStand_40 : decode cX4_findStand 40 = .ok (.iload_n 2, 1) := by decide +kernel
theorem dX4_findStand_41 : decode cX4_findStand 41 = .ok (.invokevirtual 42, 3) := by decide +kernel
theorem dX4_findStand_44 : decode cX4_findStand 44 = .ok (.iinc 2 1, 3) := by decide +kernel
theorem dX4_findStand_47 : decode cX4_findStand 47 = .ok (.goto (-33), 3) := by decide +kernel
theorem dX4_findStand_50 : decode cX4_findStand 50 = .ok (.return_, 1) := by decide +kernel
theorem dX4_findTwo_0 : decode cX4_findTwo 0 = .ok (.aload_n 1, 1) := by decide +kernel
theorem dX4_findTwo_1 : decode cX4_findTwo 1 = .ok (.aload_n 0, 1) := by decide +kernel
theorem dX4_findTwo_2 : decode cX4_findTwo 2 = .ok (.getfield 9, 3) := by decide +kernel
theorem dX4_findTwo_5 : decode cX4_findTwo 5 = .ok (.invokevirtual 25, 3) := by decide +kernel
theorem dX4_findTwo_8 : decode cX4_findTwo 8 = .ok (.aload_n 0, 1) := by decide +kernel
theorem dX4_findTwo_9 : decode cX4_findTwo 9 = .ok (.invokevirtual 31, 3) := by decide +kernel
theorem dX4_findTwo_12 : decode cX4_findTwo 12 = .ok (.iconst 0, 1) := by decide +kernel
theorem dX4_findTwo_13 : decode cX4_findTwo 13 = .ok (.istore_n 2, 1) := by decide +kernel
theorem dX4_findTwo_14 : decode cX4_findTwo 14 = .ok (.iload_n 2, 1) := by decide +kernel
theorem dX4_findTwo_15 : decode cX4_findTwo 15 = .ok (.aload_n 1, 1) := by decide +kernel
theorem dX4_findTwo_16 : decode cX4_findTwo 16 = .ok (.getfield 34, 3) := by decide +kernel
theorem dX4_findTwo_19 : decode cX4_findTwo 19 = .ok (.if_icmp .ge 62, 3) := by decide +kernel
theorem dX4_findTwo_22 : decode cX4_findTwo 22 = .ok (.iload_n 2, 1) := by decide +kernel
theorem dX4_findTwo_23 : decode cX4_findTwo 23 = .ok (.iconst 1, 1) := by decide +kernel
theorem dX4_findTwo_24 : decode cX4_findTwo 24 = .ok (.iadd, 1) := by decide +kernel
theorem dX4_findTwo_25 : decode cX4_findTwo 25 = .ok (.istore_n 3, 1) := by decide +kernel
theorem dX4_findTwo_26 : decode cX4_findTwo 26 = .ok (.iload_n 3, 1) := by decide +kernel
theorem dX4_findTwo_27 : decode cX4_findTwo 27 = .ok (.aload_n 1, 1) := by decide +kernel
theorem dX4_findTwo_28 : decode cX4_findTwo 28 = .ok (.getfield 34, 3) := by decide +kernel
theorem dX4_findTwo_31 : decode cX4_findTwo 31 = .ok (.if_icmp .ge 44, 3) := by decide +kernel
theorem dX4_findTwo_34 : decode cX4_findTwo 34 = .ok (.aload_n 1, 1) := by decide +kernel
theorem dX4_findTwo_35 : decode cX4_findTwo 35 = .ok (.iload_n 2, 1) := by decide +kernel
theorem dX4_findTwo_36 : decode cX4_findTwo 36 = .ok (.invokevirtual 38, 3) := by decide +kernel
theorem dX4_findTwo_39 : decode cX4_findTwo 39 = .ok (.ifCond .eq 30, 3) := by decide +kernel
theorem dX4_findTwo_42 : decode cX4_findTwo 42 = .ok (.aload_n 1, 1) := by decide +kernel
theorem dX4_findTwo_43 : decode cX4_findTwo 43 = .ok (.iload_n 3, 1) := by decide +kernel
theorem dX4_findTwo_44 : decode cX4_findTwo 44 = .ok (.invokevirtual 38, 3) := by decide +kernel
theorem dX4_findTwo_47 : decode cX4_findTwo 47 = .ok (.ifCond .eq 22, 3) := by decide +kernel
theorem dX4_findTwo_50 : decode cX4_findTwo 50 = .ok (.aload_n 0, 1) := by decide +kernel
theorem dX4_findTwo_51 : decode cX4_findTwo 51 = .ok (.aload_n 1, 1) := by decide +kernel
theorem dX4_findTwo_52 : decode cX4_findTwo 52 = .ok (.iload_n 2, 1) := by decide +kernel
theorem dX4_findTwo_53 : decode cX4_findTwo 53 = .ok (.iload_n 3, 1) := by decide +kernel
theorem dX4_findTwo_54 : decode cX4_findTwo 54 = .ok (.invokevirtual 46, 3) := by decide +kernel
theorem dX4_findTwo_57 : decode cX4_findTwo 57 = .ok (.aload_n 0, 1) := by decide +kernel
theorem dX4_findTwo_58 : decode cX4_findTwo 58 = .ok (.aload_n 1, 1) := by decide +kernel
theorem dX4_findTwo_59 : decode cX4_findTwo 59 = .ok (.aload_n 0, 1) := by decide +kernel
theorem dX4_findTwo_60 : decode cX4_findTwo 60 = .ok (.getfield 15, 3) := by decide +kernel
theorem dX4_findTwo_63 : decode cX4_findTwo 63 = .ok (.iconst 0, 1) := by decide +kernel
theorem dX4_findTwo_64 : decode cX4_findTwo 64 = .ok (.iload_n 2, 1) := by decide +kernel
theorem dX4_findTwo_65 : decode cX4_findTwo 65 = .ok (.iload_n 3, 1) := by decide +kernel
theorem dX4_findTwo_66 : decode cX4_findTwo 66 = .ok (.invokevirtual 42, 3) := by decide +kernel
theorem dX4_findTwo_69 : decode cX4_findTwo 69 = .ok (.iinc 3 1, 3) := by decide +kernel
theorem dX4_findTwo_72 : decode cX4_findTwo 72 = .ok (.goto (-46), 3) := by decide +kernel
theorem dX4_findTwo_75 : decode cX4_findTwo 75 = .ok (.iinc 2 1, 3) := by decide +kernel
theorem dX4_findTwo_78 : decode cX4_findTwo 78 = .ok (.goto (-64), 3) := by decide +kernel
theorem dX4_findTwo_81 : decode cX4_findTwo 81 = .ok (.return_, 1) := by decide +kernel
theorem dX4_bestSeats_0 : decode cX4_bestSeats 0 = .ok (.aload_n 0, 1) := by decide +kernel
theorem dX4_bestSeats_1 : decode cX4_bestSeats 1 = .ok (.aload_n 1, 1) := by decide +kernel
theorem dX4_bestSeats_2 : decode cX4_bestSeats 2 = .ok (.aload_n 2, 1) := by decide +kernel
theorem dX4_bestSeats_3 : decode cX4_bestSeats 3 = .ok (.invokevirtual 50, 3) := by decide +kernel
theorem dX4_bestSeats_6 : decode cX4_bestSeats 6 = .ok (.iconst 0, 1) := by decide +kernel
theorem dX4_bestSeats_7 : decode cX4_bestSeats 7 = .ok (.istore_n 3, 1) := by decide +kernel
theorem dX4_bestSeats_8 : decode cX4_bestSeats 8 = .ok (.iload_n 3, 1) := by decide +kernel
theorem dX4_bestSeats_9 : decode cX4_bestSeats 9 = .ok (.aload_n 1, 1) := by decide +kernel
theorem dX4_bestSeats_10 : decode cX4_bestSeats 10 = .ok (.getfield 54, 3) := by decide +kernel
theorem dX4_bestSeats_13 : decode cX4_bestSeats 13 = .ok (.if_icmp .ge 117, 3) := by decide +kernel
theorem dX4_bestSeats_16 : decode cX4_bestSeats 16 = .ok (.iload_n 3, 1) := by decide +kernel
theorem dX4_bestSeats_17 : decode cX4_bestSeats 17 = .ok (.iconst 1, 1) := by decide +kernel
theorem dX4_bestSeats_18 : decode cX4_bestSeats 18 = .ok (.iadd, 1) := by decide +kernel
theorem dX4_bestSeats_19 : decode cX4_bestSeats 19 = .ok (.istore 4, 2) := by decide +kernel
theorem dX4_bestSeats_21 : decode cX4_bestSeats 21 = .ok (.iload 4, 2) := by decide +kernel
theorem dX4_bestSeats_23 : decode cX4_bestSeats 23 = .ok (.aload_n 1, 1) := by decide +kernel
theorem dX4_bestSeats_24 : decode cX4_bestSeats 24 = .ok (.getfield 54, 3) := by decide +kernel
theorem dX4_bestSeats_27 : decode cX4_bestSeats 27 = .ok (.if_icmp .ge 79, 3) := by decide +kernel
theorem dX4_bestSeats_30 : decode cX4_bestSeats 30 = .ok (.aload_n 2, 1) := by decide +kernel
theorem dX4_bestSeats_31 : decode cX4_bestSeats 31 = .ok (.getfield 57, 3) := by decide +kernel
theorem dX4_bestSeats_34 : decode cX4_bestSeats 34 = .ok (.iload_n 3, 1) := by decide +kernel
theorem dX4_bestSeats_35 : decode cX4_bestSeats 35 = .ok (.aaload, 1) := by decide +kernel
theorem dX4_bestSeats_36 : decode cX4_bestSeats 36 = .ok (.aload_n 1, 1) := by decide +kernel
theorem dX4_bestSeats_37 : decode cX4_bestSeats 37 = .ok (.getfield 57, 3) := by decide +kernel
theorem dX4_bestSeats_40 : decode cX4_bestSeats 40 = .ok (.iload 4, 2) := by decide +kernel
theorem dX4_bestSeats_42 : decode cX4_bestSeats 42 = .ok (.aaload, 1) := by decide +kernel
theorem dX4_bestSeats_43 : decode cX4_bestSeats 43 = .ok (.getfield 61, 3) := by decide +kernel
theorem dX4_bestSeats_46 : decode cX4_bestSeats 46 = .ok (.putfield 61, 3) := by decide +kernel
theorem dX4_bestSeats_49 : decode cX4_bestSeats 49 = .ok (.aload_n 2, 1) := by decide +kernel
theorem dX4_bestSeats_50 : decode cX4_bestSeats 50 = .ok (.getfield 57, 3) := by decide +kernel
theorem dX4_bestSeats_53 : decode cX4_bestSeats 53 = .ok (.iload 4, 2) := by decide +kernel
theorem dX4_bestSeats_55 : decode cX4_bestSeats 55 = .ok (.aaload, 1) := by decide +kernel
theorem dX4_bestSeats_56 : decode cX4_bestSeats 56 = .ok (.aload_n 1, 1) := by decide +kernel
theorem dX4_bestSeats_57 : decode cX4_bestSeats 57 = .ok (.getfield 57, 3) := by decide +kernel
theorem dX4_bestSeats_60 : decode cX4_bestSeats 60 = .ok (.iload_n 3, 1) := by decide +kernel
theorem dX4_bestSeats_61 : decode cX4_bestSeats 61 = .ok (.aaload, 1) := by decide +kernel
theorem dX4_bestSeats_62 : decode cX4_bestSeats 62 = .ok (.getfield 61, 3) := by decide +kernel
theorem dX4_bestSeats_65 : decode cX4_bestSeats 65 = .ok (.putfield 61, 3) := by decide +kernel
theorem dX4_bestSeats_68 : decode cX4_bestSeats 68 = .ok (.aload_n 0, 1) := by decide +kernel
theorem dX4_bestSeats_69 : decode cX4_bestSeats 69 = .ok (.aload_n 2, 1) := by decide +kernel
theorem dX4_bestSeats_70 : decode cX4_bestSeats 70 = .ok (.bipush 100, 2) := by decide +kernel
theorem dX4_bestSeats_72 : decode cX4_bestSeats 72 = .ok (.iload_n 3, 1) := by decide +kernel
theorem dX4_bestSeats_73 : decode cX4_bestSeats 73 = .ok (.imul, 1) := by decide +kernel
theorem dX4_bestSeats_74 : decode cX4_bestSeats 74 = .ok (.iload 4, 2) := by decide +kernel
theorem dX4_bestSeats_76 : decode cX4_bestSeats 76 = .ok (.iadd, 1) := by decide +kernel
theorem dX4_bestSeats_77 : decode cX4_bestSeats 77 = .ok (.invokevirtual 66, 3) := by decide +kernel
theorem dX4_bestSeats_80 : decode cX4_bestSeats 80 = .ok (.aload_n 2, 1) := by decide +kernel
theorem dX4_bestSeats_81 : decode cX4_bestSeats 81 = .ok (.getfield 57, 3) := by decide +kernel
theorem dX4_bestSeats_84 : decode cX4_bestSeats 84 = .ok (.iload 4, 2) := by decide +kernel
theorem dX4_bestSeats_86 : decode cX4_bestSeats 86 = .ok (.aaload, 1) := by decide +kernel
theorem dX4_bestSeats_87 : decode cX4_bestSeats 87 = .ok (.aload_n 1, 1) := by decide +kernel
theorem dX4_bestSeats_88 : decode cX4_bestSeats 88 = .ok (.getfield 57, 3) := by decide +kernel
theorem dX4_bestSeats_91 : decode cX4_bestSeats 91 = .ok (.iload 4, 2) := by decide +kernel
theorem dX4_bestSeats_93 : decode cX4_bestSeats 93 = .ok (.aaload, 1) := by decide +kernel
theorem dX4_bestSeats_94 : decode cX4_bestSeats 94 = .ok (.getfield 61, 3) := by decide +kernel
theorem dX4_bestSeats_97 : decode cX4_bestSeats 97 = .ok (.putfield 61, 3) := by decide +kernel
theorem dX4_bestSeats_100 : decode cX4_bestSeats 100 = .ok (.iinc 4 1, 3) := by decide +kernel
theorem dX4_bestSeats_103 : decode cX4_bestSeats 103 = .ok (.goto (-82), 3) := by decide +kernel
theorem dX4_bestSeats_106 : decode cX4_bestSeats 106 = .ok (.aload_n 2, 1) := by decide +kernel
theorem dX4_bestSeats_107 : decode cX4_bestSeats 107 = .ok (.getfield 57, 3) := by decide +kernel
theorem dX4_bestSeats_110 : decode cX4_bestSeats 110 = .ok (.iload_n 3, 1) := by decide +kernel
theorem dX4_bestSeats_111 : decode cX4_bestSeats 111 = .ok (.aaload, 1) := by decide +kernel
theorem dX4_bestSeats_112 : decode cX4_bestSeats 112 = .ok (.aload_n 1, 1) := by decide +kernel
theorem dX4_bestSeats_113 : decode cX4_bestSeats 113 = .ok (.getfield 57, 3) := by decide +kernel
theorem dX4_bestSeats_116 : decode cX4_bestSeats 116 = .ok (.iload_n 3, 1) := by decide +kernel
theorem dX4_bestSeats_117 : decode cX4_bestSeats 117 = .ok (.aaload, 1) := by decide +kernel
theorem dX4_bestSeats_118 : decode cX4_bestSeats 118 = .ok (.getfield 61, 3) := by decide +kernel
theorem dX4_bestSeats_121 : decode cX4_bestSeats 121 = .ok (.putfield 61, 3) := by decide +kernel
theorem dX4_bestSeats_124 : decode cX4_bestSeats 124 = .ok (.iinc 3 1, 3) := by decide +kernel
theorem dX4_bestSeats_127 : decode cX4_bestSeats 127 = .ok (.goto (-119), 3) := by decide +kernel
theorem dX4_bestSeats_130 : decode cX4_bestSeats 130 = .ok (.iconst 0, 1) := by decide +kernel
theorem dX4_bestSeats_131 : decode cX4_bestSeats 131 = .ok (.istore_n 3, 1) := by decide +kernel
theorem dX4_bestSeats_132 : decode cX4_bestSeats 132 = .ok (.iload_n 3, 1) := by decide +kernel
theorem dX4_bestSeats_133 : decode cX4_bestSeats 133 = .ok (.aload_n 1, 1) := by decide +kernel
theorem dX4_bestSeats_134 : decode cX4_bestSeats 134 = .ok (.getfield 54, 3) := by decide +kernel
theorem dX4_bestSeats_137 : decode cX4_bestSeats 137 = .ok (.if_icmp .ge 81, 3) := by decide +kernel
theorem dX4_bestSeats_140 : decode cX4_bestSeats 140 = .ok (.iconst 0, 1) := by decide +kernel
theorem dX4_bestSeats_141 : decode cX4_bestSeats 141 = .ok (.istore 4, 2) := by decide +kernel
theorem dX4_bestSeats_143 : decode cX4_bestSeats 143 = .ok (.iload 4, 2) := by decide +kernel
theorem dX4_bestSeats_145 : decode cX4_bestSeats 145 = .ok (.aload_n 1, 1) := by decide +kernel
theorem dX4_bestSeats_146 : decode cX4_bestSeats 146 = .ok (.getfield 34, 3) := by decide +kernel
theorem dX4_bestSeats_149 : decode cX4_bestSeats 149 = .ok (.if_icmp .ge 45, 3) := by decide +kernel
theorem dX4_bestSeats_152 : decode cX4_bestSeats 152 = .ok (.aload_n 1, 1) := by decide +kernel
theorem dX4_bestSeats_153 : decode cX4_bestSeats 153 = .ok (.iload 4, 2) := by decide +kernel
theorem dX4_bestSeats_155 : decode cX4_bestSeats 155 = .ok (.invokevirtual 70, 3) := by decide +kernel
theorem dX4_bestSeats_158 : decode cX4_bestSeats 158 = .ok (.ifCond .eq 30, 3) := by decide +kernel
theorem dX4_bestSeats_161 : decode cX4_bestSeats 161 = .ok (.aload_n 2, 1) := by decide +kernel
theorem dX4_bestSeats_162 : decode cX4_bestSeats 162 = .ok (.getfield 57, 3) := by decide +kernel
theorem dX4_bestSeats_165 : decode cX4_bestSeats 165 = .ok (.iload_n 3, 1) := by decide +kernel
theorem dX4_bestSeats_166 : decode cX4_bestSeats 166 = .ok (.aaload, 1) := by decide +kernel
theorem dX4_bestSeats_167 : decode cX4_bestSeats 167 = .ok (.iload 4, 2) := by decide +kernel
theorem dX4_bestSeats_169 : decode cX4_bestSeats 169 = .ok (.putfield 61, 3) := by decide +kernel
theorem dX4_bestSeats_172 : decode cX4_bestSeats 172 = .ok (.aload_n 0, 1) := by decide +kernel
theorem dX4_bestSeats_173 : decode cX4_bestSeats 173 = .ok (.aload_n 2, 1) := by decide +kernel
theorem dX4_bestSeats_174 : decode cX4_bestSeats 174 = .ok (.sipush 1000, 3) := by decide +kernel
theorem dX4_bestSeats_177 : decode cX4_bestSeats 177 = .ok (.bipush 100, 2) := by decide +kernel
theorem dX4_bestSeats_179 : decode cX4_bestSeats 179 = .ok (.iload_n 3, 1) := by decide +kernel
theorem dX4_bestSeats_180 : decode cX4_bestSeats 180 = .ok (.imul, 1) := by decide +kernel
theorem dX4_bestSeats_181 : decode cX4_bestSeats 181 = .ok (.iadd, 1) := by decide +kernel
theorem dX4_bestSeats_182 : decode cX4_bestSeats 182 = .ok (.iload 4, 2) := by decide +kernel
theorem dX4_bestSeats_184 : decode cX4_bestSeats 184 = .ok (.iadd, 1) := by decide +kernel
theorem dX4_bestSeats_185 : decode cX4_bestSeats 185 = .ok (.invokevirtual 66, 3) := by decide +kernel
theorem dX4_bestSeats_188 : decode cX4_bestSeats 188 = .ok (.iinc 4 1, 3) := by decide +kernel
theorem dX4_bestSeats_191 : decode cX4_bestSeats 191 = .ok (.goto (-48), 3) := by decide +kernel
theorem dX4_bestSeats_194 : decode cX4_bestSeats 194 = .ok (.aload_n 2, 1) := by decide +kernel
theorem dX4_bestSeats_195 : decode cX4_bestSeats 195 = .ok (.getfield 57, 3) := by decide +kernel
theorem dX4_bestSeats_198 : decode cX4_bestSeats 198 = .ok (.iload_n 3, 1) := by decide +kernel
theorem dX4_bestSeats_199 : decode cX4_bestSeats 199 = .ok (.aaload, 1) := by decide +kernel
theorem dX4_bestSeats_200 : decode cX4_bestSeats 200 = .ok (.aload_n 1, 1) := by decide +kernel
theorem dX4_bestSeats_201 : decode cX4_bestSeats 201 = .ok (.getfield 57, 3) := by decide +kernel
theorem dX4_bestSeats_204 : decode cX4_bestSeats 204 = .ok (.iload_n 3, 1) := by decide +kernel
theorem dX4_bestSeats_205 : decode cX4_bestSeats 205 = .ok (.aaload, 1) := by decide +kernel
theorem dX4_bestSeats_206 : decode cX4_bestSeats 206 = .ok (.getfield 61, 3) := by decide +kernel
theorem dX4_bestSeats_209 : decode cX4_bestSeats 209 = .ok (.putfield 61, 3) := by decide +kernel
theorem dX4_bestSeats_212 : decode cX4_bestSeats 212 = .ok (.iinc 3 1, 3) := by decide +kernel
theorem dX4_bestSeats_215 : decode cX4_bestSeats 215 = .ok (.goto (-83), 3) := by decide +kernel
theorem dX4_bestSeats_218 : decode cX4_bestSeats 218 = .ok (.aload_n 0, 1) := by decide +kernel
theorem dX4_bestSeats_219 : decode cX4_bestSeats 219 = .ok (.getfield 73, 3) := by decide +kernel
theorem dX4_bestSeats_222 : decode cX4_bestSeats 222 = .ok (.ireturn, 1) := by decide +kernel
theorem dX4_bestShelf_0 : decode cX4_bestShelf 0 = .ok (.aload_n 0, 1) := by decide +kernel
theorem dX4_bestShelf_1 : decode cX4_bestShelf 1 = .ok (.aload_n 1, 1) := by decide +kernel
theorem dX4_bestShelf_2 : decode cX4_bestShelf 2 = .ok (.aload_n 2, 1) := by decide +kernel
theorem dX4_bestShelf_3 : decode cX4_bestShelf 3 = .ok (.invokevirtual 50, 3) := by decide +kernel
theorem dX4_bestShelf_6 : decode cX4_bestShelf 6 = .ok (.iconst 0, 1) := by decide +kernel
theorem dX4_bestShelf_7 : decode cX4_bestShelf 7 = .ok (.istore_n 3, 1) := by decide +kernel
theorem dX4_bestShelf_8 : decode cX4_bestShelf 8 = .ok (.iload_n 3, 1) := by decide +kernel
theorem dX4_bestShelf_9 : decode cX4_bestShelf 9 = .ok (.aload_n 1, 1) := by decide +kernel
theorem dX4_bestShelf_10 : decode cX4_bestShelf 10 = .ok (.getfield 34, 3) := by decide +kernel
theorem dX4_bestShelf_13 : decode cX4_bestShelf 13 = .ok (.if_icmp .ge 84, 3) := by decide +kernel
theorem dX4_bestShelf_16 : decode cX4_bestShelf 16 = .ok (.iconst 0, 1) := by decide +kernel
theorem dX4_bestShelf_17 : decode cX4_bestShelf 17 = .ok (.istore 4, 2) := by decide +kernel
theorem dX4_bestShelf_19 : decode cX4_bestShelf 19 = .ok (.iload 4, 2) := by decide +kernel
theorem dX4_bestShelf_21 : decode cX4_bestShelf 21 = .ok (.aload_n 1, 1) := by decide +kernel
theorem dX4_bestShelf_22 : decode cX4_bestShelf 22 = .ok (.getfield 34, 3) := by decide +kernel
theorem dX4_bestShelf_25 : decode cX4_bestShelf 25 = .ok (.if_icmp .ge 66, 3) := by decide +kernel
theorem dX4_bestShelf_28 : decode cX4_bestShelf 28 = .ok (.aload_n 1, 1) := by decide +kernel
theorem dX4_bestShelf_29 : decode cX4_bestShelf 29 = .ok (.iload_n 3, 1) := by decide +kernel
theorem dX4_bestShelf_30 : decode cX4_bestShelf 30 = .ok (.invokevirtual 76, 3) := by decide +kernel
theorem dX4_bestShelf_33 : decode cX4_bestShelf 33 = .ok (.ifCond .eq 52, 3) := by decide +kernel
theorem dX4_bestShelf_36 : decode cX4_bestShelf 36 = .ok (.aload_n 1, 1) := by decide +kernel
theorem dX4_bestShelf_37 : decode cX4_bestShelf 37 = .ok (.iload 4, 2) := by decide +kernel
theorem dX4_bestShelf_39 : decode cX4_bestShelf 39 = .ok (.invokevirtual 70, 3) := by decide +kernel
theorem dX4_bestShelf_42 : decode cX4_bestShelf 42 = .ok (.ifCond .eq 43, 3) := by decide +kernel
theorem dX4_bestShelf_45 : decode cX4_bestShelf 45 = .ok (.iload 4, 2) := by decide +kernel
theorem dX4_bestShelf_47 : decode cX4_bestShelf 47 = .ok (.aload_n 1, 1) := by decide +kernel
theorem dX4_bestShelf_48 : decode cX4_bestShelf 48 = .ok (.getfield 79, 3) := by decide +kernel
theorem dX4_bestShelf_51 : decode cX4_bestShelf 51 = .ok (.if_icmp .eq 34, 3) := by decide +kernel
theorem dX4_bestShelf_54 : decode cX4_bestShelf 54 = .ok (.aload_n 2, 1) := by decide +kernel
theorem dX4_bestShelf_55 : decode cX4_bestShelf 55 = .ok (.aload_n 1, 1) := by decide +kernel
theorem dX4_bestShelf_56 : decode cX4_bestShelf 56 = .ok (.getfield 82, 3) := by decide +kernel
theorem dX4_bestShelf_59 : decode cX4_bestShelf 59 = .ok (.iconst 1, 1) := by decide +kernel
theorem dX4_bestShelf_60 : decode cX4_bestShelf 60 = .ok (.iload_n 3, 1) := by decide +kernel
theorem dX4_bestShelf_61 : decode cX4_bestShelf 61 = .ok (.ishl, 1) := by decide +kernel
theorem dX4_bestShelf_62 : decode cX4_bestShelf 62 = .ok (.iconst (-1), 1) := by decide +kernel
theorem dX4_bestShelf_63 : decode cX4_bestShelf 63 = .ok (.ixor, 1) := by decide +kernel
theorem dX4_bestShelf_64 : decode cX4_bestShelf 64 = .ok (.iand, 1) := by decide +kernel
theorem dX4_bestShelf_65 : decode cX4_bestShelf 65 = .ok (.iconst 1, 1) := by decide +kernel
theorem dX4_bestShelf_66 : decode cX4_bestShelf 66 = .ok (.iload 4, 2) := by decide +kernel
theorem dX4_bestShelf_68 : decode cX4_bestShelf 68 = .ok (.ishl, 1) := by decide +kernel
theorem dX4_bestShelf_69 : decode cX4_bestShelf 69 = .ok (.ior, 1) := by decide +kernel
theorem dX4_bestShelf_70 : decode cX4_bestShelf 70 = .ok (.putfield 82, 3) := by decide +kernel
theorem dX4_bestShelf_73 : decode cX4_bestShelf 73 = .ok (.aload_n 0, 1) := by decide +kernel
theorem dX4_bestShelf_74 : decode cX4_bestShelf 74 = .ok (.aload_n 2, 1) := by decide +kernel
theorem dX4_bestShelf_75 : decode cX4_bestShelf 75 = .ok (.bipush 100, 2) := by decide +kernel
theorem dX4_bestShelf_77 : decode cX4_bestShelf 77 = .ok (.iload_n 3, 1) := by decide +kernel
theorem dX4_bestShelf_78 : decode cX4_bestShelf 78 = .ok (.imul, 1) := by decide +kernel
theorem dX4_bestShelf_79 : decode cX4_bestShelf 79 = .ok (.iload 4, 2) := by decide +kernel
theorem dX4_bestShelf_81 : decode cX4_bestShelf 81 = .ok (.iadd, 1) := by decide +kernel
theorem dX4_bestShelf_82 : decode cX4_bestShelf 82 = .ok (.invokevirtual 66, 3) := by decide +kernel
theorem dX4_bestShelf_85 : decode cX4_bestShelf 85 = .ok (.iinc 4 1, 3) := by decide +kernel
theorem dX4_bestShelf_88 : decode cX4_bestShelf 88 = .ok (.goto (-69), 3) := by decide +kernel
theorem dX4_bestShelf_91 : decode cX4_bestShelf 91 = .ok (.iinc 3 1, 3) := by decide +kernel
theorem dX4_bestShelf_94 : decode cX4_bestShelf 94 = .ok (.goto (-86), 3) := by decide +kernel
theorem dX4_bestShelf_97 : decode cX4_bestShelf 97 = .ok (.aload_n 0, 1) := by decide +kernel
theorem dX4_bestShelf_98 : decode cX4_bestShelf 98 = .ok (.getfield 73, 3) := by decide +kernel
theorem dX4_bestShelf_101 : decode cX4_bestShelf 101 = .ok (.ireturn, 1) := by decide +kernel
theorem dX4_forget_0 : decode cX4_forget 0 = .ok (.aload_n 0, 1) := by decide +kernel
theorem dX4_forget_1 : decode cX4_forget 1 = .ok (.iconst (-1), 1) := by decide +kernel
theorem dX4_forget_2 : decode cX4_forget 2 = .ok (.putfield 85, 3) := by decide +kernel
theorem dX4_forget_5 : decode cX4_forget 5 = .ok (.aload_n 0, 1) := by decide +kernel
theorem dX4_forget_6 : decode cX4_forget 6 = .ok (.iconst (-1), 1) := by decide +kernel
theorem dX4_forget_7 : decode cX4_forget 7 = .ok (.putfield 88, 3) := by decide +kernel
theorem dX4_forget_10 : decode cX4_forget 10 = .ok (.aload_n 0, 1) := by decide +kernel
theorem dX4_forget_11 : decode cX4_forget 11 = .ok (.iconst (-1), 1) := by decide +kernel
theorem dX4_forget_12 : decode cX4_forget 12 = .ok (.putfield 91, 3) := by decide +kernel
theorem dX4_forget_15 : decode cX4_forget 15 = .ok (.return_, 1) := by decide +kernel
theorem dX4_beginChanges_0 : decode cX4_beginChanges 0 = .ok (.aload_n 2, 1) := by decide +kernel
theorem dX4_beginChanges_1 : decode cX4_beginChanges 1 = .ok (.aload_n 1, 1) := by decide +kernel
theorem dX4_beginChanges_2 : decode cX4_beginChanges 2 = .ok (.invokevirtual 94, 3) := by decide +kernel
theorem dX4_beginChanges_5 : decode cX4_beginChanges 5 = .ok (.aload_n 0, 1) := by decide +kernel
theorem dX4_beginChanges_6 : decode cX4_beginChanges 6 = .ok (.aload_n 1, 1) := by decide +kernel
theorem dX4_beginChanges_7 : decode cX4_beginChanges 7 = .ok (.invokevirtual 98, 3) := by decide +kernel
theorem dX4_beginChanges_10 : decode cX4_beginChanges 10 = .ok (.aload_n 0, 1) := by decide +kernel
theorem dX4_beginChanges_11 : decode cX4_beginChanges 11 = .ok (.aload_n 0, 1) := by decide +kernel
theorem dX4_beginChanges_12 : decode cX4_beginChanges 12 = .ok (.getfield 85, 3) := by decide +kernel
theorem dX4_beginChanges_15 : decode cX4_beginChanges 15 = .ok (.putfield 101, 3) := by decide +kernel
theorem dX4_beginChanges_18 : decode cX4_beginChanges 18 = .ok (.aload_n 0, 1) := by decide +kernel
theorem dX4_beginChanges_19 : decode cX4_beginChanges 19 = .ok (.iconst (-1), 1) := by decide +kernel
theorem dX4_beginChanges_20 : decode cX4_beginChanges 20 = .ok (.putfield 73, 3) := by decide +kernel
theorem dX4_beginChanges_23 : decode cX4_beginChanges 23 = .ok (.return_, 1) := by decide +kernel
theorem dX4_weighChange_0 : decode cX4_weighChange 0 = .ok (.aload_n 0, 1) := by decide +kernel
theorem dX4_weighChange_1 : decode cX4_weighChange 1 = .ok (.aload_n 1, 1) := by decide +kernel
theorem dX4_weighChange_2 : decode cX4_weighChange 2 = .ok (.invokevirtual 98, 3) := by decide +kernel
theorem dX4_weighChange_5 : decode cX4_weighChange 5 = .ok (.aload_n 0, 1) := by decide +kernel
theorem dX4_weighChange_6 : decode cX4_weighChange 6 = .ok (.getfield 85, 3) := by decide +kernel
theorem dX4_weighChange_9 : decode cX4_weighChange 9 = .ok (.aload_n 0, 1) := by decide +kernel
theorem dX4_weighChange_10 : decode cX4_weighChange 10 = .ok (.getfield 101, 3) := by decide +kernel
theorem dX4_weighChange_13 : decode cX4_weighChange 13 = .ok (.if_icmp .le 16, 3) := by decide +kernel
theorem dX4_weighChange_16 : decode cX4_weighChange 16 = .ok (.aload_n 0, 1) := by decide +kernel
theorem dX4_weighChange_17 : decode cX4_weighChange 17 = .ok (.aload_n 0, 1) := by decide +kernel
theorem dX4_weighChange_18 : decode cX4_weighChange 18 = .ok (.getfield 85, 3) := by decide +kernel
theorem dX4_weighChange_21 : decode cX4_weighChange 21 = .ok (.putfield 101, 3) := by decide +kernel
theorem dX4_weighChange_24 : decode cX4_weighChange 24 = .ok (.aload_n 0, 1) := by decide +kernel
theorem dX4_weighChange_25 : decode cX4_weighChange 25 = .ok (.iload_n 2, 1) := by decide +kernel
theorem dX4_weighChange_26 : decode cX4_weighChange 26 = .ok (.putfield 73, 3) := by decide +kernel
theorem dX4_weighChange_29 : decode cX4_weighChange 29 = .ok (.return_, 1) := by decide +kernel
theorem dX4_weigh_0 : decode cX4_weigh 0 = .ok (.aload_n 1, 1) := by decide +kernel
theorem dX4_weigh_1 : decode cX4_weigh 1 = .ok (.aload_n 2, 1) := by decide +kernel
theorem dX4_weigh_2 : decode cX4_weigh 2 = .ok (.iload_n 3, 1) := by decide +kernel
theorem dX4_weigh_3 : decode cX4_weigh 3 = .ok (.aload_n 1, 1) := by decide +kernel
theorem dX4_weigh_4 : decode cX4_weigh 4 = .ok (.getfield 104, 3) := by decide +kernel
theorem dX4_weigh_7 : decode cX4_weigh 7 = .ok (.aload_n 0, 1) := by decide +kernel
theorem dX4_weigh_8 : decode cX4_weigh 8 = .ok (.getfield 21, 3) := by decide +kernel
theorem dX4_weigh_11 : decode cX4_weigh 11 = .ok (.invokestatic 107, 3) := by decide +kernel
theorem dX4_weigh_14 : decode cX4_weigh 14 = .ok (.pop, 1) := by decide +kernel
theorem dX4_weigh_15 : decode cX4_weigh 15 = .ok (.aload_n 1, 1) := by decide +kernel
theorem dX4_weigh_16 : decode cX4_weigh 16 = .ok (.aload_n 1, 1) := by decide +kernel
theorem dX4_weigh_17 : decode cX4_weigh 17 = .ok (.getfield 104, 3) := by decide +kernel
theorem dX4_weigh_20 : decode cX4_weigh 20 = .ok (.aload_n 0, 1) := by decide +kernel
theorem dX4_weigh_21 : decode cX4_weigh 21 = .ok (.getfield 21, 3) := by decide +kernel
theorem dX4_weigh_24 : decode cX4_weigh 24 = .ok (.invokestatic 111, 3) := by decide +kernel
theorem dX4_weigh_27 : decode cX4_weigh 27 = .ok (.istore 6, 2) := by decide +kernel
theorem dX4_weigh_29 : decode cX4_weigh 29 = .ok (.iload 6, 2) := by decide +kernel
theorem dX4_weigh_31 : decode cX4_weigh 31 = .ok (.aload_n 0, 1) := by decide +kernel
theorem dX4_weigh_32 : decode cX4_weigh 32 = .ok (.getfield 85, 3) := by decide +kernel
theorem dX4_weigh_35 : decode cX4_weigh 35 = .ok (.if_icmp .le 21, 3) := by decide +kernel
theorem dX4_weigh_38 : decode cX4_weigh 38 = .ok (.aload_n 0, 1) := by decide +kernel
theorem dX4_weigh_39 : decode cX4_weigh 39 = .ok (.iload 6, 2) := by decide +kernel
theorem dX4_weigh_41 : decode cX4_weigh 41 = .ok (.putfield 85, 3) := by decide +kernel
theorem dX4_weigh_44 : decode cX4_weigh 44 = .ok (.aload_n 0, 1) := by decide +kernel
theorem dX4_weigh_45 : decode cX4_weigh 45 = .ok (.iload 4, 2) := by decide +kernel
theorem dX4_weigh_47 : decode cX4_weigh 47 = .ok (.putfield 88, 3) := by decide +kernel
theorem dX4_weigh_50 : decode cX4_weigh 50 = .ok (.aload_n 0, 1) := by decide +kernel
theorem dX4_weigh_51 : decode cX4_weigh 51 = .ok (.iload 5, 2) := by decide +kernel
theorem dX4_weigh_53 : decode cX4_weigh 53 = .ok (.putfield 91, 3) := by decide +kernel
theorem dX4_weigh_56 : decode cX4_weigh 56 = .ok (.return_, 1) := by decide +kernel
theorem dX4_joinLights_0 : decode cX4_joinLights 0 = .ok (.iconst 0, 1) := by decide +kernel
theorem dX4_joinLights_1 : decode cX4_joinLights 1 = .ok (.istore 4, 2) := by decide +kernel
theorem dX4_joinLights_3 : decode cX4_joinLights 3 = .ok (.iload 4, 2) := by decide +kernel
theorem dX4_joinLights_5 : decode cX4_joinLights 5 = .ok (.aload_n 1, 1) := by decide +kernel
theorem dX4_joinLights_6 : decode cX4_joinLights 6 = .ok (.getfield 54, 3) := by decide +kernel
theorem dX4_joinLights_9 : decode cX4_joinLights 9 = .ok (.if_icmp .ge 48, 3) := by decide +kernel
theorem dX4_joinLights_12 : decode cX4_joinLights 12 = .ok (.aload_n 0, 1) := by decide +kernel
theorem dX4_joinLights_13 : decode cX4_joinLights 13 = .ok (.getfield 9, 3) := by decide +kernel
theorem dX4_joinLights_16 : decode cX4_joinLights 16 = .ok (.iload_n 2, 1) := by decide +kernel
theorem dX4_joinLights_17 : decode cX4_joinLights 17 = .ok (.iconst 5, 1) := by decide +kernel
theorem dX4_joinLights_18 : decode cX4_joinLights 18 = .ok (.imul, 1) := by decide +kernel
theorem dX4_joinLights_19 : decode cX4_joinLights 19 = .ok (.iload 4, 2) := by decide +kernel
theorem dX4_joinLights_21 : decode cX4_joinLights 21 = .ok (.iadd, 1) := by decide +kernel
theorem dX4_joinLights_22 : decode cX4_joinLights 22 = .ok (.iaload, 1) := by decide +kernel
theorem dX4_joinLights_23 : decode cX4_joinLights 23 = .ok (.aload_n 0, 1) := by decide +kernel
theorem dX4_joinLights_24 : decode cX4_joinLights 24 = .ok (.getfield 9, 3) := by decide +kernel
theorem dX4_joinLights_27 : decode cX4_joinLights 27 = .ok (.iload_n 3, 1) := by decide +kernel
theorem dX4_joinLights_28 : decode cX4_joinLights 28 = .ok (.iconst 5, 1) := by decide +kernel
theorem dX4_joinLights_29 : decode cX4_joinLights 29 = .ok (.imul, 1) := by decide +kernel
theorem dX4_joinLights_30 : decode cX4_joinLights 30 = .ok (.iload 4, 2) := by decide +kernel
theorem dX4_joinLights_32 : decode cX4_joinLights 32 = .ok (.iadd, 1) := by decide +kernel
theorem dX4_joinLights_33 : decode cX4_joinLights 33 = .ok (.iaload, 1) := by decide +kernel
theorem dX4_joinLights_34 : decode cX4_joinLights 34 = .ok (.iadd, 1) := by decide +kernel
theorem dX4_joinLights_35 : decode cX4_joinLights 35 = .ok (.istore 5, 2) := by decide +kernel
theorem dX4_joinLights_37 : decode cX4_joinLights 37 = .ok (.aload_n 0, 1) := by decide +kernel
theorem dX4_joinLights_38 : decode cX4_joinLights 38 = .ok (.getfield 15, 3) := by decide +kernel
theorem dX4_joinLights_41 : decode cX4_joinLights 41 = .ok (.iload 4, 2) := by decide +kernel
theorem dX4_joinLights_43 : decode cX4_joinLights 43 = .ok (.bipush 12, 2) := by decide +kernel
theorem dX4_joinLights_45 : decode cX4_joinLights 45 = .ok (.iload 5, 2) := by decide +kernel
theorem dX4_joinLights_47 : decode cX4_joinLights 47 = .ok (.invokestatic 115, 3) := by decide +kernel
theorem dX4_joinLights_50 : decode cX4_joinLights 50 = .ok (.iastore, 1) := by decide +kernel
theorem dX4_joinLights_51 : decode cX4_joinLights 51 = .ok (.iinc 4 1, 3) := by decide +kernel
theorem dX4_joinLights_54 : decode cX4_joinLights 54 = .ok (.goto (-51), 3) := by decide +kernel
theorem dX4_joinLights_57 : decode cX4_joinLights 57 = .ok (.return_, 1) := by decide +kernel
theorem dX5_init_0 : decode cX5_init 0 = .ok (.aload_n 0, 1) := by decide +kernel
theorem dX5_init_1 : decode cX5_init 1 = .ok (.invokespecial 1, 3) := by decide +kernel
theorem dX5_init_4 : decode cX5_init 4 = .ok (.return_, 1) := by decide +kernel
theorem dX5_become_0 : decode cX5_become 0 = .ok (.aload_n 0, 1) := by decide +kernel
theorem dX5_become_1 : decode cX5_become 1 = .ok (.aload_n 1, 1) := by decide +kernel
theorem dX5_become_2 : decode cX5_become 2 = .ok (.getfield 7, 3) := by decide +kernel
theorem dX5_become_5 : decode cX5_become 5 = .ok (.putfield 7, 3) := by decide +kernel
theorem dX5_become_8 : decode cX5_become 8 = .ok (.aload_n 0, 1) := by decide +kernel
theorem dX5_become_9 : decode cX5_become 9 = .ok (.aload_n 1, 1) := by decide +kernel
theorem dX5_become_10 : decode cX5_become 10 = .ok (.getfield 13, 3) := by decide +kernel
theorem dX5_become_13 : decode cX5_become 13 = .ok (.putfield 13, 3) := by decide +kernel
theorem dX5_become_16 : decode cX5_become 16 = .ok (.aload_n 0, 1) := by decide +kernel
theorem dX5_become_17 : decode cX5_become 17 = .ok (.aload_n 1, 1) := by decide +kernel
theorem dX5_become_18 : decode cX5_become 18 = .ok (.getfield 16, 3) := by decide +kernel
theorem dX5_become_21 : decode cX5_become 21 = .ok (.putfield 16, 3) := by decide +kernel
theorem dX5_become_24 : decode cX5_become 24 = .ok (.aload_n 0, 1) := by decide +kernel
theorem dX5_become_25 : decode cX5_become 25 = .ok (.aload_n 1, 1) := by decide +kernel
theorem dX5_become_26 : decode cX5_become 26 = .ok (.getfield 19, 3) := by decide +kernel
theorem dX5_become_29 : decode cX5_become 29 = .ok (.putfield 19, 3) := by decide +kernel
theorem dX5_become_32 : decode cX5_become 32 = .ok (.aload_n 0, 1) := by decide +kernel
theorem dX5_become_33 : decode cX5_become 33 = .ok (.aload_n 1, 1) := by decide +kernel
theorem dX5_become_34 : decode cX5_become 34 = .ok (.getfield 22, 3) := by decide +kernel
theorem dX5_become_37 : decode cX5_become 37 = .ok (.putfield 22, 3) := by decide +kernel
theorem dX5_become_40 : decode cX5_become 40 = .ok (.aload_n 0, 1) := by decide +kernel
theorem dX5_become_41 : decode cX5_become 41 = .ok (.aload_n 1, 1) := by decide +kernel
theorem dX5_become_42 : decode cX5_become 42 = .ok (.getfield 25, 3) := by decide +kernel
theorem dX5_become_45 : decode cX5_become 45 = .ok (.putfield 25, 3) := by decide +kernel
theorem dX5_become_48 : decode cX5_become 48 = .ok (.return_, 1) := by decide +kernel
theorem dX6_init_0 : decode cX6_init 0 = .ok (.aload_n 0, 1) := by decide +kernel
theorem dX6_init_1 : decode cX6_init 1 = .ok (.invokespecial 3, 3) := by decide +kernel
theorem dX6_init_4 : decode cX6_init 4 = .ok (.aload_n 0, 1) := by decide +kernel
theorem dX6_init_5 : decode cX6_init 5 = .ok (.bipush 6, 2) := by decide +kernel
theorem dX6_init_7 : decode cX6_init 7 = .ok (.newarray .int, 2) := by decide +kernel
theorem dX6_init_9 : decode cX6_init 9 = .ok (.putfield 9, 3) := by decide +kernel
theorem dX6_init_12 : decode cX6_init 12 = .ok (.aload_n 0, 1) := by decide +kernel
theorem dX6_init_13 : decode cX6_init 13 = .ok (.bipush 7, 2) := by decide +kernel
theorem dX6_init_15 : decode cX6_init 15 = .ok (.anewarray 15, 3) := by decide +kernel
theorem dX6_init_18 : decode cX6_init 18 = .ok (.putfield 17, 3) := by decide +kernel
theorem dX6_init_21 : decode cX6_init 21 = .ok (.aload_n 0, 1) := by decide +kernel
theorem dX6_init_22 : decode cX6_init 22 = .ok (.bipush 125, 2) := by decide +kernel
theorem dX6_init_24 : decode cX6_init 24 = .ok (.newarray .int, 2) := by decide +kernel
theorem dX6_init_26 : decode cX6_init 26 = .ok (.putfield 21, 3) := by decide +kernel
theorem dX6_init_29 : decode cX6_init 29 = .ok (.aload_n 0, 1) := by decide +kernel
theorem dX6_init_30 : decode cX6_init 30 = .ok (.bipush 6, 2) := by decide +kernel
theorem dX6_init_32 : decode cX6_init 32 = .ok (.newarray .int, 2) := by decide +kernel
theorem dX6_init_34 : decode cX6_init 34 = .ok (.putfield 24, 3) := by decide +kernel
theorem dX6_init_37 : decode cX6_init 37 = .ok (.iconst 0, 1) := by decide +kernel
theorem dX6_init_38 : decode cX6_init 38 = .ok (.istore_n 1, 1) := by decide +kernel
theorem dX6_init_39 : decode cX6_init 39 = .ok (.iload_n 1, 1) := by decide +kernel
theorem dX6_init_40 : decode cX6_init 40 = .ok (.bipush 6, 2) := by decide +kernel
theorem dX6_init_42 : decode cX6_init 42 = .ok (.if_icmp .gt 22, 3) := by decide +kernel
theorem dX6_init_45 : decode cX6_init 45 = .ok (.aload_n 0, 1) := by decide +kernel
theorem dX6_init_46 : decode cX6_init 46 = .ok (.getfield 17, 3) := by decide +kernel
theorem dX6_init_49 : decode cX6_init 49 = .ok (.iload_n 1, 1) := by decide +kernel
theorem dX6_init_50 : decode cX6_init 50 = .ok (.new 15, 3) := by decide +kernel
theorem dX6_init_53 : decode cX6_init 53 = .ok (.dup, 1) := by decide +kernel
theorem dX6_init_54 : decode cX6_init 54 = .ok (.invokespecial 27, 3) := by decide +kernel
theorem dX6_init_57 : decode cX6_init 57 = .ok (.aastore, 1) := by decide +kernel
theorem dX6_init_58 : decode cX6_init 58 = .ok (.iinc 1 1, 3) := by decide +kernel
theorem dX6_init_61 : decode cX6_init 61 = .ok (.goto (-22), 3) := by decide +kernel
theorem dX6_init_64 : decode cX6_init 64 = .ok (.return_, 1) := by decide +kernel
theorem dX6_findBest_0 : decode cX6_findBest 0 = .ok (.aload_n 1, 1) := by decide +kernel
theorem dX6_findBest_1 : decode cX6_findBest 1 = .ok (.aload_n 0, 1) := by decide +kernel
theorem dX6_findBest_2 : decode cX6_findBest 2 = .ok (.getfield 21, 3) := by decide +kernel
theorem dX6_findBest_5 : decode cX6_findBest 5 = .ok (.invokevirtual 28, 3) := by decide +kernel
theorem dX6_findBest_8 : decode cX6_findBest 8 = .ok (.aload_n 0, 1) := by decide +kernel
theorem dX6_findBest_9 : decode cX6_findBest 9 = .ok (.getfield 17, 3) := by decide +kernel
theorem dX6_findBest_12 : decode cX6_findBest 12 = .ok (.iconst 0, 1) := by decide +kernel
theorem dX6_findBest_13 : decode cX6_findBest 13 = .ok (.aaload, 1) := by decide +kernel
theorem dX6_findBest_14 : decode cX6_findBest 14 = .ok (.aload_n 1, 1) := by decide +kernel
theorem dX6_findBest_15 : decode cX6_findBest 15 = .ok (.getfield 34, 3) := by decide +kernel
theorem dX6_findBest_18 : decode cX6_findBest 18 = .ok (.invokevirtual 37, 3) := by decide +kernel
theorem dX6_findBest_21 : decode cX6_findBest 21 = .ok (.aload_n 0, 1) := by decide +kernel
theorem dX6_findBest_22 : decode cX6_findBest 22 = .ok (.iload_n 2, 1) := by decide +kernel
theorem dX6_findBest_23 : decode cX6_findBest 23 = .ok (.bipush 6, 2) := by decide +kernel
theorem dX6_findBest_25 : decode cX6_findBest 25 = .ok (.invokestatic 41, 3) := by decide +kernel
theorem dX6_findBest_28 : decode cX6_findBest 28 = .ok (.putfield 47, 3) := by decide +kernel
theorem dX6_findBest_31 : decode cX6_findBest 31 = .ok (.aload_n 0, 1) := by decide +kernel
theorem dX6_findBest_32 : decode cX6_findBest 32 = .ok (.iload_n 3, 1) := by decide +kernel
theorem dX6_findBest_33 : decode cX6_findBest 33 = .ok (.putfield 51, 3) := by decide +kernel
theorem dX6_findBest_36 : decode cX6_findBest 36 = .ok (.aload_n 0, 1) := by decide +kernel
theorem dX6_findBest_37 : decode cX6_findBest 37 = .ok (.iconst (-1), 1) := by decide +kernel
theorem dX6_findBest_38 : decode cX6_findBest 38 = .ok (.putfield 54, 3) := by decide +kernel
theorem dX6_findBest_41 : decode cX6_findBest 41 = .ok (.aload_n 0, 1) := by decide +kernel
theorem dX6_findBest_42 : decode cX6_findBest 42 = .ok (.aload_n 1, 1) := by decide +kernel
theorem dX6_findBest_43 : decode cX6_findBest 43 = .ok (.iconst 0, 1) := by decide +kernel
theorem dX6_findBest_44 : decode cX6_findBest 44 = .ok (.aload_n 1, 1) := by decide +kernel
theorem dX6_findBest_45 : decode cX6_findBest 45 = .ok (.getfield 57, 3) := by decide +kernel
theorem dX6_findBest_48 : decode cX6_findBest 48 = .ok (.iconst 0, 1) := by decide +kernel
theorem dX6_findBest_49 : decode cX6_findBest 49 = .ok (.invokevirtual 60, 3) := by decide +kernel
theorem dX6_findBest_52 : decode cX6_findBest 52 = .ok (.return_, 1) := by decide +kernel
theorem dX6_findBeen_0 : decode cX6_findBeen 0 = .ok (.aload_n 1, 1) := by decide +kernel
theorem dX6_findBeen_1 : decode cX6_findBeen 1 = .ok (.aload_n 0, 1) := by decide +kernel
theorem dX6_findBeen_2 : decode cX6_findBeen 2 = .ok (.getfield 21, 3) := by decide +kernel
theorem dX6_findBeen_5 : decode cX6_findBeen 5 = .ok (.invokevirtual 28, 3) := by decide +kernel
theorem dX6_findBeen_8 : decode cX6_findBeen 8 = .ok (.iconst 0, 1) := by decide +kernel
theorem dX6_findBeen_9 : decode cX6_findBeen 9 = .ok (.istore 4, 2) := by decide +kernel
theorem dX6_findBeen_11 : decode cX6_findBeen 11 = .ok (.iload 4, 2) := by decide +kernel
theorem dX6_findBeen_13 : decode cX6_findBeen 13 = .ok (.aload_n 1, 1) := by decide +kernel
theorem dX6_findBeen_14 : decode cX6_findBeen 14 = .ok (.getfield 64, 3) := by decide +kernel
theorem dX6_findBeen_17 : decode cX6_findBeen 17 = .ok (.if_icmp .ge 31, 3) := by decide +kernel
theorem dX6_findBeen_20 : decode cX6_findBeen 20 = .ok (.aload_n 0, 1) := by decide +kernel
theorem dX6_findBeen_21 : decode cX6_findBeen 21 = .ok (.getfield 17, 3) := by decide +kernel
theorem dX6_findBeen_24 : decode cX6_findBeen 24 = .ok (.iconst 0, 1) := by decide +kernel
theorem dX6_findBeen_25 : decode cX6_findBeen 25 = .ok (.aaload, 1) := by decide +kernel
theorem dX6_findBeen_26 : decode cX6_findBeen 26 = .ok (.getfield 67, 3) := by decide +kernel
theorem dX6_findBeen_29 : decode cX6_findBeen 29 = .ok (.iload 4, 2) := by decide +kernel
theorem dX6_findBeen_31 : decode cX6_findBeen 31 = .ok (.aload_n 1, 1) := by decide +kernel
theorem dX6_findBeen_32 : decode cX6_findBeen 32 = .ok (.getfield 70, 3) := by decide +kernel
theorem dX6_findBeen_35 : decode cX6_findBeen 35 = .ok (.iload 4, 2) := by decide +kernel
theorem dX6_findBeen_37 : decode cX6_findBeen 37 = .ok (.aaload, 1) := by decide +kernel
theorem dX6_findBeen_38 : decode cX6_findBeen 38 = .ok (.getfield 74, 3) := by decide +kernel
theorem dX6_findBeen_41 : decode cX6_findBeen 41 = .ok (.iastore, 1) := by decide +kernel
theorem dX6_findBeen_42 : decode cX6_findBeen 42 = .ok (.iinc 4 1, 3) := by decide +kernel
theorem dX6_findBeen_45 : decode cX6_findBeen 45 = .ok (.goto (-34), 3) := by decide +kernel
theorem dX6_findBeen_48 : decode cX6_findBeen 48 = .ok (.aload_n 0, 1) := by decide +kernel
theorem dX6_findBeen_49 : decode cX6_findBeen 49 = .ok (.getfield 17, 3) := by decide +kernel
theorem dX6_findBeen_52 : decode cX6_findBeen 52 = .ok (.iconst 0, 1) := by decide +kernel
theorem dX6_findBeen_53 : decode cX6_findBeen 53 = .ok (.aaload, 1) := by decide +kernel
theorem dX6_findBeen_54 : decode cX6_findBeen 54 = .ok (.iconst 0, 1) := by decide +kernel
theorem dX6_findBeen_55 : decode cX6_findBeen 55 = .ok (.putfield 79, 3) := by decide +kernel
theorem dX6_findBeen_58 : decode cX6_findBeen 58 = .ok (.aload_n 0, 1) := by decide +kernel
theorem dX6_findBeen_59 : decode cX6_findBeen 59 = .ok (.iload_n 3, 1) := by decide +kernel
theorem dX6_findBeen_60 : decode cX6_findBeen 60 = .ok (.bipush 6, 2) := by decide +kernel
theorem dX6_findBeen_62 : decode cX6_findBeen 62 = .ok (.invokestatic 41, 3) := by decide +kernel
theorem dX6_findBeen_65 : decode cX6_findBeen 65 = .ok (.putfield 47, 3) := by decide +kernel
theorem dX6_findBeen_68 : decode cX6_findBeen 68 = .ok (.aload_n 0, 1) := by decide +kernel
theorem dX6_findBeen_69 : decode cX6_findBeen 69 = .ok (.iconst 0, 1) := by decide +kernel
theorem dX6_findBeen_70 : decode cX6_findBeen 70 = .ok (.putfield 82, 3) := by decide +kernel
theorem dX6_findBeen_73 : decode cX6_findBeen 73 = .ok (.aload_n 0, 1) := by decide +kernel
theorem dX6_findBeen_74 : decode cX6_findBeen 74 = .ok (.iconst 0, 1) := by decide +kernel
theorem dX6_findBeen_75 : decode cX6_findBeen 75 = .ok (.putfield 85, 3) := by decide +kernel
theorem dX6_findBeen_78 : decode cX6_findBeen 78 = .ok (.aload_n 0, 1) := by decide +kernel
theorem dX6_findBeen_79 : decode cX6_findBeen 79 = .ok (.aload_n 1, 1) := by decide +kernel
theorem dX6_findBeen_80 : decode cX6_findBeen 80 = .ok (.iconst 0, 1) := by decide +kernel
theorem dX6_findBeen_81 : decode cX6_findBeen 81 = .ok (.iload_n 2, 1) := by decide +kernel
theorem dX6_findBeen_82 : decode cX6_findBeen 82 = .ok (.invokevirtual 88, 3) := by decide +kernel
theorem dX6_findBeen_85 : decode cX6_findBeen 85 = .ok (.return_, 1) := by decide +kernel
theorem dX6_goForWorth_0 : decode cX6_goForWorth 0 = .ok (.aload_n 0, 1) := by decide +kernel
theorem dX6_goForWorth_1 : decode cX6_goForWorth 1 = .ok (.aload_n 1, 1) := by decide +kernel
theorem dX6_goForWorth_2 : decode cX6_goForWorth 2 = .ok (.iload_n 2, 1) := by decide +kernel
theorem dX6_goForWorth_3 : decode cX6_goForWorth 3 = .ok (.iload 4, 2) := by decide +kernel
theorem dX6_goForWorth_5 : decode cX6_goForWorth 5 = .ok (.invokevirtual 92, 3) := by decide +kernel
theorem dX6_goForWorth_8 : decode cX6_goForWorth 8 = .ok (.ifCond .ne 4, 3) := by decide +kernel
theorem dX6_goForWorth_11 : decode cX6_goForWorth 11 = .ok (.return_, 1) := by decide +kernel
theorem dX6_goForWorth_12 : decode cX6_goForWorth 12 = .ok (.iload_n 2, 1) := by decide +kernel
theorem dX6_goForWorth_13 : decode cX6_goForWorth 13 = .ok (.aload_n 0, 1) := by decide +kernel
theorem dX6_goForWorth_14 : decode cX6_goForWorth 14 = .ok (.getfield 47, 3) := by decide +kernel
theorem dX6_goForWorth_17 : decode cX6_goForWorth 17 = .ok (.if_icmp .lt 25, 3) := by decide +kernel
theorem dX6_goForWorth_20 : decode cX6_goForWorth 20 = .ok (.aload_n 0, 1) := by decide +kernel
theorem dX6_goForWorth_21 : decode cX6_goForWorth 21 = .ok (.iload 4, 2) := by decide +kernel
theorem dX6_goForWorth_23 : decode cX6_goForWorth 23 = .ok (.putfield 54, 3) := by decide +kernel
theorem dX6_goForWorth_26 : decode cX6_goForWorth 26 = .ok (.aload_n 0, 1) := by decide +kernel
theorem dX6_goForWorth_27 : decode cX6_goForWorth 27 = .ok (.getfield 24, 3) := by decide +kernel
theorem dX6_goForWorth_30 : decode cX6_goForWorth 30 = .ok (.iconst 0, 1) := by decide +kernel
theorem dX6_goForWorth_31 : decode cX6_goForWorth 31 = .ok (.aload_n 0, 1) := by decide +kernel
theorem dX6_goForWorth_32 : decode cX6_goForWorth 32 = .ok (.getfield 9, 3) := by decide +kernel
theorem dX6_goForWorth_35 : decode cX6_goForWorth 35 = .ok (.iconst 0, 1) := by decide +kernel
theorem dX6_goForWorth_36 : decode cX6_goForWorth 36 = .ok (.bipush 6, 2) := by decide +kernel
theorem dX6_goForWorth_38 : decode cX6_goForWorth 38 = .ok (.invokestatic 96, 3) := by decide +kernel
theorem dX6_goForWorth_41 : decode cX6_goForWorth 41 = .ok (.return_, 1) := by decide +kernel
theorem dX6_goForWorth_42 : decode cX6_goForWorth 42 = .ok (.iconst 0, 1) := by decide +kernel
theorem dX6_goForWorth_43 : decode cX6_goForWorth 43 = .ok (.istore 5, 2) := by decide +kernel
theorem dX6_goForWorth_45 : decode cX6_goForWorth 45 = .ok (.iload 5, 2) := by decide +kernel
theorem dX6_goForWorth_47 : decode cX6_goForWorth 47 = .ok (.iconst 5, 1) := by decide +kernel
theorem dX6_goForWorth_48 : decode cX6_goForWorth 48 = .ok (.if_icmp .ge 67, 3) := by decide +kernel
theorem dX6_goForWorth_51 : decode cX6_goForWorth 51 = .ok (.aload_n 1, 1) := by decide +kernel
theorem dX6_goForWorth_52 : decode cX6_goForWorth 52 = .ok (.iload_n 3, 1) := by decide +kernel
theorem dX6_goForWorth_53 : decode cX6_goForWorth 53 = .ok (.iload 5, 2) := by decide +kernel
theorem dX6_goForWorth_55 : decode cX6_goForWorth 55 = .ok (.invokevirtual 102, 3) := by decide +kernel
theorem dX6_goForWorth_58 : decode cX6_goForWorth 58 = .ok (.istore 6, 2) := by decide +kernel
theorem dX6_goForWorth_60 : decode cX6_goForWorth 60 = .ok (.iload 6, 2) := by decide +kernel
theorem dX6_goForWorth_62 : decode cX6_goForWorth 62 = .ok (.iconst (-1), 1) := by decide +kernel
theorem dX6_goForWorth_63 : decode cX6_goForWorth 63 = .ok (.if_icmp .eq 46, 3) := by decide +kernel
theorem dX6_goForWorth_66 : decode cX6_goForWorth 66 = .ok (.aload_n 0, 1) := by decide +kernel
theorem dX6_goForWorth_67 : decode cX6_goForWorth 67 = .ok (.aload_n 1, 1) := by decide +kernel
theorem dX6_goForWorth_68 : decode cX6_goForWorth 68 = .ok (.iload_n 2, 1) := by decide +kernel
theorem dX6_goForWorth_69 : decode cX6_goForWorth 69 = .ok (.iload 6, 2) := by decide +kernel
theorem dX6_goForWorth_71 : decode cX6_goForWorth 71 = .ok (.invokevirtual 105, 3) := by decide +kernel
theorem dX6_goForWorth_74 : decode cX6_goForWorth 74 = .ok (.aload_n 1, 1) := by decide +kernel
theorem dX6_goForWorth_75 : decode cX6_goForWorth 75 = .ok (.aload_n 0, 1) := by decide +kernel
theorem dX6_goForWorth_76 : decode cX6_goForWorth 76 = .ok (.getfield 17, 3) := by decide +kernel
theorem dX6_goForWorth_79 : decode cX6_goForWorth 79 = .ok (.iload_n 2, 1) := by decide +kernel
theorem dX6_goForWorth_80 : decode cX6_goForWorth 80 = .ok (.aaload, 1) := by decide +kernel
theorem dX6_goForWorth_81 : decode cX6_goForWorth 81 = .ok (.aload_n 0, 1) := by decide +kernel
theorem dX6_goForWorth_82 : decode cX6_goForWorth 82 = .ok (.getfield 17, 3) := by decide +kernel
theorem dX6_goForWorth_85 : decode cX6_goForWorth 85 = .ok (.iload_n 2, 1) := by decide +kernel
theorem dX6_goForWorth_86 : decode cX6_goForWorth 86 = .ok (.iconst 1, 1) := by decide +kernel
theorem dX6_goForWorth_87 : decode cX6_goForWorth 87 = .ok (.iadd, 1) := by decide +kernel
theorem dX6_goForWorth_88 : decode cX6_goForWorth 88 = .ok (.aaload, 1) := by decide +kernel
theorem dX6_goForWorth_89 : decode cX6_goForWorth 89 = .ok (.invokestatic 108, 3) := by decide +kernel
theorem dX6_goForWorth_92 : decode cX6_goForWorth 92 = .ok (.istore 7, 2) := by decide +kernel
theorem dX6_goForWorth_94 : decode cX6_goForWorth 94 = .ok (.aload_n 0, 1) := by decide +kernel
theorem dX6_goForWorth_95 : decode cX6_goForWorth 95 = .ok (.aload_n 1, 1) := by decide +kernel
theorem dX6_goForWorth_96 : decode cX6_goForWorth 96 = .ok (.iload_n 2, 1) := by decide +kernel
theorem dX6_goForWorth_97 : decode cX6_goForWorth 97 = .ok (.iconst 1, 1) := by decide +kernel
theorem dX6_goForWorth_98 : decode cX6_goForWorth 98 = .ok (.iadd, 1) := by decide +kernel
theorem dX6_goForWorth_99 : decode cX6_goForWorth 99 = .ok (.iload 6, 2) := by decide +kernel
theorem dX6_goForWorth_101 : decode cX6_goForWorth 101 = .ok (.iload 4, 2) := by decide +kernel
theorem dX6_goForWorth_103 : decode cX6_goForWorth 103 = .ok (.iload 7, 2) := by decide +kernel
theorem dX6_goForWorth_105 : decode cX6_goForWorth 105 = .ok (.iadd, 1) := by decide +kernel
theorem dX6_goForWorth_106 : decode cX6_goForWorth 106 = .ok (.invokevirtual 60, 3) := by decide +kernel
theorem dX6_goForWorth_109 : decode cX6_goForWorth 109 = .ok (.iinc 5 1, 3) := by decide +kernel
theorem dX6_goForWorth_112 : decode cX6_goForWorth 112 = .ok (.goto (-67), 3) := by decide +kernel
theorem dX6_goForWorth_115 : decode cX6_goForWorth 115 = .ok (.return_, 1) := by decide +kernel
theorem dX6_goForTold_0 : decode cX6_goForTold 0 = .ok (.aload_n 0, 1) := by decide +kernel
theorem dX6_goForTold_1 : decode cX6_goForTold 1 = .ok (.aload_n 1, 1) := by decide +kernel
theorem dX6_goForTold_2 : decode cX6_goForTold 2 = .ok (.iload_n 2, 1) := by decide +kernel
theorem dX6_goForTold_3 : decode cX6_goForTold 3 = .ok (.invokevirtual 112, 3) := by decide +kernel
theorem dX6_goForTold_6 : decode cX6_goForTold 6 = .ok (.ifCond .ne 4, 3) := by decide +kernel
theorem dX6_goForTold_9 : decode cX6_goForTold 9 = .ok (.return_, 1) := by decide +kernel
theorem dX6_goForTold_10 : decode cX6_goForTold 10 = .ok (.iload_n 2, 1) := by decide +kernel
theorem dX6_goForTold_11 : decode cX6_goForTold 11 = .ok (.aload_n 0, 1) := by decide +kernel
theorem dX6_goForTold_12 : decode cX6_goForTold 12 = .ok (.getfield 47, 3) := by decide +kernel
theorem dX6_goForTold_15 : decode cX6_goForTold 15 = .ok (.if_icmp .lt 26, 3) := by decide +kernel
theorem dX6_goForTold_18 : decode cX6_goForTold 18 = .ok (.aload_n 0, 1) := by decide +kernel
theorem dX6_goForTold_19 : decode cX6_goForTold 19 = .ok (.dup, 1) := by decide +kernel
theorem dX6_goForTold_20 : decode cX6_goForTold 20 = .ok (.getfield 82, 3) := by decide +kernel
theorem dX6_goForTold_23 : decode cX6_goForTold 23 = .ok (.iconst 1, 1) := by decide +kernel
theorem dX6_goForTold_24 : decode cX6_goForTold 24 = .ok (.iadd, 1) := by decide +kernel
theorem dX6_goForTold_25 : decode cX6_goForTold 25 = .ok (.putfield 82, 3) := by decide +kernel
theorem dX6_goForTold_28 : decode cX6_goForTold 28 = .ok (.aload_n 0, 1) := by decide +kernel
theorem dX6_goForTold_29 : decode cX6_goForTold 29 = .ok (.dup, 1) := by decide +kernel
theorem dX6_goForTold_30 : decode cX6_goForTold 30 = .ok (.getfield 85, 3) := by decide +kernel
theorem dX6_goForTold_33 : decode cX6_goForTold 33 = .ok (.iconst 1, 1) := by decide +kernel
theorem dX6_goForTold_34 : decode cX6_goForTold 34 = .ok (.iload_n 3, 1) := by decide +kernel
theorem dX6_goForTold_35 : decode cX6_goForTold 35 = .ok (.ishl, 1) := by decide +kernel
theorem dX6_goForTold_36 : decode cX6_goForTold 36 = .ok (.ior, 1) := by decide +kernel
theorem dX6_goForTold_37 : decode cX6_goForTold 37 = .ok (.putfield 85, 3) := by decide +kernel
theorem dX6_goForTold_40 : decode cX6_goForTold 40 = .ok (.return_, 1) := by decide +kernel
theorem dX6_goForTold_41 : decode cX6_goForTold 41 = .ok (.iconst 0, 1) := by decide +kernel
theorem dX6_goForTold_42 : decode cX6_goForTold 42 = .ok (.istore 4, 2) := by decide +kernel
theorem dX6_goForTold_44 : decode cX6_goForTold 44 = .ok (.iload 4, 2) := by decide +kernel
theorem dX6_goForTold_46 : decode cX6_goForTold 46 = .ok (.iconst 5, 1) := by decide +kernel
theorem dX6_goForTold_47 : decode cX6_goForTold 47 = .ok (.if_icmp .ge 42, 3) := by decide +kernel
theorem dX6_goForTold_50 : decode cX6_goForTold 50 = .ok (.aload_n 1, 1) := by decide +kernel
theorem dX6_goForTold_51 : decode cX6_goForTold 51 = .ok (.iload_n 3, 1) := by decide +kernel
theorem dX6_goForTold_52 : decode cX6_goForTold 52 = .ok (.iload 4, 2) := by decide +kernel
theorem dX6_goForTold_54 : decode cX6_goForTold 54 = .ok (.invokevirtual 102, 3) := by decide +kernel
theorem dX6_goForTold_57 : decode cX6_goForTold 57 = .ok (.istore 5, 2) := by decide +kernel
theorem dX6_goForTold_59 : decode cX6_goForTold 59 = .ok (.iload 5, 2) := by decide +kernel
theorem dX6_goForTold_61 : decode cX6_goForTold 61 = .ok (.iconst (-1), 1) := by decide +kernel
theorem dX6_goForTold_62 : decode cX6_goForTold 62 = .ok (.if_icmp .eq 21, 3) := by decide +kernel
theorem dX6_goForTold_65 : decode cX6_goForTold 65 = .ok (.aload_n 0, 1) := by decide +kernel
theorem dX6_goForTold_66 : decode cX6_goForTold 66 = .ok (.aload_n 1, 1) := by decide +kernel
theorem dX6_goForTold_67 : decode cX6_goForTold 67 = .ok (.iload_n 2, 1) := by decide +kernel
theorem dX6_goForTold_68 : decode cX6_goForTold 68 = .ok (.iload 5, 2) := by decide +kernel
theorem dX6_goForTold_70 : decode cX6_goForTold 70 = .ok (.invokevirtual 105, 3) := by decide +kernel
theorem dX6_goForTold_73 : decode cX6_goForTold 73 = .ok (.aload_n 0, 1) := by decide +kernel
theorem dX6_goForTold_74 : decode cX6_goForTold 74 = .ok (.aload_n 1, 1) := by decide +kernel
theorem dX6_goForTold_75 : decode cX6_goForTold 75 = .ok (.iload_n 2, 1) := by decide +kernel
theorem dX6_goForTold_76 : decode cX6_goForTold 76 = .ok (.iconst 1, 1) := by decide +kernel
theorem dX6_goForTold_77 : decode cX6_goForTold 77 = .ok (.iadd, 1) := by decide +kernel
theorem dX6_goForTold_78 : decode cX6_goForTold 78 = .ok (.iload 5, 2) := by decide +kernel
theorem dX6_goForTold_80 : decode cX6_goForTold 80 = .ok (.invokevirtual 88, 3) := by decide +kernel
theorem dX6_goForTold_83 : decode cX6_goForTold 83 = .ok (.iinc 4 1, 3) := by decide +kernel
theorem dX6_goForTold_86 : decode cX6_goForTold 86 = .ok (.goto (-42), 3) := by decide +kernel
theorem dX6_goForTold_89 : decode cX6_goForTold 89 = .ok (.return_, 1) := by decide +kernel
theorem dX6_goMinute_0 : decode cX6_goMinute 0 = .ok (.aload_n 0, 1) := by decide +kernel
theorem dX6_goMinute_1 : decode cX6_goMinute 1 = .ok (.getfield 24, 3) := by decide +kernel
theorem dX6_goMinute_4 : decode cX6_goMinute 4 = .ok (.iload_n 2, 1) := by decide +kernel
theorem dX6_goMinute_5 : decode cX6_goMinute 5 = .ok (.iload_n 3, 1) := by decide +kernel
theorem dX6_goMinute_6 : decode cX6_goMinute 6 = .ok (.iastore, 1) := by decide +kernel
theorem dX6_goMinute_7 : decode cX6_goMinute 7 = .ok (.aload_n 1, 1) := by decide +kernel
theorem dX6_goMinute_8 : decode cX6_goMinute 8 = .ok (.aload_n 0, 1) := by decide +kernel
theorem dX6_goMinute_9 : decode cX6_goMinute 9 = .ok (.getfield 21, 3) := by decide +kernel
theorem dX6_goMinute_12 : decode cX6_goMinute 12 = .ok (.iload_n 3, 1) := by decide +kernel
theorem dX6_goMinute_13 : decode cX6_goMinute 13 = .ok (.iconst 5, 1) := by decide +kernel
theorem dX6_goMinute_14 : decode cX6_goMinute 14 = .ok (.imul, 1) := by decide +kernel
theorem dX6_goMinute_15 : decode cX6_goMinute 15 = .ok (.aload_n 0, 1) := by decide +kernel
theorem dX6_goMinute_16 : decode cX6_goMinute 16 = .ok (.getfield 17, 3) := by decide +kernel
theorem dX6_goMinute_19 : decode cX6_goMinute 19 = .ok (.iload_n 2, 1) := by decide +kernel
theorem dX6_goMinute_20 : decode cX6_goMinute 20 = .ok (.aaload, 1) := by decide +kernel
theorem dX6_goMinute_21 : decode cX6_goMinute 21 = .ok (.aload_n 0, 1) := by decide +kernel
theorem dX6_goMinute_22 : decode cX6_goMinute 22 = .ok (.getfield 17, 3) := by decide +kernel
theorem dX6_goMinute_25 : decode cX6_goMinute 25 = .ok (.iload_n 2, 1) := by decide +kernel
theorem dX6_goMinute_26 : decode cX6_goMinute 26 = .ok (.iconst 1, 1) := by decide +kernel
theorem dX6_goMinute_27 : decode cX6_goMinute 27 = .ok (.iadd, 1) := by decide +kernel
theorem dX6_goMinute_28 : decode cX6_goMinute 28 = .ok (.aaload, 1) := by decide +kernel
theorem dX6_goMinute_29 : decode cX6_goMinute 29 = .ok (.invokestatic 116, 3) := by decide +kernel
theorem dX6_goMinute_32 : decode cX6_goMinute 32 = .ok (.pop, 1) := by decide +kernel
theorem dX6_goMinute_33 : decode cX6_goMinute 33 = .ok (.return_, 1) := by decide +kernel
theorem dX6_mayBeBest_0 : decode cX6_mayBeBest 0 = .ok (.iload_n 3, 1) := by decide +kernel
theorem dX6_mayBeBest_1 : decode cX6_mayBeBest 1 = .ok (.istore 4, 2) := by decide +kernel
theorem dX6_mayBeBest_3 : decode cX6_mayBeBest 3 = .ok (.iconst 0, 1) := by decide +kernel
theorem dX6_mayBeBest_4 : decode cX6_mayBeBest 4 = .ok (.istore 5, 2) := by decide +kernel
theorem dX6_mayBeBest_6 : decode cX6_mayBeBest 6 = .ok (.iload 5, 2) := by decide +kernel
theorem dX6_mayBeBest_8 : decode cX6_mayBeBest 8 = .ok (.aload_n 1, 1) := by decide +kernel
theorem dX6_mayBeBest_9 : decode cX6_mayBeBest 9 = .ok (.getfield 64, 3) := by decide +kernel
theorem dX6_mayBeBest_12 : decode cX6_mayBeBest 12 = .ok (.if_icmp .ge 69, 3) := by decide +kernel
theorem dX6_mayBeBest_15 : decode cX6_mayBeBest 15 = .ok (.aload_n 0, 1) := by decide +kernel
theorem dX6_mayBeBest_16 : decode cX6_mayBeBest 16 = .ok (.aload_n 1, 1) := by decide +kernel
theorem dX6_mayBeBest_17 : decode cX6_mayBeBest 17 = .ok (.iload_n 2, 1) := by decide +kernel
theorem dX6_mayBeBest_18 : decode cX6_mayBeBest 18 = .ok (.iload 5, 2) := by decide +kernel
theorem dX6_mayBeBest_20 : decode cX6_mayBeBest 20 = .ok (.invokevirtual 120, 3) := by decide +kernel
theorem dX6_mayBeBest_23 : decode cX6_mayBeBest 23 = .ok (.istore 6, 2) := by decide +kernel
theorem dX6_mayBeBest_25 : decode cX6_mayBeBest 25 = .ok (.aload_n 0, 1) := by decide +kernel
theorem dX6_mayBeBest_26 : decode cX6_mayBeBest 26 = .ok (.getfield 51, 3) := by decide +kernel
theorem dX6_mayBeBest_29 : decode cX6_mayBeBest 29 = .ok (.iload 5, 2) := by decide +kernel
theorem dX6_mayBeBest_31 : decode cX6_mayBeBest 31 = .ok (.ishr, 1) := by decide +kernel
theorem dX6_mayBeBest_32 : decode cX6_mayBeBest 32 = .ok (.iconst 1, 1) := by decide +kernel
theorem dX6_mayBeBest_33 : decode cX6_mayBeBest 33 = .ok (.iand, 1) := by decide +kernel
theorem dX6_mayBeBest_34 : decode cX6_mayBeBest 34 = .ok (.iconst 1, 1) := by decide +kernel
theorem dX6_mayBeBest_35 : decode cX6_mayBeBest 35 = .ok (.if_icmp .ne 22, 3) := by decide +kernel
theorem dX6_mayBeBest_38 : decode cX6_mayBeBest 38 = .ok (.iload 6, 2) := by decide +kernel
theorem dX6_mayBeBest_40 : decode cX6_mayBeBest 40 = .ok (.aload_n 0, 1) := by decide +kernel
theorem dX6_mayBeBest_41 : decode cX6_mayBeBest 41 = .ok (.getfield 17, 3) := by decide +kernel
theorem dX6_mayBeBest_44 : decode cX6_mayBeBest 44 = .ok (.iload_n 2, 1) := by decide +kernel
theorem dX6_mayBeBest_45 : decode cX6_mayBeBest 45 = .ok (.aaload, 1) := by decide +kernel
theorem dX6_mayBeBest_46 : decode cX6_mayBeBest 46 = .ok (.getfield 67, 3) := by decide +kernel
theorem dX6_mayBeBest_49 : decode cX6_mayBeBest 49 = .ok (.iload 5, 2) := by decide +kernel
theorem dX6_mayBeBest_51 : decode cX6_mayBeBest 51 = .ok (.iaload, 1) := by decide +kernel
theorem dX6_mayBeBest_52 : decode cX6_mayBeBest 52 = .ok (.if_icmp .ge 5, 3) := by decide +kernel
theorem dX6_mayBeBest_55 : decode cX6_mayBeBest 55 = .ok (.iconst 0, 1) := by decide +kernel
theorem dX6_mayBeBest_56 : decode cX6_mayBeBest 56 = .ok (.ireturn, 1) := by decide +kernel
theorem dX6_mayBeBest_57 : decode cX6_mayBeBest 57 = .ok (.iload 4, 2) := by decide +kernel
theorem dX6_mayBeBest_59 : decode cX6_mayBeBest 59 = .ok (.iload 6, 2) := by decide +kernel
theorem dX6_mayBeBest_61 : decode cX6_mayBeBest 61 = .ok (.aload_n 1, 1) := by decide +kernel
theorem dX6_mayBeBest_62 : decode cX6_mayBeBest 62 = .ok (.getfield 70, 3) := by decide +kernel
theorem dX6_mayBeBest_65 : decode cX6_mayBeBest 65 = .ok (.iload 5, 2) := by decide +kernel
theorem dX6_mayBeBest_67 : decode cX6_mayBeBest 67 = .ok (.aaload, 1) := by decide +kernel
theorem dX6_mayBeBest_68 : decode cX6_mayBeBest 68 = .ok (.getfield 124, 3) := by decide +kernel
theorem dX6_mayBeBest_71 : decode cX6_mayBeBest 71 = .ok (.imul, 1) := by decide +kernel
theorem dX6_mayBeBest_72 : decode cX6_mayBeBest 72 = .ok (.iadd, 1) := by decide +kernel
theorem dX6_mayBeBest_73 : decode cX6_mayBeBest 73 = .ok (.istore 4, 2) := by decide +kernel
theorem dX6_mayBeBest_75 : decode cX6_mayBeBest 75 = .ok (.iinc 5 1, 3) := by decide +kernel
theorem dX6_mayBeBest_78 : decode cX6_mayBeBest 78 = .ok (.goto (-72), 3) := by decide +kernel
theorem dX6_mayBeBest_81 : decode cX6_mayBeBest 81 = .ok (.iload 4, 2) := by decide +kernel
theorem dX6_mayBeBest_83 : decode cX6_mayBeBest 83 = .ok (.aload_n 0, 1) := by decide +kernel
theorem dX6_mayBeBest_84 : decode cX6_mayBeBest 84 = .ok (.getfield 54, 3) := by decide +kernel
theorem dX6_mayBeBest_87 : decode cX6_mayBeBest 87 = .ok (.if_icmp .le 7, 3) := by decide +kernel
theorem dX6_mayBeBest_90 : decode cX6_mayBeBest 90 = .ok (.iconst 1, 1) := by decide +kernel
theorem dX6_mayBeBest_91 : decode cX6_mayBeBest 91 = .ok (.goto 4, 3) := by decide +kernel
theorem dX6_mayBeBest_94 : decode cX6_mayBeBest 94 = .ok (.iconst 0, 1) := by decide +kernel
theorem dX6_mayBeBest_95 : decode cX6_mayBeBest 95 = .ok (.ireturn, 1) := by decide +kernel
theorem dX6_mayBeAsTold_0 : decode cX6_mayBeAsTold 0 = .ok (.iconst 0, 1) := by decide +kernel
theorem dX6_mayBeAsTold_1 : decode cX6_mayBeAsTold 1 = .ok (.istore_n 3, 1) := by decide +kernel
theorem dX6_mayBeAsTold_2 : decode cX6_mayBeAsTold 2 = .ok (.iload_n 3, 1) := by decide +kernel
theorem dX6_mayBeAsTold_3 : decode cX6_mayBeAsTold 3 = .ok (.aload_n 1, 1) := by decide +kernel
theorem dX6_mayBeAsTold_4 : decode cX6_mayBeAsTold 4 = .ok (.getfield 64, 3) := by decide +kernel
theorem dX6_mayBeAsTold_7 : decode cX6_mayBeAsTold 7 = .ok (.if_icmp .ge 61, 3) := by decide +kernel
theorem dX6_mayBeAsTold_10 : decode cX6_mayBeAsTold 10 = .ok (.aload_n 1, 1) := by decide +kernel
theorem dX6_mayBeAsTold_11 : decode cX6_mayBeAsTold 11 = .ok (.getfield 70, 3) := by decide +kernel
theorem dX6_mayBeAsTold_14 : decode cX6_mayBeAsTold 14 = .ok (.iload_n 3, 1) := by decide +kernel
theorem dX6_mayBeAsTold_15 : decode cX6_mayBeAsTold 15 = .ok (.aaload, 1) := by decide +kernel
theorem dX6_mayBeAsTold_16 : decode cX6_mayBeAsTold 16 = .ok (.astore 4, 2) := by decide +kernel
theorem dX6_mayBeAsTold_18 : decode cX6_mayBeAsTold 18 = .ok (.aload 4, 2) := by decide +kernel
theorem dX6_mayBeAsTold_20 : decode cX6_mayBeAsTold 20 = .ok (.getfield 127, 3) := by decide +kernel
theorem dX6_mayBeAsTold_23 : decode cX6_mayBeAsTold 23 = .ok (.aload 4, 2) := by decide +kernel
theorem dX6_mayBeAsTold_25 : decode cX6_mayBeAsTold 25 = .ok (.getfield 74, 3) := by decide +kernel
theorem dX6_mayBeAsTold_28 : decode cX6_mayBeAsTold 28 = .ok (.aload_n 0, 1) := by decide +kernel
theorem dX6_mayBeAsTold_29 : decode cX6_mayBeAsTold 29 = .ok (.getfield 17, 3) := by decide +kernel
theorem dX6_mayBeAsTold_32 : decode cX6_mayBeAsTold 32 = .ok (.iload_n 2, 1) := by decide +kernel
theorem dX6_mayBeAsTold_33 : decode cX6_mayBeAsTold 33 = .ok (.aaload, 1) := by decide +kernel
theorem dX6_mayBeAsTold_34 : decode cX6_mayBeAsTold 34 = .ok (.getfield 67, 3) := by decide +kernel
theorem dX6_mayBeAsTold_37 : decode cX6_mayBeAsTold 37 = .ok (.iload_n 3, 1) := by decide +kernel
theorem dX6_mayBeAsTold_38 : decode cX6_mayBeAsTold 38 = .ok (.iaload, 1) := by decide +kernel
theorem dX6_mayBeAsTold_39 : decode cX6_mayBeAsTold 39 = .ok (.isub, 1) := by decide +kernel
theorem dX6_mayBeAsTold_40 : decode cX6_mayBeAsTold 40 = .ok (.isub, 1) := by decide +kernel
theorem dX6_mayBeAsTold_41 : decode cX6_mayBeAsTold 41 = .ok (.istore 5, 2) := by decide +kernel
theorem dX6_mayBeAsTold_43 : decode cX6_mayBeAsTold 43 = .ok (.iload 5, 2) := by decide +kernel
theorem dX6_mayBeAsTold_45 : decode cX6_mayBeAsTold 45 = .ok (.ifCond .lt 15, 3) := by decide +kernel
theorem dX6_mayBeAsTold_48 : decode cX6_mayBeAsTold 48 = .ok (.iload 5, 2) := by decide +kernel
theorem dX6_mayBeAsTold_50 : decode cX6_mayBeAsTold 50 = .ok (.aload_n 0, 1) := by decide +kernel
theorem dX6_mayBeAsTold_51 : decode cX6_mayBeAsTold 51 = .ok (.aload_n 1, 1) := by decide +kernel
theorem dX6_mayBeAsTold_52 : decode cX6_mayBeAsTold 52 = .ok (.iload_n 2, 1) := by decide +kernel
theorem dX6_mayBeAsTold_53 : decode cX6_mayBeAsTold 53 = .ok (.iload_n 3, 1) := by decide +kernel
theorem dX6_mayBeAsTold_54 : decode cX6_mayBeAsTold 54 = .ok (.invokevirtual 120, 3) := by decide +kernel
theorem dX6_mayBeAsTold_57 : decode cX6_mayBeAsTold 57 = .ok (.if_icmp .le 5, 3) := by decide +kernel
theorem dX6_mayBeAsTold_60 : decode cX6_mayBeAsTold 60 = .ok (.iconst 0, 1) := by decide +kernel
theorem dX6_mayBeAsTold_61 : decode cX6_mayBeAsTold 61 = .ok (.ireturn, 1) := by decide +kernel
theorem dX6_mayBeAsTold_62 : decode cX6_mayBeAsTold 62 = .ok (.iinc 3 1, 3) := by decide +kernel
theorem dX6_mayBeAsTold_65 : decode cX6_mayBeAsTold 65 = .ok (.goto (-63), 3) := by decide +kernel
theorem dX6_mayBeAsTold_68 : decode cX6_mayBeAsTold 68 = .ok (.iconst 1, 1) := by decide +kernel
theorem dX6_mayBeAsTold_69 : decode cX6_mayBeAsTold 69 = .ok (.ireturn, 1) := by decide +kernel
theorem dX6_pagesToCome_0 : decode cX6_pagesToCome 0 = .ok (.aload_n 0, 1) := by decide +kernel
theorem dX6_pagesToCome_1 : decode cX6_pagesToCome 1 = .ok (.getfield 47, 3) := by decide +kernel
theorem dX6_pagesToCome_4 : decode cX6_pagesToCome 4 = .ok (.iload_n 2, 1) := by decide +kernel
theorem dX6_pagesToCome_5 : decode cX6_pagesToCome 5 = .ok (.isub, 1) := by decide +kernel
theorem dX6_pagesToCome_6 : decode cX6_pagesToCome 6 = .ok (.aload_n 1, 1) := by decide +kernel
theorem dX6_pagesToCome_7 : decode cX6_pagesToCome 7 = .ok (.getfield 70, 3) := by decide +kernel
theorem dX6_pagesToCome_10 : decode cX6_pagesToCome 10 = .ok (.iload_n 3, 1) := by decide +kernel
theorem dX6_pagesToCome_11 : decode cX6_pagesToCome 11 = .ok (.aaload, 1) := by decide +kernel
theorem dX6_pagesToCome_12 : decode cX6_pagesToCome 12 = .ok (.getfield 130, 3) := by decide +kernel
theorem dX6_pagesToCome_15 : decode cX6_pagesToCome 15 = .ok (.bipush 12, 2) := by decide +kernel
theorem dX6_pagesToCome_17 : decode cX6_pagesToCome 17 = .ok (.invokestatic 133, 3) := by decide +kernel
theorem dX6_pagesToCome_20 : decode cX6_pagesToCome 20 = .ok (.imul, 1) := by decide +kernel
theorem dX6_pagesToCome_21 : decode cX6_pagesToCome 21 = .ok (.istore 4, 2) := by decide +kernel
theorem dX6_pagesToCome_23 : decode cX6_pagesToCome 23 = .ok (.iload 4, 2) := by decide +kernel
theorem dX6_pagesToCome_25 : decode cX6_pagesToCome 25 = .ok (.aload_n 0, 1) := by decide +kernel
theorem dX6_pagesToCome_26 : decode cX6_pagesToCome 26 = .ok (.getfield 17, 3) := by decide +kernel
theorem dX6_pagesToCome_29 : decode cX6_pagesToCome 29 = .ok (.iload_n 2, 1) := by decide +kernel
theorem dX6_pagesToCome_30 : decode cX6_pagesToCome 30 = .ok (.aaload, 1) := by decide +kernel
theorem dX6_pagesToCome_31 : decode cX6_pagesToCome 31 = .ok (.getfield 67, 3) := by decide +kernel
theorem dX6_pagesToCome_34 : decode cX6_pagesToCome 34 = .ok (.iload_n 3, 1) := by decide +kernel
theorem dX6_pagesToCome_35 : decode cX6_pagesToCome 35 = .ok (.iaload, 1) := by decide +kernel
theorem dX6_pagesToCome_36 : decode cX6_pagesToCome 36 = .ok (.invokestatic 41, 3) := by decide +kernel
theorem dX6_pagesToCome_39 : decode cX6_pagesToCome 39 = .ok (.ireturn, 1) := by decide +kernel
theorem dX7_init_0 : decode cX7_init 0 = .ok (.aload_n 0, 1) := by decide +kernel
theorem dX7_init_1 : decode cX7_init 1 = .ok (.invokespecial 1, 3) := by decide +kernel
theorem dX7_init_4 : decode cX7_init 4 = .ok (.aload_n 0, 1) := by decide +kernel
theorem dX7_init_5 : decode cX7_init 5 = .ok (.new 7, 3) := by decide +kernel
theorem dX7_init_8 : decode cX7_init 8 = .ok (.dup, 1) := by decide +kernel
theorem dX7_init_9 : decode cX7_init 9 = .ok (.invokespecial 9, 3) := by decide +kernel
theorem dX7_init_12 : decode cX7_init 12 = .ok (.putfield 10, 3) := by decide +kernel
theorem dX7_init_15 : decode cX7_init 15 = .ok (.aload_n 0, 1) := by decide +kernel
theorem dX7_init_16 : decode cX7_init 16 = .ok (.new 7, 3) := by decide +kernel
theorem dX7_init_19 : decode cX7_init 19 = .ok (.dup, 1) := by decide +kernel
theorem dX7_init_20 : decode cX7_init 20 = .ok (.invokespecial 9, 3) := by decide +kernel
theorem dX7_init_23 : decode cX7_init 23 = .ok (.putfield 16, 3) := by decide +kernel
theorem dX7_init_26 : decode cX7_init 26 = .ok (.aload_n 0, 1) := by decide +kernel
theorem dX7_init_27 : decode cX7_init 27 = .ok (.iconst 2, 1) := by decide +kernel
theorem dX7_init_28 : decode cX7_init 28 = .ok (.anewarray 7, 3) := by decide +kernel
theorem dX7_init_31 : decode cX7_init 31 = .ok (.putfield 19, 3) := by decide +kernel
theorem dX7_init_34 : decode cX7_init 34 = .ok (.aload_n 0, 1) := by decide +kernel
theorem dX7_init_35 : decode cX7_init 35 = .ok (.iconst 2, 1) := by decide +kernel
theorem dX7_init_36 : decode cX7_init 36 = .ok (.newarray .boolean, 2) := by decide +kernel
theorem dX7_init_38 : decode cX7_init 38 = .ok (.putfield 23, 3) := by decide +kernel
theorem dX7_init_41 : decode cX7_init 41 = .ok (.aload_n 0, 1) := by decide +kernel
theorem dX7_init_42 : decode cX7_init 42 = .ok (.new 27, 3) := by decide +kernel
theorem dX7_init_45 : decode cX7_init 45 = .ok (.dup, 1) := by decide +kernel
theorem dX7_init_46 : decode cX7_init 46 = .ok (.invokespecial 29, 3) := by decide +kernel
theorem dX7_init_49 : decode cX7_init 49 = .ok (.putfield 30, 3) := by decide +kernel
theorem dX7_init_52 : decode cX7_init 52 = .ok (.aload_n 0, 1) := by decide +kernel
theorem dX7_init_53 : decode cX7_init 53 = .ok (.new 34, 3) := by decide +kernel
theorem dX7_init_56 : decode cX7_init 56 = .ok (.dup, 1) := by decide +kernel
theorem dX7_init_57 : decode cX7_init 57 = .ok (.invokespecial 36, 3) := by decide +kernel
theorem dX7_init_60 : decode cX7_init 60 = .ok (.putfield 37, 3) := by decide +kernel
theorem dX7_init_63 : decode cX7_init 63 = .ok (.aload_n 0, 1) := by decide +kernel
theorem dX7_init_64 : decode cX7_init 64 = .ok (.new 41, 3) := by decide +kernel
theorem dX7_init_67 : decode cX7_init 67 = .ok (.dup, 1) := by decide +kernel
theorem dX7_init_68 : decode cX7_init 68 = .ok (.invokespecial 43, 3) := by decide +kernel
theorem dX7_init_71 : decode cX7_init 71 = .ok (.putfield 44, 3) := by decide +kernel
theorem dX7_init_74 : decode cX7_init 74 = .ok (.iconst 0, 1) := by decide +kernel
theorem dX7_init_75 : decode cX7_init 75 = .ok (.istore_n 1, 1) := by decide +kernel
theorem dX7_init_76 : decode cX7_init 76 = .ok (.iload_n 1, 1) := by decide +kernel
theorem dX7_init_77 : decode cX7_init 77 = .ok (.iconst 2, 1) := by decide +kernel
theorem dX7_init_78 : decode cX7_init 78 = .ok (.if_icmp .ge 22, 3) := by decide +kernel
theorem dX7_init_81 : decode cX7_init 81 = .ok (.aload_n 0, 1) := by decide +kernel
theorem dX7_init_82 : decode cX7_init 82 = .ok (.getfield 19, 3) := by decide +kernel
theorem dX7_init_85 : decode cX7_init 85 = .ok (.iload_n 1, 1) := by decide +kernel
theorem dX7_init_86 : decode cX7_init 86 = .ok (.new 7, 3) := by decide +kernel
theorem dX7_init_89 : decode cX7_init 89 = .ok (.dup, 1) := by decide +kernel
theorem dX7_init_90 : decode cX7_init 90 = .ok (.invokespecial 9, 3) := by decide +kernel
theorem dX7_init_93 : decode cX7_init 93 = .ok (.aastore, 1) := by decide +kernel
theorem dX7_init_94 : decode cX7_init 94 = .ok (.iinc 1 1, 3) := by decide +kernel
theorem dX7_init_97 : decode cX7_init 97 = .ok (.goto (-21), 3) := by decide +kernel
theorem dX7_init_100 : decode cX7_init 100 = .ok (.return_, 1) := by decide +kernel
theorem dX7_hall_0 : decode cX7_hall 0 = .ok (.aload_n 0, 1) := by decide +kernel
theorem dX7_hall_1 : decode cX7_hall 1 = .ok (.aload_n 0, 1) := by decide +kernel
theorem dX7_hall_2 : decode cX7_hall 2 = .ok (.getfield 10, 3) := by decide +kernel
theorem dX7_hall_5 : decode cX7_hall 5 = .ok (.iload_n 1, 1) := by decide +kernel
theorem dX7_hall_6 : decode cX7_hall 6 = .ok (.iload_n 2, 1) := by decide +kernel
theorem dX7_hall_7 : decode cX7_hall 7 = .ok (.invokevirtual 48, 3) := by decide +kernel
theorem dX7_hall_10 : decode cX7_hall 10 = .ok (.invokevirtual 52, 3) := by decide +kernel
theorem dX7_hall_13 : decode cX7_hall 13 = .ok (.ireturn, 1) := by decide +kernel
theorem dX7_shelf_0 : decode cX7_shelf 0 = .ok (.aload_n 0, 1) := by decide +kernel
theorem dX7_shelf_1 : decode cX7_shelf 1 = .ok (.aload_n 0, 1) := by decide +kernel
theorem dX7_shelf_2 : decode cX7_shelf 2 = .ok (.getfield 10, 3) := by decide +kernel
theorem dX7_shelf_5 : decode cX7_shelf 5 = .ok (.iload_n 1, 1) := by decide +kernel
theorem dX7_shelf_6 : decode cX7_shelf 6 = .ok (.iload_n 2, 1) := by decide +kernel
theorem dX7_shelf_7 : decode cX7_shelf 7 = .ok (.invokevirtual 56, 3) := by decide +kernel
theorem dX7_shelf_10 : decode cX7_shelf 10 = .ok (.invokevirtual 52, 3) := by decide +kernel
theorem dX7_shelf_13 : decode cX7_shelf 13 = .ok (.ireturn, 1) := by decide +kernel
theorem dX7_reader_0 : decode cX7_reader 0 = .ok (.aload_n 0, 1) := by decide +kernel
theorem dX7_reader_1 : decode cX7_reader 1 = .ok (.aload_n 0, 1) := by decide +kernel
theorem dX7_reader_2 : decode cX7_reader 2 = .ok (.getfield 10, 3) := by decide +kernel
theorem dX7_reader_5 : decode cX7_reader 5 = .ok (.iload_n 1, 1) := by decide +kernel
theorem dX7_reader_6 : decode cX7_reader 6 = .ok (.iload_n 2, 1) := by decide +kernel
theorem dX7_reader_7 : decode cX7_reader 7 = .ok (.iload_n 3, 1) := by decide +kernel
theorem dX7_reader_8 : decode cX7_reader 8 = .ok (.iload 4, 2) := by decide +kernel
theorem dX7_reader_10 : decode cX7_reader 10 = .ok (.invokevirtual 60, 3) := by decide +kernel
theorem dX7_reader_13 : decode cX7_reader 13 = .ok (.invokevirtual 52, 3) := by decide +kernel
theorem dX7_reader_16 : decode cX7_reader 16 = .ok (.ireturn, 1) := by decide +kernel
theorem dX7_lamp_0 : decode cX7_lamp 0 = .ok (.aload_n 0, 1) := by decide +kernel
theorem dX7_lamp_1 : decode cX7_lamp 1 = .ok (.aload_n 0, 1) := by decide +kernel
theorem dX7_lamp_2 : decode cX7_lamp 2 = .ok (.getfield 10, 3) := by decide +kernel
theorem dX7_lamp_5 : decode cX7_lamp 5 = .ok (.iload_n 1, 1) := by decide +kernel
theorem dX7_lamp_6 : decode cX7_lamp 6 = .ok (.invokevirtual 64, 3) := by decide +kernel
theorem dX7_lamp_9 : decode cX7_lamp 9 = .ok (.invokevirtual 52, 3) := by decide +kernel
theorem dX7_lamp_12 : decode cX7_lamp 12 = .ok (.invokestatic 67, 3) := by decide +kernel
theorem dX7_lamp_15 : decode cX7_lamp 15 = .ok (.ireturn, 1) := by decide +kernel
theorem dX7_oil_0 : decode cX7_oil 0 = .ok (.aload_n 0, 1) := by decide +kernel
theorem dX7_oil_1 : decode cX7_oil 1 = .ok (.aload_n 0, 1) := by decide +kernel
theorem dX7_oil_2 : decode cX7_oil 2 = .ok (.getfield 10, 3) := by decide +kernel
theorem dX7_oil_5 : decode cX7_oil 5 = .ok (.iload_n 1, 1) := by decide +kernel
theorem dX7_oil_6 : decode cX7_oil 6 = .ok (.invokevirtual 70, 3) := by decide +kernel
theorem dX7_oil_9 : decode cX7_oil 9 = .ok (.invokevirtual 52, 3) := by decide +kernel
theorem dX7_oil_12 : decode cX7_oil 12 = .ok (.ireturn, 1) := by decide +kernel
theorem dX7_string_0 : decode cX7_string 0 = .ok (.aload_n 0, 1) := by decide +kernel
theorem dX7_string_1 : decode cX7_string 1 = .ok (.aload_n 0, 1) := by decide +kernel
theorem dX7_string_2 : decode cX7_string 2 = .ok (.getfield 10, 3) := by decide +kernel
theorem dX7_string_5 : decode cX7_string 5 = .ok (.iload_n 1, 1) := by decide +kernel
theorem dX7_string_6 : decode cX7_string 6 = .ok (.iload_n 2, 1) := by decide +kernel
theorem dX7_string_7 : decode cX7_string 7 = .ok (.invokevirtual 73, 3) := by decide +kernel
theorem dX7_string_10 : decode cX7_string 10 = .ok (.invokevirtual 52, 3) := by decide +kernel
theorem dX7_string_13 : decode cX7_string 13 = .ok (.ireturn, 1) := by decide +kernel
theorem dX7_light_0 : decode cX7_light 0 = .ok (.aload_n 0, 1) := by decide +kernel
theorem dX7_light_1 : decode cX7_light 1 = .ok (.getfield 10, 3) := by decide +kernel
theorem dX7_light_4 : decode cX7_light 4 = .ok (.iload_n 1, 1) := by decide +kernel
theorem dX7_light_5 : decode cX7_light 5 = .ok (.invokevirtual 76, 3) := by decide +kernel
theorem dX7_light_8 : decode cX7_light 8 = .ok (.ifCond .eq 14, 3) := by decide +kernel
theorem dX7_light_11 : decode cX7_light 11 = .ok (.aload_n 0, 1) := by decide +kernel
theorem dX7_light_12 : decode cX7_light 12 = .ok (.getfield 10, 3) := by decide +kernel
theorem dX7_light_15 : decode cX7_light 15 = .ok (.iload_n 2, 1) := by decide +kernel
theorem dX7_light_16 : decode cX7_light 16 = .ok (.invokevirtual 76, 3) := by decide +kernel
theorem dX7_light_19 : decode cX7_light 19 = .ok (.ifCond .ne 10, 3) := by decide +kernel
theorem dX7_light_22 : decode cX7_light 22 = .ok (.aload_n 0, 1) := by decide +kernel
theorem dX7_light_23 : decode cX7_light 23 = .ok (.bipush (-2), 2) := by decide +kernel
theorem dX7_light_25 : decode cX7_light 25 = .ok (.invokevirtual 52, 3) := by decide +kernel
theorem dX7_light_28 : decode cX7_light 28 = .ok (.ireturn, 1) := by decide +kernel
theorem dX7_light_29 : decode cX7_light 29 = .ok (.aload_n 0, 1) := by decide +kernel
theorem dX7_light_30 : decode cX7_light 30 = .ok (.getfield 10, 3) := by decide +kernel
theorem dX7_light_33 : decode cX7_light 33 = .ok (.iload_n 1, 1) := by decide +kernel
theorem dX7_light_34 : decode cX7_light 34 = .ok (.iload_n 2, 1) := by decide +kernel
theorem dX7_light_35 : decode cX7_light 35 = .ok (.invokevirtual 80, 3) := by decide +kernel
theorem dX7_light_38 : decode cX7_light 38 = .ok (.ireturn, 1) := by decide +kernel
theorem dX7_type_0 : decode cX7_type 0 = .ok (.aload_n 0, 1) := by decide +kernel
theorem dX7_type_1 : decode cX7_type 1 = .ok (.aload_n 0, 1) := by decide +kernel
theorem dX7_type_2 : decode cX7_type 2 = .ok (.getfield 30, 3) := by decide +kernel
theorem dX7_type_5 : decode cX7_type 5 = .ok (.lload_n 1, 1) := by decide +kernel
theorem dX7_type_6 : decode cX7_type 6 = .ok (.iload_n 3, 1) := by decide +kernel
theorem dX7_type_7 : decode cX7_type 7 = .ok (.invokevirtual 83, 3) := by decide +kernel
theorem dX7_type_10 : decode cX7_type 10 = .ok (.invokevirtual 52, 3) := by decide +kernel
theorem dX7_type_13 : decode cX7_type 13 = .ok (.ireturn, 1) := by decide +kernel
theorem dX7_clear_0 : decode cX7_clear 0 = .ok (.aload_n 0, 1) := by decide +kernel
theorem dX7_clear_1 : decode cX7_clear 1 = .ok (.getfield 30, 3) := by decide +kernel
theorem dX7_clear_4 : decode cX7_clear 4 = .ok (.invokevirtual 87, 3) := by decide +kernel
theorem dX7_clear_7 : decode cX7_clear 7 = .ok (.ireturn, 1) := by decide +kernel
theorem dX7_read_0 : decode cX7_read 0 = .ok (.aload_n 0, 1) := by decide +kernel
theorem dX7_read_1 : decode cX7_read 1 = .ok (.getfield 30, 3) := by decide +kernel
theorem dX7_read_4 : decode cX7_read 4 = .ok (.invokevirtual 91, 3) := by decide +kernel
theorem dX7_read_7 : decode cX7_read 7 = .ok (.istore_n 1, 1) := by decide +kernel
theorem dX7_read_8 : decode cX7_read 8 = .ok (.iload_n 1, 1) := by decide +kernel
theorem dX7_read_9 : decode cX7_read 9 = .ok (.iconst (-1), 1) := by decide +kernel
theorem dX7_read_10 : decode cX7_read 10 = .ok (.if_icmp .eq 8, 3) := by decide +kernel
theorem dX7_read_13 : decode cX7_read 13 = .ok (.bipush (-10), 2) := by decide +kernel
theorem dX7_read_15 : decode cX7_read 15 = .ok (.iload_n 1, 1) := by decide +kernel
theorem dX7_read_16 : decode cX7_read 16 = .ok (.isub, 1) := by decide +kernel
theorem dX7_read_17 : decode cX7_read 17 = .ok (.ireturn, 1) := by decide +kernel
theorem dX7_read_18 : decode cX7_read 18 = .ok (.aload_n 0, 1) := by decide +kernel
theorem dX7_read_19 : decode cX7_read 19 = .ok (.getfield 30, 3) := by decide +kernel
theorem dX7_read_22 : decode cX7_read 22 = .ok (.aload_n 0, 1) := by decide +kernel
theorem dX7_read_23 : decode cX7_read 23 = .ok (.getfield 16, 3) := by decide +kernel
theorem dX7_read_26 : decode cX7_read 26 = .ok (.invokevirtual 94, 3) := by decide +kernel
theorem dX7_read_29 : decode cX7_read 29 = .ok (.istore_n 2, 1) := by decide +kernel
theorem dX7_read_30 : decode cX7_read 30 = .ok (.iload_n 2, 1) := by decide +kernel
theorem dX7_read_31 : decode cX7_read 31 = .ok (.iconst (-1), 1) := by decide +kernel
theorem dX7_read_32 : decode cX7_read 32 = .ok (.if_icmp .eq 9, 3) := by decide +kernel
theorem dX7_read_35 : decode cX7_read 35 = .ok (.sipush (-1000), 3) := by decide +kernel
theorem dX7_read_38 : decode cX7_read 38 = .ok (.iload_n 2, 1) := by decide +kernel
theorem dX7_read_39 : decode cX7_read 39 = .ok (.isub, 1) := by decide +kernel
theorem dX7_read_40 : decode cX7_read 40 = .ok (.ireturn, 1) := by decide +kernel
theorem dX7_read_41 : decode cX7_read 41 = .ok (.aload_n 0, 1) := by decide +kernel
theorem dX7_read_42 : decode cX7_read 42 = .ok (.getfield 10, 3) := by decide +kernel
theorem dX7_read_45 : decode cX7_read 45 = .ok (.aload_n 0, 1) := by decide +kernel
theorem dX7_read_46 : decode cX7_read 46 = .ok (.getfield 16, 3) := by decide +kernel
theorem dX7_read_49 : decode cX7_read 49 = .ok (.invokevirtual 98, 3) := by decide +kernel
theorem dX7_read_52 : decode cX7_read 52 = .ok (.aload_n 0, 1) := by decide +kernel
theorem dX7_read_53 : decode cX7_read 53 = .ok (.getfield 30, 3) := by decide +kernel
theorem dX7_read_56 : decode cX7_read 56 = .ok (.getfield 102, 3) := by decide +kernel
theorem dX7_read_59 : decode cX7_read 59 = .ok (.ireturn, 1) := by decide +kernel
theorem dX7_burn_0 : decode cX7_burn 0 = .ok (.aload_n 0, 1) := by decide +kernel
theorem dX7_burn_1 : decode cX7_burn 1 = .ok (.aload_n 0, 1) := by decide +kernel
theorem dX7_burn_2 : decode cX7_burn 2 = .ok (.getfield 10, 3) := by decide +kernel
theorem dX7_burn_5 : decode cX7_burn 5 = .ok (.iload_n 1, 1) := by decide +kernel
theorem dX7_burn_6 : decode cX7_burn 6 = .ok (.invokevirtual 106, 3) := by decide +kernel
theorem dX7_burn_9 : decode cX7_burn 9 = .ok (.invokevirtual 52, 3) := by decide +kernel
theorem dX7_burn_12 : decode cX7_burn 12 = .ok (.ireturn, 1) := by decide +kernel
theorem dX7_undo_0 : decode cX7_undo 0 = .ok (.aload_n 0, 1) := by decide +kernel
theorem dX7_undo_1 : decode cX7_undo 1 = .ok (.aload_n 0, 1) := by decide +kernel
theorem dX7_undo_2 : decode cX7_undo 2 = .ok (.getfield 10, 3) := by decide +kernel
theorem dX7_undo_5 : decode cX7_undo 5 = .ok (.invokevirtual 109, 3) := by decide +kernel
theorem dX7_undo_8 : decode cX7_undo 8 = .ok (.invokevirtual 52, 3) := by decide +kernel
theorem dX7_undo_11 : decode cX7_undo 11 = .ok (.ireturn, 1) := by decide +kernel
theorem dX7_left_0 : decode cX7_left 0 = .ok (.aload_n 0, 1) := by decide +kernel
theorem dX7_left_1 : decode cX7_left 1 = .ok (.getfield 10, 3) := by decide +kernel
theorem dX7_left_4 : decode cX7_left 4 = .ok (.iload_n 1, 1) := by decide +kernel
theorem dX7_left_5 : decode cX7_left 5 = .ok (.invokevirtual 112, 3) := by decide +kernel
theorem dX7_left_8 : decode cX7_left 8 = .ok (.ifCond .eq 18, 3) := by decide +kernel
theorem dX7_left_11 : decode cX7_left 11 = .ok (.aload_n 0, 1) := by decide +kernel
theorem dX7_left_12 : decode cX7_left 12 = .ok (.getfield 10, 3) := by decide +kernel
theorem dX7_left_15 : decode cX7_left 15 = .ok (.getfield 115, 3) := by decide +kernel
theorem dX7_left_18 : decode cX7_left 18 = .ok (.getfield 119, 3) := by decide +kernel
theorem dX7_left_21 : decode cX7_left 21 = .ok (.iload_n 1, 1) := by decide +kernel
theorem dX7_left_22 : decode cX7_left 22 = .ok (.iaload, 1) := by decide +kernel
theorem dX7_left_23 : decode cX7_left 23 = .ok (.goto 9, 3) := by decide +kernel
theorem dX7_left_26 : decode cX7_left 26 = .ok (.aload_n 0, 1) := by decide +kernel
theorem dX7_left_27 : decode cX7_left 27 = .ok (.bipush (-2), 2) := by decide +kernel
theorem dX7_left_29 : decode cX7_left 29 = .ok (.invokevirtual 52, 3) := by decide +kernel
theorem dX7_left_32 : decode cX7_left 32 = .ok (.ireturn, 1) := by decide +kernel
theorem dX7_way_0 : decode cX7_way 0 = .ok (.aload_n 0, 1) := by decide +kernel
theorem dX7_way_1 : decode cX7_way 1 = .ok (.iload_n 1, 1) := by decide +kernel
theorem dX7_way_2 : decode cX7_way 2 = .ok (.iconst 0, 1) := by decide +kernel
theorem dX7_way_3 : decode cX7_way 3 = .ok (.iload_n 2, 1) := by decide +kernel
theorem dX7_way_4 : decode cX7_way 4 = .ok (.invokevirtual 125, 3) := by decide +kernel
theorem dX7_way_7 : decode cX7_way 7 = .ok (.ireturn, 1) := by decide +kernel
theorem dX7_done_0 : decode cX7_done 0 = .ok (.aload_n 0, 1) := by decide +kernel
theorem dX7_done_1 : decode cX7_done 1 = .ok (.iload_n 1, 1) := by decide +kernel
theorem dX7_done_2 : decode cX7_done 2 = .ok (.iload_n 2, 1) := by decide +kernel
theorem dX7_done_3 : decode cX7_done 3 = .ok (.iload_n 3, 1) := by decide +kernel
theorem dX7_done_4 : decode cX7_done 4 = .ok (.invokevirtual 125, 3) := by decide +kernel
theorem dX7_done_7 : decode cX7_done 7 = .ok (.ireturn, 1) := by decide +kernel
theorem dX7_stand_0 : decode cX7_stand 0 = .ok (.iload_n 1, 1) := by decide +kernel
theorem dX7_stand_1 : decode cX7_stand 1 = .ok (.invokestatic 129, 3) := by decide +kernel
theorem dX7_stand_4 : decode cX7_stand 4 = .ok (.ifCond .ne 10, 3) := by decide +kernel
theorem dX7_stand_7 : decode cX7_stand 7 = .ok (.aload_n 0, 1) := by decide +kernel
theorem dX7_stand_8 : decode cX7_stand 8 = .ok (.bipush (-2), 2) := by decide +kernel
theorem dX7_stand_10 : decode cX7_stand 10 = .ok (.invokevirtual 52, 3) := by decide +kernel
theorem dX7_stand_13 : decode cX7_stand 13 = .ok (.ireturn, 1) := by decide +kernel
theorem dX7_stand_14 : decode cX7_stand 14 = .ok (.aload_n 0, 1) := by decide +kernel
theorem dX7_stand_15 : decode cX7_stand 15 = .ok (.getfield 44, 3) := by decide +kernel
theorem dX7_stand_18 : decode cX7_stand 18 = .ok (.aload_n 0, 1) := by decide +kernel
theorem dX7_stand_19 : decode cX7_stand 19 = .ok (.getfield 10, 3) := by decide +kernel
theorem dX7_stand_22 : decode cX7_stand 22 = .ok (.invokevirtual 132, 3) := by decide +kernel
theorem dX7_stand_25 : decode cX7_stand 25 = .ok (.iload_n 1, 1) := by decide +kernel
theorem dX7_stand_26 : decode cX7_stand 26 = .ok (.ifCond .ne 13, 3) := by decide +kernel
theorem dX7_stand_29 : decode cX7_stand 29 = .ok (.aload_n 0, 1) := by decide +kernel
theorem dX7_stand_30 : decode cX7_stand 30 = .ok (.getfield 44, 3) := by decide +kernel
theorem dX7_stand_33 : decode cX7_stand 33 = .ok (.getfield 135, 3) := by decide +kernel
theorem dX7_stand_36 : decode cX7_stand 36 = .ok (.goto 10, 3) := by decide +kernel
theorem dX7_stand_39 : decode cX7_stand 39 = .ok (.aload_n 0, 1) := by decide +kernel
theorem dX7_stand_40 : decode cX7_stand 40 = .ok (.getfield 44, 3) := by decide +kernel
theorem dX7_stand_43 : decode cX7_stand 43 = .ok (.getfield 138, 3) := by decide +kernel
theorem dX7_stand_46 : decode cX7_stand 46 = .ok (.ireturn, 1) := by decide +kernel
theorem dX7_two_0 : decode cX7_two 0 = .ok (.iload_n 1, 1) := by decide +kernel
theorem dX7_two_1 : decode cX7_two 1 = .ok (.invokestatic 129, 3) := by decide +kernel
theorem dX7_two_4 : decode cX7_two 4 = .ok (.ifCond .ne 10, 3) := by decide +kernel
theorem dX7_two_7 : decode cX7_two 7 = .ok (.aload_n 0, 1) := by decide +kernel
theorem dX7_two_8 : decode cX7_two 8 = .ok (.bipush (-2), 2) := by decide +kernel
theorem dX7_two_10 : decode cX7_two 10 = .ok (.invokevirtual 52, 3) := by decide +kernel
theorem dX7_two_13 : decode cX7_two 13 = .ok (.ireturn, 1) := by decide +kernel
theorem dX7_two_14 : decode cX7_two 14 = .ok (.aload_n 0, 1) := by decide +kernel
theorem dX7_two_15 : decode cX7_two 15 = .ok (.getfield 10, 3) := by decide +kernel
theorem dX7_two_18 : decode cX7_two 18 = .ok (.getfield 141, 3) := by decide +kernel
theorem dX7_two_21 : decode cX7_two 21 = .ok (.aload_n 0, 1) := by decide +kernel
theorem dX7_two_22 : decode cX7_two 22 = .ok (.getfield 10, 3) := by decide +kernel
theorem dX7_two_25 : decode cX7_two 25 = .ok (.getfield 144, 3) := by decide +kernel
theorem dX7_two_28 : decode cX7_two 28 = .ok (.invokestatic 147, 3) := by decide +kernel
theorem dX7_two_31 : decode cX7_two 31 = .ok (.isub, 1) := by decide +kernel
theorem dX7_two_32 : decode cX7_two 32 = .ok (.iconst 2, 1) := by decide +kernel
theorem dX7_two_33 : decode cX7_two 33 = .ok (.if_icmp .ge 13, 3) := by decide +kernel
theorem dX7_two_36 : decode cX7_two 36 = .ok (.aload_n 0, 1) := by decide +kernel
theorem dX7_two_37 : decode cX7_two 37 = .ok (.bipush (-3), 2) := by decide +kernel
theorem dX7_two_39 : decode cX7_two 39 = .ok (.invokevirtual 52, 3) := by decide +kernel
theorem dX7_two_42 : decode cX7_two 42 = .ok (.invokestatic 67, 3) := by decide +kernel
theorem dX7_two_45 : decode cX7_two 45 = .ok (.ireturn, 1) := by decide +kernel
theorem dX7_two_46 : decode cX7_two 46 = .ok (.aload_n 0, 1) := by decide +kernel
theorem dX7_two_47 : decode cX7_two 47 = .ok (.getfield 44, 3) := by decide +kernel
theorem dX7_two_50 : decode cX7_two 50 = .ok (.aload_n 0, 1) := by decide +kernel
theorem dX7_two_51 : decode cX7_two 51 = .ok (.getfield 10, 3) := by decide +kernel
theorem dX7_two_54 : decode cX7_two 54 = .ok (.invokevirtual 152, 3) := by decide +kernel
theorem dX7_two_57 : decode cX7_two 57 = .ok (.iload_n 1, 1) := by decide +kernel
theorem dX7_two_58 : decode cX7_two 58 = .ok (.ifCond .ne 24, 3) := by decide +kernel
theorem dX7_two_61 : decode cX7_two 61 = .ok (.bipush 100, 2) := by decide +kernel
theorem dX7_two_63 : decode cX7_two 63 = .ok (.aload_n 0, 1) := by decide +kernel
theorem dX7_two_64 : decode cX7_two 64 = .ok (.getfield 44, 3) := by decide +kernel
theorem dX7_two_67 : decode cX7_two 67 = .ok (.getfield 135, 3) := by decide +kernel
theorem dX7_two_70 : decode cX7_two 70 = .ok (.imul, 1) := by decide +kernel
theorem dX7_two_71 : decode cX7_two 71 = .ok (.aload_n 0, 1) := by decide +kernel
theorem dX7_two_72 : decode cX7_two 72 = .ok (.getfield 44, 3) := by decide +kernel
theorem dX7_two_75 : decode cX7_two 75 = .ok (.getfield 155, 3) := by decide +kernel
theorem dX7_two_78 : decode cX7_two 78 = .ok (.iadd, 1) := by decide +kernel
theorem dX7_two_79 : decode cX7_two 79 = .ok (.goto 10, 3) := by decide +kernel
theorem dX7_two_82 : decode cX7_two 82 = .ok (.aload_n 0, 1) := by decide +kernel
theorem dX7_two_83 : decode cX7_two 83 = .ok (.getfield 44, 3) := by decide +kernel
theorem dX7_two_86 : decode cX7_two 86 = .ok (.getfield 138, 3) := by decide +kernel
theorem dX7_two_89 : decode cX7_two 89 = .ok (.ireturn, 1) := by decide +kernel
theorem dX7_seats_0 : decode cX7_seats 0 = .ok (.aload_n 0, 1) := by decide +kernel
theorem dX7_seats_1 : decode cX7_seats 1 = .ok (.getfield 44, 3) := by decide +kernel
theorem dX7_seats_4 : decode cX7_seats 4 = .ok (.aload_n 0, 1) := by decide +kernel
theorem dX7_seats_5 : decode cX7_seats 5 = .ok (.getfield 10, 3) := by decide +kernel
theorem dX7_seats_8 : decode cX7_seats 8 = .ok (.aload_n 0, 1) := by decide +kernel
theorem dX7_seats_9 : decode cX7_seats 9 = .ok (.getfield 16, 3) := by decide +kernel
theorem dX7_seats_12 : decode cX7_seats 12 = .ok (.invokevirtual 158, 3) := by decide +kernel
theorem dX7_seats_15 : decode cX7_seats 15 = .ok (.ireturn, 1) := by decide +kernel
theorem dX7_moved_0 : decode cX7_moved 0 = .ok (.aload_n 0, 1) := by decide +kernel
theorem dX7_moved_1 : decode cX7_moved 1 = .ok (.getfield 44, 3) := by decide +kernel
theorem dX7_moved_4 : decode cX7_moved 4 = .ok (.aload_n 0, 1) := by decide +kernel
theorem dX7_moved_5 : decode cX7_moved 5 = .ok (.getfield 10, 3) := by decide +kernel
theorem dX7_moved_8 : decode cX7_moved 8 = .ok (.aload_n 0, 1) := by decide +kernel
theorem dX7_moved_9 : decode cX7_moved 9 = .ok (.getfield 16, 3) := by decide +kernel
theorem dX7_moved_12 : decode cX7_moved 12 = .ok (.invokevirtual 162, 3) := by decide +kernel
theorem dX7_moved_15 : decode cX7_moved 15 = .ok (.ireturn, 1) := by decide +kernel
theorem dX7_rest_0 : decode cX7_rest 0 = .ok (.iload_n 1, 1) := by decide +kernel
theorem dX7_rest_1 : decode cX7_rest 1 = .ok (.invokestatic 129, 3) := by decide +kernel
theorem dX7_rest_4 : decode cX7_rest 4 = .ok (.ifCond .ne 10, 3) := by decide +kernel
theorem dX7_rest_7 : decode cX7_rest 7 = .ok (.aload_n 0, 1) := by decide +kernel
theorem dX7_rest_8 : decode cX7_rest 8 = .ok (.bipush (-2), 2) := by decide +kernel
theorem dX7_rest_10 : decode cX7_rest 10 = .ok (.invokevirtual 52, 3) := by decide +kernel
theorem dX7_rest_13 : decode cX7_rest 13 = .ok (.ireturn, 1) := by decide +kernel
theorem dX7_rest_14 : decode cX7_rest 14 = .ok (.aload_n 0, 1) := by decide +kernel
theorem dX7_rest_15 : decode cX7_rest 15 = .ok (.getfield 10, 3) := by decide +kernel
theorem dX7_rest_18 : decode cX7_rest 18 = .ok (.getfield 165, 3) := by decide +kernel
theorem dX7_rest_21 : decode cX7_rest 21 = .ok (.istore_n 2, 1) := by decide +kernel
theorem dX7_rest_22 : decode cX7_rest 22 = .ok (.iconst 0, 1) := by decide +kernel
theorem dX7_rest_23 : decode cX7_rest 23 = .ok (.istore_n 3, 1) := by decide +kernel
theorem dX7_rest_24 : decode cX7_rest 24 = .ok (.iload_n 3, 1) := by decide +kernel
theorem dX7_rest_25 : decode cX7_rest 25 = .ok (.bipush 20, 2) := by decide +kernel
theorem dX7_rest_27 : decode cX7_rest 27 = .ok (.if_icmp .gt 38, 3) := by decide +kernel
theorem dX7_rest_30 : decode cX7_rest 30 = .ok (.aload_n 0, 1) := by decide +kernel
theorem dX7_rest_31 : decode cX7_rest 31 = .ok (.getfield 10, 3) := by decide +kernel
theorem dX7_rest_34 : decode cX7_rest 34 = .ok (.iload_n 2, 1) := by decide +kernel
theorem dX7_rest_35 : decode cX7_rest 35 = .ok (.invokevirtual 168, 3) := by decide +kernel
theorem dX7_rest_38 : decode cX7_rest 38 = .ok (.istore 4, 2) := by decide +kernel
theorem dX7_rest_40 : decode cX7_rest 40 = .ok (.iload 4, 2) := by decide +kernel
theorem dX7_rest_42 : decode cX7_rest 42 = .ok (.iload_n 2, 1) := by decide +kernel
theorem dX7_rest_43 : decode cX7_rest 43 = .ok (.if_icmp .ne 13, 3) := by decide +kernel
theorem dX7_rest_46 : decode cX7_rest 46 = .ok (.iload_n 1, 1) := by decide +kernel
theorem dX7_rest_47 : decode cX7_rest 47 = .ok (.ifCond .ne 7, 3) := by decide +kernel
theorem dX7_rest_50 : decode cX7_rest 50 = .ok (.iload_n 3, 1) := by decide +kernel
theorem dX7_rest_51 : decode cX7_rest 51 = .ok (.goto 4, 3) := by decide +kernel
theorem dX7_rest_54 : decode cX7_rest 54 = .ok (.iload_n 2, 1) := by decide +kernel
theorem dX7_rest_55 : decode cX7_rest 55 = .ok (.ireturn, 1) := by decide +kernel
theorem dX7_rest_56 : decode cX7_rest 56 = .ok (.iload 4, 2) := by decide +kernel
theorem dX7_rest_58 : decode cX7_rest 58 = .ok (.istore_n 2, 1) := by decide +kernel
theorem dX7_rest_59 : decode cX7_rest 59 = .ok (.iinc 3 1, 3) := by decide +kernel
theorem dX7_rest_62 : decode cX7_rest 62 = .ok (.goto (-38), 3) := by decide +kernel
theorem dX7_rest_65 : decode cX7_rest 65 = .ok (.iconst (-1), 1) := by decide +kernel
theorem dX7_rest_66 : decode cX7_rest 66 = .ok (.ireturn, 1) := by decide +kernel
theorem dX7_told_0 : decode cX7_told 0 = .ok (.aload_n 0, 1) := by decide +kernel
theorem dX7_told_1 : decode cX7_told 1 = .ok (.aload_n 0, 1) := by decide +kernel
theorem dX7_told_2 : decode cX7_told 2 = .ok (.getfield 10, 3) := by decide +kernel
theorem dX7_told_5 : decode cX7_told 5 = .ok (.iload_n 1, 1) := by decide +kernel
theorem dX7_told_6 : decode cX7_told 6 = .ok (.iload_n 2, 1) := by decide +kernel
theorem dX7_told_7 : decode cX7_told 7 = .ok (.invokevirtual 171, 3) := by decide +kernel
theorem dX7_told_10 : decode cX7_told 10 = .ok (.invokevirtual 52, 3) := by decide +kernel
theorem dX7_told_13 : decode cX7_told 13 = .ok (.ireturn, 1) := by decide +kernel
theorem dX7_been_0 : decode cX7_been 0 = .ok (.aload_n 0, 1) := by decide +kernel
theorem dX7_been_1 : decode cX7_been 1 = .ok (.getfield 10, 3) := by decide +kernel
theorem dX7_been_4 : decode cX7_been 4 = .ok (.iload_n 1, 1) := by decide +kernel
theorem dX7_been_5 : decode cX7_been 5 = .ok (.invokevirtual 174, 3) := by decide +kernel
theorem dX7_been_8 : decode cX7_been 8 = .ok (.ifCond .eq 19, 3) := by decide +kernel
theorem dX7_been_11 : decode cX7_been 11 = .ok (.iload_n 2, 1) := by decide +kernel
theorem dX7_been_12 : decode cX7_been 12 = .ok (.ifCond .lt 15, 3) := by decide +kernel
theorem dX7_been_15 : decode cX7_been 15 = .ok (.iload_n 2, 1) := by decide +kernel
theorem dX7_been_16 : decode cX7_been 16 = .ok (.iconst 5, 1) := by decide +kernel
theorem dX7_been_17 : decode cX7_been 17 = .ok (.if_icmp .gt 10, 3) := by decide +kernel
theorem dX7_been_20 : decode cX7_been 20 = .ok (.iload_n 3, 1) := by decide +kernel
theorem dX7_been_21 : decode cX7_been 21 = .ok (.invokestatic 129, 3) := by decide +kernel
theorem dX7_been_24 : decode cX7_been 24 = .ok (.ifCond .ne 10, 3) := by decide +kernel
theorem dX7_been_27 : decode cX7_been 27 = .ok (.aload_n 0, 1) := by decide +kernel
theorem dX7_been_28 : decode cX7_been 28 = .ok (.bipush (-2), 2) := by decide +kernel
theorem dX7_been_30 : decode cX7_been 30 = .ok (.invokevirtual 52, 3) := by decide +kernel
theorem dX7_been_33 : decode cX7_been 33 = .ok (.ireturn, 1) := by decide +kernel
theorem dX7_been_34 : decode cX7_been 34 = .ok (.aload_n 0, 1) := by decide +kernel
theorem dX7_been_35 : decode cX7_been 35 = .ok (.getfield 37, 3) := by decide +kernel
theorem dX7_been_38 : decode cX7_been 38 = .ok (.aload_n 0, 1) := by decide +kernel
theorem dX7_been_39 : decode cX7_been 39 = .ok (.getfield 10, 3) := by decide +kernel
theorem dX7_been_42 : decode cX7_been 42 = .ok (.iload_n 1, 1) := by decide +kernel
theorem dX7_been_43 : decode cX7_been 43 = .ok (.iload_n 2, 1) := by decide +kernel
theorem dX7_been_44 : decode cX7_been 44 = .ok (.invokevirtual 177, 3) := by decide +kernel
theorem dX7_been_47 : decode cX7_been 47 = .ok (.iload_n 3, 1) := by decide +kernel
theorem dX7_been_48 : decode cX7_been 48 = .ok (.ifCond .ne 13, 3) := by decide +kernel
theorem dX7_been_51 : decode cX7_been 51 = .ok (.aload_n 0, 1) := by decide +kernel
theorem dX7_been_52 : decode cX7_been 52 = .ok (.getfield 37, 3) := by decide +kernel
theorem dX7_been_55 : decode cX7_been 55 = .ok (.getfield 181, 3) := by decide +kernel
theorem dX7_been_58 : decode cX7_been 58 = .ok (.goto 10, 3) := by decide +kernel
theorem dX7_been_61 : decode cX7_been 61 = .ok (.aload_n 0, 1) := by decide +kernel
theorem dX7_been_62 : decode cX7_been 62 = .ok (.getfield 37, 3) := by decide +kernel
theorem dX7_been_65 : decode cX7_been 65 = .ok (.getfield 184, 3) := by decide +kernel
theorem dX7_been_68 : decode cX7_been 68 = .ok (.ireturn, 1) := by decide +kernel
theorem dX7_image_0 : decode cX7_image 0 = .ok (.iload_n 1, 1) := by decide +kernel
theorem dX7_image_1 : decode cX7_image 1 = .ok (.ifCond .lt 8, 3) := by decide +kernel
theorem dX7_image_4 : decode cX7_image 4 = .ok (.iload_n 1, 1) := by decide +kernel
theorem dX7_image_5 : decode cX7_image 5 = .ok (.iconst 2, 1) := by decide +kernel
theorem dX7_image_6 : decode cX7_image 6 = .ok (.if_icmp .lt 10, 3) := by decide +kernel
theorem dX7_image_9 : decode cX7_image 9 = .ok (.aload_n 0, 1) := by decide +kernel
theorem dX7_image_10 : decode cX7_image 10 = .ok (.bipush (-2), 2) := by decide +kernel
theorem dX7_image_12 : decode cX7_image 12 = .ok (.invokevirtual 52, 3) := by decide +kernel
theorem dX7_image_15 : decode cX7_image 15 = .ok (.ireturn, 1) := by decide +kernel
theorem dX7_image_16 : decode cX7_image 16 = .ok (.aload_n 0, 1) := by decide +kernel
theorem dX7_image_17 : decode cX7_image 17 = .ok (.getfield 19, 3) := by decide +kernel
theorem dX7_image_20 : decode cX7_image 20 = .ok (.iload_n 1, 1) := by decide +kernel
theorem dX7_image_21 : decode cX7_image 21 = .ok (.aaload, 1) := by decide +kernel
theorem dX7_image_22 : decode cX7_image 22 = .ok (.aload_n 0, 1) := by decide +kernel
theorem dX7_image_23 : decode cX7_image 23 = .ok (.getfield 10, 3) := by decide +kernel
theorem dX7_image_26 : decode cX7_image 26 = .ok (.invokevirtual 98, 3) := by decide +kernel
theorem dX7_image_29 : decode cX7_image 29 = .ok (.aload_n 0, 1) := by decide +kernel
theorem dX7_image_30 : decode cX7_image 30 = .ok (.getfield 23, 3) := by decide +kernel
theorem dX7_image_33 : decode cX7_image 33 = .ok (.iload_n 1, 1) := by decide +kernel
theorem dX7_image_34 : decode cX7_image 34 = .ok (.iconst 1, 1) := by decide +kernel
theorem dX7_image_35 : decode cX7_image 35 = .ok (.bastore, 1) := by decide +kernel
theorem dX7_image_36 : decode cX7_image 36 = .ok (.iconst 1, 1) := by decide +kernel
theorem dX7_image_37 : decode cX7_image 37 = .ok (.ireturn, 1) := by decide +kernel
theorem dX7_from_0 : decode cX7_from 0 = .ok (.iload_n 1, 1) := by decide +kernel
theorem dX7_from_1 : decode cX7_from 1 = .ok (.ifCond .lt 8, 3) := by decide +kernel
theorem dX7_from_4 : decode cX7_from 4 = .ok (.iload_n 1, 1) := by decide +kernel
theorem dX7_from_5 : decode cX7_from 5 = .ok (.iconst 2, 1) := by decide +kernel
theorem dX7_from_6 : decode cX7_from 6 = .ok (.if_icmp .lt 10, 3) := by decide +kernel
theorem dX7_from_9 : decode cX7_from 9 = .ok (.aload_n 0, 1) := by decide +kernel
theorem dX7_from_10 : decode cX7_from 10 = .ok (.bipush (-2), 2) := by decide +kernel
theorem dX7_from_12 : decode cX7_from 12 = .ok (.invokevirtual 52, 3) := by decide +kernel
theorem dX7_from_15 : decode cX7_from 15 = .ok (.ireturn, 1) := by decide +kernel
theorem dX7_from_16 : decode cX7_from 16 = .ok (.aload_n 0, 1) := by decide +kernel
theorem dX7_from_17 : decode cX7_from 17 = .ok (.getfield 23, 3) := by decide +kernel
theorem dX7_from_20 : decode cX7_from 20 = .ok (.iload_n 1, 1) := by decide +kernel
theorem dX7_from_21 : decode cX7_from 21 = .ok (.baload, 1) := by decide +kernel
theorem dX7_from_22 : decode cX7_from 22 = .ok (.ifCond .ne 10, 3) := by decide +kernel
theorem dX7_from_25 : decode cX7_from 25 = .ok (.aload_n 0, 1) := by decide +kernel
theorem dX7_from_26 : decode cX7_from 26 = .ok (.bipush (-3), 2) := by decide +kernel
theorem dX7_from_28 : decode cX7_from 28 = .ok (.invokevirtual 52, 3) := by decide +kernel
theorem dX7_from_31 : decode cX7_from 31 = .ok (.ireturn, 1) := by decide +kernel
theorem dX7_from_32 : decode cX7_from 32 = .ok (.aload_n 0, 1) := by decide +kernel
theorem dX7_from_33 : decode cX7_from 33 = .ok (.getfield 10, 3) := by decide +kernel
theorem dX7_from_36 : decode cX7_from 36 = .ok (.aload_n 0, 1) := by decide +kernel
theorem dX7_from_37 : decode cX7_from 37 = .ok (.getfield 19, 3) := by decide +kernel
theorem dX7_from_40 : decode cX7_from 40 = .ok (.iload_n 1, 1) := by decide +kernel
theorem dX7_from_41 : decode cX7_from 41 = .ok (.aaload, 1) := by decide +kernel
theorem dX7_from_42 : decode cX7_from 42 = .ok (.invokevirtual 98, 3) := by decide +kernel
theorem dX7_from_45 : decode cX7_from 45 = .ok (.iconst 1, 1) := by decide +kernel
theorem dX7_from_46 : decode cX7_from 46 = .ok (.ireturn, 1) := by decide +kernel
theorem dX7_status_0 : decode cX7_status 0 = .ok (.iload_n 1, 1) := by decide +kernel
theorem dX7_status_1 : decode cX7_status 1 = .ok (.tableswitch 42 0 2 #[27, 32, 37], 27) := by decide +kernel
theorem dX7_status_28 : decode cX7_status 28 = .ok (.aload_n 0, 1) := by decide +kernel
theorem dX7_status_29 : decode cX7_status 29 = .ok (.getfield 187, 3) := by decide +kernel
theorem dX7_status_32 : decode cX7_status 32 = .ok (.ireturn, 1) := by decide +kernel
theorem dX7_status_33 : decode cX7_status 33 = .ok (.aload_n 0, 1) := by decide +kernel
theorem dX7_status_34 : decode cX7_status 34 = .ok (.getfield 190, 3) := by decide +kernel
theorem dX7_status_37 : decode cX7_status 37 = .ok (.ireturn, 1) := by decide +kernel
theorem dX7_status_38 : decode cX7_status 38 = .ok (.aload_n 0, 1) := by decide +kernel
theorem dX7_status_39 : decode cX7_status 39 = .ok (.getfield 193, 3) := by decide +kernel
theorem dX7_status_42 : decode cX7_status 42 = .ok (.ireturn, 1) := by decide +kernel
theorem dX7_status_43 : decode cX7_status 43 = .ok (.aload_n 0, 1) := by decide +kernel
theorem dX7_status_44 : decode cX7_status 44 = .ok (.bipush (-2), 2) := by decide +kernel
theorem dX7_status_46 : decode cX7_status 46 = .ok (.invokevirtual 52, 3) := by decide +kernel
theorem dX7_status_49 : decode cX7_status 49 = .ok (.pop, 1) := by decide +kernel
theorem dX7_status_50 : decode cX7_status 50 = .ok (.iconst (-1), 1) := by decide +kernel
theorem dX7_status_51 : decode cX7_status 51 = .ok (.ireturn, 1) := by decide +kernel
theorem dX7_count_0 : decode cX7_count 0 = .ok (.aload_n 0, 1) := by decide +kernel
theorem dX7_count_1 : decode cX7_count 1 = .ok (.aload_n 0, 1) := by decide +kernel
theorem dX7_count_2 : decode cX7_count 2 = .ok (.iload_n 1, 1) := by decide +kernel
theorem dX7_count_3 : decode cX7_count 3 = .ok (.invokevirtual 196, 3) := by decide +kernel
theorem dX7_count_6 : decode cX7_count 6 = .ok (.invokevirtual 52, 3) := by decide +kernel
theorem dX7_count_9 : decode cX7_count 9 = .ok (.ireturn, 1) := by decide +kernel
theorem dX7_digest_0 : decode cX7_digest 0 = .ok (.ldc2_w 199, 3) := by decide +kernel
theorem dX7_digest_3 : decode cX7_digest 3 = .ok (.lstore_n 1, 1) := by decide +kernel
theorem dX7_digest_4 : decode cX7_digest 4 = .ok (.iconst 0, 1) := by decide +kernel
theorem dX7_digest_5 : decode cX7_digest 5 = .ok (.istore_n 3, 1) := by decide +kernel
theorem dX7_digest_6 : decode cX7_digest 6 = .ok (.iload_n 3, 1) := by decide +kernel
theorem dX7_digest_7 : decode cX7_digest 7 = .ok (.bipush 6, 2) := by decide +kernel
theorem dX7_digest_9 : decode cX7_digest 9 = .ok (.if_icmp .gt 22, 3) := by decide +kernel
theorem dX7_digest_12 : decode cX7_digest 12 = .ok (.ldc2_w 201, 3) := by decide +kernel
theorem dX7_digest_15 : decode cX7_digest 15 = .ok (.lload_n 1, 1) := by decide +kernel
theorem dX7_digest_16 : decode cX7_digest 16 = .ok (.lmul, 1) := by decide +kernel
theorem dX7_digest_17 : decode cX7_digest 17 = .ok (.aload_n 0, 1) := by decide +kernel
theorem dX7_digest_18 : decode cX7_digest 18 = .ok (.iload_n 3, 1) := by decide +kernel
theorem dX7_digest_19 : decode cX7_digest 19 = .ok (.invokevirtual 196, 3) := by decide +kernel
theorem dX7_digest_22 : decode cX7_digest 22 = .ok (.i2l, 1) := by decide +kernel
theorem dX7_digest_23 : decode cX7_digest 23 = .ok (.ladd, 1) := by decide +kernel
theorem dX7_digest_24 : decode cX7_digest 24 = .ok (.lstore_n 1, 1) := by decide +kernel
theorem dX7_digest_25 : decode cX7_digest 25 = .ok (.iinc 3 1, 3) := by decide +kernel
theorem dX7_digest_28 : decode cX7_digest 28 = .ok (.goto (-22), 3) := by decide +kernel
theorem dX7_digest_31 : decode cX7_digest 31 = .ok (.ldc2_w 201, 3) := by decide +kernel
theorem dX7_digest_34 : decode cX7_digest 34 = .ok (.lload_n 1, 1) := by decide +kernel
theorem dX7_digest_35 : decode cX7_digest 35 = .ok (.lmul, 1) := by decide +kernel
theorem dX7_digest_36 : decode cX7_digest 36 = .ok (.aload_n 0, 1) := by decide +kernel
theorem dX7_digest_37 : decode cX7_digest 37 = .ok (.getfield 10, 3) := by decide +kernel
theorem dX7_digest_40 : decode cX7_digest 40 = .ok (.getfield 203, 3) := by decide +kernel
theorem dX7_digest_43 : decode cX7_digest 43 = .ok (.i2l, 1) := by decide +kernel
theorem dX7_digest_44 : decode cX7_digest 44 = .ok (.ladd, 1) := by decide +kernel
theorem dX7_digest_45 : decode cX7_digest 45 = .ok (.lstore_n 1, 1) := by decide +kernel
theorem dX7_digest_46 : decode cX7_digest 46 = .ok (.iconst 0, 1) := by decide +kernel
theorem dX7_digest_47 : decode cX7_digest 47 = .ok (.istore_n 3, 1) := by decide +kernel
theorem dX7_digest_48 : decode cX7_digest 48 = .ok (.iload_n 3, 1) := by decide +kernel
theorem dX7_digest_49 : decode cX7_digest 49 = .ok (.aload_n 0, 1) := by decide +kernel
theorem dX7_digest_50 : decode cX7_digest 50 = .ok (.getfield 10, 3) := by decide +kernel
theorem dX7_digest_53 : decode cX7_digest 53 = .ok (.getfield 206, 3) := by decide +kernel
theorem dX7_digest_56 : decode cX7_digest 56 = .ok (.if_icmp .ge 145, 3) := by decide +kernel
theorem dX7_digest_59 : decode cX7_digest 59 = .ok (.aload_n 0, 1) := by decide +kernel
theorem dX7_digest_60 : decode cX7_digest 60 = .ok (.getfield 10, 3) := by decide +kernel
theorem dX7_digest_63 : decode cX7_digest 63 = .ok (.getfield 209, 3) := by decide +kernel
theorem dX7_digest_66 : decode cX7_digest 66 = .ok (.iload_n 3, 1) := by decide +kernel
theorem dX7_digest_67 : decode cX7_digest 67 = .ok (.aaload, 1) := by decide +kernel
theorem dX7_digest_68 : decode cX7_digest 68 = .ok (.astore 4, 2) := by decide +kernel
theorem dX7_digest_70 : decode cX7_digest 70 = .ok (.ldc2_w 201, 3) := by decide +kernel
theorem dX7_digest_73 : decode cX7_digest 73 = .ok (.lload_n 1, 1) := by decide +kernel
theorem dX7_digest_74 : decode cX7_digest 74 = .ok (.lmul, 1) := by decide +kernel
theorem dX7_digest_75 : decode cX7_digest 75 = .ok (.aload 4, 2) := by decide +kernel
theorem dX7_digest_77 : decode cX7_digest 77 = .ok (.getfield 213, 3) := by decide +kernel
theorem dX7_digest_80 : decode cX7_digest 80 = .ok (.i2l, 1) := by decide +kernel
theorem dX7_digest_81 : decode cX7_digest 81 = .ok (.ladd, 1) := by decide +kernel
theorem dX7_digest_82 : decode cX7_digest 82 = .ok (.lstore_n 1, 1) := by decide +kernel
theorem dX7_digest_83 : decode cX7_digest 83 = .ok (.ldc2_w 201, 3) := by decide +kernel
theorem dX7_digest_86 : decode cX7_digest 86 = .ok (.lload_n 1, 1) := by decide +kernel
theorem dX7_digest_87 : decode cX7_digest 87 = .ok (.lmul, 1) := by decide +kernel
theorem dX7_digest_88 : decode cX7_digest 88 = .ok (.aload 4, 2) := by decide +kernel
theorem dX7_digest_90 : decode cX7_digest 90 = .ok (.getfield 218, 3) := by decide +kernel
theorem dX7_digest_93 : decode cX7_digest 93 = .ok (.i2l, 1) := by decide +kernel
theorem dX7_digest_94 : decode cX7_digest 94 = .ok (.ladd, 1) := by decide +kernel
theorem dX7_digest_95 : decode cX7_digest 95 = .ok (.lstore_n 1, 1) := by decide +kernel
theorem dX7_digest_96 : decode cX7_digest 96 = .ok (.ldc2_w 201, 3) := by decide +kernel
theorem dX7_digest_99 : decode cX7_digest 99 = .ok (.lload_n 1, 1) := by decide +kernel
theorem dX7_digest_100 : decode cX7_digest 100 = .ok (.lmul, 1) := by decide +kernel
theorem dX7_digest_101 : decode cX7_digest 101 = .ok (.aload 4, 2) := by decide +kernel
theorem dX7_digest_103 : decode cX7_digest 103 = .ok (.getfield 221, 3) := by decide +kernel
theorem dX7_digest_106 : decode cX7_digest 106 = .ok (.i2l, 1) := by decide +kernel
theorem dX7_digest_107 : decode cX7_digest 107 = .ok (.ladd, 1) := by decide +kernel
theorem dX7_digest_108 : decode cX7_digest 108 = .ok (.lstore_n 1, 1) := by decide +kernel
theorem dX7_digest_109 : decode cX7_digest 109 = .ok (.ldc2_w 201, 3) := by decide +kernel
theorem dX7_digest_112 : decode cX7_digest 112 = .ok (.lload_n 1, 1) := by decide +kernel
theorem dX7_digest_113 : decode cX7_digest 113 = .ok (.lmul, 1) := by decide +kernel
theorem dX7_digest_114 : decode cX7_digest 114 = .ok (.aload 4, 2) := by decide +kernel
theorem dX7_digest_116 : decode cX7_digest 116 = .ok (.getfield 224, 3) := by decide +kernel
theorem dX7_digest_119 : decode cX7_digest 119 = .ok (.i2l, 1) := by decide +kernel
theorem dX7_digest_120 : decode cX7_digest 120 = .ok (.ladd, 1) := by decide +kernel
theorem dX7_digest_121 : decode cX7_digest 121 = .ok (.lstore_n 1, 1) := by decide +kernel
theorem dX7_digest_122 : decode cX7_digest 122 = .ok (.ldc2_w 201, 3) := by decide +kernel
theorem dX7_digest_125 : decode cX7_digest 125 = .ok (.lload_n 1, 1) := by decide +kernel
theorem dX7_digest_126 : decode cX7_digest 126 = .ok (.lmul, 1) := by decide +kernel
theorem dX7_digest_127 : decode cX7_digest 127 = .ok (.aload 4, 2) := by decide +kernel
theorem dX7_digest_129 : decode cX7_digest 129 = .ok (.getfield 225, 3) := by decide +kernel
theorem dX7_digest_132 : decode cX7_digest 132 = .ok (.i2l, 1) := by decide +kernel
theorem dX7_digest_133 : decode cX7_digest 133 = .ok (.ladd, 1) := by decide +kernel
theorem dX7_digest_134 : decode cX7_digest 134 = .ok (.lstore_n 1, 1) := by decide +kernel
theorem dX7_digest_135 : decode cX7_digest 135 = .ok (.ldc2_w 201, 3) := by decide +kernel
theorem dX7_digest_138 : decode cX7_digest 138 = .ok (.lload_n 1, 1) := by decide +kernel
theorem dX7_digest_139 : decode cX7_digest 139 = .ok (.lmul, 1) := by decide +kernel
theorem dX7_digest_140 : decode cX7_digest 140 = .ok (.aload_n 0, 1) := by decide +kernel
theorem dX7_digest_141 : decode cX7_digest 141 = .ok (.getfield 10, 3) := by decide +kernel
theorem dX7_digest_144 : decode cX7_digest 144 = .ok (.getfield 115, 3) := by decide +kernel
theorem dX7_digest_147 : decode cX7_digest 147 = .ok (.getfield 119, 3) := by decide +kernel
theorem dX7_digest_150 : decode cX7_digest 150 = .ok (.iload_n 3, 1) := by decide +kernel
theorem dX7_digest_151 : decode cX7_digest 151 = .ok (.iaload, 1) := by decide +kernel
theorem dX7_digest_152 : decode cX7_digest 152 = .ok (.i2l, 1) := by decide +kernel
theorem dX7_digest_153 : decode cX7_digest 153 = .ok (.ladd, 1) := by decide +kernel
theorem dX7_digest_154 : decode cX7_digest 154 = .ok (.lstore_n 1, 1) := by decide +kernel
theorem dX7_digest_155 : decode cX7_digest 155 = .ok (.ldc2_w 201, 3) := by decide +kernel
theorem dX7_digest_158 : decode cX7_digest 158 = .ok (.lload_n 1, 1) := by decide +kernel
theorem dX7_digest_159 : decode cX7_digest 159 = .ok (.lmul, 1) := by decide +kernel
theorem dX7_digest_160 : decode cX7_digest 160 = .ok (.aload_n 0, 1) := by decide +kernel
theorem dX7_digest_161 : decode cX7_digest 161 = .ok (.getfield 10, 3) := by decide +kernel
theorem dX7_digest_164 : decode cX7_digest 164 = .ok (.getfield 115, 3) := by decide +kernel
theorem dX7_digest_167 : decode cX7_digest 167 = .ok (.iload_n 3, 1) := by decide +kernel
theorem dX7_digest_168 : decode cX7_digest 168 = .ok (.invokevirtual 228, 3) := by decide +kernel
theorem dX7_digest_171 : decode cX7_digest 171 = .ok (.ifCond .eq 7, 3) := by decide +kernel
theorem dX7_digest_174 : decode cX7_digest 174 = .ok (.iconst 1, 1) := by decide +kernel
theorem dX7_digest_175 : decode cX7_digest 175 = .ok (.goto 4, 3) := by decide +kernel
theorem dX7_digest_178 : decode cX7_digest 178 = .ok (.iconst 0, 1) := by decide +kernel
theorem dX7_digest_179 : decode cX7_digest 179 = .ok (.i2l, 1) := by decide +kernel
theorem dX7_digest_180 : decode cX7_digest 180 = .ok (.ladd, 1) := by decide +kernel
theorem dX7_digest_181 : decode cX7_digest 181 = .ok (.lstore_n 1, 1) := by decide +kernel
theorem dX7_digest_182 : decode cX7_digest 182 = .ok (.ldc2_w 201, 3) := by decide +kernel
theorem dX7_digest_185 : decode cX7_digest 185 = .ok (.lload_n 1, 1) := by decide +kernel
theorem dX7_digest_186 : decode cX7_digest 186 = .ok (.lmul, 1) := by decide +kernel
theorem dX7_digest_187 : decode cX7_digest 187 = .ok (.aload 4, 2) := by decide +kernel
theorem dX7_digest_189 : decode cX7_digest 189 = .ok (.getfield 231, 3) := by decide +kernel
theorem dX7_digest_192 : decode cX7_digest 192 = .ok (.i2l, 1) := by decide +kernel
theorem dX7_digest_193 : decode cX7_digest 193 = .ok (.ladd, 1) := by decide +kernel
theorem dX7_digest_194 : decode cX7_digest 194 = .ok (.lstore_n 1, 1) := by decide +kernel
theorem dX7_digest_195 : decode cX7_digest 195 = .ok (.iinc 3 1, 3) := by decide +kernel
theorem dX7_digest_198 : decode cX7_digest 198 = .ok (.goto (-150), 3) := by decide +kernel
theorem dX7_digest_201 : decode cX7_digest 201 = .ok (.iconst 0, 1) := by decide +kernel
theorem dX7_digest_202 : decode cX7_digest 202 = .ok (.istore_n 3, 1) := by decide +kernel
theorem dX7_digest_203 : decode cX7_digest 203 = .ok (.iload_n 3, 1) := by decide +kernel
theorem dX7_digest_204 : decode cX7_digest 204 = .ok (.aload_n 0, 1) := by decide +kernel
theorem dX7_digest_205 : decode cX7_digest 205 = .ok (.getfield 10, 3) := by decide +kernel
theorem dX7_digest_208 : decode cX7_digest 208 = .ok (.getfield 141, 3) := by decide +kernel
theorem dX7_digest_211 : decode cX7_digest 211 = .ok (.if_icmp .ge 33, 3) := by decide +kernel
theorem dX7_digest_214 : decode cX7_digest 214 = .ok (.ldc2_w 201, 3) := by decide +kernel
theorem dX7_digest_217 : decode cX7_digest 217 = .ok (.lload_n 1, 1) := by decide +kernel
theorem dX7_digest_218 : decode cX7_digest 218 = .ok (.lmul, 1) := by decide +kernel
theorem dX7_digest_219 : decode cX7_digest 219 = .ok (.aload_n 0, 1) := by decide +kernel
theorem dX7_digest_220 : decode cX7_digest 220 = .ok (.getfield 10, 3) := by decide +kernel
theorem dX7_digest_223 : decode cX7_digest 223 = .ok (.iload_n 3, 1) := by decide +kernel
theorem dX7_digest_224 : decode cX7_digest 224 = .ok (.invokevirtual 234, 3) := by decide +kernel
theorem dX7_digest_227 : decode cX7_digest 227 = .ok (.ifCond .eq 7, 3) := by decide +kernel
theorem dX7_digest_230 : decode cX7_digest 230 = .ok (.iconst 1, 1) := by decide +kernel
theorem dX7_digest_231 : decode cX7_digest 231 = .ok (.goto 4, 3) := by decide +kernel
theorem dX7_digest_234 : decode cX7_digest 234 = .ok (.iconst 0, 1) := by decide +kernel
theorem dX7_digest_235 : decode cX7_digest 235 = .ok (.i2l, 1) := by decide +kernel
theorem dX7_digest_236 : decode cX7_digest 236 = .ok (.ladd, 1) := by decide +kernel
theorem dX7_digest_237 : decode cX7_digest 237 = .ok (.lstore_n 1, 1) := by decide +kernel
theorem dX7_digest_238 : decode cX7_digest 238 = .ok (.iinc 3 1, 3) := by decide +kernel
theorem dX7_digest_241 : decode cX7_digest 241 = .ok (.goto (-38), 3) := by decide +kernel
theorem dX7_digest_244 : decode cX7_digest 244 = .ok (.lload_n 1, 1) := by decide +kernel
theorem dX7_digest_245 : decode cX7_digest 245 = .ok (.lreturn, 1) := by decide +kernel
theorem dX7_sizeOf_0 : decode cX7_sizeOf 0 = .ok (.iload_n 1, 1) := by decide +kernel
theorem dX7_sizeOf_1 : decode cX7_sizeOf 1 = .ok (.tableswitch 105 0 6 #[43, 51, 62, 70, 81, 89, 97], 43) := by decide +kernel
theorem dX7_sizeOf_44 : decode cX7_sizeOf 44 = .ok (.aload_n 0, 1) := by decide +kernel
theorem dX7_sizeOf_45 : decode cX7_sizeOf 45 = .ok (.getfield 10, 3) := by decide +kernel
theorem dX7_sizeOf_48 : decode cX7_sizeOf 48 = .ok (.getfield 206, 3) := by decide +kernel
theorem dX7_sizeOf_51 : decode cX7_sizeOf 51 = .ok (.ireturn, 1) := by decide +kernel
theorem dX7_sizeOf_52 : decode cX7_sizeOf 52 = .ok (.aload_n 0, 1) := by decide +kernel
theorem dX7_sizeOf_53 : decode cX7_sizeOf 53 = .ok (.getfield 10, 3) := by decide +kernel
theorem dX7_sizeOf_56 : decode cX7_sizeOf 56 = .ok (.getfield 144, 3) := by decide +kernel
theorem dX7_sizeOf_59 : decode cX7_sizeOf 59 = .ok (.invokestatic 147, 3) := by decide +kernel
theorem dX7_sizeOf_62 : decode cX7_sizeOf 62 = .ok (.ireturn, 1) := by decide +kernel
theorem dX7_sizeOf_63 : decode cX7_sizeOf 63 = .ok (.aload_n 0, 1) := by decide +kernel
theorem dX7_sizeOf_64 : decode cX7_sizeOf 64 = .ok (.getfield 10, 3) := by decide +kernel
theorem dX7_sizeOf_67 : decode cX7_sizeOf 67 = .ok (.getfield 237, 3) := by decide +kernel
theorem dX7_sizeOf_70 : decode cX7_sizeOf 70 = .ok (.ireturn, 1) := by decide +kernel
theorem dX7_sizeOf_71 : decode cX7_sizeOf 71 = .ok (.aload_n 0, 1) := by decide +kernel
theorem dX7_sizeOf_72 : decode cX7_sizeOf 72 = .ok (.getfield 10, 3) := by decide +kernel
theorem dX7_sizeOf_75 : decode cX7_sizeOf 75 = .ok (.getfield 240, 3) := by decide +kernel
theorem dX7_sizeOf_78 : decode cX7_sizeOf 78 = .ok (.getfield 244, 3) := by decide +kernel
theorem dX7_sizeOf_81 : decode cX7_sizeOf 81 = .ok (.ireturn, 1) := by decide +kernel
theorem dX7_sizeOf_82 : decode cX7_sizeOf 82 = .ok (.aload_n 0, 1) := by decide +kernel
theorem dX7_sizeOf_83 : decode cX7_sizeOf 83 = .ok (.getfield 30, 3) := by decide +kernel
theorem dX7_sizeOf_86 : decode cX7_sizeOf 86 = .ok (.getfield 248, 3) := by decide +kernel
theorem dX7_sizeOf_89 : decode cX7_sizeOf 89 = .ok (.ireturn, 1) := by decide +kernel
theorem dX7_sizeOf_90 : decode cX7_sizeOf 90 = .ok (.aload_n 0, 1) := by decide +kernel
theorem dX7_sizeOf_91 : decode cX7_sizeOf 91 = .ok (.getfield 10, 3) := by decide +kernel
theorem dX7_sizeOf_94 : decode cX7_sizeOf 94 = .ok (.getfield 141, 3) := by decide +kernel
theorem dX7_sizeOf_97 : decode cX7_sizeOf 97 = .ok (.ireturn, 1) := by decide +kernel
theorem dX7_sizeOf_98 : decode cX7_sizeOf 98 = .ok (.aload_n 0, 1) := by decide +kernel
theorem dX7_sizeOf_99 : decode cX7_sizeOf 99 = .ok (.getfield 10, 3) := by decide +kernel
theorem dX7_sizeOf_102 : decode cX7_sizeOf 102 = .ok (.getfield 165, 3) := by decide +kernel
theorem dX7_sizeOf_105 : decode cX7_sizeOf 105 = .ok (.ireturn, 1) := by decide +kernel
theorem dX7_sizeOf_106 : decode cX7_sizeOf 106 = .ok (.bipush (-2), 2) := by decide +kernel
theorem dX7_sizeOf_108 : decode cX7_sizeOf 108 = .ok (.ireturn, 1) := by decide +kernel
theorem dX7_bestWay_0 : decode cX7_bestWay 0 = .ok (.iload_n 1, 1) := by decide +kernel
theorem dX7_bestWay_1 : decode cX7_bestWay 1 = .ok (.ifCond .lt 42, 3) := by decide +kernel
theorem dX7_bestWay_4 : decode cX7_bestWay 4 = .ok (.iload_n 1, 1) := by decide +kernel
theorem dX7_bestWay_5 : decode cX7_bestWay 5 = .ok (.bipush 6, 2) := by decide +kernel
theorem dX7_bestWay_7 : decode cX7_bestWay 7 = .ok (.if_icmp .gt 36, 3) := by decide +kernel
theorem dX7_bestWay_10 : decode cX7_bestWay 10 = .ok (.iload_n 1, 1) := by decide +kernel
theorem dX7_bestWay_11 : decode cX7_bestWay 11 = .ok (.aload_n 0, 1) := by decide +kernel
theorem dX7_bestWay_12 : decode cX7_bestWay 12 = .ok (.getfield 10, 3) := by decide +kernel
theorem dX7_bestWay_15 : decode cX7_bestWay 15 = .ok (.getfield 237, 3) := by decide +kernel
theorem dX7_bestWay_18 : decode cX7_bestWay 18 = .ok (.if_icmp .gt 25, 3) := by decide +kernel
theorem dX7_bestWay_21 : decode cX7_bestWay 21 = .ok (.iload_n 3, 1) := by decide +kernel
theorem dX7_bestWay_22 : decode cX7_bestWay 22 = .ok (.iconst (-1), 1) := by decide +kernel
theorem dX7_bestWay_23 : decode cX7_bestWay 23 = .ok (.if_icmp .lt 20, 3) := by decide +kernel
theorem dX7_bestWay_26 : decode cX7_bestWay 26 = .ok (.iload_n 2, 1) := by decide +kernel
theorem dX7_bestWay_27 : decode cX7_bestWay 27 = .ok (.ifCond .lt 16, 3) := by decide +kernel
theorem dX7_bestWay_30 : decode cX7_bestWay 30 = .ok (.iload_n 2, 1) := by decide +kernel
theorem dX7_bestWay_31 : decode cX7_bestWay 31 = .ok (.iconst 1, 1) := by decide +kernel
theorem dX7_bestWay_32 : decode cX7_bestWay 32 = .ok (.aload_n 0, 1) := by decide +kernel
theorem dX7_bestWay_33 : decode cX7_bestWay 33 = .ok (.getfield 10, 3) := by decide +kernel
theorem dX7_bestWay_36 : decode cX7_bestWay 36 = .ok (.getfield 206, 3) := by decide +kernel
theorem dX7_bestWay_39 : decode cX7_bestWay 39 = .ok (.ishl, 1) := by decide +kernel
theorem dX7_bestWay_40 : decode cX7_bestWay 40 = .ok (.if_icmp .lt 13, 3) := by decide +kernel
theorem dX7_bestWay_43 : decode cX7_bestWay 43 = .ok (.aload_n 0, 1) := by decide +kernel
theorem dX7_bestWay_44 : decode cX7_bestWay 44 = .ok (.bipush (-2), 2) := by decide +kernel
theorem dX7_bestWay_46 : decode cX7_bestWay 46 = .ok (.invokevirtual 52, 3) := by decide +kernel
theorem dX7_bestWay_49 : decode cX7_bestWay 49 = .ok (.invokestatic 67, 3) := by decide +kernel
theorem dX7_bestWay_52 : decode cX7_bestWay 52 = .ok (.ireturn, 1) := by decide +kernel
theorem dX7_bestWay_53 : decode cX7_bestWay 53 = .ok (.aload_n 0, 1) := by decide +kernel
theorem dX7_bestWay_54 : decode cX7_bestWay 54 = .ok (.getfield 37, 3) := by decide +kernel
theorem dX7_bestWay_57 : decode cX7_bestWay 57 = .ok (.aload_n 0, 1) := by decide +kernel
theorem dX7_bestWay_58 : decode cX7_bestWay 58 = .ok (.getfield 10, 3) := by decide +kernel
theorem dX7_bestWay_61 : decode cX7_bestWay 61 = .ok (.iload_n 1, 1) := by decide +kernel
theorem dX7_bestWay_62 : decode cX7_bestWay 62 = .ok (.iload_n 2, 1) := by decide +kernel
theorem dX7_bestWay_63 : decode cX7_bestWay 63 = .ok (.invokevirtual 251, 3) := by decide +kernel
theorem dX7_bestWay_66 : decode cX7_bestWay 66 = .ok (.aload_n 0, 1) := by decide +kernel
theorem dX7_bestWay_67 : decode cX7_bestWay 67 = .ok (.getfield 37, 3) := by decide +kernel
theorem dX7_bestWay_70 : decode cX7_bestWay 70 = .ok (.getfield 254, 3) := by decide +kernel
theorem dX7_bestWay_73 : decode cX7_bestWay 73 = .ok (.iconst (-1), 1) := by decide +kernel
theorem dX7_bestWay_74 : decode cX7_bestWay 74 = .ok (.if_icmp .ne 5, 3) := by decide +kernel
theorem dX7_bestWay_77 : decode cX7_bestWay 77 = .ok (.iconst (-1), 1) := by decide +kernel
theorem dX7_bestWay_78 : decode cX7_bestWay 78 = .ok (.ireturn, 1) := by decide +kernel
theorem dX7_bestWay_79 : decode cX7_bestWay 79 = .ok (.iload_n 3, 1) := by decide +kernel
theorem dX7_bestWay_80 : decode cX7_bestWay 80 = .ok (.iload_n 1, 1) := by decide +kernel
theorem dX7_bestWay_81 : decode cX7_bestWay 81 = .ok (.if_icmp .lt 6, 3) := by decide +kernel
theorem dX7_bestWay_84 : decode cX7_bestWay 84 = .ok (.bipush (-5), 2) := by decide +kernel
theorem dX7_bestWay_86 : decode cX7_bestWay 86 = .ok (.ireturn, 1) := by decide +kernel
theorem dX7_bestWay_87 : decode cX7_bestWay 87 = .ok (.iload_n 3, 1) := by decide +kernel
theorem dX7_bestWay_88 : decode cX7_bestWay 88 = .ok (.iconst (-1), 1) := by decide +kernel
theorem dX7_bestWay_89 : decode cX7_bestWay 89 = .ok (.if_icmp .ne 13, 3) := by decide +kernel
theorem dX7_bestWay_92 : decode cX7_bestWay 92 = .ok (.aload_n 0, 1) := by decide +kernel
theorem dX7_bestWay_93 : decode cX7_bestWay 93 = .ok (.getfield 37, 3) := by decide +kernel
theorem dX7_bestWay_96 : decode cX7_bestWay 96 = .ok (.getfield 254, 3) := by decide +kernel
theorem dX7_bestWay_99 : decode cX7_bestWay 99 = .ok (.goto 12, 3) := by decide +kernel
theorem dX7_bestWay_102 : decode cX7_bestWay 102 = .ok (.aload_n 0, 1) := by decide +kernel
theorem dX7_bestWay_103 : decode cX7_bestWay 103 = .ok (.getfield 37, 3) := by decide +kernel
theorem dX7_bestWay_106 : decode cX7_bestWay 106 = .ok (.getfield 257, 3) := by decide +kernel
theorem dX7_bestWay_109 : decode cX7_bestWay 109 = .ok (.iload_n 3, 1) := by decide +kernel
theorem dX7_bestWay_110 : decode cX7_bestWay 110 = .ok (.iaload, 1) := by decide +kernel
theorem dX7_bestWay_111 : decode cX7_bestWay 111 = .ok (.ireturn, 1) := by decide +kernel
theorem dX7_counted_0 : decode cX7_counted 0 = .ok (.iload_n 1, 1) := by decide +kernel
theorem dX7_counted_1 : decode cX7_counted 1 = .ok (.bipush (-2), 2) := by decide +kernel
theorem dX7_counted_3 : decode cX7_counted 3 = .ok (.if_icmp .ne 16, 3) := by decide +kernel
theorem dX7_counted_6 : decode cX7_counted 6 = .ok (.aload_n 0, 1) := by decide +kernel
theorem dX7_counted_7 : decode cX7_counted 7 = .ok (.dup, 1) := by decide +kernel
theorem dX7_counted_8 : decode cX7_counted 8 = .ok (.getfield 187, 3) := by decide +kernel
theorem dX7_counted_11 : decode cX7_counted 11 = .ok (.iconst 1, 1) := by decide +kernel
theorem dX7_counted_12 : decode cX7_counted 12 = .ok (.iadd, 1) := by decide +kernel
theorem dX7_counted_13 : decode cX7_counted 13 = .ok (.putfield 187, 3) := by decide +kernel
theorem dX7_counted_16 : decode cX7_counted 16 = .ok (.goto 38, 3) := by decide +kernel
theorem dX7_counted_19 : decode cX7_counted 19 = .ok (.iload_n 1, 1) := by decide +kernel
theorem dX7_counted_20 : decode cX7_counted 20 = .ok (.bipush (-3), 2) := by decide +kernel
theorem dX7_counted_22 : decode cX7_counted 22 = .ok (.if_icmp .ne 16, 3) := by decide +kernel
theorem dX7_counted_25 : decode cX7_counted 25 = .ok (.aload_n 0, 1) := by decide +kernel
theorem dX7_counted_26 : decode cX7_counted 26 = .ok (.dup, 1) := by decide +kernel
theorem dX7_counted_27 : decode cX7_counted 27 = .ok (.getfield 190, 3) := by decide +kernel
theorem dX7_counted_30 : decode cX7_counted 30 = .ok (.iconst 1, 1) := by decide +kernel
theorem dX7_counted_31 : decode cX7_counted 31 = .ok (.iadd, 1) := by decide +kernel
theorem dX7_counted_32 : decode cX7_counted 32 = .ok (.putfield 190, 3) := by decide +kernel
theorem dX7_counted_35 : decode cX7_counted 35 = .ok (.goto 19, 3) := by decide +kernel
theorem dX7_counted_38 : decode cX7_counted 38 = .ok (.iload_n 1, 1) := by decide +kernel
theorem dX7_counted_39 : decode cX7_counted 39 = .ok (.bipush (-4), 2) := by decide +kernel
theorem dX7_counted_41 : decode cX7_counted 41 = .ok (.if_icmp .ne 13, 3) := by decide +kernel
theorem dX7_counted_44 : decode cX7_counted 44 = .ok (.aload_n 0, 1) := by decide +kernel
theorem dX7_counted_45 : decode cX7_counted 45 = .ok (.dup, 1) := by decide +kernel
theorem dX7_counted_46 : decode cX7_counted 46 = .ok (.getfield 193, 3) := by decide +kernel
theorem dX7_counted_49 : decode cX7_counted 49 = .ok (.iconst 1, 1) := by decide +kernel
theorem dX7_counted_50 : decode cX7_counted 50 = .ok (.iadd, 1) := by decide +kernel
theorem dX7_counted_51 : decode cX7_counted 51 = .ok (.putfield 193, 3) := by decide +kernel
theorem dX7_counted_54 : decode cX7_counted 54 = .ok (.iload_n 1, 1) := by decide +kernel
theorem dX7_counted_55 : decode cX7_counted 55 = .ok (.ireturn, 1) := by decide +kernel
theorem dX7_asTens_0 : decode cX7_asTens 0 = .ok (.iload_n 0, 1) := by decide +kernel
theorem dX7_asTens_1 : decode cX7_asTens 1 = .ok (.bipush (-2), 2) := by decide +kernel
theorem dX7_asTens_3 : decode cX7_asTens 3 = .ok (.if_icmp .ne 6, 3) := by decide +kernel
theorem dX7_asTens_6 : decode cX7_asTens 6 = .ok (.bipush (-10), 2) := by decide +kernel
theorem dX7_asTens_8 : decode cX7_asTens 8 = .ok (.ireturn, 1) := by decide +kernel
theorem dX7_asTens_9 : decode cX7_asTens 9 = .ok (.iload_n 0, 1) := by decide +kernel
theorem dX7_asTens_10 : decode cX7_asTens 10 = .ok (.bipush (-3), 2) := by decide +kernel
theorem dX7_asTens_12 : decode cX7_asTens 12 = .ok (.if_icmp .ne 8, 3) := by decide +kernel
theorem dX7_asTens_15 : decode cX7_asTens 15 = .ok (.bipush (-20), 2) := by decide +kernel
theorem dX7_asTens_17 : decode cX7_asTens 17 = .ok (.goto 4, 3) := by decide +kernel
theorem dX7_asTens_20 : decode cX7_asTens 20 = .ok (.iload_n 0, 1) := by decide +kernel
theorem dX7_asTens_21 : decode cX7_asTens 21 = .ok (.ireturn, 1) := by decide +kernel
theorem dX7_isZeroOrOne_0 : decode cX7_isZeroOrOne 0 = .ok (.iload_n 0, 1) := by decide +kernel
theorem dX7_isZeroOrOne_1 : decode cX7_isZeroOrOne 1 = .ok (.ifCond .eq 8, 3) := by decide +kernel
theorem dX7_isZeroOrOne_4 : decode cX7_isZeroOrOne 4 = .ok (.iload_n 0, 1) := by decide +kernel
theorem dX7_isZeroOrOne_5 : decode cX7_isZeroOrOne 5 = .ok (.iconst 1, 1) := by decide +kernel
theorem dX7_isZeroOrOne_6 : decode cX7_isZeroOrOne 6 = .ok (.if_icmp .ne 7, 3) := by decide +kernel
theorem dX7_isZeroOrOne_9 : decode cX7_isZeroOrOne 9 = .ok (.iconst 1, 1) := by decide +kernel
theorem dX7_isZeroOrOne_10 : decode cX7_isZeroOrOne 10 = .ok (.goto 4, 3) := by decide +kernel
theorem dX7_isZeroOrOne_13 : decode cX7_isZeroOrOne 13 = .ok (.iconst 0, 1) := by decide +kernel
theorem dX7_isZeroOrOne_14 : decode cX7_isZeroOrOne 14 = .ok (.ireturn, 1) := by decide +kernel
theorem dX7_pagesByLight_0 : decode cX7_pagesByLight 0 = .ok (.iload_n 1, 1) := by decide +kernel
theorem dX7_pagesByLight_1 : decode cX7_pagesByLight 1 = .ok (.iconst 4, 1) := by decide +kernel
theorem dX7_pagesByLight_2 : decode cX7_pagesByLight 2 = .ok (.idiv, 1) := by decide +kernel
theorem dX7_pagesByLight_3 : decode cX7_pagesByLight 3 = .ok (.istore_n 2, 1) := by decide +kernel
theorem dX7_pagesByLight_4 : decode cX7_pagesByLight 4 = .ok (.iload_n 2, 1) := by decide +kernel
theorem dX7_pagesByLight_5 : decode cX7_pagesByLight 5 = .ok (.ifCond .le 9, 3) := by decide +kernel
theorem dX7_pagesByLight_8 : decode cX7_pagesByLight 8 = .ok (.iload_n 2, 1) := by decide +kernel
theorem dX7_pagesByLight_9 : decode cX7_pagesByLight 9 = .ok (.iconst 1, 1) := by decide +kernel
theorem dX7_pagesByLight_10 : decode cX7_pagesByLight 10 = .ok (.isub, 1) := by decide +kernel
theorem dX7_pagesByLight_11 : decode cX7_pagesByLight 11 = .ok (.goto 4, 3) := by decide +kernel
theorem dX7_pagesByLight_14 : decode cX7_pagesByLight 14 = .ok (.iconst 0, 1) := by decide +kernel
theorem dX7_pagesByLight_15 : decode cX7_pagesByLight 15 = .ok (.istore_n 3, 1) := by decide +kernel
theorem dX7_pagesByLight_16 : decode cX7_pagesByLight 16 = .ok (.iload_n 1, 1) := by decide +kernel
theorem dX7_pagesByLight_17 : decode cX7_pagesByLight 17 = .ok (.ifCond .le 9, 3) := by decide +kernel
theorem dX7_pagesByLight_20 : decode cX7_pagesByLight 20 = .ok (.iload_n 2, 1) := by decide +kernel
theorem dX7_pagesByLight_21 : decode cX7_pagesByLight 21 = .ok (.iconst 1, 1) := by decide +kernel
theorem dX7_pagesByLight_22 : decode cX7_pagesByLight 22 = .ok (.iadd, 1) := by decide +kernel
theorem dX7_pagesByLight_23 : decode cX7_pagesByLight 23 = .ok (.goto 4, 3) := by decide +kernel
theorem dX7_pagesByLight_26 : decode cX7_pagesByLight 26 = .ok (.iconst 0, 1) := by decide +kernel
theorem dX7_pagesByLight_27 : decode cX7_pagesByLight 27 = .ok (.istore 4, 2) := by decide +kernel
theorem dX7_pagesByLight_29 : decode cX7_pagesByLight 29 = .ok (.iload_n 0, 1) := by decide +kernel
theorem dX7_pagesByLight_30 : decode cX7_pagesByLight 30 = .ok (.tableswitch 39 1 4 #[30, 32, 35, 32], 30) := by decide +kernel
theorem dX7_pagesByLight_60 : decode cX7_pagesByLight 60 = .ok (.iload_n 3, 1) := by decide +kernel
theorem dX7_pagesByLight_61 : decode cX7_pagesByLight 61 = .ok (.ireturn, 1) := by decide +kernel
theorem dX7_pagesByLight_62 : decode cX7_pagesByLight 62 = .ok (.iload 4, 2) := by decide +kernel
theorem dX7_pagesByLight_64 : decode cX7_pagesByLight 64 = .ok (.ireturn, 1) := by decide +kernel
theorem dX7_pagesByLight_65 : decode cX7_pagesByLight 65 = .ok (.iload_n 3, 1) := by decide +kernel
theorem dX7_pagesByLight_66 : decode cX7_pagesByLight 66 = .ok (.iconst 2, 1) := by decide +kernel
theorem dX7_pagesByLight_67 : decode cX7_pagesByLight 67 = .ok (.idiv, 1) := by decide +kernel
theorem dX7_pagesByLight_68 : decode cX7_pagesByLight 68 = .ok (.ireturn, 1) := by decide +kernel
theorem dX7_pagesByLight_69 : decode cX7_pagesByLight 69 = .ok (.iload_n 2, 1) := by decide +kernel
theorem dX7_pagesByLight_70 : decode cX7_pagesByLight 70 = .ok (.ireturn, 1) := by decide +kernel
theorem dX7_readMinute_0 : decode cX7_readMinute 0 = .ok (.iload_n 2, 1) := by decide +kernel
theorem dX7_readMinute_1 : decode cX7_readMinute 1 = .ok (.ifCond .lt 14, 3) := by decide +kernel
theorem dX7_readMinute_4 : decode cX7_readMinute 4 = .ok (.iload_n 2, 1) := by decide +kernel
theorem dX7_readMinute_5 : decode cX7_readMinute 5 = .ok (.aload_n 0, 1) := by decide +kernel
theorem dX7_readMinute_6 : decode cX7_readMinute 6 = .ok (.getfield 206, 3) := by decide +kernel
theorem dX7_readMinute_9 : decode cX7_readMinute 9 = .ok (.iadd, 1) := by decide +kernel
theorem dX7_readMinute_10 : decode cX7_readMinute 10 = .ok (.aload_n 1, 1) := by decide +kernel
theorem dX7_readMinute_11 : decode cX7_readMinute 11 = .ok (.arraylength, 1) := by decide +kernel
theorem dX7_readMinute_12 : decode cX7_readMinute 12 = .ok (.if_icmp .le 5, 3) := by decide +kernel
theorem dX7_readMinute_15 : decode cX7_readMinute 15 = .ok (.iconst 0, 1) := by decide +kernel
theorem dX7_readMinute_16 : decode cX7_readMinute 16 = .ok (.ireturn, 1) := by decide +kernel
theorem dX7_readMinute_17 : decode cX7_readMinute 17 = .ok (.iconst 0, 1) := by decide +kernel
theorem dX7_readMinute_18 : decode cX7_readMinute 18 = .ok (.istore 5, 2) := by decide +kernel
theorem dX7_readMinute_20 : decode cX7_readMinute 20 = .ok (.iconst 0, 1) := by decide +kernel
theorem dX7_readMinute_21 : decode cX7_readMinute 21 = .ok (.istore 6, 2) := by decide +kernel
theorem dX7_readMinute_23 : decode cX7_readMinute 23 = .ok (.iconst 0, 1) := by decide +kernel
theorem dX7_readMinute_24 : decode cX7_readMinute 24 = .ok (.istore 7, 2) := by decide +kernel
theorem dX7_readMinute_26 : decode cX7_readMinute 26 = .ok (.iconst 0, 1) := by decide +kernel
theorem dX7_readMinute_27 : decode cX7_readMinute 27 = .ok (.istore 8, 2) := by decide +kernel
theorem dX7_readMinute_29 : decode cX7_readMinute 29 = .ok (.iload 8, 2) := by decide +kernel
theorem dX7_readMinute_31 : decode cX7_readMinute 31 = .ok (.aload_n 0, 1) := by decide +kernel
theorem dX7_readMinute_32 : decode cX7_readMinute 32 = .ok (.getfield 206, 3) := by decide +kernel
theorem dX7_readMinute_35 : decode cX7_readMinute 35 = .ok (.if_icmp .ge 152, 3) := by decide +kernel
theorem dX7_readMinute_38 : decode cX7_readMinute 38 = .ok (.aload_n 1, 1) := by decide +kernel
theorem dX7_readMinute_39 : decode cX7_readMinute 39 = .ok (.iload_n 2, 1) := by decide +kernel
theorem dX7_readMinute_40 : decode cX7_readMinute 40 = .ok (.iload 8, 2) := by decide +kernel
theorem dX7_readMinute_42 : decode cX7_readMinute 42 = .ok (.iadd, 1) := by decide +kernel
theorem dX7_readMinute_43 : decode cX7_readMinute 43 = .ok (.iaload, 1) := by decide +kernel
theorem dX7_readMinute_44 : decode cX7_readMinute 44 = .ok (.istore 9, 2) := by decide +kernel
theorem dX7_readMinute_46 : decode cX7_readMinute 46 = .ok (.aload_n 3, 1) := by decide +kernel
theorem dX7_readMinute_47 : decode cX7_readMinute 47 = .ok (.getfield 119, 3) := by decide +kernel
theorem dX7_readMinute_50 : decode cX7_readMinute 50 = .ok (.iload 8, 2) := by decide +kernel
theorem dX7_readMinute_52 : decode cX7_readMinute 52 = .ok (.iaload, 1) := by decide +kernel
theorem dX7_readMinute_53 : decode cX7_readMinute 53 = .ok (.istore 10, 2) := by decide +kernel
theorem dX7_readMinute_55 : decode cX7_readMinute 55 = .ok (.aload_n 0, 1) := by decide +kernel
theorem dX7_readMinute_56 : decode cX7_readMinute 56 = .ok (.getfield 209, 3) := by decide +kernel
theorem dX7_readMinute_59 : decode cX7_readMinute 59 = .ok (.iload 8, 2) := by decide +kernel
theorem dX7_readMinute_61 : decode cX7_readMinute 61 = .ok (.aaload, 1) := by decide +kernel
theorem dX7_readMinute_62 : decode cX7_readMinute 62 = .ok (.getfield 218, 3) := by decide +kernel
theorem dX7_readMinute_65 : decode cX7_readMinute 65 = .ok (.istore 11, 2) := by decide +kernel
theorem dX7_readMinute_67 : decode cX7_readMinute 67 = .ok (.iload 11, 2) := by decide +kernel
theorem dX7_readMinute_69 : decode cX7_readMinute 69 = .ok (.iload 9, 2) := by decide +kernel
theorem dX7_readMinute_71 : decode cX7_readMinute 71 = .ok (.invokestatic 260, 3) := by decide +kernel
theorem dX7_readMinute_74 : decode cX7_readMinute 74 = .ok (.istore 12, 2) := by decide +kernel
theorem dX7_readMinute_76 : decode cX7_readMinute 76 = .ok (.iload 11, 2) := by decide +kernel
theorem dX7_readMinute_78 : decode cX7_readMinute 78 = .ok (.iconst 4, 1) := by decide +kernel
theorem dX7_readMinute_79 : decode cX7_readMinute 79 = .ok (.if_icmp .ne 23, 3) := by decide +kernel
theorem dX7_readMinute_82 : decode cX7_readMinute 82 = .ok (.iload 9, 2) := by decide +kernel
theorem dX7_readMinute_84 : decode cX7_readMinute 84 = .ok (.ifCond .ne 18, 3) := by decide +kernel
theorem dX7_readMinute_87 : decode cX7_readMinute 87 = .ok (.aload_n 3, 1) := by decide +kernel
theorem dX7_readMinute_88 : decode cX7_readMinute 88 = .ok (.iload 8, 2) := by decide +kernel
theorem dX7_readMinute_90 : decode cX7_readMinute 90 = .ok (.invokevirtual 228, 3) := by decide +kernel
theorem dX7_readMinute_93 : decode cX7_readMinute 93 = .ok (.ifCond .eq 9, 3) := by decide +kernel
theorem dX7_readMinute_96 : decode cX7_readMinute 96 = .ok (.iconst 1, 1) := by decide +kernel
theorem dX7_readMinute_97 : decode cX7_readMinute 97 = .ok (.istore 12, 2) := by decide +kernel
theorem dX7_readMinute_99 : decode cX7_readMinute 99 = .ok (.goto 17, 3) := by decide +kernel
theorem dX7_readMinute_102 : decode cX7_readMinute 102 = .ok (.iload 11, 2) := by decide +kernel
theorem dX7_readMinute_104 : decode cX7_readMinute 104 = .ok (.iconst 5, 1) := by decide +kernel
theorem dX7_readMinute_105 : decode cX7_readMinute 105 = .ok (.if_icmp .ne 11, 3) := by decide +kernel
theorem dX7_readMinute_108 : decode cX7_readMinute 108 = .ok (.iload 7, 2) := by decide +kernel
theorem dX7_readMinute_110 : decode cX7_readMinute 110 = .ok (.ifCond .eq 6, 3) := by decide +kernel
theorem dX7_readMinute_113 : decode cX7_readMinute 113 = .ok (.iconst 0, 1) := by decide +kernel
theorem dX7_readMinute_114 : decode cX7_readMinute 114 = .ok (.istore 12, 2) := by decide +kernel
theorem dX7_readMinute_116 : decode cX7_readMinute 116 = .ok (.iload 12, 2) := by decide +kernel
theorem dX7_readMinute_118 : decode cX7_readMinute 118 = .ok (.iload 10, 2) := by decide +kernel
theorem dX7_readMinute_120 : decode cX7_readMinute 120 = .ok (.invokestatic 263, 3) := by decide +kernel
theorem dX7_readMinute_123 : decode cX7_readMinute 123 = .ok (.istore 12, 2) := by decide +kernel
theorem dX7_readMinute_125 : decode cX7_readMinute 125 = .ok (.iload 12, 2) := by decide +kernel
theorem dX7_readMinute_127 : decode cX7_readMinute 127 = .ok (.ifCond .le 17, 3) := by decide +kernel
theorem dX7_readMinute_130 : decode cX7_readMinute 130 = .ok (.iload 9, 2) := by decide +kernel
theorem dX7_readMinute_132 : decode cX7_readMinute 132 = .ok (.ifCond .le 12, 3) := by decide +kernel
theorem dX7_readMinute_135 : decode cX7_readMinute 135 = .ok (.iload 6, 2) := by decide +kernel
theorem dX7_readMinute_137 : decode cX7_readMinute 137 = .ok (.iconst 1, 1) := by decide +kernel
theorem dX7_readMinute_138 : decode cX7_readMinute 138 = .ok (.iload 8, 2) := by decide +kernel
theorem dX7_readMinute_140 : decode cX7_readMinute 140 = .ok (.ishl, 1) := by decide +kernel
theorem dX7_readMinute_141 : decode cX7_readMinute 141 = .ok (.ior, 1) := by decide +kernel
theorem dX7_readMinute_142 : decode cX7_readMinute 142 = .ok (.istore 6, 2) := by decide +kernel
theorem dX7_readMinute_144 : decode cX7_readMinute 144 = .ok (.iload 7, 2) := by decide +kernel
theorem dX7_readMinute_146 : decode cX7_readMinute 146 = .ok (.ifCond .ne 8, 3) := by decide +kernel
theorem dX7_readMinute_149 : decode cX7_readMinute 149 = .ok (.iload 10, 2) := by decide +kernel
theorem dX7_readMinute_151 : decode cX7_readMinute 151 = .ok (.ifCond .le 7, 3) := by decide +kernel
theorem dX7_readMinute_154 : decode cX7_readMinute 154 = .ok (.iconst 1, 1) := by decide +kernel
theorem dX7_readMinute_155 : decode cX7_readMinute 155 = .ok (.goto 4, 3) := by decide +kernel
theorem dX7_readMinute_158 : decode cX7_readMinute 158 = .ok (.iconst 0, 1) := by decide +kernel
theorem dX7_readMinute_159 : decode cX7_readMinute 159 = .ok (.istore 7, 2) := by decide +kernel
theorem dX7_readMinute_161 : decode cX7_readMinute 161 = .ok (.aload 4, 2) := by decide +kernel
theorem dX7_readMinute_163 : decode cX7_readMinute 163 = .ok (.getfield 119, 3) := by decide +kernel
theorem dX7_readMinute_166 : decode cX7_readMinute 166 = .ok (.iload 8, 2) := by decide +kernel
theorem dX7_readMinute_168 : decode cX7_readMinute 168 = .ok (.iload 10, 2) := by decide +kernel
theorem dX7_readMinute_170 : decode cX7_readMinute 170 = .ok (.iload 12, 2) := by decide +kernel
theorem dX7_readMinute_172 : decode cX7_readMinute 172 = .ok (.isub, 1) := by decide +kernel
theorem dX7_readMinute_173 : decode cX7_readMinute 173 = .ok (.iastore, 1) := by decide +kernel
theorem dX7_readMinute_174 : decode cX7_readMinute 174 = .ok (.iload 5, 2) := by decide +kernel
theorem dX7_readMinute_176 : decode cX7_readMinute 176 = .ok (.iload 12, 2) := by decide +kernel
theorem dX7_readMinute_178 : decode cX7_readMinute 178 = .ok (.iadd, 1) := by decide +kernel
theorem dX7_readMinute_179 : decode cX7_readMinute 179 = .ok (.istore 5, 2) := by decide +kernel
theorem dX7_readMinute_181 : decode cX7_readMinute 181 = .ok (.iinc 8 1, 3) := by decide +kernel
theorem dX7_readMinute_184 : decode cX7_readMinute 184 = .ok (.goto (-155), 3) := by decide +kernel
theorem dX7_readMinute_187 : decode cX7_readMinute 187 = .ok (.aload 4, 2) := by decide +kernel
theorem dX7_readMinute_189 : decode cX7_readMinute 189 = .ok (.iload 6, 2) := by decide +kernel
theorem dX7_readMinute_191 : decode cX7_readMinute 191 = .ok (.putfield 268, 3) := by decide +kernel
theorem dX7_readMinute_194 : decode cX7_readMinute 194 = .ok (.iload 5, 2) := by decide +kernel
theorem dX7_readMinute_196 : decode cX7_readMinute 196 = .ok (.ireturn, 1) := by decide +kernel
theorem dX7_worthBetween_0 : decode cX7_worthBetween 0 = .ok (.iconst 0, 1) := by decide +kernel
theorem dX7_worthBetween_1 : decode cX7_worthBetween 1 = .ok (.istore_n 3, 1) := by decide +kernel
theorem dX7_worthBetween_2 : decode cX7_worthBetween 2 = .ok (.iconst 0, 1) := by decide +kernel
theorem dX7_worthBetween_3 : decode cX7_worthBetween 3 = .ok (.istore 4, 2) := by decide +kernel
theorem dX7_worthBetween_5 : decode cX7_worthBetween 5 = .ok (.iload 4, 2) := by decide +kernel
theorem dX7_worthBetween_7 : decode cX7_worthBetween 7 = .ok (.aload_n 0, 1) := by decide +kernel
theorem dX7_worthBetween_8 : decode cX7_worthBetween 8 = .ok (.getfield 206, 3) := by decide +kernel
theorem dX7_worthBetween_11 : decode cX7_worthBetween 11 = .ok (.if_icmp .ge 38, 3) := by decide +kernel
theorem dX7_worthBetween_14 : decode cX7_worthBetween 14 = .ok (.iload_n 3, 1) := by decide +kernel
theorem dX7_worthBetween_15 : decode cX7_worthBetween 15 = .ok (.aload_n 1, 1) := by decide +kernel
theorem dX7_worthBetween_16 : decode cX7_worthBetween 16 = .ok (.getfield 119, 3) := by decide +kernel
theorem dX7_worthBetween_19 : decode cX7_worthBetween 19 = .ok (.iload 4, 2) := by decide +kernel
theorem dX7_worthBetween_21 : decode cX7_worthBetween 21 = .ok (.iaload, 1) := by decide +kernel
theorem dX7_worthBetween_22 : decode cX7_worthBetween 22 = .ok (.aload_n 2, 1) := by decide +kernel
theorem dX7_worthBetween_23 : decode cX7_worthBetween 23 = .ok (.getfield 119, 3) := by decide +kernel
theorem dX7_worthBetween_26 : decode cX7_worthBetween 26 = .ok (.iload 4, 2) := by decide +kernel
theorem dX7_worthBetween_28 : decode cX7_worthBetween 28 = .ok (.iaload, 1) := by decide +kernel
theorem dX7_worthBetween_29 : decode cX7_worthBetween 29 = .ok (.isub, 1) := by decide +kernel
theorem dX7_worthBetween_30 : decode cX7_worthBetween 30 = .ok (.aload_n 0, 1) := by decide +kernel
theorem dX7_worthBetween_31 : decode cX7_worthBetween 31 = .ok (.getfield 209, 3) := by decide +kernel
theorem dX7_worthBetween_34 : decode cX7_worthBetween 34 = .ok (.iload 4, 2) := by decide +kernel
theorem dX7_worthBetween_36 : decode cX7_worthBetween 36 = .ok (.aaload, 1) := by decide +kernel
theorem dX7_worthBetween_37 : decode cX7_worthBetween 37 = .ok (.getfield 224, 3) := by decide +kernel
theorem dX7_worthBetween_40 : decode cX7_worthBetween 40 = .ok (.imul, 1) := by decide +kernel
theorem dX7_worthBetween_41 : decode cX7_worthBetween 41 = .ok (.iadd, 1) := by decide +kernel
theorem dX7_worthBetween_42 : decode cX7_worthBetween 42 = .ok (.istore_n 3, 1) := by decide +kernel
theorem dX7_worthBetween_43 : decode cX7_worthBetween 43 = .ok (.iinc 4 1, 3) := by decide +kernel
theorem dX7_worthBetween_46 : decode cX7_worthBetween 46 = .ok (.goto (-41), 3) := by decide +kernel
theorem dX7_worthBetween_49 : decode cX7_worthBetween 49 = .ok (.iload_n 3, 1) := by decide +kernel
theorem dX7_worthBetween_50 : decode cX7_worthBetween 50 = .ok (.ireturn, 1) := by decide +kernel
theorem dJ0_length_8abf5_0 : decode cJ0_length_8abf5 0 = .ok (.aload_n 0, 1) := by decide +kernel
theorem dJ0_length_8abf5_1 : decode cJ0_length_8abf5 1 = .ok (.getfield 9, 3) := by decide +kernel
theorem dJ0_length_8abf5_4 : decode cJ0_length_8abf5 4 = .ok (.arraylength, 1) := by decide +kernel
theorem dJ0_length_8abf5_5 : decode cJ0_length_8abf5 5 = .ok (.aload_n 0, 1) := by decide +kernel
theorem dJ0_length_8abf5_6 : decode cJ0_length_8abf5 6 = .ok (.invokevirtual 335, 3) := by decide +kernel
theorem dJ0_length_8abf5_9 : decode cJ0_length_8abf5 9 = .ok (.ishr, 1) := by decide +kernel
theorem dJ0_length_8abf5_10 : decode cJ0_length_8abf5 10 = .ok (.ireturn, 1) := by decide +kernel
theorem dJ0_charAt_5068e_0 : decode cJ0_charAt_5068e 0 = .ok (.aload_n 0, 1) := by decide +kernel
theorem dJ0_charAt_5068e_1 : decode cJ0_charAt_5068e 1 = .ok (.invokevirtual 492, 3) := by decide +kernel
theorem dJ0_charAt_5068e_4 : decode cJ0_charAt_5068e 4 = .ok (.ifCond .eq 12, 3) := by decide +kernel
theorem dJ0_charAt_5068e_7 : decode cJ0_charAt_5068e 7 = .ok (.aload_n 0, 1) := by decide +kernel
theorem dJ0_charAt_5068e_8 : decode cJ0_charAt_5068e 8 = .ok (.getfield 9, 3) := by decide +kernel
theorem dJ0_charAt_5068e_11 : decode cJ0_charAt_5068e 11 = .ok (.iload_n 1, 1) := by decide +kernel
theorem dJ0_charAt_5068e_12 : decode cJ0_charAt_5068e 12 = .ok (.invokestatic 495, 3) := by decide +kernel
theorem dJ0_charAt_5068e_15 : decode cJ0_charAt_5068e 15 = .ok (.ireturn, 1) := by decide +kernel
theorem dJ0_charAt_5068e_16 : decode cJ0_charAt_5068e 16 = .ok (.aload_n 0, 1) := by decide +kernel
theorem dJ0_charAt_5068e_17 : decode cJ0_charAt_5068e 17 = .ok (.getfield 9, 3) := by decide +kernel
theorem dJ0_charAt_5068e_20 : decode cJ0_charAt_5068e 20 = .ok (.iload_n 1, 1) := by decide +kernel
theorem dJ0_charAt_5068e_21 : decode cJ0_charAt_5068e 21 = .ok (.invokestatic 498, 3) := by decide +kernel
theorem dJ0_charAt_5068e_24 : decode cJ0_charAt_5068e 24 = .ok (.ireturn, 1) := by decide +kernel
theorem dJ0_coder_7d493_0 : decode cJ0_coder_7d493 0 = .ok (.getstatic 38, 3) := by decide +kernel
theorem dJ0_coder_7d493_3 : decode cJ0_coder_7d493 3 = .ok (.ifCond .eq 10, 3) := by decide +kernel
theorem dJ0_coder_7d493_6 : decode cJ0_coder_7d493 6 = .ok (.aload_n 0, 1) := by decide +kernel
theorem dJ0_coder_7d493_7 : decode cJ0_coder_7d493 7 = .ok (.getfield 15, 3) := by decide +kernel
theorem dJ0_coder_7d493_10 : decode cJ0_coder_7d493 10 = .ok (.goto 4, 3) := by decide +kernel
theorem dJ0_coder_7d493_13 : decode cJ0_coder_7d493 13 = .ok (.iconst 1, 1) := by decide +kernel
theorem dJ0_coder_7d493_14 : decode cJ0_coder_7d493 14 = .ok (.ireturn, 1) := by decide +kernel
theorem dJ0_isLatin1_aae02_0 : decode cJ0_isLatin1_aae02 0 = .ok (.getstatic 38, 3) := by decide +kernel
theorem dJ0_isLatin1_aae02_3 : decode cJ0_isLatin1_aae02 3 = .ok (.ifCond .eq 14, 3) := by decide +kernel
theorem dJ0_isLatin1_aae02_6 : decode cJ0_isLatin1_aae02 6 = .ok (.aload_n 0, 1) := by decide +kernel
theorem dJ0_isLatin1_aae02_7 : decode cJ0_isLatin1_aae02 7 = .ok (.getfield 15, 3) := by decide +kernel
theorem dJ0_isLatin1_aae02_10 : decode cJ0_isLatin1_aae02 10 = .ok (.ifCond .ne 7, 3) := by decide +kernel
theorem dJ0_isLatin1_aae02_13 : decode cJ0_isLatin1_aae02 13 = .ok (.iconst 1, 1) := by decide +kernel
theorem dJ0_isLatin1_aae02_14 : decode cJ0_isLatin1_aae02 14 = .ok (.goto 4, 3) := by decide +kernel
theorem dJ0_isLatin1_aae02_17 : decode cJ0_isLatin1_aae02 17 = .ok (.iconst 0, 1) := by decide +kernel
theorem dJ0_isLatin1_aae02_18 : decode cJ0_isLatin1_aae02 18 = .ok (.ireturn, 1) := by decide +kernel
theorem dJ0_checkIndex_df160_0 : decode cJ0_checkIndex_df160 0 = .ok (.iload_n 0, 1) := by decide +kernel
theorem dJ0_checkIndex_df160_1 : decode cJ0_checkIndex_df160 1 = .ok (.iload_n 1, 1) := by decide +kernel
theorem dJ0_checkIndex_df160_2 : decode cJ0_checkIndex_df160 2 = .ok (.getstatic 1053, 3) := by decide +kernel
theorem dJ0_checkIndex_df160_5 : decode cJ0_checkIndex_df160 5 = .ok (.invokestatic 1059, 3) := by decide +kernel
theorem dJ0_checkIndex_df160_8 : decode cJ0_checkIndex_df160 8 = .ok (.pop, 1) := by decide +kernel
theorem dJ0_checkIndex_df160_9 : decode cJ0_checkIndex_df160 9 = .ok (.return_, 1) := by decide +kernel
theorem dJ1_charAt_3b067_0 : decode cJ1_charAt_3b067 0 = .ok (.iload_n 1, 1) := by decide +kernel
theorem dJ1_charAt_3b067_1 : decode cJ1_charAt_3b067 1 = .ok (.aload_n 0, 1) := by decide +kernel
theorem dJ1_charAt_3b067_2 : decode cJ1_charAt_3b067 2 = .ok (.arraylength, 1) := by decide +kernel
theorem dJ1_charAt_3b067_3 : decode cJ1_charAt_3b067 3 = .ok (.invokestatic 9, 3) := by decide +kernel
theorem dJ1_charAt_3b067_6 : decode cJ1_charAt_3b067 6 = .ok (.aload_n 0, 1) := by decide +kernel
theorem dJ1_charAt_3b067_7 : decode cJ1_charAt_3b067 7 = .ok (.iload_n 1, 1) := by decide +kernel
theorem dJ1_charAt_3b067_8 : decode cJ1_charAt_3b067 8 = .ok (.baload, 1) := by decide +kernel
theorem dJ1_charAt_3b067_9 : decode cJ1_charAt_3b067 9 = .ok (.sipush 255, 3) := by decide +kernel
theorem dJ1_charAt_3b067_12 : decode cJ1_charAt_3b067 12 = .ok (.iand, 1) := by decide +kernel
theorem dJ1_charAt_3b067_13 : decode cJ1_charAt_3b067 13 = .ok (.i2c, 1) := by decide +kernel
theorem dJ1_charAt_3b067_14 : decode cJ1_charAt_3b067 14 = .ok (.ireturn, 1) := by decide +kernel
theorem dJ2_getChar_3b067_0 : decode cJ2_getChar_3b067 0 = .ok (.getstatic 44, 3) := by decide +kernel
theorem dJ2_getChar_3b067_3 : decode cJ2_getChar_3b067 3 = .ok (.ifCond .ne 25, 3) := by decide +kernel
theorem dJ2_getChar_3b067_6 : decode cJ2_getChar_3b067 6 = .ok (.iload_n 1, 1) := by decide +kernel
theorem dJ2_getChar_3b067_7 : decode cJ2_getChar_3b067 7 = .ok (.ifCond .lt 11, 3) := by decide +kernel
theorem dJ2_getChar_3b067_10 : decode cJ2_getChar_3b067 10 = .ok (.iload_n 1, 1) := by decide +kernel
theorem dJ2_getChar_3b067_11 : decode cJ2_getChar_3b067 11 = .ok (.aload_n 0, 1) := by decide +kernel
theorem dJ2_getChar_3b067_12 : decode cJ2_getChar_3b067 12 = .ok (.invokestatic 48, 3) := by decide +kernel
theorem dJ2_getChar_3b067_15 : decode cJ2_getChar_3b067 15 = .ok (.if_icmp .lt 13, 3) := by decide +kernel
theorem dJ2_getChar_3b067_18 : decode cJ2_getChar_3b067 18 = .ok (.new 52, 3) := by decide +kernel
theorem dJ2_getChar_3b067_21 : decode cJ2_getChar_3b067 21 = .ok (.dup, 1) := by decide +kernel
theorem dJ2_getChar_3b067_22 : decode cJ2_getChar_3b067 22 = .ok (.ldc 54, 2) := by decide +kernel
theorem dJ2_getChar_3b067_24 : decode cJ2_getChar_3b067 24 = .ok (.invokespecial 56, 3) := by decide +kernel
theorem dJ2_getChar_3b067_27 : decode cJ2_getChar_3b067 27 = .ok (.athrow, 1) := by decide +kernel
theorem dJ2_getChar_3b067_28 : decode cJ2_getChar_3b067 28 = .ok (.iload_n 1, 1) := by decide +kernel
theorem dJ2_getChar_3b067_29 : decode cJ2_getChar_3b067 29 = .ok (.iconst 1, 1) := by decide +kernel
theorem dJ2_getChar_3b067_30 : decode cJ2_getChar_3b067 30 = .ok (.ishl, 1) := by decide +kernel
theorem dJ2_getChar_3b067_31 : decode cJ2_getChar_3b067 31 = .ok (.istore_n 1, 1) := by decide +kernel
theorem dJ2_getChar_3b067_32 : decode cJ2_getChar_3b067 32 = .ok (.aload_n 0, 1) := by decide +kernel
theorem dJ2_getChar_3b067_33 : decode cJ2_getChar_3b067 33 = .ok (.iload_n 1, 1) := by decide +kernel
theorem dJ2_getChar_3b067_34 : decode cJ2_getChar_3b067 34 = .ok (.iinc 1 1, 3) := by decide +kernel
theorem dJ2_getChar_3b067_37 : decode cJ2_getChar_3b067 37 = .ok (.baload, 1) := by decide +kernel
theorem dJ2_getChar_3b067_38 : decode cJ2_getChar_3b067 38 = .ok (.sipush 255, 3) := by decide +kernel
theorem dJ2_getChar_3b067_41 : decode cJ2_getChar_3b067 41 = .ok (.iand, 1) := by decide +kernel
theorem dJ2_getChar_3b067_42 : decode cJ2_getChar_3b067 42 = .ok (.getstatic 59, 3) := by decide +kernel
theorem dJ2_getChar_3b067_45 : decode cJ2_getChar_3b067 45 = .ok (.ishl, 1) := by decide +kernel
theorem dJ2_getChar_3b067_46 : decode cJ2_getChar_3b067 46 = .ok (.aload_n 0, 1) := by decide +kernel
theorem dJ2_getChar_3b067_47 : decode cJ2_getChar_3b067 47 = .ok (.iload_n 1, 1) := by decide +kernel
theorem dJ2_getChar_3b067_48 : decode cJ2_getChar_3b067 48 = .ok (.baload, 1) := by decide +kernel
theorem dJ2_getChar_3b067_49 : decode cJ2_getChar_3b067 49 = .ok (.sipush 255, 3) := by decide +kernel
theorem dJ2_getChar_3b067_52 : decode cJ2_getChar_3b067 52 = .ok (.iand, 1) := by decide +kernel
theorem dJ2_getChar_3b067_53 : decode cJ2_getChar_3b067 53 = .ok (.getstatic 63, 3) := by decide +kernel
theorem dJ2_getChar_3b067_56 : decode cJ2_getChar_3b067 56 = .ok (.ishl, 1) := by decide +kernel
theorem dJ2_getChar_3b067_57 : decode cJ2_getChar_3b067 57 = .ok (.ior, 1) := by decide +kernel
theorem dJ2_getChar_3b067_58 : decode cJ2_getChar_3b067 58 = .ok (.i2c, 1) := by decide +kernel
theorem dJ2_getChar_3b067_59 : decode cJ2_getChar_3b067 59 = .ok (.ireturn, 1) := by decide +kernel
theorem dJ2_length_9d52b_0 : decode cJ2_length_9d52b 0 = .ok (.aload_n 0, 1) := by decide +kernel
theorem dJ2_length_9d52b_1 : decode cJ2_length_9d52b 1 = .ok (.arraylength, 1) := by decide +kernel
theorem dJ2_length_9d52b_2 : decode cJ2_length_9d52b 2 = .ok (.iconst 1, 1) := by decide +kernel
theorem dJ2_length_9d52b_3 : decode cJ2_length_9d52b 3 = .ok (.ishr, 1) := by decide +kernel
theorem dJ2_length_9d52b_4 : decode cJ2_length_9d52b 4 = .ok (.ireturn, 1) := by decide +kernel
theorem dJ2_charAt_3b067_0 : decode cJ2_charAt_3b067 0 = .ok (.iload_n 1, 1) := by decide +kernel
theorem dJ2_charAt_3b067_1 : decode cJ2_charAt_3b067 1 = .ok (.aload_n 0, 1) := by decide +kernel
theorem dJ2_charAt_3b067_2 : decode cJ2_charAt_3b067 2 = .ok (.invokestatic 67, 3) := by decide +kernel
theorem dJ2_charAt_3b067_5 : decode cJ2_charAt_3b067 5 = .ok (.aload_n 0, 1) := by decide +kernel
theorem dJ2_charAt_3b067_6 : decode cJ2_charAt_3b067 6 = .ok (.iload_n 1, 1) := by decide +kernel
theorem dJ2_charAt_3b067_7 : decode cJ2_charAt_3b067 7 = .ok (.invokestatic 71, 3) := by decide +kernel
theorem dJ2_charAt_3b067_10 : decode cJ2_charAt_3b067 10 = .ok (.ireturn, 1) := by decide +kernel
theorem dJ2_checkIndex_2214a_0 : decode cJ2_checkIndex_2214a 0 = .ok (.iload_n 0, 1) := by decide +kernel
theorem dJ2_checkIndex_2214a_1 : decode cJ2_checkIndex_2214a 1 = .ok (.aload_n 1, 1) := by decide +kernel
theorem dJ2_checkIndex_2214a_2 : decode cJ2_checkIndex_2214a 2 = .ok (.invokestatic 48, 3) := by decide +kernel
theorem dJ2_checkIndex_2214a_5 : decode cJ2_checkIndex_2214a 5 = .ok (.invokestatic 414, 3) := by decide +kernel
theorem dJ2_checkIndex_2214a_8 : decode cJ2_checkIndex_2214a 8 = .ok (.return_, 1) := by decide +kernel
theorem dJ3_checkIndex_8e157_0 : decode cJ3_checkIndex_8e157 0 = .ok (.iload_n 0, 1) := by decide +kernel
theorem dJ3_checkIndex_8e157_1 : decode cJ3_checkIndex_8e157 1 = .ok (.ifCond .lt 8, 3) := by decide +kernel
theorem dJ3_checkIndex_8e157_4 : decode cJ3_checkIndex_8e157 4 = .ok (.iload_n 0, 1) := by decide +kernel
theorem dJ3_checkIndex_8e157_5 : decode cJ3_checkIndex_8e157 5 = .ok (.iload_n 1, 1) := by decide +kernel
theorem dJ3_checkIndex_8e157_6 : decode cJ3_checkIndex_8e157 6 = .ok (.if_icmp .lt 10, 3) := by decide +kernel
theorem dJ3_checkIndex_8e157_9 : decode cJ3_checkIndex_8e157 9 = .ok (.aload_n 2, 1) := by decide +kernel
theorem dJ3_checkIndex_8e157_10 : decode cJ3_checkIndex_8e157 10 = .ok (.iload_n 0, 1) := by decide +kernel
theorem dJ3_checkIndex_8e157_11 : decode cJ3_checkIndex_8e157 11 = .ok (.iload_n 1, 1) := by decide +kernel
theorem dJ3_checkIndex_8e157_12 : decode cJ3_checkIndex_8e157 12 = .ok (.invokestatic 95, 3) := by decide +kernel
theorem dJ3_checkIndex_8e157_15 : decode cJ3_checkIndex_8e157 15 = .ok (.athrow, 1) := by decide +kernel
theorem dJ3_checkIndex_8e157_16 : decode cJ3_checkIndex_8e157 16 = .ok (.iload_n 0, 1) := by decide +kernel
theorem dJ3_checkIndex_8e157_17 : decode cJ3_checkIndex_8e157 17 = .ok (.ireturn, 1) := by decide +kernel
theorem dJ6_compare_7cf53_0 : decode cJ6_compare_7cf53 0 = .ok (.iload_n 0, 1) := by decide +kernel
theorem dJ6_compare_7cf53_1 : decode cJ6_compare_7cf53 1 = .ok (.iload_n 1, 1) := by decide +kernel
theorem dJ6_compare_7cf53_2 : decode cJ6_compare_7cf53 2 = .ok (.if_icmp .ge 7, 3) := by decide +kernel
theorem dJ6_compare_7cf53_5 : decode cJ6_compare_7cf53 5 = .ok (.iconst (-1), 1) := by decide +kernel
theorem dJ6_compare_7cf53_6 : decode cJ6_compare_7cf53 6 = .ok (.goto 13, 3) := by decide +kernel
theorem dJ6_compare_7cf53_9 : decode cJ6_compare_7cf53 9 = .ok (.iload_n 0, 1) := by decide +kernel
theorem dJ6_compare_7cf53_10 : decode cJ6_compare_7cf53 10 = .ok (.iload_n 1, 1) := by decide +kernel
theorem dJ6_compare_7cf53_11 : decode cJ6_compare_7cf53 11 = .ok (.if_icmp .ne 7, 3) := by decide +kernel
theorem dJ6_compare_7cf53_14 : decode cJ6_compare_7cf53 14 = .ok (.iconst 0, 1) := by decide +kernel
theorem dJ6_compare_7cf53_15 : decode cJ6_compare_7cf53 15 = .ok (.goto 4, 3) := by decide +kernel
theorem dJ6_compare_7cf53_18 : decode cJ6_compare_7cf53 18 = .ok (.iconst 1, 1) := by decide +kernel
theorem dJ6_compare_7cf53_19 : decode cJ6_compare_7cf53 19 = .ok (.ireturn, 1) := by decide +kernel
theorem dJ6_bitCount_0f7a4_0 : decode cJ6_bitCount_0f7a4 0 = .ok (.iload_n 0, 1) := by decide +kernel
theorem dJ6_bitCount_0f7a4_1 : decode cJ6_bitCount_0f7a4 1 = .ok (.iload_n 0, 1) := by decide +kernel
theorem dJ6_bitCount_0f7a4_2 : decode cJ6_bitCount_0f7a4 2 = .ok (.iconst 1, 1) := by decide +kernel
theorem dJ6_bitCount_0f7a4_3 : decode cJ6_bitCount_0f7a4 3 = .ok (.iushr, 1) := by decide +kernel
theorem dJ6_bitCount_0f7a4_4 : decode cJ6_bitCount_0f7a4 4 = .ok (.ldc_w 265, 3) := by decide +kernel
theorem dJ6_bitCount_0f7a4_7 : decode cJ6_bitCount_0f7a4 7 = .ok (.iand, 1) := by decide +kernel
theorem dJ6_bitCount_0f7a4_8 : decode cJ6_bitCount_0f7a4 8 = .ok (.isub, 1) := by decide +kernel
theorem dJ6_bitCount_0f7a4_9 : decode cJ6_bitCount_0f7a4 9 = .ok (.istore_n 0, 1) := by decide +kernel
theorem dJ6_bitCount_0f7a4_10 : decode cJ6_bitCount_0f7a4 10 = .ok (.iload_n 0, 1) := by decide +kernel
theorem dJ6_bitCount_0f7a4_11 : decode cJ6_bitCount_0f7a4 11 = .ok (.ldc_w 266, 3) := by decide +kernel
theorem dJ6_bitCount_0f7a4_14 : decode cJ6_bitCount_0f7a4 14 = .ok (.iand, 1) := by decide +kernel
theorem dJ6_bitCount_0f7a4_15 : decode cJ6_bitCount_0f7a4 15 = .ok (.iload_n 0, 1) := by decide +kernel
theorem dJ6_bitCount_0f7a4_16 : decode cJ6_bitCount_0f7a4 16 = .ok (.iconst 2, 1) := by decide +kernel
theorem dJ6_bitCount_0f7a4_17 : decode cJ6_bitCount_0f7a4 17 = .ok (.iushr, 1) := by decide +kernel
theorem dJ6_bitCount_0f7a4_18 : decode cJ6_bitCount_0f7a4 18 = .ok (.ldc_w 266, 3) := by decide +kernel
theorem dJ6_bitCount_0f7a4_21 : decode cJ6_bitCount_0f7a4 21 = .ok (.iand, 1) := by decide +kernel
theorem dJ6_bitCount_0f7a4_22 : decode cJ6_bitCount_0f7a4 22 = .ok (.iadd, 1) := by decide +kernel
theorem dJ6_bitCount_0f7a4_23 : decode cJ6_bitCount_0f7a4 23 = .ok (.istore_n 0, 1) := by decide +kernel
theorem dJ6_bitCount_0f7a4_24 : decode cJ6_bitCount_0f7a4 24 = .ok (.iload_n 0, 1) := by decide +kernel
theorem dJ6_bitCount_0f7a4_25 : decode cJ6_bitCount_0f7a4 25 = .ok (.iload_n 0, 1) := by decide +kernel
theorem dJ6_bitCount_0f7a4_26 : decode cJ6_bitCount_0f7a4 26 = .ok (.iconst 4, 1) := by decide +kernel
theorem dJ6_bitCount_0f7a4_27 : decode cJ6_bitCount_0f7a4 27 = .ok (.iushr, 1) := by decide +kernel
theorem dJ6_bitCount_0f7a4_28 : decode cJ6_bitCount_0f7a4 28 = .ok (.iadd, 1) := by decide +kernel
theorem dJ6_bitCount_0f7a4_29 : decode cJ6_bitCount_0f7a4 29 = .ok (.ldc_w 267, 3) := by decide +kernel
theorem dJ6_bitCount_0f7a4_32 : decode cJ6_bitCount_0f7a4 32 = .ok (.iand, 1) := by decide +kernel
theorem dJ6_bitCount_0f7a4_33 : decode cJ6_bitCount_0f7a4 33 = .ok (.istore_n 0, 1) := by decide +kernel
theorem dJ6_bitCount_0f7a4_34 : decode cJ6_bitCount_0f7a4 34 = .ok (.iload_n 0, 1) := by decide +kernel
theorem dJ6_bitCount_0f7a4_35 : decode cJ6_bitCount_0f7a4 35 = .ok (.iload_n 0, 1) := by decide +kernel
theorem dJ6_bitCount_0f7a4_36 : decode cJ6_bitCount_0f7a4 36 = .ok (.bipush 8, 2) := by decide +kernel
theorem dJ6_bitCount_0f7a4_38 : decode cJ6_bitCount_0f7a4 38 = .ok (.iushr, 1) := by decide +kernel
theorem dJ6_bitCount_0f7a4_39 : decode cJ6_bitCount_0f7a4 39 = .ok (.iadd, 1) := by decide +kernel
theorem dJ6_bitCount_0f7a4_40 : decode cJ6_bitCount_0f7a4 40 = .ok (.istore_n 0, 1) := by decide +kernel
theorem dJ6_bitCount_0f7a4_41 : decode cJ6_bitCount_0f7a4 41 = .ok (.iload_n 0, 1) := by decide +kernel
theorem dJ6_bitCount_0f7a4_42 : decode cJ6_bitCount_0f7a4 42 = .ok (.iload_n 0, 1) := by decide +kernel
theorem dJ6_bitCount_0f7a4_43 : decode cJ6_bitCount_0f7a4 43 = .ok (.bipush 16, 2) := by decide +kernel
theorem dJ6_bitCount_0f7a4_45 : decode cJ6_bitCount_0f7a4 45 = .ok (.iushr, 1) := by decide +kernel
theorem dJ6_bitCount_0f7a4_46 : decode cJ6_bitCount_0f7a4 46 = .ok (.iadd, 1) := by decide +kernel
theorem dJ6_bitCount_0f7a4_47 : decode cJ6_bitCount_0f7a4 47 = .ok (.istore_n 0, 1) := by decide +kernel
theorem dJ6_bitCount_0f7a4_48 : decode cJ6_bitCount_0f7a4 48 = .ok (.iload_n 0, 1) := by decide +kernel
theorem dJ6_bitCount_0f7a4_49 : decode cJ6_bitCount_0f7a4 49 = .ok (.bipush 63, 2) := by decide +kernel
theorem dJ6_bitCount_0f7a4_51 : decode cJ6_bitCount_0f7a4 51 = .ok (.iand, 1) := by decide +kernel
theorem dJ6_bitCount_0f7a4_52 : decode cJ6_bitCount_0f7a4 52 = .ok (.ireturn, 1) := by decide +kernel
theorem dJ6_signum_0f7a4_0 : decode cJ6_signum_0f7a4 0 = .ok (.iload_n 0, 1) := by decide +kernel
theorem dJ6_signum_0f7a4_1 : decode cJ6_signum_0f7a4 1 = .ok (.bipush 31, 2) := by decide +kernel
theorem dJ6_signum_0f7a4_3 : decode cJ6_signum_0f7a4 3 = .ok (.ishr, 1) := by decide +kernel
theorem dJ6_signum_0f7a4_4 : decode cJ6_signum_0f7a4 4 = .ok (.iload_n 0, 1) := by decide +kernel
theorem dJ6_signum_0f7a4_5 : decode cJ6_signum_0f7a4 5 = .ok (.ineg, 1) := by decide +kernel
theorem dJ6_signum_0f7a4_6 : decode cJ6_signum_0f7a4 6 = .ok (.bipush 31, 2) := by decide +kernel
theorem dJ6_signum_0f7a4_8 : decode cJ6_signum_0f7a4 8 = .ok (.iushr, 1) := by decide +kernel
theorem dJ6_signum_0f7a4_9 : decode cJ6_signum_0f7a4 9 = .ok (.ior, 1) := by decide +kernel
theorem dJ6_signum_0f7a4_10 : decode cJ6_signum_0f7a4 10 = .ok (.ireturn, 1) := by decide +kernel
theorem dJ9_abs_0f7a4_0 : decode cJ9_abs_0f7a4 0 = .ok (.iload_n 0, 1) := by decide +kernel
theorem dJ9_abs_0f7a4_1 : decode cJ9_abs_0f7a4 1 = .ok (.ifCond .ge 8, 3) := by decide +kernel
theorem dJ9_abs_0f7a4_4 : decode cJ9_abs_0f7a4 4 = .ok (.iload_n 0, 1) := by decide +kernel
theorem dJ9_abs_0f7a4_5 : decode cJ9_abs_0f7a4 5 = .ok (.ineg, 1) := by decide +kernel
theorem dJ9_abs_0f7a4_6 : decode cJ9_abs_0f7a4 6 = .ok (.goto 4, 3) := by decide +kernel
theorem dJ9_abs_0f7a4_9 : decode cJ9_abs_0f7a4 9 = .ok (.iload_n 0, 1) := by decide +kernel
theorem dJ9_abs_0f7a4_10 : decode cJ9_abs_0f7a4 10 = .ok (.ireturn, 1) := by decide +kernel
theorem dJ9_max_7cf53_0 : decode cJ9_max_7cf53 0 = .ok (.iload_n 0, 1) := by decide +kernel
theorem dJ9_max_7cf53_1 : decode cJ9_max_7cf53 1 = .ok (.iload_n 1, 1) := by decide +kernel
theorem dJ9_max_7cf53_2 : decode cJ9_max_7cf53 2 = .ok (.if_icmp .lt 7, 3) := by decide +kernel
theorem dJ9_max_7cf53_5 : decode cJ9_max_7cf53 5 = .ok (.iload_n 0, 1) := by decide +kernel
theorem dJ9_max_7cf53_6 : decode cJ9_max_7cf53 6 = .ok (.goto 4, 3) := by decide +kernel
theorem dJ9_max_7cf53_9 : decode cJ9_max_7cf53 9 = .ok (.iload_n 1, 1) := by decide +kernel
theorem dJ9_max_7cf53_10 : decode cJ9_max_7cf53 10 = .ok (.ireturn, 1) := by decide +kernel
theorem dJ9_min_7cf53_0 : decode cJ9_min_7cf53 0 = .ok (.iload_n 0, 1) := by decide +kernel
theorem dJ9_min_7cf53_1 : decode cJ9_min_7cf53 1 = .ok (.iload_n 1, 1) := by decide +kernel
theorem dJ9_min_7cf53_2 : decode cJ9_min_7cf53 2 = .ok (.if_icmp .gt 7, 3) := by decide +kernel
theorem dJ9_min_7cf53_5 : decode cJ9_min_7cf53 5 = .ok (.iload_n 0, 1) := by decide +kernel
theorem dJ9_min_7cf53_6 : decode cJ9_min_7cf53 6 = .ok (.goto 4, 3) := by decide +kernel
theorem dJ9_min_7cf53_9 : decode cJ9_min_7cf53 9 = .ok (.iload_n 1, 1) := by decide +kernel
theorem dJ9_min_7cf53_10 : decode cJ9_min_7cf53 10 = .ok (.ireturn, 1) := by decide +kernel

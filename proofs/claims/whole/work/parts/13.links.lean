theorem x_mu_16 : ∀ k, k < 16 → x_mok k := lt_s (lt_s (lt_s (lt_s (lt_s (lt_s (lt_s (lt_s (lt_s (lt_s (lt_s (lt_s (lt_s (lt_s (lt_s (lt_s (lt_0) x_mo_0) x_mo_1) x_mo_2) x_mo_3) x_mo_4) x_mo_5) x_mo_6) x_mo_7) x_mo_8) x_mo_9) x_mo_10) x_mo_11) x_mo_12) x_mo_13) x_mo_14) x_mo_15
theorem x_mu_32 : ∀ k, k < 32 → x_mok k := lt_s (lt_s (lt_s (lt_s (lt_s (lt_s (lt_s (lt_s (lt_s (lt_s (lt_s (lt_s (lt_s (lt_s (lt_s (lt_s (x_mu_16) x_mo_16) x_mo_17) x_mo_18) x_mo_19) x_mo_20) x_mo_21) x_mo_22) x_mo_23) x_mo_24) x_mo_25) x_mo_26) x_mo_27) x_mo_28) x_mo_29) x_mo_30) x_mo_31
theorem x_mu_48 : ∀ k, k < 48 → x_mok k := lt_s (lt_s (lt_s (lt_s (lt_s (lt_s (lt_s (lt_s (lt_s (lt_s (lt_s (lt_s (lt_s (lt_s (lt_s (lt_s (x_mu_32) x_mo_32) x_mo_33) x_mo_34) x_mo_35) x_mo_36) x_mo_37) x_mo_38) x_mo_39) x_mo_40) x_mo_41) x_mo_42) x_mo_43) x_mo_44) x_mo_45) x_mo_46) x_mo_47
theorem x_mu_64 : ∀ k, k < 64 → x_mok k := lt_s (lt_s (lt_s (lt_s (lt_s (lt_s (lt_s (lt_s (lt_s (lt_s (lt_s (lt_s (lt_s (lt_s (lt_s (lt_s (x_mu_48) x_mo_48) x_mo_49) x_mo_50) x_mo_51) x_mo_52) x_mo_53) x_mo_54) x_mo_55) x_mo_56) x_mo_57) x_mo_58) x_mo_59) x_mo_60) x_mo_61) x_mo_62) x_mo_63
theorem x_mu_80 : ∀ k, k < 80 → x_mok k := lt_s (lt_s (lt_s (lt_s (lt_s (lt_s (lt_s (lt_s (lt_s (lt_s (lt_s (lt_s (lt_s (lt_s (lt_s (lt_s (x_mu_64) x_mo_64) x_mo_65) x_mo_66) x_mo_67) x_mo_68) x_mo_69) x_mo_70) x_mo_71) x_mo_72) x_mo_73) x_mo_74) x_mo_75) x_mo_76) x_mo_77) x_mo_78) x_mo_79
theorem x_mu_96 : ∀ k, k < 96 → x_mok k := lt_s (lt_s (lt_s (lt_s (lt_s (lt_s (lt_s (lt_s (lt_s (lt_s (lt_s (lt_s (lt_s (lt_s (lt_s (lt_s (x_mu_80) x_mo_80) x_mo_81) x_mo_82) x_mo_83) x_mo_84) x_mo_85) x_mo_86) x_mo_87) x_mo_88) x_mo_89) x_mo_90) x_mo_91) x_mo_92) x_mo_93) x_mo_94) x_mo_95
theorem x_mu_112 : ∀ k, k < 112 → x_mok k := lt_s (lt_s (lt_s (lt_s (lt_s (lt_s (lt_s (lt_s (lt_s (lt_s (lt_s (lt_s (lt_s (lt_s (lt_s (lt_s (x_mu_96) x_mo_96) x_mo_97) x_mo_98) x_mo_99) x_mo_100) x_mo_101) x_mo_102) x_mo_103) x_mo_104) x_mo_105) x_mo_106) x_mo_107) x_mo_108) x_mo_109) x_mo_110) x_mo_111
theorem x_mu_128 : ∀ k, k < 128 → x_mok k := lt_s (lt_s (lt_s (lt_s (lt_s (lt_s (lt_s (lt_s (lt_s (lt_s (lt_s (lt_s (lt_s (lt_s (lt_s (lt_s (x_mu_112) x_mo_112) x_mo_113) x_mo_114) x_mo_115) x_mo_116) x_mo_117) x_mo_118) x_mo_119) x_mo_120) x_mo_121) x_mo_122) x_mo_123) x_mo_124) x_mo_125) x_mo_126) x_mo_127
theorem x_mu_144 : ∀ k, k < 144 → x_mok k := lt_s (lt_s (lt_s (lt_s (lt_s (lt_s (lt_s (lt_s (lt_s (lt_s (lt_s (lt_s (lt_s (lt_s (lt_s (lt_s (x_mu_128) x_mo_128) x_mo_129) x_mo_130) x_mo_131) x_mo_132) x_mo_133) x_mo_134) x_mo_135) x_mo_136) x_mo_137) x_mo_138) x_mo_139) x_mo_140) x_mo_141) x_mo_142) x_mo_143
theorem x_mu_160 : ∀ k, k < 160 → x_mok k := lt_s (lt_s (lt_s (lt_s (lt_s (lt_s (lt_s (lt_s (lt_s (lt_s (lt_s (lt_s (lt_s (lt_s (lt_s (lt_s (x_mu_144) x_mo_144) x_mo_145) x_mo_146) x_mo_147) x_mo_148) x_mo_149) x_mo_150) x_mo_151) x_mo_152) x_mo_153) x_mo_154) x_mo_155) x_mo_156) x_mo_157) x_mo_158) x_mo_159
theorem x_mu_176 : ∀ k, k < 176 → x_mok k := lt_s (lt_s (lt_s (lt_s (lt_s (lt_s (lt_s (lt_s (lt_s (lt_s (lt_s (lt_s (lt_s (lt_s (lt_s (lt_s (x_mu_160) x_mo_160) x_mo_161) x_mo_162) x_mo_163) x_mo_164) x_mo_165) x_mo_166) x_mo_167) x_mo_168) x_mo_169) x_mo_170) x_mo_171) x_mo_172) x_mo_173) x_mo_174) x_mo_175
theorem x_mu : ∀ k, k < 176 → x_mok k := x_mu_176
def x_lokP (c : Nat) (e : Nat × Nat × Nat) : Prop := match e.2.1 with
  | 0 => e.2.2 < 176 ∧ Cond.methodLink (xR c) e.1 (xm e.2.2).2.1 ∈ x_gw
  | 1 => e.2.2 < 176 ∧ Cond.methodLinkNest (xR c) e.1 (xm e.2.2).2.1 "OneLamp" ∈ lw_tbl
  | 2 => Cond.methodLink (xR c) e.1 Lib.objectInit ∈ x_gw
  | 3 => Cond.methodLink (xR c) e.1 Lib.Math.max.name ∈ x_gw
  | 4 => Cond.methodLink (xR c) e.1 Lib.Math.min.name ∈ x_gw
  | 5 => Cond.methodLink (xR c) e.1 Lib.Math.abs.name ∈ x_gw
  | 6 => Cond.methodLink (xR c) e.1 arraycopyName ∈ x_gw
  | 7 => Cond.methodLink (xR c) e.1 ⟨"java/lang/String", "length", "()I"⟩ ∈ x_gw
  | 8 => Cond.methodLink (xR c) e.1 ⟨"java/lang/String", "charAt", "(I)C"⟩ ∈ x_gw
  | _ => False
theorem x_lk_0_0 : x_lokP 0 (3, 2, 0) := (x_gm (x_t1 (List.mem_of_getElem? (i := 38) rfl)) rfl)
theorem x_lk_0_1 : x_lokP 0 (19, 6, 0) := (x_gm (x_t3 (List.mem_of_getElem? (i := 90) rfl)) rfl)
theorem x_lo_0 : ∀ e ∈ xMl_0, x_lokP 0 e := List.forall_mem_cons.mpr ⟨x_lk_0_0, List.forall_mem_cons.mpr ⟨x_lk_0_1, fun _ h => absurd h List.not_mem_nil⟩⟩
theorem x_lk_1_0 : x_lokP 1 (3, 2, 0) := (x_gm (x_t1 (List.mem_of_getElem? (i := 186) rfl)) rfl)
theorem x_lk_1_1 : x_lokP 1 (31, 0, 61) := ⟨by decide, (x_gm (x_t2 (List.mem_of_getElem? (i := 210) rfl)) rfl)⟩
theorem x_lk_1_2 : x_lokP 1 (82, 0, 62) := ⟨by decide, (x_gm (x_t2 (List.mem_of_getElem? (i := 214) rfl)) rfl)⟩
theorem x_lk_1_3 : x_lokP 1 (35, 0, 60) := ⟨by decide, (x_gm (x_t2 (List.mem_of_getElem? (i := 218) rfl)) rfl)⟩
theorem x_lk_1_4 : x_lokP 1 (67, 0, 63) := ⟨by decide, (x_gm (x_t2 (List.mem_of_getElem? (i := 222) rfl)) rfl)⟩
theorem x_lk_1_5 : x_lokP 1 (85, 0, 69) := ⟨by decide, (x_gm (x_t2 (List.mem_of_getElem? (i := 226) rfl)) rfl)⟩
theorem x_lk_1_6 : x_lokP 1 (89, 0, 70) := ⟨by decide, (x_gm (x_t2 (List.mem_of_getElem? (i := 229) rfl)) rfl)⟩
theorem x_lk_1_7 : x_lokP 1 (73, 0, 64) := ⟨by decide, (x_gm (x_t2 (List.mem_of_getElem? (i := 232) rfl)) rfl)⟩
theorem x_lk_1_8 : x_lokP 1 (92, 0, 67) := ⟨by decide, (x_gm (x_t2 (List.mem_of_getElem? (i := 236) rfl)) rfl)⟩
theorem x_lk_1_9 : x_lokP 1 (96, 0, 65) := ⟨by decide, (x_gm (x_t3 (List.mem_of_getElem? (i := 5) rfl)) rfl)⟩
theorem x_lk_1_10 : x_lokP 1 (100, 7, 0) := (x_gm (x_t3 (List.mem_of_getElem? (i := 9) rfl)) rfl)
theorem x_lk_1_11 : x_lokP 1 (104, 8, 0) := (x_gm (x_t3 (List.mem_of_getElem? (i := 19) rfl)) rfl)
theorem x_lk_1_12 : x_lokP 1 (76, 0, 68) := ⟨by decide, (x_gm (x_t3 (List.mem_of_getElem? (i := 57) rfl)) rfl)⟩
theorem x_lk_1_13 : x_lokP 1 (79, 0, 66) := ⟨by decide, (x_gm (x_t3 (List.mem_of_getElem? (i := 60) rfl)) rfl)⟩
theorem x_lk_1_14 : x_lokP 1 (39, 0, 59) := ⟨by decide, (x_gm (x_t3 (List.mem_of_getElem? (i := 68) rfl)) rfl)⟩
theorem x_lk_1_15 : x_lokP 1 (43, 0, 12) := ⟨by decide, (x_gm (x_t3 (List.mem_of_getElem? (i := 72) rfl)) rfl)⟩
theorem x_lk_1_16 : x_lokP 1 (49, 0, 13) := ⟨by decide, (x_gm (x_t3 (List.mem_of_getElem? (i := 73) rfl)) rfl)⟩
theorem x_lk_1_17 : x_lokP 1 (53, 0, 14) := ⟨by decide, (x_gm (x_t3 (List.mem_of_getElem? (i := 74) rfl)) rfl)⟩
theorem x_lk_1_18 : x_lokP 1 (57, 0, 15) := ⟨by decide, (x_gm (x_t3 (List.mem_of_getElem? (i := 75) rfl)) rfl)⟩
theorem x_lk_1_19 : x_lokP 1 (61, 0, 16) := ⟨by decide, (x_gm (x_t3 (List.mem_of_getElem? (i := 76) rfl)) rfl)⟩
theorem x_lk_1_20 : x_lokP 1 (64, 0, 17) := ⟨by decide, (x_gm (x_t3 (List.mem_of_getElem? (i := 77) rfl)) rfl)⟩
theorem x_lo_1 : ∀ e ∈ xMl_1, x_lokP 1 e := List.forall_mem_cons.mpr ⟨x_lk_1_0, List.forall_mem_cons.mpr ⟨x_lk_1_1, List.forall_mem_cons.mpr ⟨x_lk_1_2, List.forall_mem_cons.mpr ⟨x_lk_1_3, List.forall_mem_cons.mpr ⟨x_lk_1_4, List.forall_mem_cons.mpr ⟨x_lk_1_5, List.forall_mem_cons.mpr ⟨x_lk_1_6, List.forall_mem_cons.mpr ⟨x_lk_1_7, List.forall_mem_cons.mpr ⟨x_lk_1_8, List.forall_mem_cons.mpr ⟨x_lk_1_9, List.forall_mem_cons.mpr ⟨x_lk_1_10, List.forall_mem_cons.mpr ⟨x_lk_1_11, List.forall_mem_cons.mpr ⟨x_lk_1_12, List.forall_mem_cons.mpr ⟨x_lk_1_13, List.forall_mem_cons.mpr ⟨x_lk_1_14, List.forall_mem_cons.mpr ⟨x_lk_1_15, List.forall_mem_cons.mpr ⟨x_lk_1_16, List.forall_mem_cons.mpr ⟨x_lk_1_17, List.forall_mem_cons.mpr ⟨x_lk_1_18, List.forall_mem_cons.mpr ⟨x_lk_1_19, List.forall_mem_cons.mpr ⟨x_lk_1_20, fun _ h => absurd h List.not_mem_nil⟩⟩⟩⟩⟩⟩⟩⟩⟩⟩⟩⟩⟩⟩⟩⟩⟩⟩⟩⟩⟩
theorem x_lk_2_0 : x_lokP 2 (3, 2, 0) := (x_gm (x_t1 (List.mem_of_getElem? (i := 30) rfl)) rfl)
theorem x_lk_2_1 : x_lokP 2 (19, 1, 0) := ⟨by decide, x_t1 (List.mem_of_getElem? (i := 35) rfl)⟩
theorem x_lk_2_2 : x_lokP 2 (26, 1, 5) := ⟨by decide, x_t1 (List.mem_of_getElem? (i := 57) rfl)⟩
theorem x_lk_2_3 : x_lokP 2 (35, 1, 3) := ⟨by decide, x_t1 (List.mem_of_getElem? (i := 80) rfl)⟩
theorem x_lk_2_4 : x_lokP 2 (36, 0, 12) := ⟨by decide, (x_gm (x_t1 (List.mem_of_getElem? (i := 120) rfl)) rfl)⟩
theorem x_lk_2_5 : x_lokP 2 (78, 0, 21) := ⟨by decide, (x_gm (x_t2 (List.mem_of_getElem? (i := 97) rfl)) rfl)⟩
theorem x_lk_2_6 : x_lokP 2 (82, 0, 23) := ⟨by decide, (x_gm (x_t2 (List.mem_of_getElem? (i := 101) rfl)) rfl)⟩
theorem x_lk_2_7 : x_lokP 2 (85, 0, 26) := ⟨by decide, (x_gm (x_t2 (List.mem_of_getElem? (i := 105) rfl)) rfl)⟩
theorem x_lk_2_8 : x_lokP 2 (89, 0, 25) := ⟨by decide, (x_gm (x_t2 (List.mem_of_getElem? (i := 117) rfl)) rfl)⟩
theorem x_lk_2_9 : x_lokP 2 (138, 0, 24) := ⟨by decide, (x_gm (x_t2 (List.mem_of_getElem? (i := 121) rfl)) rfl)⟩
theorem x_lk_2_10 : x_lokP 2 (113, 0, 22) := ⟨by decide, (x_gm (x_t2 (List.mem_of_getElem? (i := 152) rfl)) rfl)⟩
theorem x_lk_2_11 : x_lokP 2 (141, 0, 27) := ⟨by decide, (x_gm (x_t2 (List.mem_of_getElem? (i := 165) rfl)) rfl)⟩
theorem x_lk_2_12 : x_lokP 2 (144, 5, 0) := (x_gm (x_t2 (List.mem_of_getElem? (i := 169) rfl)) rfl)
theorem x_lk_2_13 : x_lokP 2 (147, 0, 28) := ⟨by decide, (x_gm (x_t2 (List.mem_of_getElem? (i := 172) rfl)) rfl)⟩
theorem x_lk_2_14 : x_lokP 2 (150, 0, 32) := ⟨by decide, (x_gm (x_t2 (List.mem_of_getElem? (i := 176) rfl)) rfl)⟩
theorem x_lk_2_15 : x_lokP 2 (126, 3, 0) := (x_gm (x_t2 (List.mem_of_getElem? (i := 180) rfl)) rfl)
theorem x_lk_2_16 : x_lokP 2 (154, 4, 0) := (x_gm (x_t2 (List.mem_of_getElem? (i := 183) rfl)) rfl)
theorem x_lk_2_17 : x_lokP 2 (62, 0, 4) := ⟨by decide, (x_gm (x_t3 (List.mem_of_getElem? (i := 82) rfl)) rfl)⟩
theorem x_lk_2_18 : x_lokP 2 (66, 0, 2) := ⟨by decide, (x_gm (x_t3 (List.mem_of_getElem? (i := 86) rfl)) rfl)⟩
theorem x_lk_2_19 : x_lokP 2 (69, 0, 8) := ⟨by decide, (x_gm (x_t3 (List.mem_of_getElem? (i := 93) rfl)) rfl)⟩
theorem x_lk_2_20 : x_lokP 2 (116, 0, 29) := ⟨by decide, (x_gm (x_t3 (List.mem_of_getElem? (i := 107) rfl)) rfl)⟩
theorem x_lk_2_21 : x_lokP 2 (119, 0, 6) := ⟨by decide, (x_gm (x_t3 (List.mem_of_getElem? (i := 111) rfl)) rfl)⟩
theorem x_lk_2_22 : x_lokP 2 (123, 0, 31) := ⟨by decide, (x_gm (x_t3 (List.mem_of_getElem? (i := 119) rfl)) rfl)⟩
theorem x_lk_2_23 : x_lokP 2 (131, 1, 105) := ⟨by decide, x_t3 (List.mem_of_getElem? (i := 120) rfl)⟩
theorem x_lk_2_24 : x_lokP 2 (135, 0, 7) := ⟨by decide, (x_gm (x_t3 (List.mem_of_getElem? (i := 139) rfl)) rfl)⟩
theorem x_lk_2_25 : x_lokP 2 (157, 0, 173) := ⟨by decide, (x_gm (x_t4 (List.mem_of_getElem? (i := 34) rfl)) rfl)⟩
theorem x_lk_2_26 : x_lokP 2 (162, 0, 175) := ⟨by decide, (x_gm (x_t4 (List.mem_of_getElem? (i := 37) rfl)) rfl)⟩
theorem x_lo_2 : ∀ e ∈ xMl_2, x_lokP 2 e := List.forall_mem_cons.mpr ⟨x_lk_2_0, List.forall_mem_cons.mpr ⟨x_lk_2_1, List.forall_mem_cons.mpr ⟨x_lk_2_2, List.forall_mem_cons.mpr ⟨x_lk_2_3, List.forall_mem_cons.mpr ⟨x_lk_2_4, List.forall_mem_cons.mpr ⟨x_lk_2_5, List.forall_mem_cons.mpr ⟨x_lk_2_6, List.forall_mem_cons.mpr ⟨x_lk_2_7, List.forall_mem_cons.mpr ⟨x_lk_2_8, List.forall_mem_cons.mpr ⟨x_lk_2_9, List.forall_mem_cons.mpr ⟨x_lk_2_10, List.forall_mem_cons.mpr ⟨x_lk_2_11, List.forall_mem_cons.mpr ⟨x_lk_2_12, List.forall_mem_cons.mpr ⟨x_lk_2_13, List.forall_mem_cons.mpr ⟨x_lk_2_14, List.forall_mem_cons.mpr ⟨x_lk_2_15, List.forall_mem_cons.mpr ⟨x_lk_2_16, List.forall_mem_cons.mpr ⟨x_lk_2_17, List.forall_mem_cons.mpr ⟨x_lk_2_18, List.forall_mem_cons.mpr ⟨x_lk_2_19, List.forall_mem_cons.mpr ⟨x_lk_2_20, List.forall_mem_cons.mpr ⟨x_lk_2_21, List.forall_mem_cons.mpr ⟨x_lk_2_22, List.forall_mem_cons.mpr ⟨x_lk_2_23, List.forall_mem_cons.mpr ⟨x_lk_2_24, List.forall_mem_cons.mpr ⟨x_lk_2_25, List.forall_mem_cons.mpr ⟨x_lk_2_26, fun _ h => absurd h List.not_mem_nil⟩⟩⟩⟩⟩⟩⟩⟩⟩⟩⟩⟩⟩⟩⟩⟩⟩⟩⟩⟩⟩⟩⟩⟩⟩⟩⟩
theorem x_lk_3_0 : x_lokP 3 (3, 2, 0) := (x_gm (x_t1 (List.mem_of_getElem? (i := 60) rfl)) rfl)
theorem x_lk_3_1 : x_lokP 3 (46, 6, 0) := (x_gm (x_t3 (List.mem_of_getElem? (i := 97) rfl)) rfl)
theorem x_lk_3_2 : x_lokP 3 (28, 0, 9) := ⟨by decide, (x_gm (x_t3 (List.mem_of_getElem? (i := 115) rfl)) rfl)⟩
theorem x_lo_3 : ∀ e ∈ xMl_3, x_lokP 3 e := List.forall_mem_cons.mpr ⟨x_lk_3_0, List.forall_mem_cons.mpr ⟨x_lk_3_1, List.forall_mem_cons.mpr ⟨x_lk_3_2, fun _ h => absurd h List.not_mem_nil⟩⟩⟩
theorem x_lk_4_0 : x_lokP 4 (3, 2, 0) := (x_gm (x_t2 (List.mem_of_getElem? (i := 18) rfl)) rfl)
theorem x_lk_4_1 : x_lokP 4 (20, 1, 0) := ⟨by decide, x_t2 (List.mem_of_getElem? (i := 20) rfl)⟩
theorem x_lk_4_2 : x_lokP 4 (25, 0, 33) := ⟨by decide, (x_gm (x_t3 (List.mem_of_getElem? (i := 207) rfl)) rfl)⟩
theorem x_lk_4_3 : x_lokP 4 (31, 0, 49) := ⟨by decide, (x_gm (x_t3 (List.mem_of_getElem? (i := 208) rfl)) rfl)⟩
theorem x_lk_4_4 : x_lokP 4 (38, 0, 24) := ⟨by decide, (x_gm (x_t3 (List.mem_of_getElem? (i := 212) rfl)) rfl)⟩
theorem x_lk_4_5 : x_lokP 4 (42, 0, 52) := ⟨by decide, (x_gm (x_t3 (List.mem_of_getElem? (i := 213) rfl)) rfl)⟩
theorem x_lk_4_6 : x_lokP 4 (107, 1, 105) := ⟨by decide, x_t3 (List.mem_of_getElem? (i := 217) rfl)⟩
theorem x_lk_4_7 : x_lokP 4 (111, 1, 106) := ⟨by decide, x_t3 (List.mem_of_getElem? (i := 218) rfl)⟩
theorem x_lk_4_8 : x_lokP 4 (46, 0, 53) := ⟨by decide, (x_gm (x_t3 (List.mem_of_getElem? (i := 233) rfl)) rfl)⟩
theorem x_lk_4_9 : x_lokP 4 (115, 4, 0) := (x_gm (x_t3 (List.mem_of_getElem? (i := 237) rfl)) rfl)
theorem x_lk_4_10 : x_lokP 4 (50, 0, 50) := ⟨by decide, (x_gm (x_t4 (List.mem_of_getElem? (i := 6) rfl)) rfl)⟩
theorem x_lk_4_11 : x_lokP 4 (94, 0, 11) := ⟨by decide, (x_gm (x_t4 (List.mem_of_getElem? (i := 10) rfl)) rfl)⟩
theorem x_lk_4_12 : x_lokP 4 (98, 0, 45) := ⟨by decide, (x_gm (x_t4 (List.mem_of_getElem? (i := 11) rfl)) rfl)⟩
theorem x_lk_4_13 : x_lokP 4 (66, 0, 51) := ⟨by decide, (x_gm (x_t4 (List.mem_of_getElem? (i := 12) rfl)) rfl)⟩
theorem x_lk_4_14 : x_lokP 4 (70, 0, 25) := ⟨by decide, (x_gm (x_t4 (List.mem_of_getElem? (i := 16) rfl)) rfl)⟩
theorem x_lk_4_15 : x_lokP 4 (76, 0, 23) := ⟨by decide, (x_gm (x_t4 (List.mem_of_getElem? (i := 25) rfl)) rfl)⟩
theorem x_lo_4 : ∀ e ∈ xMl_4, x_lokP 4 e := List.forall_mem_cons.mpr ⟨x_lk_4_0, List.forall_mem_cons.mpr ⟨x_lk_4_1, List.forall_mem_cons.mpr ⟨x_lk_4_2, List.forall_mem_cons.mpr ⟨x_lk_4_3, List.forall_mem_cons.mpr ⟨x_lk_4_4, List.forall_mem_cons.mpr ⟨x_lk_4_5, List.forall_mem_cons.mpr ⟨x_lk_4_6, List.forall_mem_cons.mpr ⟨x_lk_4_7, List.forall_mem_cons.mpr ⟨x_lk_4_8, List.forall_mem_cons.mpr ⟨x_lk_4_9, List.forall_mem_cons.mpr ⟨x_lk_4_10, List.forall_mem_cons.mpr ⟨x_lk_4_11, List.forall_mem_cons.mpr ⟨x_lk_4_12, List.forall_mem_cons.mpr ⟨x_lk_4_13, List.forall_mem_cons.mpr ⟨x_lk_4_14, List.forall_mem_cons.mpr ⟨x_lk_4_15, fun _ h => absurd h List.not_mem_nil⟩⟩⟩⟩⟩⟩⟩⟩⟩⟩⟩⟩⟩⟩⟩⟩
theorem x_lk_5_0 : x_lokP 5 (1, 2, 0) := (x_gm (x_t1 (List.mem_of_getElem? (i := 83) rfl)) rfl)
theorem x_lo_5 : ∀ e ∈ xMl_5, x_lokP 5 e := List.forall_mem_cons.mpr ⟨x_lk_5_0, fun _ h => absurd h List.not_mem_nil⟩
theorem x_lk_6_0 : x_lokP 6 (3, 2, 0) := (x_gm (x_t1 (List.mem_of_getElem? (i := 217) rfl)) rfl)
theorem x_lk_6_1 : x_lokP 6 (27, 1, 0) := ⟨by decide, x_t1 (List.mem_of_getElem? (i := 220) rfl)⟩
theorem x_lk_6_2 : x_lokP 6 (28, 0, 33) := ⟨by decide, (x_gm (x_t3 (List.mem_of_getElem? (i := 160) rfl)) rfl)⟩
theorem x_lk_6_3 : x_lokP 6 (37, 0, 2) := ⟨by decide, (x_gm (x_t3 (List.mem_of_getElem? (i := 164) rfl)) rfl)⟩
theorem x_lk_6_4 : x_lokP 6 (41, 4, 0) := (x_gm (x_t3 (List.mem_of_getElem? (i := 165) rfl)) rfl)
theorem x_lk_6_5 : x_lokP 6 (60, 0, 38) := ⟨by decide, (x_gm (x_t3 (List.mem_of_getElem? (i := 166) rfl)) rfl)⟩
theorem x_lk_6_6 : x_lokP 6 (92, 0, 41) := ⟨by decide, (x_gm (x_t3 (List.mem_of_getElem? (i := 170) rfl)) rfl)⟩
theorem x_lk_6_7 : x_lokP 6 (120, 0, 43) := ⟨by decide, (x_gm (x_t3 (List.mem_of_getElem? (i := 174) rfl)) rfl)⟩
theorem x_lk_6_8 : x_lokP 6 (133, 1, 104) := ⟨by decide, x_t3 (List.mem_of_getElem? (i := 178) rfl)⟩
theorem x_lk_6_9 : x_lokP 6 (96, 6, 0) := (x_gm (x_t3 (List.mem_of_getElem? (i := 179) rfl)) rfl)
theorem x_lk_6_10 : x_lokP 6 (102, 0, 30) := ⟨by decide, (x_gm (x_t3 (List.mem_of_getElem? (i := 180) rfl)) rfl)⟩
theorem x_lk_6_11 : x_lokP 6 (105, 0, 40) := ⟨by decide, (x_gm (x_t3 (List.mem_of_getElem? (i := 184) rfl)) rfl)⟩
theorem x_lk_6_12 : x_lokP 6 (116, 1, 105) := ⟨by decide, x_t3 (List.mem_of_getElem? (i := 188) rfl)⟩
theorem x_lk_6_13 : x_lokP 6 (108, 1, 106) := ⟨by decide, x_t3 (List.mem_of_getElem? (i := 189) rfl)⟩
theorem x_lk_6_14 : x_lokP 6 (88, 0, 39) := ⟨by decide, (x_gm (x_t4 (List.mem_of_getElem? (i := 57) rfl)) rfl)⟩
theorem x_lk_6_15 : x_lokP 6 (112, 0, 42) := ⟨by decide, (x_gm (x_t4 (List.mem_of_getElem? (i := 61) rfl)) rfl)⟩
theorem x_lo_6 : ∀ e ∈ xMl_6, x_lokP 6 e := List.forall_mem_cons.mpr ⟨x_lk_6_0, List.forall_mem_cons.mpr ⟨x_lk_6_1, List.forall_mem_cons.mpr ⟨x_lk_6_2, List.forall_mem_cons.mpr ⟨x_lk_6_3, List.forall_mem_cons.mpr ⟨x_lk_6_4, List.forall_mem_cons.mpr ⟨x_lk_6_5, List.forall_mem_cons.mpr ⟨x_lk_6_6, List.forall_mem_cons.mpr ⟨x_lk_6_7, List.forall_mem_cons.mpr ⟨x_lk_6_8, List.forall_mem_cons.mpr ⟨x_lk_6_9, List.forall_mem_cons.mpr ⟨x_lk_6_10, List.forall_mem_cons.mpr ⟨x_lk_6_11, List.forall_mem_cons.mpr ⟨x_lk_6_12, List.forall_mem_cons.mpr ⟨x_lk_6_13, List.forall_mem_cons.mpr ⟨x_lk_6_14, List.forall_mem_cons.mpr ⟨x_lk_6_15, fun _ h => absurd h List.not_mem_nil⟩⟩⟩⟩⟩⟩⟩⟩⟩⟩⟩⟩⟩⟩⟩⟩
theorem x_lk_7_0 : x_lokP 7 (1, 2, 0) := (x_gm (x_t1 (List.mem_of_getElem? (i := 22) rfl)) rfl)
theorem x_lk_7_1 : x_lokP 7 (9, 0, 10) := ⟨by decide, (x_gm (x_t1 (List.mem_of_getElem? (i := 27) rfl)) rfl)⟩
theorem x_lk_7_2 : x_lokP 7 (29, 1, 54) := ⟨by decide, x_t1 (List.mem_of_getElem? (i := 183) rfl)⟩
theorem x_lk_7_3 : x_lokP 7 (36, 0, 35) := ⟨by decide, (x_gm (x_t1 (List.mem_of_getElem? (i := 214) rfl)) rfl)⟩
theorem x_lk_7_4 : x_lokP 7 (43, 1, 44) := ⟨by decide, x_t2 (List.mem_of_getElem? (i := 15) rfl)⟩
theorem x_lk_7_5 : x_lokP 7 (48, 0, 12) := ⟨by decide, (x_gm (x_t2 (List.mem_of_getElem? (i := 84) rfl)) rfl)⟩
theorem x_lk_7_6 : x_lokP 7 (52, 0, 101) := ⟨by decide, (x_gm (x_t2 (List.mem_of_getElem? (i := 85) rfl)) rfl)⟩
theorem x_lk_7_7 : x_lokP 7 (56, 0, 13) := ⟨by decide, (x_gm (x_t2 (List.mem_of_getElem? (i := 93) rfl)) rfl)⟩
theorem x_lk_7_8 : x_lokP 7 (60, 0, 14) := ⟨by decide, (x_gm (x_t2 (List.mem_of_getElem? (i := 113) rfl)) rfl)⟩
theorem x_lk_7_9 : x_lokP 7 (64, 0, 15) := ⟨by decide, (x_gm (x_t2 (List.mem_of_getElem? (i := 129) rfl)) rfl)⟩
theorem x_lk_7_10 : x_lokP 7 (67, 0, 102) := ⟨by decide, (x_gm (x_t2 (List.mem_of_getElem? (i := 133) rfl)) rfl)⟩
theorem x_lk_7_11 : x_lokP 7 (70, 0, 16) := ⟨by decide, (x_gm (x_t2 (List.mem_of_getElem? (i := 140) rfl)) rfl)⟩
theorem x_lk_7_12 : x_lokP 7 (73, 0, 17) := ⟨by decide, (x_gm (x_t2 (List.mem_of_getElem? (i := 148) rfl)) rfl)⟩
theorem x_lk_7_13 : x_lokP 7 (76, 0, 21) := ⟨by decide, (x_gm (x_t2 (List.mem_of_getElem? (i := 160) rfl)) rfl)⟩
theorem x_lk_7_14 : x_lokP 7 (80, 0, 31) := ⟨by decide, (x_gm (x_t2 (List.mem_of_getElem? (i := 161) rfl)) rfl)⟩
theorem x_lk_7_15 : x_lokP 7 (83, 0, 55) := ⟨by decide, (x_gm (x_t2 (List.mem_of_getElem? (i := 190) rfl)) rfl)⟩
theorem x_lk_7_16 : x_lokP 7 (87, 0, 56) := ⟨by decide, (x_gm (x_t2 (List.mem_of_getElem? (i := 198) rfl)) rfl)⟩
theorem x_lk_7_17 : x_lokP 7 (91, 0, 57) := ⟨by decide, (x_gm (x_t2 (List.mem_of_getElem? (i := 206) rfl)) rfl)⟩
theorem x_lk_7_18 : x_lokP 7 (94, 0, 58) := ⟨by decide, (x_gm (x_t3 (List.mem_of_getElem? (i := 64) rfl)) rfl)⟩
theorem x_lk_7_19 : x_lokP 7 (98, 0, 11) := ⟨by decide, (x_gm (x_t3 (List.mem_of_getElem? (i := 78) rfl)) rfl)⟩
theorem x_lk_7_20 : x_lokP 7 (106, 0, 19) := ⟨by decide, (x_gm (x_t3 (List.mem_of_getElem? (i := 103) rfl)) rfl)⟩
theorem x_lk_7_21 : x_lokP 7 (260, 0, 104) := ⟨by decide, (x_gm (x_t3 (List.mem_of_getElem? (i := 123) rfl)) rfl)⟩
theorem x_lk_7_22 : x_lokP 7 (228, 0, 1) := ⟨by decide, (x_gm (x_t3 (List.mem_of_getElem? (i := 126) rfl)) rfl)⟩
theorem x_lk_7_23 : x_lokP 7 (263, 4, 0) := (x_gm (x_t3 (List.mem_of_getElem? (i := 130) rfl)) rfl)
theorem x_lk_7_24 : x_lokP 7 (109, 0, 20) := ⟨by decide, (x_gm (x_t3 (List.mem_of_getElem? (i := 135) rfl)) rfl)⟩
theorem x_lk_7_25 : x_lokP 7 (112, 0, 22) := ⟨by decide, (x_gm (x_t3 (List.mem_of_getElem? (i := 147) rfl)) rfl)⟩
theorem x_lk_7_26 : x_lokP 7 (125, 0, 100) := ⟨by decide, (x_gm (x_t3 (List.mem_of_getElem? (i := 152) rfl)) rfl)⟩
theorem x_lk_7_27 : x_lokP 7 (251, 0, 36) := ⟨by decide, (x_gm (x_t3 (List.mem_of_getElem? (i := 156) rfl)) rfl)⟩
theorem x_lk_7_28 : x_lokP 7 (129, 0, 103) := ⟨by decide, (x_gm (x_t3 (List.mem_of_getElem? (i := 200) rfl)) rfl)⟩
theorem x_lk_7_29 : x_lokP 7 (132, 0, 45) := ⟨by decide, (x_gm (x_t3 (List.mem_of_getElem? (i := 203) rfl)) rfl)⟩
theorem x_lk_7_30 : x_lokP 7 (147, 0, 174) := ⟨by decide, (x_gm (x_t3 (List.mem_of_getElem? (i := 223) rfl)) rfl)⟩
theorem x_lk_7_31 : x_lokP 7 (152, 0, 46) := ⟨by decide, (x_gm (x_t3 (List.mem_of_getElem? (i := 229) rfl)) rfl)⟩
theorem x_lk_7_32 : x_lokP 7 (158, 0, 47) := ⟨by decide, (x_gm (x_t4 (List.mem_of_getElem? (i := 2) rfl)) rfl)⟩
theorem x_lk_7_33 : x_lokP 7 (162, 0, 48) := ⟨by decide, (x_gm (x_t4 (List.mem_of_getElem? (i := 21) rfl)) rfl)⟩
theorem x_lk_7_34 : x_lokP 7 (168, 0, 34) := ⟨by decide, (x_gm (x_t4 (List.mem_of_getElem? (i := 30) rfl)) rfl)⟩
theorem x_lk_7_35 : x_lokP 7 (171, 0, 18) := ⟨by decide, (x_gm (x_t4 (List.mem_of_getElem? (i := 44) rfl)) rfl)⟩
theorem x_lk_7_36 : x_lokP 7 (174, 0, 24) := ⟨by decide, (x_gm (x_t4 (List.mem_of_getElem? (i := 52) rfl)) rfl)⟩
theorem x_lk_7_37 : x_lokP 7 (177, 0, 37) := ⟨by decide, (x_gm (x_t4 (List.mem_of_getElem? (i := 53) rfl)) rfl)⟩
theorem x_lk_7_38 : x_lokP 7 (196, 0, 99) := ⟨by decide, (x_gm (x_t4 (List.mem_of_getElem? (i := 81) rfl)) rfl)⟩
theorem x_lk_7_39 : x_lokP 7 (234, 0, 23) := ⟨by decide, (x_gm (x_t4 (List.mem_of_getElem? (i := 91) rfl)) rfl)⟩
theorem x_lo_7 : ∀ e ∈ xMl_7, x_lokP 7 e := List.forall_mem_cons.mpr ⟨x_lk_7_0, List.forall_mem_cons.mpr ⟨x_lk_7_1, List.forall_mem_cons.mpr ⟨x_lk_7_2, List.forall_mem_cons.mpr ⟨x_lk_7_3, List.forall_mem_cons.mpr ⟨x_lk_7_4, List.forall_mem_cons.mpr ⟨x_lk_7_5, List.forall_mem_cons.mpr ⟨x_lk_7_6, List.forall_mem_cons.mpr ⟨x_lk_7_7, List.forall_mem_cons.mpr ⟨x_lk_7_8, List.forall_mem_cons.mpr ⟨x_lk_7_9, List.forall_mem_cons.mpr ⟨x_lk_7_10, List.forall_mem_cons.mpr ⟨x_lk_7_11, List.forall_mem_cons.mpr ⟨x_lk_7_12, List.forall_mem_cons.mpr ⟨x_lk_7_13, List.forall_mem_cons.mpr ⟨x_lk_7_14, List.forall_mem_cons.mpr ⟨x_lk_7_15, List.forall_mem_cons.mpr ⟨x_lk_7_16, List.forall_mem_cons.mpr ⟨x_lk_7_17, List.forall_mem_cons.mpr ⟨x_lk_7_18, List.forall_mem_cons.mpr ⟨x_lk_7_19, List.forall_mem_cons.mpr ⟨x_lk_7_20, List.forall_mem_cons.mpr ⟨x_lk_7_21, List.forall_mem_cons.mpr ⟨x_lk_7_22, List.forall_mem_cons.mpr ⟨x_lk_7_23, List.forall_mem_cons.mpr ⟨x_lk_7_24, List.forall_mem_cons.mpr ⟨x_lk_7_25, List.forall_mem_cons.mpr ⟨x_lk_7_26, List.forall_mem_cons.mpr ⟨x_lk_7_27, List.forall_mem_cons.mpr ⟨x_lk_7_28, List.forall_mem_cons.mpr ⟨x_lk_7_29, List.forall_mem_cons.mpr ⟨x_lk_7_30, List.forall_mem_cons.mpr ⟨x_lk_7_31, List.forall_mem_cons.mpr ⟨x_lk_7_32, List.forall_mem_cons.mpr ⟨x_lk_7_33, List.forall_mem_cons.mpr ⟨x_lk_7_34, List.forall_mem_cons.mpr ⟨x_lk_7_35, List.forall_mem_cons.mpr ⟨x_lk_7_36, List.forall_mem_cons.mpr ⟨x_lk_7_37, List.forall_mem_cons.mpr ⟨x_lk_7_38, List.forall_mem_cons.mpr ⟨x_lk_7_39, fun _ h => absurd h List.not_mem_nil⟩⟩⟩⟩⟩⟩⟩⟩⟩⟩⟩⟩⟩⟩⟩⟩⟩⟩⟩⟩⟩⟩⟩⟩⟩⟩⟩⟩⟩⟩⟩⟩⟩⟩⟩⟩⟩⟩⟩⟩
theorem x_lk_8_0 : x_lokP 8 (1, 2, 0) := (x_gm (x_t4 (List.mem_of_getElem? (i := 97) rfl)) rfl)
theorem x_lk_8_1 : x_lokP 8 (44, 0, 116) := ⟨by decide, (x_gm (x_t4 (List.mem_of_getElem? (i := 98) rfl)) rfl)⟩
theorem x_lk_8_2 : x_lokP 8 (77, 0, 117) := ⟨by decide, (x_gm (x_t4 (List.mem_of_getElem? (i := 170) rfl)) rfl)⟩
theorem x_lk_8_3 : x_lokP 8 (52, 0, 108) := ⟨by decide, (x_gm (x_t4 (List.mem_of_getElem? (i := 176) rfl)) rfl)⟩
theorem x_lk_8_4 : x_lokP 8 (81, 0, 113) := ⟨by decide, (x_gm (x_t4 (List.mem_of_getElem? (i := 179) rfl)) rfl)⟩
theorem x_lk_8_5 : x_lokP 8 (84, 0, 121) := ⟨by decide, (x_gm (x_t4 (List.mem_of_getElem? (i := 187) rfl)) rfl)⟩
theorem x_lk_8_6 : x_lokP 8 (60, 0, 119) := ⟨by decide, (x_gm (x_t4 (List.mem_of_getElem? (i := 191) rfl)) rfl)⟩
theorem x_lk_8_7 : x_lokP 8 (56, 0, 118) := ⟨by decide, (x_gm (x_t4 (List.mem_of_getElem? (i := 195) rfl)) rfl)⟩
theorem x_lk_8_8 : x_lokP 8 (64, 0, 109) := ⟨by decide, (x_gm (x_t4 (List.mem_of_getElem? (i := 199) rfl)) rfl)⟩
theorem x_lk_8_9 : x_lokP 8 (67, 0, 120) := ⟨by decide, (x_gm (x_t4 (List.mem_of_getElem? (i := 202) rfl)) rfl)⟩
theorem x_lk_8_10 : x_lokP 8 (88, 0, 122) := ⟨by decide, (x_gm (x_t4 (List.mem_of_getElem? (i := 210) rfl)) rfl)⟩
theorem x_lk_8_11 : x_lokP 8 (92, 0, 123) := ⟨by decide, (x_gm (x_t4 (List.mem_of_getElem? (i := 220) rfl)) rfl)⟩
theorem x_lk_8_12 : x_lokP 8 (95, 0, 114) := ⟨by decide, (x_gm (x_t4 (List.mem_of_getElem? (i := 224) rfl)) rfl)⟩
theorem x_lk_8_13 : x_lokP 8 (98, 0, 124) := ⟨by decide, (x_gm (x_t4 (List.mem_of_getElem? (i := 232) rfl)) rfl)⟩
theorem x_lk_8_14 : x_lokP 8 (101, 0, 125) := ⟨by decide, (x_gm (x_t5 (List.mem_of_getElem? (i := 1) rfl)) rfl)⟩
theorem x_lk_8_15 : x_lokP 8 (113, 0, 133) := ⟨by decide, (x_gm (x_t5 (List.mem_of_getElem? (i := 9) rfl)) rfl)⟩
theorem x_lk_8_16 : x_lokP 8 (104, 0, 110) := ⟨by decide, (x_gm (x_t5 (List.mem_of_getElem? (i := 13) rfl)) rfl)⟩
theorem x_lk_8_17 : x_lokP 8 (107, 0, 112) := ⟨by decide, (x_gm (x_t5 (List.mem_of_getElem? (i := 16) rfl)) rfl)⟩
theorem x_lk_8_18 : x_lokP 8 (110, 0, 111) := ⟨by decide, (x_gm (x_t5 (List.mem_of_getElem? (i := 19) rfl)) rfl)⟩
theorem x_lk_8_19 : x_lokP 8 (139, 0, 137) := ⟨by decide, (x_gm (x_t5 (List.mem_of_getElem? (i := 36) rfl)) rfl)⟩
theorem x_lk_8_20 : x_lokP 8 (172, 0, 141) := ⟨by decide, (x_gm (x_t5 (List.mem_of_getElem? (i := 40) rfl)) rfl)⟩
theorem x_lk_8_21 : x_lokP 8 (158, 0, 138) := ⟨by decide, (x_gm (x_t5 (List.mem_of_getElem? (i := 48) rfl)) rfl)⟩
theorem x_lk_8_22 : x_lokP 8 (165, 0, 139) := ⟨by decide, (x_gm (x_t5 (List.mem_of_getElem? (i := 57) rfl)) rfl)⟩
theorem x_lk_8_23 : x_lokP 8 (168, 0, 140) := ⟨by decide, (x_gm (x_t5 (List.mem_of_getElem? (i := 60) rfl)) rfl)⟩
theorem x_lk_8_24 : x_lokP 8 (175, 0, 142) := ⟨by decide, (x_gm (x_t5 (List.mem_of_getElem? (i := 66) rfl)) rfl)⟩
theorem x_lk_8_25 : x_lokP 8 (178, 0, 115) := ⟨by decide, (x_gm (x_t5 (List.mem_of_getElem? (i := 70) rfl)) rfl)⟩
theorem x_lk_8_26 : x_lokP 8 (188, 0, 147) := ⟨by decide, (x_gm (x_t5 (List.mem_of_getElem? (i := 78) rfl)) rfl)⟩
theorem x_lk_8_27 : x_lokP 8 (191, 0, 148) := ⟨by decide, (x_gm (x_t5 (List.mem_of_getElem? (i := 82) rfl)) rfl)⟩
theorem x_lk_8_28 : x_lokP 8 (194, 0, 144) := ⟨by decide, (x_gm (x_t5 (List.mem_of_getElem? (i := 86) rfl)) rfl)⟩
theorem x_lk_8_29 : x_lokP 8 (197, 0, 146) := ⟨by decide, (x_gm (x_t5 (List.mem_of_getElem? (i := 90) rfl)) rfl)⟩
theorem x_lk_8_30 : x_lokP 8 (185, 0, 145) := ⟨by decide, (x_gm (x_t5 (List.mem_of_getElem? (i := 94) rfl)) rfl)⟩
theorem x_lk_8_31 : x_lokP 8 (200, 0, 132) := ⟨by decide, (x_gm (x_t5 (List.mem_of_getElem? (i := 106) rfl)) rfl)⟩
theorem x_lk_8_32 : x_lokP 8 (222, 0, 154) := ⟨by decide, (x_gm (x_t5 (List.mem_of_getElem? (i := 115) rfl)) rfl)⟩
theorem x_lk_8_33 : x_lokP 8 (213, 0, 152) := ⟨by decide, (x_gm (x_t5 (List.mem_of_getElem? (i := 119) rfl)) rfl)⟩
theorem x_lk_8_34 : x_lokP 8 (216, 0, 153) := ⟨by decide, (x_gm (x_t5 (List.mem_of_getElem? (i := 123) rfl)) rfl)⟩
theorem x_lk_8_35 : x_lokP 8 (229, 0, 157) := ⟨by decide, (x_gm (x_t5 (List.mem_of_getElem? (i := 135) rfl)) rfl)⟩
theorem x_lk_8_36 : x_lokP 8 (232, 0, 162) := ⟨by decide, (x_gm (x_t5 (List.mem_of_getElem? (i := 155) rfl)) rfl)⟩
theorem x_lk_8_37 : x_lokP 8 (235, 0, 169) := ⟨by decide, (x_gm (x_t5 (List.mem_of_getElem? (i := 183) rfl)) rfl)⟩
theorem x_lk_8_38 : x_lokP 8 (246, 0, 171) := ⟨by decide, (x_gm (x_t5 (List.mem_of_getElem? (i := 192) rfl)) rfl)⟩
theorem x_lo_8 : ∀ e ∈ xMl_8, x_lokP 8 e := List.forall_mem_cons.mpr ⟨x_lk_8_0, List.forall_mem_cons.mpr ⟨x_lk_8_1, List.forall_mem_cons.mpr ⟨x_lk_8_2, List.forall_mem_cons.mpr ⟨x_lk_8_3, List.forall_mem_cons.mpr ⟨x_lk_8_4, List.forall_mem_cons.mpr ⟨x_lk_8_5, List.forall_mem_cons.mpr ⟨x_lk_8_6, List.forall_mem_cons.mpr ⟨x_lk_8_7, List.forall_mem_cons.mpr ⟨x_lk_8_8, List.forall_mem_cons.mpr ⟨x_lk_8_9, List.forall_mem_cons.mpr ⟨x_lk_8_10, List.forall_mem_cons.mpr ⟨x_lk_8_11, List.forall_mem_cons.mpr ⟨x_lk_8_12, List.forall_mem_cons.mpr ⟨x_lk_8_13, List.forall_mem_cons.mpr ⟨x_lk_8_14, List.forall_mem_cons.mpr ⟨x_lk_8_15, List.forall_mem_cons.mpr ⟨x_lk_8_16, List.forall_mem_cons.mpr ⟨x_lk_8_17, List.forall_mem_cons.mpr ⟨x_lk_8_18, List.forall_mem_cons.mpr ⟨x_lk_8_19, List.forall_mem_cons.mpr ⟨x_lk_8_20, List.forall_mem_cons.mpr ⟨x_lk_8_21, List.forall_mem_cons.mpr ⟨x_lk_8_22, List.forall_mem_cons.mpr ⟨x_lk_8_23, List.forall_mem_cons.mpr ⟨x_lk_8_24, List.forall_mem_cons.mpr ⟨x_lk_8_25, List.forall_mem_cons.mpr ⟨x_lk_8_26, List.forall_mem_cons.mpr ⟨x_lk_8_27, List.forall_mem_cons.mpr ⟨x_lk_8_28, List.forall_mem_cons.mpr ⟨x_lk_8_29, List.forall_mem_cons.mpr ⟨x_lk_8_30, List.forall_mem_cons.mpr ⟨x_lk_8_31, List.forall_mem_cons.mpr ⟨x_lk_8_32, List.forall_mem_cons.mpr ⟨x_lk_8_33, List.forall_mem_cons.mpr ⟨x_lk_8_34, List.forall_mem_cons.mpr ⟨x_lk_8_35, List.forall_mem_cons.mpr ⟨x_lk_8_36, List.forall_mem_cons.mpr ⟨x_lk_8_37, List.forall_mem_cons.mpr ⟨x_lk_8_38, fun _ h => absurd h List.not_mem_nil⟩⟩⟩⟩⟩⟩⟩⟩⟩⟩⟩⟩⟩⟩⟩⟩⟩⟩⟩⟩⟩⟩⟩⟩⟩⟩⟩⟩⟩⟩⟩⟩⟩⟩⟩⟩⟩⟩⟩
theorem x_lo_9 : ∀ e ∈ xMl_9, x_lokP 9 e := fun _ h => absurd h List.not_mem_nil
theorem x_lo : ∀ c, c < 10 → ∀ e ∈ xMl c, x_lokP c e := lt_s (lt_s (lt_s (lt_s (lt_s (lt_s (lt_s (lt_s (lt_s (lt_s (lt_0) x_lo_0) x_lo_1) x_lo_2) x_lo_3) x_lo_4) x_lo_5) x_lo_6) x_lo_7) x_lo_8) x_lo_9
def x_fchk (c : Nat) (e : Nat × Nat × Nat) : Bool := match vwCl[e.2.1]? with
  | some q => decide (e.2.2 < q.2.2) && x_in (Cond.fieldLink (xR c) e.1 (q.2.1 e.2.2).1 (q.2.1 e.2.2).2.1 (q.2.1 e.2.2).2.2.1)
  | none => false
set_option maxRecDepth 100000 in
theorem x_fchk_0 : (List.range 10).all (fun c => (xFl c).all (x_fchk c)) = true := by decide +kernel
set_option maxRecDepth 100000 in
theorem x_cchk_0 : (List.range 10).all (fun c => (xLl c).all (fun e => x_in (.constantLong (xR c) e.1 e.2)) && (xIl c).all (fun e => x_in (.constant (xR c) e.1 e.2))) = true := by decide +kernel
def x_nchk (c : Nat) (e : Nat × Nat) : Bool := match vwCl[e.2]? with
  | some q => x_in (.classLink (xR c) e.1 q.1) && x_in (.instantiable q.1 q.2.2) && x_in (.initialized q.1) && decide ((x_new e.2).length = q.2.2)
  | none => false
set_option maxRecDepth 100000 in
theorem x_nchk_0 : (List.range 10).all (fun c => (xNl c).all (x_nchk c)) = true := by decide +kernel
set_option maxRecDepth 100000 in
theorem x_wchk_0 : ([.instanceMethod Lib.objectInit, .code Lib.objectInit ⟨#[0xb1]⟩ 1 none, .static Lib.Math.max.name, .initialized "java/lang/Math", .code Lib.Math.max.name Lib.Math.max.code 2 (some .int), .static Lib.Math.min.name, .code Lib.Math.min.name Lib.Math.min.code 2 (some .int), .static Lib.Math.abs.name, .code Lib.Math.abs.name Lib.Math.abs.code 1 (some .int), .native arraycopyName, .static arraycopyName, .initialized "java/lang/System", .arrayClass .int, .arrayClass .boolean] : List Cond).all x_in = true := by decide +kernel
set_option maxRecDepth 100000 in
theorem x_uchk_0 : vwCl.all (fun q => (u_ws q.1 q.2.1 q.2.2).all x_in) = true := by decide +kernel
set_option maxRecDepth 100000 in
theorem x_ochk_0 : decide (Cond.arrayOver (.object "OneLamp$Books") ∈ lw_tbl) && decide (Cond.arrayOver (.object "OneLamp$Hall") ∈ lw_tbl) && decide (Cond.arrayOver (.object "OneLamp$Reader") ∈ lw_tbl) = true := by decide +kernel


/-! THE COMPONENT, part 12: a round of the strings -/
section
variable {h : xH} {G : Nat → Nat → Int} {d o : Nat} {t : Nat → Nat → Int}
def cmpV (x y : Int) : Int := if x < y then -1 else if x = y then 0 else 1
theorem k_compare {x y : Int} (h1 : -2147483648 ≤ x) (h2 : x < 2147483648) (h3 : -2147483648 ≤ y) (h4 : y < 2147483648) : x_cl d n_J6_compare_7cf53 [.int (zI x), .int (zI y)] h = some (some (.int (zI (cmpV x y))), h) := by
  simp (disch := first | omega | assumption) only [e_J6_compare_7cf53, s_J6_compare_7cf53_0, s_J6_compare_7cf53_1, s_J6_compare_7cf53_2, s_J6_compare_7cf53_5, s_J6_compare_7cf53_6, s_J6_compare_7cf53_9, s_J6_compare_7cf53_10, s_J6_compare_7cf53_11, s_J6_compare_7cf53_14, s_J6_compare_7cf53_15, s_J6_compare_7cf53_18, s_J6_compare_7cf53_19, zI_add, zI_sub, zI_mul, zI_neg, zL_add, zL_sub, zL_mul, zI_lt, zI_le, zI_eq, zI_eq0, zI_lt0, zI_le0, zI_0lt, zI_0le, bZ_e0]
  unfold cmpV
  by_cases q : x < y
  · rw [if_neg (by omega), if_pos q]
  · rw [if_pos (by omega), if_neg q]
    by_cases z : x = y
    · rw [if_pos z, if_pos z]
    · rw [if_neg z, if_neg z]
theorem cmp_sg {x y v : Int} : v * cmpV x y = sgV (x - y) v := by
  unfold cmpV sgV
  by_cases q : x < y
  · rw [if_pos q, if_pos (show x - y ≤ 0 by omega), if_neg (show ¬ 0 ≤ x - y by omega)]; omega
  · rw [if_neg q]
    by_cases z : x = y
    · rw [if_pos z, if_pos (show x - y ≤ 0 by omega), if_pos (show 0 ≤ x - y by omega)]; omega
    · rw [if_neg z, if_neg (show ¬ x - y ≤ 0 by omega)]; omega
theorem sgV_0 {x : Int} : sgV x 0 = 0 := by
  unfold sgV
  repeat' split
  all_goals rfl
def sgn (x : Int) : Int := if x ≤ 0 then (if 0 ≤ x then 0 else -1) else 1
theorem sg_all : ∀ k : Fin 2001, (zI ((k.val : Int) - 1000) >>> (zI 31 &&& 31)) ||| (((zI (-((k.val : Int) - 1000))).toUInt32 >>> ((zI 31).toUInt32 &&& Int32.toUInt32 31)).toInt32) = zI (sgn ((k.val : Int) - 1000)) := by decide +kernel
theorem k_signum {x : Int} (h1 : -1000 ≤ x) (h2 : x ≤ 1000) : x_cl d n_J6_signum_0f7a4 [.int (zI x)] h = some (some (.int (zI (sgn x))), h) := by
  have e := sg_all ⟨(x + 1000).toNat, by omega⟩
  dsimp only at e
  rw [show (((x + 1000).toNat : Nat) : Int) - 1000 = x by omega] at e
  simp (disch := first | omega | assumption) only [e_J6_signum_0f7a4, s_J6_signum_0f7a4_0, s_J6_signum_0f7a4_1, s_J6_signum_0f7a4_3, s_J6_signum_0f7a4_4, s_J6_signum_0f7a4_5, s_J6_signum_0f7a4_6, s_J6_signum_0f7a4_8, s_J6_signum_0f7a4_9, s_J6_signum_0f7a4_10, zI_add, zI_sub, zI_mul, zI_neg, zL_add, zL_sub, zL_mul]
  rw [e]
theorem l_after {q : Int} (hh : 91 ≤ h.1) (hO : isH o) (hr : hR G o (rg t 0)) (hv : vI (rg t 0)) (hq0 : 0 ≤ q) (hq1 : q < 25) : ∀ (n : Nat) (p : Int) (s : Int × Int) (l5 : Value), p + n = t 1 5 → 0 ≤ p → ∃ l5',
    x_ev (d + 2, n_X2_squareAfterRound, 7, [.ref o, .int (zI q), .int (zI s.1), .int (zI s.2), .int (zI p), l5], [], cH h G) = x_ev (d + 2, n_X2_squareAfterRound, 96, [.ref o, .int (zI q), .int (zI (pulF t q n p s).1), .int (zI (pulF t q n p s).2), .int (zI (t 1 5)), l5'], [], cH h G) := by
  have h5 := hv.2.2.2.2.2.2.1
  have hsq := vI_sq hv
  have e9 := hr.2.2.2.2.2.1
  have eW : rg t 0 0 = t 1 0 := rg_0 (by omega)
  rw [rg_0 (by omega)] at h5 e9
  have w0 := hv.1
  rw [eW] at w0
  intro n
  induction n with
  | zero =>
    intro p s l5 hp h0
    refine ⟨l5, ?_⟩
    rw [s_X2_squareAfterRound_7, pulF]
    simp (disch := first | omega | assumption) only [s_X2_squareAfterRound_9, s_X2_squareAfterRound_10, s_X2_squareAfterRound_13, c_ho hh hO, c_hg0 hh hO, c_hg1 hh hO, c_hg2 hh hO, c_hg3 hh hO, c_hg4 hh hO, c_hg5 hh hO, c_hg6 hh hO, c_hg7 hh hO, c_hg8 hh hO, c_hg9 hh hO, c_hg10 hh hO, c_hq hh hO, c_hbg0 hh hO, c_hbg1 hh hO, c_hbo hh hO, c_hno hh hO, c_hng0 hh hO, c_hng1 hh hO, c_hng2 hh hO, c_hng3 hh hO, c_hng4 hh hO, c_hdo hh hO, c_hdg0 hh hO, c_hdg1 hh hO, c_hdg2 hh hO, c_hdg3 hh hO, c_hdg4 hh hO, c_hdg5 hh hO, c_hp4 hh hO, c_hp5 hh hO, c_hp6 hh hO, c_hp7 hh hO, c_hp8 hh hO, c_hp9 hh hO, c_hp10 hh hO, c_hbp hh hO, c_hnp hh hO, c_hdp0 hh hO, c_hdp1 hh hO, c_hdp2 hh hO, c_hdp3 hh hO, c_hdp4 hh hO, c_hdp5 hh hO, c_hr3 hh hO, c_hr5 hh hO, c_hr6 hh hO, c_hr7 hh hO, c_hr8 hh hO, c_hr9 hh hO, c_hs3 hh hO, c_hs5 hh hO, c_hs6 hh hO, c_hs7 hh hO, c_hs8 hh hO, c_hs9 hh hO, zI_add, zI_sub, zI_mul, zI_neg, zL_add, zL_sub, zL_mul, Option.bind_some, Option.toList_some, Option.toList_none, List.cons_append, List.nil_append, zI_lt, zI_le, zI_eq, zI_eq0, zI_lt0, zI_le0, zI_0lt, zI_0le, bZ_e0, Int.add_zero, Int.zero_add, e9]
    rw [if_pos (by omega), show p = t 1 5 by omega]
  | succ n ih =>
    intro p s l5 hp h0
    obtain ⟨r1, r2, r3, r4, r5, r6, r7⟩ := hr.2.2.2.2.2.2.2.1 p.toNat (by omega) (by rw [rg_0 (by omega)]; omega)
    obtain ⟨w1, -, -, -, w5, w6, -, -, -⟩ := hv.2.2.2.2.2.2.2.1 p.toNat (by omega) (by rw [rg_0 (by omega)]; omega)
    rw [rg_0 (by omega), show 6 + p.toNat = (6 + p).toNat by omega] at r1 w1
    rw [rg_0 (by omega), show 26 + p.toNat = (26 + p).toNat by omega] at r5 w5
    rw [rg_0 (by omega), show 31 + p.toNat = (31 + p).toNat by omega] at r7 w6
    rw [s_X2_squareAfterRound_7, pulF]
    simp (disch := first | omega | assumption) only [s_X2_squareAfterRound_9, s_X2_squareAfterRound_10, s_X2_squareAfterRound_13, c_ho hh hO, c_hg0 hh hO, c_hg1 hh hO, c_hg2 hh hO, c_hg3 hh hO, c_hg4 hh hO, c_hg5 hh hO, c_hg6 hh hO, c_hg7 hh hO, c_hg8 hh hO, c_hg9 hh hO, c_hg10 hh hO, c_hq hh hO, c_hbg0 hh hO, c_hbg1 hh hO, c_hbo hh hO, c_hno hh hO, c_hng0 hh hO, c_hng1 hh hO, c_hng2 hh hO, c_hng3 hh hO, c_hng4 hh hO, c_hdo hh hO, c_hdg0 hh hO, c_hdg1 hh hO, c_hdg2 hh hO, c_hdg3 hh hO, c_hdg4 hh hO, c_hdg5 hh hO, c_hp4 hh hO, c_hp5 hh hO, c_hp6 hh hO, c_hp7 hh hO, c_hp8 hh hO, c_hp9 hh hO, c_hp10 hh hO, c_hbp hh hO, c_hnp hh hO, c_hdp0 hh hO, c_hdp1 hh hO, c_hdp2 hh hO, c_hdp3 hh hO, c_hdp4 hh hO, c_hdp5 hh hO, c_hr3 hh hO, c_hr5 hh hO, c_hr6 hh hO, c_hr7 hh hO, c_hr8 hh hO, c_hr9 hh hO, c_hs3 hh hO, c_hs5 hh hO, c_hs6 hh hO, c_hs7 hh hO, c_hs8 hh hO, c_hs9 hh hO, zI_add, zI_sub, zI_mul, zI_neg, zL_add, zL_sub, zL_mul, Option.bind_some, Option.toList_some, Option.toList_none, List.cons_append, List.nil_append, zI_lt, zI_le, zI_eq, zI_eq0, zI_lt0, zI_le0, zI_0lt, zI_0le, bZ_e0, Int.add_zero, Int.zero_add, e9]
    rw [if_neg (by omega)]
    simp (disch := first | omega | assumption) only [s_X2_squareAfterRound_16, s_X2_squareAfterRound_17, s_X2_squareAfterRound_20, s_X2_squareAfterRound_23, s_X2_squareAfterRound_25, s_X2_squareAfterRound_26, c_ho hh hO, c_hg0 hh hO, c_hg1 hh hO, c_hg2 hh hO, c_hg3 hh hO, c_hg4 hh hO, c_hg5 hh hO, c_hg6 hh hO, c_hg7 hh hO, c_hg8 hh hO, c_hg9 hh hO, c_hg10 hh hO, c_hq hh hO, c_hbg0 hh hO, c_hbg1 hh hO, c_hbo hh hO, c_hno hh hO, c_hng0 hh hO, c_hng1 hh hO, c_hng2 hh hO, c_hng3 hh hO, c_hng4 hh hO, c_hdo hh hO, c_hdg0 hh hO, c_hdg1 hh hO, c_hdg2 hh hO, c_hdg3 hh hO, c_hdg4 hh hO, c_hdg5 hh hO, c_hp4 hh hO, c_hp5 hh hO, c_hp6 hh hO, c_hp7 hh hO, c_hp8 hh hO, c_hp9 hh hO, c_hp10 hh hO, c_hbp hh hO, c_hnp hh hO, c_hdp0 hh hO, c_hdp1 hh hO, c_hdp2 hh hO, c_hdp3 hh hO, c_hdp4 hh hO, c_hdp5 hh hO, c_hr3 hh hO, c_hr5 hh hO, c_hr6 hh hO, c_hr7 hh hO, c_hr8 hh hO, c_hr9 hh hO, c_hs3 hh hO, c_hs5 hh hO, c_hs6 hh hO, c_hs7 hh hO, c_hs8 hh hO, c_hs9 hh hO, zI_add, zI_sub, zI_mul, zI_neg, zL_add, zL_sub, zL_mul, Option.bind_some, Option.toList_some, Option.toList_none, List.cons_append, List.nil_append, zI_lt, zI_le, zI_eq, zI_eq0, zI_lt0, zI_le0, zI_0lt, zI_0le, bZ_e0, Int.add_zero, Int.zero_add, r7]
    by_cases z : t 1 (31 + p).toNat ≤ 0
    · rw [if_pos z]
      have ev : pvF t p = 0 := if_pos z
      rw [ev, sgV_0, sgV_0, Int.add_zero, Int.add_zero]
      obtain ⟨l5', hl⟩ := ih (p + 1) s l5 (by omega) (by omega)
      refine ⟨l5', ?_⟩
      simp (disch := first | omega | assumption) only [s_X2_squareAfterRound_90, s_X2_squareAfterRound_93, c_ho hh hO, c_hg0 hh hO, c_hg1 hh hO, c_hg2 hh hO, c_hg3 hh hO, c_hg4 hh hO, c_hg5 hh hO, c_hg6 hh hO, c_hg7 hh hO, c_hg8 hh hO, c_hg9 hh hO, c_hg10 hh hO, c_hq hh hO, c_hbg0 hh hO, c_hbg1 hh hO, c_hbo hh hO, c_hno hh hO, c_hng0 hh hO, c_hng1 hh hO, c_hng2 hh hO, c_hng3 hh hO, c_hng4 hh hO, c_hdo hh hO, c_hdg0 hh hO, c_hdg1 hh hO, c_hdg2 hh hO, c_hdg3 hh hO, c_hdg4 hh hO, c_hdg5 hh hO, c_hp4 hh hO, c_hp5 hh hO, c_hp6 hh hO, c_hp7 hh hO, c_hp8 hh hO, c_hp9 hh hO, c_hp10 hh hO, c_hbp hh hO, c_hnp hh hO, c_hdp0 hh hO, c_hdp1 hh hO, c_hdp2 hh hO, c_hdp3 hh hO, c_hdp4 hh hO, c_hdp5 hh hO, c_hr3 hh hO, c_hr5 hh hO, c_hr6 hh hO, c_hr7 hh hO, c_hr8 hh hO, c_hr9 hh hO, c_hs3 hh hO, c_hs5 hh hO, c_hs6 hh hO, c_hs7 hh hO, c_hs8 hh hO, c_hs9 hh hO, zI_add, zI_sub, zI_mul, zI_neg, zL_add, zL_sub, zL_mul, Option.bind_some, Option.toList_some, Option.toList_none, List.cons_append, List.nil_append, zI_lt, zI_le, zI_eq, zI_eq0, zI_lt0, zI_le0, zI_0lt, zI_0le, bZ_e0, Int.add_zero, Int.zero_add]
      exact hl
    · rw [if_neg z]
      have ev : pvF t p = t 1 (26 + p).toNat := if_neg z
      have rx := sq_rg w0.1 w0.2 w1.1 (show t 1 (6 + p).toNat < 25 by omega)
      have rq := sq_rg w0.1 w0.2 hq0 hq1
      rw [ev]
      obtain ⟨l5', hl⟩ := ih (p + 1) (s.1 + sgV (t 1 (6 + p).toNat % t 1 0 - q % t 1 0) (t 1 (26 + p).toNat), s.2 + sgV (t 1 (6 + p).toNat / t 1 0 - q / t 1 0) (t 1 (26 + p).toNat)) (.ref (o + 10 + p.toNat)) (by omega) (by omega)
      refine ⟨l5', ?_⟩
      simp (disch := first | omega | assumption) only [s_X2_squareAfterRound_29, s_X2_squareAfterRound_30, s_X2_squareAfterRound_33, s_X2_squareAfterRound_35, s_X2_squareAfterRound_36, s_X2_squareAfterRound_38, s_X2_squareAfterRound_39, s_X2_squareAfterRound_41, s_X2_squareAfterRound_44, s_X2_squareAfterRound_45, s_X2_squareAfterRound_47, s_X2_squareAfterRound_50, s_X2_squareAfterRound_53, s_X2_squareAfterRound_54, s_X2_squareAfterRound_55, s_X2_squareAfterRound_58, s_X2_squareAfterRound_61, s_X2_squareAfterRound_62, s_X2_squareAfterRound_63, s_X2_squareAfterRound_64, s_X2_squareAfterRound_65, s_X2_squareAfterRound_67, s_X2_squareAfterRound_70, s_X2_squareAfterRound_71, s_X2_squareAfterRound_73, s_X2_squareAfterRound_76, s_X2_squareAfterRound_79, s_X2_squareAfterRound_80, s_X2_squareAfterRound_81, s_X2_squareAfterRound_84, s_X2_squareAfterRound_87, s_X2_squareAfterRound_88, s_X2_squareAfterRound_89, s_X2_squareAfterRound_90, s_X2_squareAfterRound_93, c_ho hh hO, c_hg0 hh hO, c_hg1 hh hO, c_hg2 hh hO, c_hg3 hh hO, c_hg4 hh hO, c_hg5 hh hO, c_hg6 hh hO, c_hg7 hh hO, c_hg8 hh hO, c_hg9 hh hO, c_hg10 hh hO, c_hq hh hO, c_hbg0 hh hO, c_hbg1 hh hO, c_hbo hh hO, c_hno hh hO, c_hng0 hh hO, c_hng1 hh hO, c_hng2 hh hO, c_hng3 hh hO, c_hng4 hh hO, c_hdo hh hO, c_hdg0 hh hO, c_hdg1 hh hO, c_hdg2 hh hO, c_hdg3 hh hO, c_hdg4 hh hO, c_hdg5 hh hO, c_hp4 hh hO, c_hp5 hh hO, c_hp6 hh hO, c_hp7 hh hO, c_hp8 hh hO, c_hp9 hh hO, c_hp10 hh hO, c_hbp hh hO, c_hnp hh hO, c_hdp0 hh hO, c_hdp1 hh hO, c_hdp2 hh hO, c_hdp3 hh hO, c_hdp4 hh hO, c_hdp5 hh hO, c_hr3 hh hO, c_hr5 hh hO, c_hr6 hh hO, c_hr7 hh hO, c_hr8 hh hO, c_hr9 hh hO, c_hs3 hh hO, c_hs5 hh hO, c_hs6 hh hO, c_hs7 hh hO, c_hs8 hh hO, c_hs9 hh hO, zI_add, zI_sub, zI_mul, zI_neg, zL_add, zL_sub, zL_mul, Option.bind_some, Option.toList_some, Option.toList_none, List.cons_append, List.nil_append, zI_lt, zI_le, zI_eq, zI_eq0, zI_lt0, zI_le0, zI_0lt, zI_0le, bZ_e0, Int.add_zero, Int.zero_add, r1, r5, k_column hh hO hr hv, k_row hh hO hr hv, eW, k_compare, cmp_sg]
      exact hl
end

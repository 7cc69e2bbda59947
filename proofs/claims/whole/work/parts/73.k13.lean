/-! THE COMPONENT, part 13: the square behind a round; rest -/
section
variable {h : xH} {G : Nat → Nat → Int} {d o : Nat} {t : Nat → Nat → Int}
theorem k_after {q : Int} (hh : 91 ≤ h.1) (hO : isH o) (hr : hR G o (rg t 0)) (hv : vI (rg t 0)) (hq0 : 0 ≤ q) (hq1 : q < sqN t 0) : x_cl (d + 2) n_X2_squareAfterRound [.ref o, .int (zI q)] (cH h G) = some (some (.int (zI (pul t q))), cH h G) := by
  have hsq := vI_sq hv
  rw [← sq_v] at hsq
  have h5 := hv.2.2.2.2.2.2.1
  rw [rg_0 (by omega)] at h5
  have e4 := hr.1
  have w0 := hv.1
  rw [rg_0 (by omega)] at e4 w0
  have eS : rg t 0 4 = t 1 4 := rg_0 (by omega)
  have hpn := pulN_rg (now_v hv) (seat_v hv) hq0 hq1
  obtain ⟨l5', hl⟩ := l_after (d := d) (h := h) hh hO hr hv hq0 (show q < 25 by omega) (t 1 5).toNat 0 (0, 0) .null (by omega) (by omega)
  have hg := pulF_rg (q := q) (now_v hv) (t 1 5).toNat 0 (0, 0) (by omega) (by omega) (by dsimp only; omega) (by dsimp only; omega)
  simp (disch := first | omega | assumption) only [e_X2_squareAfterRound, s_X2_squareAfterRound_0, s_X2_squareAfterRound_1, s_X2_squareAfterRound_2, s_X2_squareAfterRound_3, s_X2_squareAfterRound_4, s_X2_squareAfterRound_5]
  refine Eq.trans hl ?_
  have hp : pulF t q (t 1 5).toNat 0 (0, 0) = pulS t q := rfl
  rw [hp] at hg ⊢
  have tail : ∀ l4 : Int32, x_ev (d + 2, n_X2_squareAfterRound, 127, [.ref o, .int (zI q), .int (zI (pulS t q).1), .int (zI (pulS t q).2), .int l4, l5'], [.int (zI (pulN t q))], cH h G) = some (some (.int (zI (pul t q))), cH h G) := by
    intro l4
    unfold pul
    simp (disch := first | omega | assumption) only [s_X2_squareAfterRound_127, s_X2_squareAfterRound_129, s_X2_squareAfterRound_130, s_X2_squareAfterRound_132, s_X2_squareAfterRound_135, s_X2_squareAfterRound_138, s_X2_squareAfterRound_140, s_X2_squareAfterRound_143, s_X2_squareAfterRound_144, c_ho hh hO, c_hg0 hh hO, c_hg1 hh hO, c_hg2 hh hO, c_hg3 hh hO, c_hg4 hh hO, c_hg5 hh hO, c_hg6 hh hO, c_hg7 hh hO, c_hg8 hh hO, c_hg9 hh hO, c_hg10 hh hO, c_hq hh hO, c_hbg0 hh hO, c_hbg1 hh hO, c_hbo hh hO, c_hno hh hO, c_hng0 hh hO, c_hng1 hh hO, c_hng2 hh hO, c_hng3 hh hO, c_hng4 hh hO, c_hdo hh hO, c_hdg0 hh hO, c_hdg1 hh hO, c_hdg2 hh hO, c_hdg3 hh hO, c_hdg4 hh hO, c_hdg5 hh hO, c_hp4 hh hO, c_hp5 hh hO, c_hp6 hh hO, c_hp7 hh hO, c_hp8 hh hO, c_hp9 hh hO, c_hp10 hh hO, c_hbp hh hO, c_hnp hh hO, c_hdp0 hh hO, c_hdp1 hh hO, c_hdp2 hh hO, c_hdp3 hh hO, c_hdp4 hh hO, c_hdp5 hh hO, c_hr3 hh hO, c_hr5 hh hO, c_hr6 hh hO, c_hr7 hh hO, c_hr8 hh hO, c_hr9 hh hO, c_hs3 hh hO, c_hs5 hh hO, c_hs6 hh hO, c_hs7 hh hO, c_hs8 hh hO, c_hs9 hh hO, zI_add, zI_sub, zI_mul, zI_neg, zL_add, zL_sub, zL_mul, Option.bind_some, Option.toList_some, Option.toList_none, List.cons_append, List.nil_append, zI_lt, zI_le, zI_eq, zI_eq0, zI_lt0, zI_le0, zI_0lt, zI_0le, bZ_e0, Int.add_zero, Int.zero_add, k_isOpen hh hO hr hv]
    rw [← sq_v, eS]
    by_cases z : hasB (t 1 4) (pulN t q) = true
    · rw [if_pos z, if_pos (show ¬ ((0 ≤ pulN t q ∧ pulN t q < sqN t 0) ∧ hasB (t 1 4) (pulN t q) = false) from fun y => by rw [z] at y; exact absurd y.2 (by decide))]
    · rw [if_neg z, if_neg (fun y => y ⟨hpn, Bool.eq_false_iff.mpr z⟩)]
  simp (disch := first | omega | assumption) only [s_X2_squareAfterRound_96, s_X2_squareAfterRound_97, s_X2_squareAfterRound_100, s_X2_squareAfterRound_101, s_X2_squareAfterRound_104, c_ho hh hO, c_hg0 hh hO, c_hg1 hh hO, c_hg2 hh hO, c_hg3 hh hO, c_hg4 hh hO, c_hg5 hh hO, c_hg6 hh hO, c_hg7 hh hO, c_hg8 hh hO, c_hg9 hh hO, c_hg10 hh hO, c_hq hh hO, c_hbg0 hh hO, c_hbg1 hh hO, c_hbo hh hO, c_hno hh hO, c_hng0 hh hO, c_hng1 hh hO, c_hng2 hh hO, c_hng3 hh hO, c_hng4 hh hO, c_hdo hh hO, c_hdg0 hh hO, c_hdg1 hh hO, c_hdg2 hh hO, c_hdg3 hh hO, c_hdg4 hh hO, c_hdg5 hh hO, c_hp4 hh hO, c_hp5 hh hO, c_hp6 hh hO, c_hp7 hh hO, c_hp8 hh hO, c_hp9 hh hO, c_hp10 hh hO, c_hbp hh hO, c_hnp hh hO, c_hdp0 hh hO, c_hdp1 hh hO, c_hdp2 hh hO, c_hdp3 hh hO, c_hdp4 hh hO, c_hdp5 hh hO, c_hr3 hh hO, c_hr5 hh hO, c_hr6 hh hO, c_hr7 hh hO, c_hr8 hh hO, c_hr9 hh hO, c_hs3 hh hO, c_hs5 hh hO, c_hs6 hh hO, c_hs7 hh hO, c_hs8 hh hO, c_hs9 hh hO, zI_add, zI_sub, zI_mul, zI_neg, zL_add, zL_sub, zL_mul, Option.bind_some, Option.toList_some, Option.toList_none, List.cons_append, List.nil_append, zI_lt, zI_le, zI_eq, zI_eq0, zI_lt0, zI_le0, zI_0lt, zI_0le, bZ_e0, Int.add_zero, Int.zero_add, zI_abs]
  by_cases z : ((pulS t q).1.natAbs : Int) < ((pulS t q).2.natAbs : Int)
  · rw [if_pos z]
    have e : pulN t q = q + t 1 0 * sgn (pulS t q).2 := by
      unfold pulN sgn
      rw [if_pos z]
      by_cases y : (pulS t q).2 ≤ 0
      · rw [if_pos y, if_pos y, if_neg (show ¬ 0 ≤ (pulS t q).2 by omega)]; omega
      · rw [if_neg y, if_neg y]; omega
    simp (disch := first | omega | assumption) only [s_X2_squareAfterRound_116, s_X2_squareAfterRound_117, s_X2_squareAfterRound_118, s_X2_squareAfterRound_121, s_X2_squareAfterRound_122, s_X2_squareAfterRound_125, s_X2_squareAfterRound_126, c_ho hh hO, c_hg0 hh hO, c_hg1 hh hO, c_hg2 hh hO, c_hg3 hh hO, c_hg4 hh hO, c_hg5 hh hO, c_hg6 hh hO, c_hg7 hh hO, c_hg8 hh hO, c_hg9 hh hO, c_hg10 hh hO, c_hq hh hO, c_hbg0 hh hO, c_hbg1 hh hO, c_hbo hh hO, c_hno hh hO, c_hng0 hh hO, c_hng1 hh hO, c_hng2 hh hO, c_hng3 hh hO, c_hng4 hh hO, c_hdo hh hO, c_hdg0 hh hO, c_hdg1 hh hO, c_hdg2 hh hO, c_hdg3 hh hO, c_hdg4 hh hO, c_hdg5 hh hO, c_hp4 hh hO, c_hp5 hh hO, c_hp6 hh hO, c_hp7 hh hO, c_hp8 hh hO, c_hp9 hh hO, c_hp10 hh hO, c_hbp hh hO, c_hnp hh hO, c_hdp0 hh hO, c_hdp1 hh hO, c_hdp2 hh hO, c_hdp3 hh hO, c_hdp4 hh hO, c_hdp5 hh hO, c_hr3 hh hO, c_hr5 hh hO, c_hr6 hh hO, c_hr7 hh hO, c_hr8 hh hO, c_hr9 hh hO, c_hs3 hh hO, c_hs5 hh hO, c_hs6 hh hO, c_hs7 hh hO, c_hs8 hh hO, c_hs9 hh hO, zI_add, zI_sub, zI_mul, zI_neg, zL_add, zL_sub, zL_mul, Option.bind_some, Option.toList_some, Option.toList_none, List.cons_append, List.nil_append, zI_lt, zI_le, zI_eq, zI_eq0, zI_lt0, zI_le0, zI_0lt, zI_0le, bZ_e0, Int.add_zero, Int.zero_add, e4, k_signum]
    rw [← e]
    exact tail _
  · rw [if_neg z]
    have e : pulN t q = q + sgn (pulS t q).1 := by
      unfold pulN sgn
      rw [if_neg z]
    simp (disch := first | omega | assumption) only [s_X2_squareAfterRound_107, s_X2_squareAfterRound_108, s_X2_squareAfterRound_109, s_X2_squareAfterRound_112, s_X2_squareAfterRound_113, c_ho hh hO, c_hg0 hh hO, c_hg1 hh hO, c_hg2 hh hO, c_hg3 hh hO, c_hg4 hh hO, c_hg5 hh hO, c_hg6 hh hO, c_hg7 hh hO, c_hg8 hh hO, c_hg9 hh hO, c_hg10 hh hO, c_hq hh hO, c_hbg0 hh hO, c_hbg1 hh hO, c_hbo hh hO, c_hno hh hO, c_hng0 hh hO, c_hng1 hh hO, c_hng2 hh hO, c_hng3 hh hO, c_hng4 hh hO, c_hdo hh hO, c_hdg0 hh hO, c_hdg1 hh hO, c_hdg2 hh hO, c_hdg3 hh hO, c_hdg4 hh hO, c_hdg5 hh hO, c_hp4 hh hO, c_hp5 hh hO, c_hp6 hh hO, c_hp7 hh hO, c_hp8 hh hO, c_hp9 hh hO, c_hp10 hh hO, c_hbp hh hO, c_hnp hh hO, c_hdp0 hh hO, c_hdp1 hh hO, c_hdp2 hh hO, c_hdp3 hh hO, c_hdp4 hh hO, c_hdp5 hh hO, c_hr3 hh hO, c_hr5 hh hO, c_hr6 hh hO, c_hr7 hh hO, c_hr8 hh hO, c_hr9 hh hO, c_hs3 hh hO, c_hs5 hh hO, c_hs6 hh hO, c_hs7 hh hO, c_hs8 hh hO, c_hs9 hh hO, zI_add, zI_sub, zI_mul, zI_neg, zL_add, zL_sub, zL_mul, Option.bind_some, Option.toList_some, Option.toList_none, List.cons_append, List.nil_append, zI_lt, zI_le, zI_eq, zI_eq0, zI_lt0, zI_le0, zI_0lt, zI_0le, bZ_e0, Int.add_zero, Int.zero_add, k_signum]
    rw [← e]
    exact tail _
end

/-! THE COMPONENT, part 18: images kept and taken -/
section
variable {h : xH} {G : Nat → Nat → Int} {d : Nat} {g : Nat → Int}
theorem isH_i {i : Nat} (hi : i < 2) : isH (61 + 15 * i) := by
  rcases (show i = 0 ∨ i = 1 by omega) with e | e <;> subst e
  · exact isH_61
  · exact isH_76
theorem o_image {i : Int} (hh : 91 ≤ h.1) (hr : hR G 1 g) (hv : vI g) (h1 : -2147483648 ≤ i) (h2 : i < 2147483648) : (0 ≤ i ∧ i ≤ 1 → ∃ F, hK G F (61 + 15 * i.toNat) ∧ hR F (61 + 15 * i.toNat) g ∧ x_cl (d + 3) n_X7_image [.ref 0, .int (zI i)] (cH h G) = some (some (.int (zI 1)), cH h (up2 F 32 i.toNat 1))) ∧ (¬ (0 ≤ i ∧ i ≤ 1) → x_cl (d + 3) n_X7_image [.ref 0, .int (zI i)] (cH h G) = some (some (.int (zI (-2))), cH h (ctT G (-2)))) := by
  constructor
  · intro q
    have hO := isH_i (i := i.toNat) (by omega)
    have hP := isH_1
    obtain ⟨F, k1, k2, k3⟩ := k_become (d := d) hh hO hP (by omega) hr hv.2.2.2.2.2.2.1.2
    refine ⟨F, k1, k2, ?_⟩
    simp (disch := first | omega | assumption) only [e_X7_image, s_X7_image_0, s_X7_image_1, s_X7_image_4, s_X7_image_5, s_X7_image_6, zI_lt, zI_le, zI_eq, zI_eq0, zI_lt0, zI_le0, zI_0lt, zI_0le, bZ_e0]
    rw [if_neg (show ¬ i < 0 by omega), if_pos (show i < 2 by omega)]
    simp (disch := first | omega | assumption) only [s_X7_image_16, s_X7_image_17, s_X7_image_20, s_X7_image_21, s_X7_image_22, s_X7_image_23, s_X7_image_26, s_X7_image_29, s_X7_image_30, s_X7_image_33, s_X7_image_34, s_X7_image_35, s_X7_image_36, s_X7_image_37, c_oo hh, c_og0 hh, c_og1 hh, c_og2 hh, c_og3 hh, c_og4 hh, c_og5 hh, c_og6 hh, c_og7 hh, c_og8 hh, c_og9 hh, c_ko hh, c_kg0 hh, c_kg1 hh, c_kg2 hh, c_kg3 hh, c_kg4 hh, c_kg5 hh, c_kg6 hh, c_wo hh, c_wg0 hh, c_wg1 hh, c_wg2 hh, c_wg3 hh, c_wg4 hh, c_wg5 hh, c_wg6 hh, c_wg7 hh, c_wg8 hh, c_po hh, c_pg0 hh, c_pg1 hh, c_pg2 hh, c_pg3 hh, c_pg4 hh, c_pg5 hh, c_pg6 hh, c_pg7 hh, c_q31 hh, c_q39 hh, c_op7 hh, c_op8 hh, c_op9 hh, c_kp0 hh, c_kp1 hh, c_kp5 hh, c_kp6 hh, c_wp1 hh, c_wp2 hh, c_wp3 hh, c_wp7 hh, c_wp8 hh, c_pp0 hh, c_pp1 hh, c_pp2 hh, c_pp6 hh, c_pp7 hh, c_r32 hh, c_r34 hh, c_r35 hh, c_r36 hh, c_r38 hh, c_r40 hh, c_r41 hh, c_r57 hh, c_r58 hh, c_s32 hh, c_s34 hh, c_s35 hh, c_s36 hh, c_s38 hh, c_s40 hh, c_s41 hh, c_s57 hh, c_s58 hh, c_ho hh hO, c_hg0 hh hO, c_hg1 hh hO, c_hg2 hh hO, c_hg3 hh hO, c_hg4 hh hO, c_hg5 hh hO, c_hg6 hh hO, c_hg7 hh hO, c_hg8 hh hO, c_hg9 hh hO, c_hg10 hh hO, c_hq hh hO, c_hbg0 hh hO, c_hbg1 hh hO, c_hbo hh hO, c_hno hh hO, c_hng0 hh hO, c_hng1 hh hO, c_hng2 hh hO, c_hng3 hh hO, c_hng4 hh hO, c_hdo hh hO, c_hdg0 hh hO, c_hdg1 hh hO, c_hdg2 hh hO, c_hdg3 hh hO, c_hdg4 hh hO, c_hdg5 hh hO, c_hp4 hh hO, c_hp5 hh hO, c_hp6 hh hO, c_hp7 hh hO, c_hp8 hh hO, c_hp9 hh hO, c_hp10 hh hO, c_hbp hh hO, c_hnp hh hO, c_hdp0 hh hO, c_hdp1 hh hO, c_hdp2 hh hO, c_hdp3 hh hO, c_hdp4 hh hO, c_hdp5 hh hO, c_hr3 hh hO, c_hr5 hh hO, c_hr6 hh hO, c_hr7 hh hO, c_hr8 hh hO, c_hr9 hh hO, c_hs3 hh hO, c_hs5 hh hO, c_hs6 hh hO, c_hs7 hh hO, c_hs8 hh hO, c_hs9 hh hO, zI_add, zI_sub, zI_mul, zI_neg, zL_add, zL_sub, zL_mul, Option.bind_some, Option.toList_some, Option.toList_none, List.cons_append, List.nil_append, zI_lt, zI_le, zI_eq, zI_eq0, zI_lt0, zI_le0, zI_0lt, zI_0le, bZ_e0, Int.add_zero, Int.zero_add, k3, vpn1]
  · intro q
    simp (disch := first | omega | assumption) only [e_X7_image, s_X7_image_0, s_X7_image_1, s_X7_image_4, s_X7_image_5, s_X7_image_6, s_X7_image_9, s_X7_image_10, s_X7_image_12, s_X7_image_15, c_oo hh, c_og0 hh, c_og1 hh, c_og2 hh, c_og3 hh, c_og4 hh, c_og5 hh, c_og6 hh, c_og7 hh, c_og8 hh, c_og9 hh, c_ko hh, c_kg0 hh, c_kg1 hh, c_kg2 hh, c_kg3 hh, c_kg4 hh, c_kg5 hh, c_kg6 hh, c_wo hh, c_wg0 hh, c_wg1 hh, c_wg2 hh, c_wg3 hh, c_wg4 hh, c_wg5 hh, c_wg6 hh, c_wg7 hh, c_wg8 hh, c_po hh, c_pg0 hh, c_pg1 hh, c_pg2 hh, c_pg3 hh, c_pg4 hh, c_pg5 hh, c_pg6 hh, c_pg7 hh, c_q31 hh, c_q39 hh, c_op7 hh, c_op8 hh, c_op9 hh, c_kp0 hh, c_kp1 hh, c_kp5 hh, c_kp6 hh, c_wp1 hh, c_wp2 hh, c_wp3 hh, c_wp7 hh, c_wp8 hh, c_pp0 hh, c_pp1 hh, c_pp2 hh, c_pp6 hh, c_pp7 hh, c_r32 hh, c_r34 hh, c_r35 hh, c_r36 hh, c_r38 hh, c_r40 hh, c_r41 hh, c_r57 hh, c_r58 hh, c_s32 hh, c_s34 hh, c_s35 hh, c_s36 hh, c_s38 hh, c_s40 hh, c_s41 hh, c_s57 hh, c_s58 hh, Option.bind_some, Option.toList_some, Option.toList_none, List.cons_append, List.nil_append, zI_lt, zI_le, zI_eq, zI_eq0, zI_lt0, zI_le0, zI_0lt, zI_0le, bZ_e0, k_counted hh]
    by_cases z : i < 0
    · rw [if_pos z]
    · rw [if_neg z, if_neg (show ¬ i < 2 by omega)]
end

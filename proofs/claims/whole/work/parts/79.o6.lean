/-! THE COMPONENT, part 19: bytes typed -/
section
variable {h : xH} {G : Nat → Nat → Int} {d : Nat}
theorem byB_k (v : Int64) (k : Int) : (v >>> ((zI (8 * k)).toInt64 &&& 63)).toInt32 &&& zI 255 = zI (byB v k) := by
  rw [← byB_z, Int64.toInt32_and]
  rfl
def kyT (v : Int64) : Nat → (Nat → Nat → Int) → (Nat → Nat → Int)
  | 0, G => G
  | n + 1, G => kyT v n (up2 (up2 G 34 (G 33 0).toNat (byB v n)) 33 0 (G 33 0 + 1))
theorem l_typeK {v : Int64} {n0 : Int} (hh : 91 ≤ h.1) : ∀ (n : Nat) (G : Nat → Nat → Int), 0 ≤ G 33 0 → G 33 0 + n ≤ 200 → n ≤ 8 → x_ev (d, n_X1_addBytes, 34, [.ref 33, .long v, .null, .int (zI n0), .int (zI ((n : Int) - 1))], [], cH h G) = some (some (.int (zI (kyT v n G 33 0))), cH h (kyT v n G)) := by
  intro n
  induction n with
  | zero =>
    intro G h0 h1 h2
    rw [s_X1_addBytes_34]
    simp (disch := first | omega | assumption) only [s_X1_addBytes_36, zI_lt, zI_le, zI_eq, zI_eq0, zI_lt0, zI_le0, zI_0lt, zI_0le, bZ_e0]
    rw [if_pos (show ((0 : Nat) : Int) - 1 < 0 by decide)]
    simp (disch := first | omega | assumption) only [s_X1_addBytes_76, s_X1_addBytes_77, s_X1_addBytes_80, c_oo hh, c_og0 hh, c_og1 hh, c_og2 hh, c_og3 hh, c_og4 hh, c_og5 hh, c_og6 hh, c_og7 hh, c_og8 hh, c_og9 hh, c_ko hh, c_kg0 hh, c_kg1 hh, c_kg2 hh, c_kg3 hh, c_kg4 hh, c_kg5 hh, c_kg6 hh, c_wo hh, c_wg0 hh, c_wg1 hh, c_wg2 hh, c_wg3 hh, c_wg4 hh, c_wg5 hh, c_wg6 hh, c_wg7 hh, c_wg8 hh, c_po hh, c_pg0 hh, c_pg1 hh, c_pg2 hh, c_pg3 hh, c_pg4 hh, c_pg5 hh, c_pg6 hh, c_pg7 hh, c_q31 hh, c_q39 hh, c_op7 hh, c_op8 hh, c_op9 hh, c_kp0 hh, c_kp1 hh, c_kp5 hh, c_kp6 hh, c_wp1 hh, c_wp2 hh, c_wp3 hh, c_wp7 hh, c_wp8 hh, c_pp0 hh, c_pp1 hh, c_pp2 hh, c_pp6 hh, c_pp7 hh, c_r32 hh, c_r34 hh, c_r35 hh, c_r36 hh, c_r38 hh, c_r40 hh, c_r41 hh, c_r57 hh, c_r58 hh, c_s32 hh, c_s34 hh, c_s35 hh, c_s36 hh, c_s38 hh, c_s40 hh, c_s41 hh, c_s57 hh, c_s58 hh, Option.bind_some, Option.toList_some, Option.toList_none, List.cons_append, List.nil_append]
    rfl
  | succ n ih =>
    intro G h0 h1 h2
    have e : ((n + 1 : Nat) : Int) - 1 = n := by omega
    rw [s_X1_addBytes_34, e]
    simp (disch := first | omega | assumption) only [s_X1_addBytes_36, zI_lt, zI_le, zI_eq, zI_eq0, zI_lt0, zI_le0, zI_0lt, zI_0le, bZ_e0]
    rw [if_neg (show ¬ (n : Int) < 0 by omega)]
    simp (disch := first | omega | assumption) only [s_X1_addBytes_39, s_X1_addBytes_40, s_X1_addBytes_43, s_X1_addBytes_44, s_X1_addBytes_47, s_X1_addBytes_48, s_X1_addBytes_50, s_X1_addBytes_52, s_X1_addBytes_53, s_X1_addBytes_54, s_X1_addBytes_55, s_X1_addBytes_58, s_X1_addBytes_59, s_X1_addBytes_60, s_X1_addBytes_61, s_X1_addBytes_62, s_X1_addBytes_65, s_X1_addBytes_66, s_X1_addBytes_67, s_X1_addBytes_70, s_X1_addBytes_73, c_oo hh, c_og0 hh, c_og1 hh, c_og2 hh, c_og3 hh, c_og4 hh, c_og5 hh, c_og6 hh, c_og7 hh, c_og8 hh, c_og9 hh, c_ko hh, c_kg0 hh, c_kg1 hh, c_kg2 hh, c_kg3 hh, c_kg4 hh, c_kg5 hh, c_kg6 hh, c_wo hh, c_wg0 hh, c_wg1 hh, c_wg2 hh, c_wg3 hh, c_wg4 hh, c_wg5 hh, c_wg6 hh, c_wg7 hh, c_wg8 hh, c_po hh, c_pg0 hh, c_pg1 hh, c_pg2 hh, c_pg3 hh, c_pg4 hh, c_pg5 hh, c_pg6 hh, c_pg7 hh, c_q31 hh, c_q39 hh, c_op7 hh, c_op8 hh, c_op9 hh, c_kp0 hh, c_kp1 hh, c_kp5 hh, c_kp6 hh, c_wp1 hh, c_wp2 hh, c_wp3 hh, c_wp7 hh, c_wp8 hh, c_pp0 hh, c_pp1 hh, c_pp2 hh, c_pp6 hh, c_pp7 hh, c_r32 hh, c_r34 hh, c_r35 hh, c_r36 hh, c_r38 hh, c_r40 hh, c_r41 hh, c_r57 hh, c_r58 hh, c_s32 hh, c_s34 hh, c_s35 hh, c_s36 hh, c_s38 hh, c_s40 hh, c_s41 hh, c_s57 hh, c_s58 hh, Option.bind_some, Option.toList_some, Option.toList_none, List.cons_append, List.nil_append, zI_add, zI_sub, zI_mul, zI_neg, zL_add, zL_sub, zL_mul, byB_k, up2_n]
    rw [kyT]
    have := ih (up2 (up2 G 34 (G 33 0).toNat (byB v n)) 33 0 (G 33 0 + 1)) (by rw [up2_s]; omega) (by rw [up2_s]; omega) (by omega)
    exact this
theorem o_type {v : Int64} {n : Int} (hh : 91 ≤ h.1) (h1 : -2147483648 ≤ n) (h2 : n < 2147483648) (h3 : 0 ≤ G 33 0) (h4 : G 33 0 ≤ 200) (hr : 1 ≤ n ∧ n ≤ 8 → G 33 0 + n ≤ 200 → 0 ≤ kyT v n.toNat G 33 0 ∧ kyT v n.toNat G 33 0 ≤ 200) : x_cl (d + 2) n_X7_type [.ref 0, .long v, .int (zI n)] (cH h G) = if 1 ≤ n ∧ n ≤ 8 then (if 200 < G 33 0 + n then some (some (.int (zI (-4))), cH h (ctT G (-4))) else some (some (.int (zI (kyT v n.toNat G 33 0))), cH h (ctT (kyT v n.toNat G) (kyT v n.toNat G 33 0)))) else some (some (.int (zI (-2))), cH h (ctT G (-2))) := by
  have ha : x_cl (d + 1) n_X1_addBytes [.ref 33, .long v, .int (zI n)] (cH h G) = if 1 ≤ n ∧ n ≤ 8 then (if 200 < G 33 0 + n then some (some (.int (zI (-4))), cH h G) else some (some (.int (zI (kyT v n.toNat G 33 0))), cH h (kyT v n.toNat G))) else some (some (.int (zI (-2))), cH h G) := by
    simp (disch := first | omega | assumption) only [e_X1_addBytes, s_X1_addBytes_0, s_X1_addBytes_1, s_X1_addBytes_2, s_X1_addBytes_5, s_X1_addBytes_6, s_X1_addBytes_8, s_X1_addBytes_11, s_X1_addBytes_13, zI_lt, zI_le, zI_eq, zI_eq0, zI_lt0, zI_le0, zI_0lt, zI_0le, bZ_e0]
    by_cases q : 1 ≤ n ∧ n ≤ 8
    · rw [if_pos q, if_neg (show ¬ n < 1 by omega), if_pos q.2]
      simp (disch := first | omega | assumption) only [s_X1_addBytes_14, s_X1_addBytes_15, s_X1_addBytes_18, s_X1_addBytes_19, s_X1_addBytes_20, s_X1_addBytes_23, s_X1_addBytes_26, s_X1_addBytes_28, c_oo hh, c_og0 hh, c_og1 hh, c_og2 hh, c_og3 hh, c_og4 hh, c_og5 hh, c_og6 hh, c_og7 hh, c_og8 hh, c_og9 hh, c_ko hh, c_kg0 hh, c_kg1 hh, c_kg2 hh, c_kg3 hh, c_kg4 hh, c_kg5 hh, c_kg6 hh, c_wo hh, c_wg0 hh, c_wg1 hh, c_wg2 hh, c_wg3 hh, c_wg4 hh, c_wg5 hh, c_wg6 hh, c_wg7 hh, c_wg8 hh, c_po hh, c_pg0 hh, c_pg1 hh, c_pg2 hh, c_pg3 hh, c_pg4 hh, c_pg5 hh, c_pg6 hh, c_pg7 hh, c_q31 hh, c_q39 hh, c_op7 hh, c_op8 hh, c_op9 hh, c_kp0 hh, c_kp1 hh, c_kp5 hh, c_kp6 hh, c_wp1 hh, c_wp2 hh, c_wp3 hh, c_wp7 hh, c_wp8 hh, c_pp0 hh, c_pp1 hh, c_pp2 hh, c_pp6 hh, c_pp7 hh, c_r32 hh, c_r34 hh, c_r35 hh, c_r36 hh, c_r38 hh, c_r40 hh, c_r41 hh, c_r57 hh, c_r58 hh, c_s32 hh, c_s34 hh, c_s35 hh, c_s36 hh, c_s38 hh, c_s40 hh, c_s41 hh, c_s57 hh, c_s58 hh, Option.bind_some, Option.toList_some, Option.toList_none, List.cons_append, List.nil_append, zI_add, zI_sub, zI_mul, zI_neg, zL_add, zL_sub, zL_mul, zI_lt, zI_le, zI_eq, zI_eq0, zI_lt0, zI_le0, zI_0lt, zI_0le, bZ_e0]
      by_cases z : 200 < G 33 0 + n
      · rw [if_pos z, if_neg (by omega)]
      · rw [if_neg z, if_pos (by omega)]
        simp (disch := first | omega | assumption) only [s_X1_addBytes_29, s_X1_addBytes_30, s_X1_addBytes_31, s_X1_addBytes_32, zI_add, zI_sub, zI_mul, zI_neg, zL_add, zL_sub, zL_mul]
        have := l_typeK (d := d + 1) (v := v) (n0 := n) hh n.toNat G h3 (by omega) (by omega)
        rw [show ((n.toNat : Nat) : Int) = n by omega] at this
        exact this
    · rw [if_neg q]
      by_cases z : n < 1
      · rw [if_pos z]
      · rw [if_neg z, if_neg (by omega)]
  simp (disch := first | omega | assumption) only [e_X7_type, s_X7_type_0, s_X7_type_1, s_X7_type_2, s_X7_type_5, s_X7_type_6, s_X7_type_7, s_X7_type_10, s_X7_type_13, c_oo hh, c_og0 hh, c_og1 hh, c_og2 hh, c_og3 hh, c_og4 hh, c_og5 hh, c_og6 hh, c_og7 hh, c_og8 hh, c_og9 hh, c_ko hh, c_kg0 hh, c_kg1 hh, c_kg2 hh, c_kg3 hh, c_kg4 hh, c_kg5 hh, c_kg6 hh, c_wo hh, c_wg0 hh, c_wg1 hh, c_wg2 hh, c_wg3 hh, c_wg4 hh, c_wg5 hh, c_wg6 hh, c_wg7 hh, c_wg8 hh, c_po hh, c_pg0 hh, c_pg1 hh, c_pg2 hh, c_pg3 hh, c_pg4 hh, c_pg5 hh, c_pg6 hh, c_pg7 hh, c_q31 hh, c_q39 hh, c_op7 hh, c_op8 hh, c_op9 hh, c_kp0 hh, c_kp1 hh, c_kp5 hh, c_kp6 hh, c_wp1 hh, c_wp2 hh, c_wp3 hh, c_wp7 hh, c_wp8 hh, c_pp0 hh, c_pp1 hh, c_pp2 hh, c_pp6 hh, c_pp7 hh, c_r32 hh, c_r34 hh, c_r35 hh, c_r36 hh, c_r38 hh, c_r40 hh, c_r41 hh, c_r57 hh, c_r58 hh, c_s32 hh, c_s34 hh, c_s35 hh, c_s36 hh, c_s38 hh, c_s40 hh, c_s41 hh, c_s57 hh, c_s58 hh, Option.bind_some, Option.toList_some, Option.toList_none, List.cons_append, List.nil_append, ha]
  by_cases q : 1 ≤ n ∧ n ≤ 8
  · rw [if_pos q, if_pos q]
    by_cases z : 200 < G 33 0 + n
    · rw [if_pos z, if_pos z]
      simp (disch := first | omega | assumption) only [s_X7_type_0, s_X7_type_1, s_X7_type_2, s_X7_type_5, s_X7_type_6, s_X7_type_7, s_X7_type_10, s_X7_type_13, c_oo hh, c_og0 hh, c_og1 hh, c_og2 hh, c_og3 hh, c_og4 hh, c_og5 hh, c_og6 hh, c_og7 hh, c_og8 hh, c_og9 hh, c_ko hh, c_kg0 hh, c_kg1 hh, c_kg2 hh, c_kg3 hh, c_kg4 hh, c_kg5 hh, c_kg6 hh, c_wo hh, c_wg0 hh, c_wg1 hh, c_wg2 hh, c_wg3 hh, c_wg4 hh, c_wg5 hh, c_wg6 hh, c_wg7 hh, c_wg8 hh, c_po hh, c_pg0 hh, c_pg1 hh, c_pg2 hh, c_pg3 hh, c_pg4 hh, c_pg5 hh, c_pg6 hh, c_pg7 hh, c_q31 hh, c_q39 hh, c_op7 hh, c_op8 hh, c_op9 hh, c_kp0 hh, c_kp1 hh, c_kp5 hh, c_kp6 hh, c_wp1 hh, c_wp2 hh, c_wp3 hh, c_wp7 hh, c_wp8 hh, c_pp0 hh, c_pp1 hh, c_pp2 hh, c_pp6 hh, c_pp7 hh, c_r32 hh, c_r34 hh, c_r35 hh, c_r36 hh, c_r38 hh, c_r40 hh, c_r41 hh, c_r57 hh, c_r58 hh, c_s32 hh, c_s34 hh, c_s35 hh, c_s36 hh, c_s38 hh, c_s40 hh, c_s41 hh, c_s57 hh, c_s58 hh, Option.bind_some, Option.toList_some, Option.toList_none, List.cons_append, List.nil_append, k_counted hh]
    · rw [if_neg z, if_neg z]
      have := hr q (by omega)
      simp (disch := first | omega | assumption) only [s_X7_type_0, s_X7_type_1, s_X7_type_2, s_X7_type_5, s_X7_type_6, s_X7_type_7, s_X7_type_10, s_X7_type_13, c_oo hh, c_og0 hh, c_og1 hh, c_og2 hh, c_og3 hh, c_og4 hh, c_og5 hh, c_og6 hh, c_og7 hh, c_og8 hh, c_og9 hh, c_ko hh, c_kg0 hh, c_kg1 hh, c_kg2 hh, c_kg3 hh, c_kg4 hh, c_kg5 hh, c_kg6 hh, c_wo hh, c_wg0 hh, c_wg1 hh, c_wg2 hh, c_wg3 hh, c_wg4 hh, c_wg5 hh, c_wg6 hh, c_wg7 hh, c_wg8 hh, c_po hh, c_pg0 hh, c_pg1 hh, c_pg2 hh, c_pg3 hh, c_pg4 hh, c_pg5 hh, c_pg6 hh, c_pg7 hh, c_q31 hh, c_q39 hh, c_op7 hh, c_op8 hh, c_op9 hh, c_kp0 hh, c_kp1 hh, c_kp5 hh, c_kp6 hh, c_wp1 hh, c_wp2 hh, c_wp3 hh, c_wp7 hh, c_wp8 hh, c_pp0 hh, c_pp1 hh, c_pp2 hh, c_pp6 hh, c_pp7 hh, c_r32 hh, c_r34 hh, c_r35 hh, c_r36 hh, c_r38 hh, c_r40 hh, c_r41 hh, c_r57 hh, c_r58 hh, c_s32 hh, c_s34 hh, c_s35 hh, c_s36 hh, c_s38 hh, c_s40 hh, c_s41 hh, c_s57 hh, c_s58 hh, Option.bind_some, Option.toList_some, Option.toList_none, List.cons_append, List.nil_append, k_counted hh]
  · rw [if_neg q, if_neg q]
    simp (disch := first | omega | assumption) only [s_X7_type_0, s_X7_type_1, s_X7_type_2, s_X7_type_5, s_X7_type_6, s_X7_type_7, s_X7_type_10, s_X7_type_13, c_oo hh, c_og0 hh, c_og1 hh, c_og2 hh, c_og3 hh, c_og4 hh, c_og5 hh, c_og6 hh, c_og7 hh, c_og8 hh, c_og9 hh, c_ko hh, c_kg0 hh, c_kg1 hh, c_kg2 hh, c_kg3 hh, c_kg4 hh, c_kg5 hh, c_kg6 hh, c_wo hh, c_wg0 hh, c_wg1 hh, c_wg2 hh, c_wg3 hh, c_wg4 hh, c_wg5 hh, c_wg6 hh, c_wg7 hh, c_wg8 hh, c_po hh, c_pg0 hh, c_pg1 hh, c_pg2 hh, c_pg3 hh, c_pg4 hh, c_pg5 hh, c_pg6 hh, c_pg7 hh, c_q31 hh, c_q39 hh, c_op7 hh, c_op8 hh, c_op9 hh, c_kp0 hh, c_kp1 hh, c_kp5 hh, c_kp6 hh, c_wp1 hh, c_wp2 hh, c_wp3 hh, c_wp7 hh, c_wp8 hh, c_pp0 hh, c_pp1 hh, c_pp2 hh, c_pp6 hh, c_pp7 hh, c_r32 hh, c_r34 hh, c_r35 hh, c_r36 hh, c_r38 hh, c_r40 hh, c_r41 hh, c_r57 hh, c_r58 hh, c_s32 hh, c_s34 hh, c_s35 hh, c_s36 hh, c_s38 hh, c_s40 hh, c_s41 hh, c_s57 hh, c_s58 hh, Option.bind_some, Option.toList_some, Option.toList_none, List.cons_append, List.nil_append, k_counted hh]
end

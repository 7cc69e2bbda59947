/-! THE COMPONENT, part 14: refusals counted; the calls that set -/
section
variable {h : xH} {G : Nat → Nat → Int} {d : Nat} {g : Nat → Int}
def ctT (G : Nat → Nat → Int) (v : Int) : Nat → Nat → Int := if v = -2 then up2 G 0 7 (G 0 7 + 1) else if v = -3 then up2 G 0 8 (G 0 8 + 1) else if v = -4 then up2 G 0 9 (G 0 9 + 1) else G
theorem ctT_n {v : Int} {i j : Nat} (hi : i ≠ 0) : ctT G v i j = G i j := by
  unfold ctT
  repeat' split
  all_goals first | rfl | rw [up2_n (by omega)]
theorem ctT_h {v : Int} {o : Nat} (ho : 1 ≤ o) (hr : hR G o g) : hR (ctT G v) o g := hR_k (fun i j h1 h2 => ctT_n (by omega)) hr
theorem k_counted {v : Int} (hh : 91 ≤ h.1) (h1 : -2147483648 ≤ v) (h2 : v < 2147483648) : x_cl d n_X7_counted [.ref 0, .int (zI v)] (cH h G) = some (some (.int (zI v)), cH h (ctT G v)) := by
  simp (disch := first | omega | assumption) only [e_X7_counted, s_X7_counted_0, s_X7_counted_1, s_X7_counted_3, s_X7_counted_6, s_X7_counted_7, s_X7_counted_8, s_X7_counted_11, s_X7_counted_12, s_X7_counted_13, s_X7_counted_16, s_X7_counted_19, s_X7_counted_20, s_X7_counted_22, s_X7_counted_25, s_X7_counted_26, s_X7_counted_27, s_X7_counted_30, s_X7_counted_31, s_X7_counted_32, s_X7_counted_35, s_X7_counted_38, s_X7_counted_39, s_X7_counted_41, s_X7_counted_44, s_X7_counted_45, s_X7_counted_46, s_X7_counted_49, s_X7_counted_50, s_X7_counted_51, s_X7_counted_54, s_X7_counted_55, c_oo hh, c_og0 hh, c_og1 hh, c_og2 hh, c_og3 hh, c_og4 hh, c_og5 hh, c_og6 hh, c_og7 hh, c_og8 hh, c_og9 hh, c_ko hh, c_kg0 hh, c_kg1 hh, c_kg2 hh, c_kg3 hh, c_kg4 hh, c_kg5 hh, c_kg6 hh, c_wo hh, c_wg0 hh, c_wg1 hh, c_wg2 hh, c_wg3 hh, c_wg4 hh, c_wg5 hh, c_wg6 hh, c_wg7 hh, c_wg8 hh, c_po hh, c_pg0 hh, c_pg1 hh, c_pg2 hh, c_pg3 hh, c_pg4 hh, c_pg5 hh, c_pg6 hh, c_pg7 hh, c_q31 hh, c_q39 hh, c_op7 hh, c_op8 hh, c_op9 hh, c_kp0 hh, c_kp1 hh, c_kp5 hh, c_kp6 hh, c_wp1 hh, c_wp2 hh, c_wp3 hh, c_wp7 hh, c_wp8 hh, c_pp0 hh, c_pp1 hh, c_pp2 hh, c_pp6 hh, c_pp7 hh, c_r32 hh, c_r34 hh, c_r35 hh, c_r36 hh, c_r38 hh, c_r40 hh, c_r41 hh, c_r57 hh, c_r58 hh, c_s32 hh, c_s34 hh, c_s35 hh, c_s36 hh, c_s38 hh, c_s40 hh, c_s41 hh, c_s57 hh, c_s58 hh, zI_add, zI_sub, zI_mul, zI_neg, zL_add, zL_sub, zL_mul, Option.bind_some, Option.toList_some, Option.toList_none, List.cons_append, List.nil_append, zI_lt, zI_le, zI_eq, zI_eq0, zI_lt0, zI_le0, zI_0lt, zI_0le, bZ_e0]
  unfold ctT
  by_cases q2 : v = -2
  · rw [if_pos q2, if_pos q2]
  · rw [if_neg q2, if_neg q2]
    by_cases q3 : v = -3
    · rw [if_pos q3, if_pos q3]
    · rw [if_neg q3, if_neg q3]
      by_cases q4 : v = -4
      · rw [if_pos q4, if_pos q4]
      · rw [if_neg q4, if_neg q4]
def asT (v : Int) : Int := if v = -2 then -10 else if v = -3 then -20 else v
theorem k_asTens {v : Int} (h1 : -2147483648 ≤ v) (h2 : v < 2147483648) : x_cl d n_X7_asTens [.int (zI v)] h = some (some (.int (zI (asT v))), h) := by
  simp (disch := first | omega | assumption) only [e_X7_asTens, s_X7_asTens_0, s_X7_asTens_1, s_X7_asTens_3, s_X7_asTens_6, s_X7_asTens_8, s_X7_asTens_9, s_X7_asTens_10, s_X7_asTens_12, s_X7_asTens_15, s_X7_asTens_17, s_X7_asTens_20, s_X7_asTens_21, zI_add, zI_sub, zI_mul, zI_neg, zL_add, zL_sub, zL_mul, zI_lt, zI_le, zI_eq, zI_eq0, zI_lt0, zI_le0, zI_0lt, zI_0le, bZ_e0]
  unfold asT
  by_cases q2 : v = -2
  · rw [if_pos q2, if_pos q2]
  · rw [if_neg q2, if_neg q2]
    by_cases q3 : v = -3
    · rw [if_pos q3, if_pos q3]
    · rw [if_neg q3, if_neg q3]
/-- a call that sets: the hall now becomes a row, refusals are counted, the rest stays -/
def o_S (G G' : Nat → Nat → Int) (u : Int × (Nat → Int)) : Prop := ∃ F, hK G F 1 ∧ hR F 1 u.2 ∧ G' = ctT F u.1
theorem uHall_rg {w hh' : Int} : -2 ≤ (uHall g w hh').1 ∧ (uHall g w hh').1 ≤ 25 := by
  unfold uHall
  split
  next q => have := wh_rg q.1 q.2; dsimp only; omega
  next => dsimp only; omega
theorem o_hall {w hh' : Int} (hh : 91 ≤ h.1) (hr : hR G 1 g) (h1 : -2147483648 ≤ w) (h2 : w < 2147483648) (h3 : -2147483648 ≤ hh') (h4 : hh' < 2147483648) : ∃ G', o_S G G' (uHall g w hh') ∧ x_cl (d + 1) n_X7_hall [.ref 0, .int (zI w), .int (zI hh')] (cH h G) = some (some (.int (zI (uHall g w hh').1)), cH h G') := by
  have hO := isH_1
  obtain ⟨F, k1, k2, k3⟩ := u_setUp (d := d) hh hO hr h1 h2 h3 h4
  have rg' := uHall_rg (g := g) (w := w) (hh' := hh')
  refine ⟨ctT F (uHall g w hh').1, ⟨F, k1, k2, rfl⟩, ?_⟩
  simp (disch := first | omega | assumption) only [e_X7_hall, s_X7_hall_0, s_X7_hall_1, s_X7_hall_2, s_X7_hall_5, s_X7_hall_6, s_X7_hall_7, s_X7_hall_10, s_X7_hall_13, c_oo hh, c_og0 hh, c_og1 hh, c_og2 hh, c_og3 hh, c_og4 hh, c_og5 hh, c_og6 hh, c_og7 hh, c_og8 hh, c_og9 hh, c_ko hh, c_kg0 hh, c_kg1 hh, c_kg2 hh, c_kg3 hh, c_kg4 hh, c_kg5 hh, c_kg6 hh, c_wo hh, c_wg0 hh, c_wg1 hh, c_wg2 hh, c_wg3 hh, c_wg4 hh, c_wg5 hh, c_wg6 hh, c_wg7 hh, c_wg8 hh, c_po hh, c_pg0 hh, c_pg1 hh, c_pg2 hh, c_pg3 hh, c_pg4 hh, c_pg5 hh, c_pg6 hh, c_pg7 hh, c_q31 hh, c_q39 hh, c_op7 hh, c_op8 hh, c_op9 hh, c_kp0 hh, c_kp1 hh, c_kp5 hh, c_kp6 hh, c_wp1 hh, c_wp2 hh, c_wp3 hh, c_wp7 hh, c_wp8 hh, c_pp0 hh, c_pp1 hh, c_pp2 hh, c_pp6 hh, c_pp7 hh, c_r32 hh, c_r34 hh, c_r35 hh, c_r36 hh, c_r38 hh, c_r40 hh, c_r41 hh, c_r57 hh, c_r58 hh, c_s32 hh, c_s34 hh, c_s35 hh, c_s36 hh, c_s38 hh, c_s40 hh, c_s41 hh, c_s57 hh, c_s58 hh, c_ho hh hO, c_hg0 hh hO, c_hg1 hh hO, c_hg2 hh hO, c_hg3 hh hO, c_hg4 hh hO, c_hg5 hh hO, c_hg6 hh hO, c_hg7 hh hO, c_hg8 hh hO, c_hg9 hh hO, c_hg10 hh hO, c_hq hh hO, c_hbg0 hh hO, c_hbg1 hh hO, c_hbo hh hO, c_hno hh hO, c_hng0 hh hO, c_hng1 hh hO, c_hng2 hh hO, c_hng3 hh hO, c_hng4 hh hO, c_hdo hh hO, c_hdg0 hh hO, c_hdg1 hh hO, c_hdg2 hh hO, c_hdg3 hh hO, c_hdg4 hh hO, c_hdg5 hh hO, c_hp4 hh hO, c_hp5 hh hO, c_hp6 hh hO, c_hp7 hh hO, c_hp8 hh hO, c_hp9 hh hO, c_hp10 hh hO, c_hbp hh hO, c_hnp hh hO, c_hdp0 hh hO, c_hdp1 hh hO, c_hdp2 hh hO, c_hdp3 hh hO, c_hdp4 hh hO, c_hdp5 hh hO, c_hr3 hh hO, c_hr5 hh hO, c_hr6 hh hO, c_hr7 hh hO, c_hr8 hh hO, c_hr9 hh hO, c_hs3 hh hO, c_hs5 hh hO, c_hs6 hh hO, c_hs7 hh hO, c_hs8 hh hO, c_hs9 hh hO, zI_add, zI_sub, zI_mul, zI_neg, zL_add, zL_sub, zL_mul, Option.bind_some, Option.toList_some, Option.toList_none, List.cons_append, List.nil_append, zI_lt, zI_le, zI_eq, zI_eq0, zI_lt0, zI_le0, zI_0lt, zI_0le, bZ_e0, Int.add_zero, Int.zero_add, k3, k_counted hh]
theorem uShelf_rg {q : Int} {is : Bool} : -3 ≤ (uShelf g q is).1 ∧ (uShelf g q is).1 ≤ 1 := by
  unfold uShelf
  repeat' split
  all_goals (dsimp only; omega)
theorem o_shelf {q : Int} {is : Bool} (hh : 91 ≤ h.1) (hr : hR G 1 g) (hv : vI g) (h1 : -2147483648 ≤ q) (h2 : q < 2147483648) : ∃ G', o_S G G' (uShelf g q is) ∧ x_cl (d + 2) n_X7_shelf [.ref 0, .int (zI q), .int (zI (bZ (is = true)))] (cH h G) = some (some (.int (zI (uShelf g q is).1)), cH h G') := by
  have hO := isH_1
  obtain ⟨F, k1, k2, k3⟩ := u_putShelf (d := d) (is := is) hh hO hr hv h1 h2
  have rg' := uShelf_rg (g := g) (q := q) (is := is)
  refine ⟨ctT F (uShelf g q is).1, ⟨F, k1, k2, rfl⟩, ?_⟩
  simp (disch := first | omega | assumption) only [e_X7_shelf, s_X7_shelf_0, s_X7_shelf_1, s_X7_shelf_2, s_X7_shelf_5, s_X7_shelf_6, s_X7_shelf_7, s_X7_shelf_10, s_X7_shelf_13, c_oo hh, c_og0 hh, c_og1 hh, c_og2 hh, c_og3 hh, c_og4 hh, c_og5 hh, c_og6 hh, c_og7 hh, c_og8 hh, c_og9 hh, c_ko hh, c_kg0 hh, c_kg1 hh, c_kg2 hh, c_kg3 hh, c_kg4 hh, c_kg5 hh, c_kg6 hh, c_wo hh, c_wg0 hh, c_wg1 hh, c_wg2 hh, c_wg3 hh, c_wg4 hh, c_wg5 hh, c_wg6 hh, c_wg7 hh, c_wg8 hh, c_po hh, c_pg0 hh, c_pg1 hh, c_pg2 hh, c_pg3 hh, c_pg4 hh, c_pg5 hh, c_pg6 hh, c_pg7 hh, c_q31 hh, c_q39 hh, c_op7 hh, c_op8 hh, c_op9 hh, c_kp0 hh, c_kp1 hh, c_kp5 hh, c_kp6 hh, c_wp1 hh, c_wp2 hh, c_wp3 hh, c_wp7 hh, c_wp8 hh, c_pp0 hh, c_pp1 hh, c_pp2 hh, c_pp6 hh, c_pp7 hh, c_r32 hh, c_r34 hh, c_r35 hh, c_r36 hh, c_r38 hh, c_r40 hh, c_r41 hh, c_r57 hh, c_r58 hh, c_s32 hh, c_s34 hh, c_s35 hh, c_s36 hh, c_s38 hh, c_s40 hh, c_s41 hh, c_s57 hh, c_s58 hh, c_ho hh hO, c_hg0 hh hO, c_hg1 hh hO, c_hg2 hh hO, c_hg3 hh hO, c_hg4 hh hO, c_hg5 hh hO, c_hg6 hh hO, c_hg7 hh hO, c_hg8 hh hO, c_hg9 hh hO, c_hg10 hh hO, c_hq hh hO, c_hbg0 hh hO, c_hbg1 hh hO, c_hbo hh hO, c_hno hh hO, c_hng0 hh hO, c_hng1 hh hO, c_hng2 hh hO, c_hng3 hh hO, c_hng4 hh hO, c_hdo hh hO, c_hdg0 hh hO, c_hdg1 hh hO, c_hdg2 hh hO, c_hdg3 hh hO, c_hdg4 hh hO, c_hdg5 hh hO, c_hp4 hh hO, c_hp5 hh hO, c_hp6 hh hO, c_hp7 hh hO, c_hp8 hh hO, c_hp9 hh hO, c_hp10 hh hO, c_hbp hh hO, c_hnp hh hO, c_hdp0 hh hO, c_hdp1 hh hO, c_hdp2 hh hO, c_hdp3 hh hO, c_hdp4 hh hO, c_hdp5 hh hO, c_hr3 hh hO, c_hr5 hh hO, c_hr6 hh hO, c_hr7 hh hO, c_hr8 hh hO, c_hr9 hh hO, c_hs3 hh hO, c_hs5 hh hO, c_hs6 hh hO, c_hs7 hh hO, c_hs8 hh hO, c_hs9 hh hO, zI_add, zI_sub, zI_mul, zI_neg, zL_add, zL_sub, zL_mul, Option.bind_some, Option.toList_some, Option.toList_none, List.cons_append, List.nil_append, zI_lt, zI_le, zI_eq, zI_eq0, zI_lt0, zI_le0, zI_0lt, zI_0le, bZ_e0, Int.add_zero, Int.zero_add, k3, k_counted hh]
theorem uRead_rg {q k pg wo : Int} (hv : vI g) : -4 ≤ (uRead g q k pg wo).1 ∧ (uRead g q k pg wo).1 ≤ 5 := by
  have h5 := hv.2.2.2.2.2.2.1
  unfold uRead
  repeat' split
  all_goals (dsimp only; omega)
theorem o_reader {q k pg wo : Int} (hh : 91 ≤ h.1) (hr : hR G 1 g) (hv : vI g) (h1 : -2147483648 ≤ q) (h2 : q < 2147483648) (h3 : -2147483648 ≤ k) (h4 : k < 2147483648) (h5 : -2147483648 ≤ pg) (h6 : pg < 2147483648) (h7 : -2147483648 ≤ wo) (h8 : wo < 2147483648) : ∃ G', o_S G G' (uRead g q k pg wo) ∧ x_cl (d + 4) n_X7_reader [.ref 0, .int (zI q), .int (zI k), .int (zI pg), .int (zI wo)] (cH h G) = some (some (.int (zI (uRead g q k pg wo).1)), cH h G') := by
  have hO := isH_1
  obtain ⟨F, k1, k2, k3⟩ := u_addReader (d := d) hh hO hr hv h1 h2 h3 h4 h5 h6 h7 h8
  have rg' := uRead_rg (q := q) (k := k) (pg := pg) (wo := wo) hv
  refine ⟨ctT F (uRead g q k pg wo).1, ⟨F, k1, k2, rfl⟩, ?_⟩
  simp (disch := first | omega | assumption) only [e_X7_reader, s_X7_reader_0, s_X7_reader_1, s_X7_reader_2, s_X7_reader_5, s_X7_reader_6, s_X7_reader_7, s_X7_reader_8, s_X7_reader_10, s_X7_reader_13, s_X7_reader_16, c_oo hh, c_og0 hh, c_og1 hh, c_og2 hh, c_og3 hh, c_og4 hh, c_og5 hh, c_og6 hh, c_og7 hh, c_og8 hh, c_og9 hh, c_ko hh, c_kg0 hh, c_kg1 hh, c_kg2 hh, c_kg3 hh, c_kg4 hh, c_kg5 hh, c_kg6 hh, c_wo hh, c_wg0 hh, c_wg1 hh, c_wg2 hh, c_wg3 hh, c_wg4 hh, c_wg5 hh, c_wg6 hh, c_wg7 hh, c_wg8 hh, c_po hh, c_pg0 hh, c_pg1 hh, c_pg2 hh, c_pg3 hh, c_pg4 hh, c_pg5 hh, c_pg6 hh, c_pg7 hh, c_q31 hh, c_q39 hh, c_op7 hh, c_op8 hh, c_op9 hh, c_kp0 hh, c_kp1 hh, c_kp5 hh, c_kp6 hh, c_wp1 hh, c_wp2 hh, c_wp3 hh, c_wp7 hh, c_wp8 hh, c_pp0 hh, c_pp1 hh, c_pp2 hh, c_pp6 hh, c_pp7 hh, c_r32 hh, c_r34 hh, c_r35 hh, c_r36 hh, c_r38 hh, c_r40 hh, c_r41 hh, c_r57 hh, c_r58 hh, c_s32 hh, c_s34 hh, c_s35 hh, c_s36 hh, c_s38 hh, c_s40 hh, c_s41 hh, c_s57 hh, c_s58 hh, c_ho hh hO, c_hg0 hh hO, c_hg1 hh hO, c_hg2 hh hO, c_hg3 hh hO, c_hg4 hh hO, c_hg5 hh hO, c_hg6 hh hO, c_hg7 hh hO, c_hg8 hh hO, c_hg9 hh hO, c_hg10 hh hO, c_hq hh hO, c_hbg0 hh hO, c_hbg1 hh hO, c_hbo hh hO, c_hno hh hO, c_hng0 hh hO, c_hng1 hh hO, c_hng2 hh hO, c_hng3 hh hO, c_hng4 hh hO, c_hdo hh hO, c_hdg0 hh hO, c_hdg1 hh hO, c_hdg2 hh hO, c_hdg3 hh hO, c_hdg4 hh hO, c_hdg5 hh hO, c_hp4 hh hO, c_hp5 hh hO, c_hp6 hh hO, c_hp7 hh hO, c_hp8 hh hO, c_hp9 hh hO, c_hp10 hh hO, c_hbp hh hO, c_hnp hh hO, c_hdp0 hh hO, c_hdp1 hh hO, c_hdp2 hh hO, c_hdp3 hh hO, c_hdp4 hh hO, c_hdp5 hh hO, c_hr3 hh hO, c_hr5 hh hO, c_hr6 hh hO, c_hr7 hh hO, c_hr8 hh hO, c_hr9 hh hO, c_hs3 hh hO, c_hs5 hh hO, c_hs6 hh hO, c_hs7 hh hO, c_hs8 hh hO, c_hs9 hh hO, zI_add, zI_sub, zI_mul, zI_neg, zL_add, zL_sub, zL_mul, Option.bind_some, Option.toList_some, Option.toList_none, List.cons_append, List.nil_append, zI_lt, zI_le, zI_eq, zI_eq0, zI_lt0, zI_le0, zI_0lt, zI_0le, bZ_e0, Int.add_zero, Int.zero_add, k3, k_counted hh]
theorem uOil_rg {n : Int} (hv : vI g) : -2 ≤ (uOil g n).1 ∧ (uOil g n).1 ≤ 12 := by
  have h3 := hv.2.2.2.1
  unfold uOil
  repeat' split
  all_goals (dsimp only; omega)
theorem o_oil {n : Int} (hh : 91 ≤ h.1) (hr : hR G 1 g) (hv : vI g) (h1 : -2147483648 ≤ n) (h2 : n < 2147483648) : ∃ G', o_S G G' (uOil g n) ∧ x_cl (d + 1) n_X7_oil [.ref 0, .int (zI n)] (cH h G) = some (some (.int (zI (uOil g n).1)), cH h G') := by
  have hO := isH_1
  obtain ⟨F, k1, k2, k3⟩ := u_pourOil (d := d) hh hO hr h1 h2
  have rg' := uOil_rg (n := n) hv
  refine ⟨ctT F (uOil g n).1, ⟨F, k1, k2, rfl⟩, ?_⟩
  simp (disch := first | omega | assumption) only [e_X7_oil, s_X7_oil_0, s_X7_oil_1, s_X7_oil_2, s_X7_oil_5, s_X7_oil_6, s_X7_oil_9, s_X7_oil_12, c_oo hh, c_og0 hh, c_og1 hh, c_og2 hh, c_og3 hh, c_og4 hh, c_og5 hh, c_og6 hh, c_og7 hh, c_og8 hh, c_og9 hh, c_ko hh, c_kg0 hh, c_kg1 hh, c_kg2 hh, c_kg3 hh, c_kg4 hh, c_kg5 hh, c_kg6 hh, c_wo hh, c_wg0 hh, c_wg1 hh, c_wg2 hh, c_wg3 hh, c_wg4 hh, c_wg5 hh, c_wg6 hh, c_wg7 hh, c_wg8 hh, c_po hh, c_pg0 hh, c_pg1 hh, c_pg2 hh, c_pg3 hh, c_pg4 hh, c_pg5 hh, c_pg6 hh, c_pg7 hh, c_q31 hh, c_q39 hh, c_op7 hh, c_op8 hh, c_op9 hh, c_kp0 hh, c_kp1 hh, c_kp5 hh, c_kp6 hh, c_wp1 hh, c_wp2 hh, c_wp3 hh, c_wp7 hh, c_wp8 hh, c_pp0 hh, c_pp1 hh, c_pp2 hh, c_pp6 hh, c_pp7 hh, c_r32 hh, c_r34 hh, c_r35 hh, c_r36 hh, c_r38 hh, c_r40 hh, c_r41 hh, c_r57 hh, c_r58 hh, c_s32 hh, c_s34 hh, c_s35 hh, c_s36 hh, c_s38 hh, c_s40 hh, c_s41 hh, c_s57 hh, c_s58 hh, c_ho hh hO, c_hg0 hh hO, c_hg1 hh hO, c_hg2 hh hO, c_hg3 hh hO, c_hg4 hh hO, c_hg5 hh hO, c_hg6 hh hO, c_hg7 hh hO, c_hg8 hh hO, c_hg9 hh hO, c_hg10 hh hO, c_hq hh hO, c_hbg0 hh hO, c_hbg1 hh hO, c_hbo hh hO, c_hno hh hO, c_hng0 hh hO, c_hng1 hh hO, c_hng2 hh hO, c_hng3 hh hO, c_hng4 hh hO, c_hdo hh hO, c_hdg0 hh hO, c_hdg1 hh hO, c_hdg2 hh hO, c_hdg3 hh hO, c_hdg4 hh hO, c_hdg5 hh hO, c_hp4 hh hO, c_hp5 hh hO, c_hp6 hh hO, c_hp7 hh hO, c_hp8 hh hO, c_hp9 hh hO, c_hp10 hh hO, c_hbp hh hO, c_hnp hh hO, c_hdp0 hh hO, c_hdp1 hh hO, c_hdp2 hh hO, c_hdp3 hh hO, c_hdp4 hh hO, c_hdp5 hh hO, c_hr3 hh hO, c_hr5 hh hO, c_hr6 hh hO, c_hr7 hh hO, c_hr8 hh hO, c_hr9 hh hO, c_hs3 hh hO, c_hs5 hh hO, c_hs6 hh hO, c_hs7 hh hO, c_hs8 hh hO, c_hs9 hh hO, zI_add, zI_sub, zI_mul, zI_neg, zL_add, zL_sub, zL_mul, Option.bind_some, Option.toList_some, Option.toList_none, List.cons_append, List.nil_append, zI_lt, zI_le, zI_eq, zI_eq0, zI_lt0, zI_le0, zI_0lt, zI_0le, bZ_e0, Int.add_zero, Int.zero_add, k3, k_counted hh]
end

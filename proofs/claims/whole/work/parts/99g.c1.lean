/-! THE CARD: tokens -/
section
variable {h : xH} {d : Nat} {t T : Nat → Nat → Int}
/-- the card's text is the reference's -/
def cdR (T t : Nat → Nat → Int) : Prop := T 33 0 = t 0 3 ∧ ∀ j, j < 200 → T 34 j = t 3 j
theorem cd_x {p : Int} (hc : cdR T t) (h0 : 0 ≤ p) (h1 : p < 200) : T 34 p.toNat = txX t p := hc.2 _ (by omega)
theorem tx_rg {p : Int} (hx : txOk t) : 0 ≤ txX t p ∧ txX t p ≤ 255 := hx.2 _
theorem l_skip {p0 : Int32} (hh : 91 ≤ h.1) (hx : txOk t) (hc : cdR T t) : ∀ (k : Nat) (p : Int), 0 ≤ p → p ≤ t 0 3 → t 0 3 - p ≤ k → x_ev (d, n_X1_skipBlanks, 2, [.ref 33, .int p0, .int (zI p)], [], cH h T) = some (some (.int (zI (rnF 32 32 (txX t) (t 0 3) k p))), cH h T) := by
  have hn := hx.1
  have e0 := hc.1
  intro k
  induction k with
  | zero =>
    intro p h0 h1 h2
    rw [s_X1_skipBlanks_2, rnF]
    simp (disch := first | omega | assumption) only [s_X1_skipBlanks_3, s_X1_skipBlanks_4, s_X1_skipBlanks_7, c_oo hh, c_og0 hh, c_og1 hh, c_og2 hh, c_og3 hh, c_og4 hh, c_og5 hh, c_og6 hh, c_og7 hh, c_og8 hh, c_og9 hh, c_ko hh, c_kg0 hh, c_kg1 hh, c_kg2 hh, c_kg3 hh, c_kg4 hh, c_kg5 hh, c_kg6 hh, c_wo hh, c_wg0 hh, c_wg1 hh, c_wg2 hh, c_wg3 hh, c_wg4 hh, c_wg5 hh, c_wg6 hh, c_wg7 hh, c_wg8 hh, c_po hh, c_pg0 hh, c_pg1 hh, c_pg2 hh, c_pg3 hh, c_pg4 hh, c_pg5 hh, c_pg6 hh, c_pg7 hh, c_q31 hh, c_q39 hh, c_op7 hh, c_op8 hh, c_op9 hh, c_kp0 hh, c_kp1 hh, c_kp5 hh, c_kp6 hh, c_wp1 hh, c_wp2 hh, c_wp3 hh, c_wp7 hh, c_wp8 hh, c_pp0 hh, c_pp1 hh, c_pp2 hh, c_pp6 hh, c_pp7 hh, c_r32 hh, c_r34 hh, c_r35 hh, c_r36 hh, c_r38 hh, c_r40 hh, c_r41 hh, c_r57 hh, c_r58 hh, c_s32 hh, c_s34 hh, c_s35 hh, c_s36 hh, c_s38 hh, c_s40 hh, c_s41 hh, c_s57 hh, c_s58 hh, zI_add, zI_sub, zI_mul, zI_neg, zL_add, zL_sub, zL_mul, Option.bind_some, Option.toList_some, Option.toList_none, List.cons_append, List.nil_append, zI_lt, zI_le, zI_eq, zI_eq0, zI_lt0, zI_le0, zI_0lt, zI_0le, bZ_e0, e0]
    rw [if_pos (by omega)]
    simp (disch := first | omega | assumption) only [s_X1_skipBlanks_27, s_X1_skipBlanks_28]
  | succ k ih =>
    intro p h0 h1 h2
    have hr := tx_rg (p := p) hx
    rw [s_X1_skipBlanks_2, rnF]
    simp (disch := first | omega | assumption) only [s_X1_skipBlanks_3, s_X1_skipBlanks_4, s_X1_skipBlanks_7, c_oo hh, c_og0 hh, c_og1 hh, c_og2 hh, c_og3 hh, c_og4 hh, c_og5 hh, c_og6 hh, c_og7 hh, c_og8 hh, c_og9 hh, c_ko hh, c_kg0 hh, c_kg1 hh, c_kg2 hh, c_kg3 hh, c_kg4 hh, c_kg5 hh, c_kg6 hh, c_wo hh, c_wg0 hh, c_wg1 hh, c_wg2 hh, c_wg3 hh, c_wg4 hh, c_wg5 hh, c_wg6 hh, c_wg7 hh, c_wg8 hh, c_po hh, c_pg0 hh, c_pg1 hh, c_pg2 hh, c_pg3 hh, c_pg4 hh, c_pg5 hh, c_pg6 hh, c_pg7 hh, c_q31 hh, c_q39 hh, c_op7 hh, c_op8 hh, c_op9 hh, c_kp0 hh, c_kp1 hh, c_kp5 hh, c_kp6 hh, c_wp1 hh, c_wp2 hh, c_wp3 hh, c_wp7 hh, c_wp8 hh, c_pp0 hh, c_pp1 hh, c_pp2 hh, c_pp6 hh, c_pp7 hh, c_r32 hh, c_r34 hh, c_r35 hh, c_r36 hh, c_r38 hh, c_r40 hh, c_r41 hh, c_r57 hh, c_r58 hh, c_s32 hh, c_s34 hh, c_s35 hh, c_s36 hh, c_s38 hh, c_s40 hh, c_s41 hh, c_s57 hh, c_s58 hh, zI_add, zI_sub, zI_mul, zI_neg, zL_add, zL_sub, zL_mul, Option.bind_some, Option.toList_some, Option.toList_none, List.cons_append, List.nil_append, zI_lt, zI_le, zI_eq, zI_eq0, zI_lt0, zI_le0, zI_0lt, zI_0le, bZ_e0, e0]
    by_cases z : t 0 3 ≤ p
    · rw [if_pos z, if_neg (fun y => by omega)]
      simp (disch := first | omega | assumption) only [s_X1_skipBlanks_27, s_X1_skipBlanks_28]
    · have ex := cd_x (p := p) hc h0 (by omega)
      rw [if_neg z]
      simp (disch := first | omega | assumption) only [s_X1_skipBlanks_10, s_X1_skipBlanks_11, s_X1_skipBlanks_14, s_X1_skipBlanks_15, s_X1_skipBlanks_16, s_X1_skipBlanks_18, c_oo hh, c_og0 hh, c_og1 hh, c_og2 hh, c_og3 hh, c_og4 hh, c_og5 hh, c_og6 hh, c_og7 hh, c_og8 hh, c_og9 hh, c_ko hh, c_kg0 hh, c_kg1 hh, c_kg2 hh, c_kg3 hh, c_kg4 hh, c_kg5 hh, c_kg6 hh, c_wo hh, c_wg0 hh, c_wg1 hh, c_wg2 hh, c_wg3 hh, c_wg4 hh, c_wg5 hh, c_wg6 hh, c_wg7 hh, c_wg8 hh, c_po hh, c_pg0 hh, c_pg1 hh, c_pg2 hh, c_pg3 hh, c_pg4 hh, c_pg5 hh, c_pg6 hh, c_pg7 hh, c_q31 hh, c_q39 hh, c_op7 hh, c_op8 hh, c_op9 hh, c_kp0 hh, c_kp1 hh, c_kp5 hh, c_kp6 hh, c_wp1 hh, c_wp2 hh, c_wp3 hh, c_wp7 hh, c_wp8 hh, c_pp0 hh, c_pp1 hh, c_pp2 hh, c_pp6 hh, c_pp7 hh, c_r32 hh, c_r34 hh, c_r35 hh, c_r36 hh, c_r38 hh, c_r40 hh, c_r41 hh, c_r57 hh, c_r58 hh, c_s32 hh, c_s34 hh, c_s35 hh, c_s36 hh, c_s38 hh, c_s40 hh, c_s41 hh, c_s57 hh, c_s58 hh, zI_add, zI_sub, zI_mul, zI_neg, zL_add, zL_sub, zL_mul, Option.bind_some, Option.toList_some, Option.toList_none, List.cons_append, List.nil_append, zI_lt, zI_le, zI_eq, zI_eq0, zI_lt0, zI_le0, zI_0lt, zI_0le, bZ_e0, ex]
      by_cases y : txX t p = 32
      · rw [if_pos y, if_pos (by omega)]
        simp (disch := first | omega | assumption) only [s_X1_skipBlanks_21, s_X1_skipBlanks_24, zI_add, zI_sub, zI_mul, zI_neg, zL_add, zL_sub, zL_mul]
        exact ih (p + 1) (by omega) (by omega) (by omega)
      · rw [if_neg y, if_neg (fun w => by omega)]
        simp (disch := first | omega | assumption) only [s_X1_skipBlanks_27, s_X1_skipBlanks_28]
theorem k_skip {p : Int} (hh : 91 ≤ h.1) (hx : txOk t) (hc : cdR T t) (h0 : 0 ≤ p) (h1 : p ≤ t 0 3) : x_cl d n_X1_skipBlanks [.ref 33, .int (zI p)] (cH h T) = some (some (.int (zI (skP (txX t) (t 0 3) p))), cH h T) := by
  have hn := hx.1
  simp (disch := first | omega | assumption) only [e_X1_skipBlanks, s_X1_skipBlanks_0, s_X1_skipBlanks_1]
  exact l_skip hh hx hc 200 p h0 h1 (by omega)
theorem k_atEnd (hh : 91 ≤ h.1) (hx : txOk t) (hc : cdR T t) (h0 : 0 ≤ T 33 6) (h1 : T 33 6 ≤ t 0 3) : x_cl (d + 1) n_X1_isAtEnd [.ref 33] (cH h T) = some (some (.int (zI (bZ (skP (txX t) (t 0 3) (T 33 6) = t 0 3)))), cH h T) := by
  have hn := hx.1
  have e0 := hc.1
  have r := skP_rg (x := txX t) h1
  simp (disch := first | omega | assumption) only [e_X1_isAtEnd, s_X1_isAtEnd_0, s_X1_isAtEnd_1, s_X1_isAtEnd_2, s_X1_isAtEnd_5, s_X1_isAtEnd_8, s_X1_isAtEnd_9, s_X1_isAtEnd_12, s_X1_isAtEnd_15, s_X1_isAtEnd_16, s_X1_isAtEnd_19, s_X1_isAtEnd_20_0, s_X1_isAtEnd_20_1, s_X1_isAtEnd_20_b, c_oo hh, c_og0 hh, c_og1 hh, c_og2 hh, c_og3 hh, c_og4 hh, c_og5 hh, c_og6 hh, c_og7 hh, c_og8 hh, c_og9 hh, c_ko hh, c_kg0 hh, c_kg1 hh, c_kg2 hh, c_kg3 hh, c_kg4 hh, c_kg5 hh, c_kg6 hh, c_wo hh, c_wg0 hh, c_wg1 hh, c_wg2 hh, c_wg3 hh, c_wg4 hh, c_wg5 hh, c_wg6 hh, c_wg7 hh, c_wg8 hh, c_po hh, c_pg0 hh, c_pg1 hh, c_pg2 hh, c_pg3 hh, c_pg4 hh, c_pg5 hh, c_pg6 hh, c_pg7 hh, c_q31 hh, c_q39 hh, c_op7 hh, c_op8 hh, c_op9 hh, c_kp0 hh, c_kp1 hh, c_kp5 hh, c_kp6 hh, c_wp1 hh, c_wp2 hh, c_wp3 hh, c_wp7 hh, c_wp8 hh, c_pp0 hh, c_pp1 hh, c_pp2 hh, c_pp6 hh, c_pp7 hh, c_r32 hh, c_r34 hh, c_r35 hh, c_r36 hh, c_r38 hh, c_r40 hh, c_r41 hh, c_r57 hh, c_r58 hh, c_s32 hh, c_s34 hh, c_s35 hh, c_s36 hh, c_s38 hh, c_s40 hh, c_s41 hh, c_s57 hh, c_s58 hh, zI_add, zI_sub, zI_mul, zI_neg, zL_add, zL_sub, zL_mul, Option.bind_some, Option.toList_some, Option.toList_none, List.cons_append, List.nil_append, zI_lt, zI_le, zI_eq, zI_eq0, zI_lt0, zI_le0, zI_0lt, zI_0le, bZ_e0, k_skip hh hx hc, e0]
  by_cases z : skP (txX t) (t 0 3) (T 33 6) < t 0 3
  · rw [if_pos z, bZ_f (by omega)]
  · rw [if_neg z, bZ_t (by omega)]
theorem k_letter {x : Int} (hx : 0 ≤ x ∧ x ≤ 255) : x_cl d n_X1_isLetter [.int (zI x)] h = some (some (.int (zI (bZ (97 ≤ x ∧ x ≤ 122)))), h) := by
  simp (disch := first | omega | assumption) only [e_X1_isLetter, s_X1_isLetter_0, s_X1_isLetter_1, s_X1_isLetter_3, s_X1_isLetter_6, s_X1_isLetter_7, s_X1_isLetter_9, s_X1_isLetter_12, s_X1_isLetter_13, s_X1_isLetter_16, s_X1_isLetter_17_0, s_X1_isLetter_17_1, s_X1_isLetter_17_b, zI_add, zI_sub, zI_mul, zI_neg, zL_add, zL_sub, zL_mul, Option.bind_some, Option.toList_some, Option.toList_none, List.cons_append, List.nil_append, zI_lt, zI_le, zI_eq, zI_eq0, zI_lt0, zI_le0, zI_0lt, zI_0le, bZ_e0]
  by_cases z : x < 97
  · rw [if_pos z, bZ_f (by omega)]
  · rw [if_neg z]
    by_cases y : 122 < x
    · rw [if_pos y, bZ_f (by omega)]
    · rw [if_neg y, bZ_t (by omega)]
theorem k_figure {x : Int} (hx : 0 ≤ x ∧ x ≤ 255) : x_cl d n_X1_isFigure [.int (zI x)] h = some (some (.int (zI (bZ (48 ≤ x ∧ x ≤ 57)))), h) := by
  simp (disch := first | omega | assumption) only [e_X1_isFigure, s_X1_isFigure_0, s_X1_isFigure_1, s_X1_isFigure_3, s_X1_isFigure_6, s_X1_isFigure_7, s_X1_isFigure_9, s_X1_isFigure_12, s_X1_isFigure_13, s_X1_isFigure_16, s_X1_isFigure_17_0, s_X1_isFigure_17_1, s_X1_isFigure_17_b, zI_add, zI_sub, zI_mul, zI_neg, zL_add, zL_sub, zL_mul, Option.bind_some, Option.toList_some, Option.toList_none, List.cons_append, List.nil_append, zI_lt, zI_le, zI_eq, zI_eq0, zI_lt0, zI_le0, zI_0lt, zI_0le, bZ_e0]
  by_cases z : x < 48
  · rw [if_pos z, bZ_f (by omega)]
  · rw [if_neg z]
    by_cases y : 57 < x
    · rw [if_pos y, bZ_f (by omega)]
    · rw [if_neg y, bZ_t (by omega)]
theorem cdR.go {T' : Nat → Nat → Int} (hc : cdR T t) (he : T' 33 0 = T 33 0) (hf : ∀ j, T' 34 j = T 34 j) : cdR T' t := ⟨he.trans hc.1, fun j hj => (hf j).trans (hc.2 j hj)⟩
theorem cdR_u {j : Nat} {v : Int} (hc : cdR T t) (hj : j ≠ 0) : cdR (up2 T 33 j v) t := hc.go (up2_n (by omega)) fun i => up2_n (by omega)
theorem l_tokW (hh : 91 ≤ h.1) (hx : txOk t) (hc : cdR T t) : ∀ (k : Nat) (p : Int), 0 ≤ p → p ≤ t 0 3 → t 0 3 - p ≤ k → x_ev (d + 1, n_X1_nextToken, 48, [.ref 33], [], cH h (up2 T 33 6 p)) = some (some (.int (zI 1)), cH h (up2 T 33 6 (rnF 97 122 (txX t) (t 0 3) k p))) := by
  have hn := hx.1
  intro k
  induction k with
  | zero =>
    intro p h0 h1 h2
    have e0 : up2 T 33 6 p 33 0 = t 0 3 := (up2_n (by omega)).trans hc.1
    rw [s_X1_nextToken_48, rnF]
    simp (disch := first | omega | assumption) only [s_X1_nextToken_49, s_X1_nextToken_52, s_X1_nextToken_53, s_X1_nextToken_56, c_oo hh, c_og0 hh, c_og1 hh, c_og2 hh, c_og3 hh, c_og4 hh, c_og5 hh, c_og6 hh, c_og7 hh, c_og8 hh, c_og9 hh, c_ko hh, c_kg0 hh, c_kg1 hh, c_kg2 hh, c_kg3 hh, c_kg4 hh, c_kg5 hh, c_kg6 hh, c_wo hh, c_wg0 hh, c_wg1 hh, c_wg2 hh, c_wg3 hh, c_wg4 hh, c_wg5 hh, c_wg6 hh, c_wg7 hh, c_wg8 hh, c_po hh, c_pg0 hh, c_pg1 hh, c_pg2 hh, c_pg3 hh, c_pg4 hh, c_pg5 hh, c_pg6 hh, c_pg7 hh, c_q31 hh, c_q39 hh, c_op7 hh, c_op8 hh, c_op9 hh, c_kp0 hh, c_kp1 hh, c_kp5 hh, c_kp6 hh, c_wp1 hh, c_wp2 hh, c_wp3 hh, c_wp7 hh, c_wp8 hh, c_pp0 hh, c_pp1 hh, c_pp2 hh, c_pp6 hh, c_pp7 hh, c_r32 hh, c_r34 hh, c_r35 hh, c_r36 hh, c_r38 hh, c_r40 hh, c_r41 hh, c_r57 hh, c_r58 hh, c_s32 hh, c_s34 hh, c_s35 hh, c_s36 hh, c_s38 hh, c_s40 hh, c_s41 hh, c_s57 hh, c_s58 hh, zI_add, zI_sub, zI_mul, zI_neg, zL_add, zL_sub, zL_mul, Option.bind_some, Option.toList_some, Option.toList_none, List.cons_append, List.nil_append, zI_lt, zI_le, zI_eq, zI_eq0, zI_lt0, zI_le0, zI_0lt, zI_0le, bZ_e0, e0, up2_s]
    rw [if_pos (by omega)]
    simp (disch := first | omega | assumption) only [s_X1_nextToken_87, s_X1_nextToken_88]
  | succ k ih =>
    intro p h0 h1 h2
    have e0 : up2 T 33 6 p 33 0 = t 0 3 := (up2_n (by omega)).trans hc.1
    have hr := tx_rg (p := p) hx
    rw [s_X1_nextToken_48, rnF]
    simp (disch := first | omega | assumption) only [s_X1_nextToken_49, s_X1_nextToken_52, s_X1_nextToken_53, s_X1_nextToken_56, c_oo hh, c_og0 hh, c_og1 hh, c_og2 hh, c_og3 hh, c_og4 hh, c_og5 hh, c_og6 hh, c_og7 hh, c_og8 hh, c_og9 hh, c_ko hh, c_kg0 hh, c_kg1 hh, c_kg2 hh, c_kg3 hh, c_kg4 hh, c_kg5 hh, c_kg6 hh, c_wo hh, c_wg0 hh, c_wg1 hh, c_wg2 hh, c_wg3 hh, c_wg4 hh, c_wg5 hh, c_wg6 hh, c_wg7 hh, c_wg8 hh, c_po hh, c_pg0 hh, c_pg1 hh, c_pg2 hh, c_pg3 hh, c_pg4 hh, c_pg5 hh, c_pg6 hh, c_pg7 hh, c_q31 hh, c_q39 hh, c_op7 hh, c_op8 hh, c_op9 hh, c_kp0 hh, c_kp1 hh, c_kp5 hh, c_kp6 hh, c_wp1 hh, c_wp2 hh, c_wp3 hh, c_wp7 hh, c_wp8 hh, c_pp0 hh, c_pp1 hh, c_pp2 hh, c_pp6 hh, c_pp7 hh, c_r32 hh, c_r34 hh, c_r35 hh, c_r36 hh, c_r38 hh, c_r40 hh, c_r41 hh, c_r57 hh, c_r58 hh, c_s32 hh, c_s34 hh, c_s35 hh, c_s36 hh, c_s38 hh, c_s40 hh, c_s41 hh, c_s57 hh, c_s58 hh, zI_add, zI_sub, zI_mul, zI_neg, zL_add, zL_sub, zL_mul, Option.bind_some, Option.toList_some, Option.toList_none, List.cons_append, List.nil_append, zI_lt, zI_le, zI_eq, zI_eq0, zI_lt0, zI_le0, zI_0lt, zI_0le, bZ_e0, e0, up2_s]
    by_cases z : t 0 3 ≤ p
    · rw [if_pos z, if_neg (fun y => by omega)]
      simp (disch := first | omega | assumption) only [s_X1_nextToken_87, s_X1_nextToken_88]
    · have ex : up2 T 33 6 p 34 p.toNat = txX t p := (up2_n (by omega)).trans (cd_x hc h0 (by omega))
      rw [if_neg z]
      simp (disch := first | omega | assumption) only [s_X1_nextToken_59, s_X1_nextToken_60, s_X1_nextToken_63, s_X1_nextToken_64, s_X1_nextToken_67, s_X1_nextToken_68, s_X1_nextToken_71, c_oo hh, c_og0 hh, c_og1 hh, c_og2 hh, c_og3 hh, c_og4 hh, c_og5 hh, c_og6 hh, c_og7 hh, c_og8 hh, c_og9 hh, c_ko hh, c_kg0 hh, c_kg1 hh, c_kg2 hh, c_kg3 hh, c_kg4 hh, c_kg5 hh, c_kg6 hh, c_wo hh, c_wg0 hh, c_wg1 hh, c_wg2 hh, c_wg3 hh, c_wg4 hh, c_wg5 hh, c_wg6 hh, c_wg7 hh, c_wg8 hh, c_po hh, c_pg0 hh, c_pg1 hh, c_pg2 hh, c_pg3 hh, c_pg4 hh, c_pg5 hh, c_pg6 hh, c_pg7 hh, c_q31 hh, c_q39 hh, c_op7 hh, c_op8 hh, c_op9 hh, c_kp0 hh, c_kp1 hh, c_kp5 hh, c_kp6 hh, c_wp1 hh, c_wp2 hh, c_wp3 hh, c_wp7 hh, c_wp8 hh, c_pp0 hh, c_pp1 hh, c_pp2 hh, c_pp6 hh, c_pp7 hh, c_r32 hh, c_r34 hh, c_r35 hh, c_r36 hh, c_r38 hh, c_r40 hh, c_r41 hh, c_r57 hh, c_r58 hh, c_s32 hh, c_s34 hh, c_s35 hh, c_s36 hh, c_s38 hh, c_s40 hh, c_s41 hh, c_s57 hh, c_s58 hh, zI_add, zI_sub, zI_mul, zI_neg, zL_add, zL_sub, zL_mul, Option.bind_some, Option.toList_some, Option.toList_none, List.cons_append, List.nil_append, zI_lt, zI_le, zI_eq, zI_eq0, zI_lt0, zI_le0, zI_0lt, zI_0le, bZ_e0, up2_s, ex, k_letter hr]
      by_cases y : 97 ≤ txX t p ∧ txX t p ≤ 122
      · rw [if_neg (show ¬ ¬ (97 ≤ txX t p ∧ txX t p ≤ 122) from fun w => w y), if_pos ⟨by omega, y⟩]
        simp (disch := first | omega | assumption) only [s_X1_nextToken_74, s_X1_nextToken_75, s_X1_nextToken_76, s_X1_nextToken_79, s_X1_nextToken_80, s_X1_nextToken_81, s_X1_nextToken_84, c_oo hh, c_og0 hh, c_og1 hh, c_og2 hh, c_og3 hh, c_og4 hh, c_og5 hh, c_og6 hh, c_og7 hh, c_og8 hh, c_og9 hh, c_ko hh, c_kg0 hh, c_kg1 hh, c_kg2 hh, c_kg3 hh, c_kg4 hh, c_kg5 hh, c_kg6 hh, c_wo hh, c_wg0 hh, c_wg1 hh, c_wg2 hh, c_wg3 hh, c_wg4 hh, c_wg5 hh, c_wg6 hh, c_wg7 hh, c_wg8 hh, c_po hh, c_pg0 hh, c_pg1 hh, c_pg2 hh, c_pg3 hh, c_pg4 hh, c_pg5 hh, c_pg6 hh, c_pg7 hh, c_q31 hh, c_q39 hh, c_op7 hh, c_op8 hh, c_op9 hh, c_kp0 hh, c_kp1 hh, c_kp5 hh, c_kp6 hh, c_wp1 hh, c_wp2 hh, c_wp3 hh, c_wp7 hh, c_wp8 hh, c_pp0 hh, c_pp1 hh, c_pp2 hh, c_pp6 hh, c_pp7 hh, c_r32 hh, c_r34 hh, c_r35 hh, c_r36 hh, c_r38 hh, c_r40 hh, c_r41 hh, c_r57 hh, c_r58 hh, c_s32 hh, c_s34 hh, c_s35 hh, c_s36 hh, c_s38 hh, c_s40 hh, c_s41 hh, c_s57 hh, c_s58 hh, zI_add, zI_sub, zI_mul, zI_neg, zL_add, zL_sub, zL_mul, Option.bind_some, Option.toList_some, Option.toList_none, List.cons_append, List.nil_append, zI_lt, zI_le, zI_eq, zI_eq0, zI_lt0, zI_le0, zI_0lt, zI_0le, bZ_e0, up2_s, up2_2]
        exact ih (p + 1) (by omega) (by omega) (by omega)
      · rw [if_pos y, if_neg (fun w => y w.2)]
        simp (disch := first | omega | assumption) only [s_X1_nextToken_87, s_X1_nextToken_88]
theorem l_tokN {s : Int} (hh : 91 ≤ h.1) (hx : txOk t) (hc : cdR T t) (h5 : T 33 5 = s) (hs : 0 ≤ s) : ∀ (k : Nat) (p : Int), s ≤ p → p ≤ t 0 3 → t 0 3 - p ≤ k → x_ev (d + 1, n_X1_nextToken, 104, [.ref 33], [], cH h (up2 T 33 6 p)) = some (some (.int (zI (if 2 < rnF 48 57 (txX t) (t 0 3) k p - s then 4 else 2))), cH h (up2 T 33 6 (rnF 48 57 (txX t) (t 0 3) k p))) := by
  have hn := hx.1
  have fin : ∀ p, s ≤ p → p ≤ t 0 3 → x_ev (d + 1, n_X1_nextToken, 143, [.ref 33], [], cH h (up2 T 33 6 p)) = some (some (.int (zI (if 2 < p - s then 4 else 2))), cH h (up2 T 33 6 p)) := fun p p1 p2 => by
    have e5 : up2 T 33 6 p 33 5 = s := (up2_n (by omega)).trans h5
    simp (disch := first | omega | assumption) only [s_X1_nextToken_143, s_X1_nextToken_144, s_X1_nextToken_147, s_X1_nextToken_148, s_X1_nextToken_151, s_X1_nextToken_152, s_X1_nextToken_153, s_X1_nextToken_156, s_X1_nextToken_157, s_X1_nextToken_160, s_X1_nextToken_161, c_oo hh, c_og0 hh, c_og1 hh, c_og2 hh, c_og3 hh, c_og4 hh, c_og5 hh, c_og6 hh, c_og7 hh, c_og8 hh, c_og9 hh, c_ko hh, c_kg0 hh, c_kg1 hh, c_kg2 hh, c_kg3 hh, c_kg4 hh, c_kg5 hh, c_kg6 hh, c_wo hh, c_wg0 hh, c_wg1 hh, c_wg2 hh, c_wg3 hh, c_wg4 hh, c_wg5 hh, c_wg6 hh, c_wg7 hh, c_wg8 hh, c_po hh, c_pg0 hh, c_pg1 hh, c_pg2 hh, c_pg3 hh, c_pg4 hh, c_pg5 hh, c_pg6 hh, c_pg7 hh, c_q31 hh, c_q39 hh, c_op7 hh, c_op8 hh, c_op9 hh, c_kp0 hh, c_kp1 hh, c_kp5 hh, c_kp6 hh, c_wp1 hh, c_wp2 hh, c_wp3 hh, c_wp7 hh, c_wp8 hh, c_pp0 hh, c_pp1 hh, c_pp2 hh, c_pp6 hh, c_pp7 hh, c_r32 hh, c_r34 hh, c_r35 hh, c_r36 hh, c_r38 hh, c_r40 hh, c_r41 hh, c_r57 hh, c_r58 hh, c_s32 hh, c_s34 hh, c_s35 hh, c_s36 hh, c_s38 hh, c_s40 hh, c_s41 hh, c_s57 hh, c_s58 hh, zI_add, zI_sub, zI_mul, zI_neg, zL_add, zL_sub, zL_mul, Option.bind_some, Option.toList_some, Option.toList_none, List.cons_append, List.nil_append, zI_lt, zI_le, zI_eq, zI_eq0, zI_lt0, zI_le0, zI_0lt, zI_0le, bZ_e0, e5, up2_s]
    by_cases z : 2 < p - s
    · rw [if_pos z, if_pos z]
    · rw [if_neg z, if_neg z]
  intro k
  induction k with
  | zero =>
    intro p h0 h1 h2
    have e0 : up2 T 33 6 p 33 0 = t 0 3 := (up2_n (by omega)).trans hc.1
    rw [s_X1_nextToken_104, rnF]
    simp (disch := first | omega | assumption) only [s_X1_nextToken_105, s_X1_nextToken_108, s_X1_nextToken_109, s_X1_nextToken_112, c_oo hh, c_og0 hh, c_og1 hh, c_og2 hh, c_og3 hh, c_og4 hh, c_og5 hh, c_og6 hh, c_og7 hh, c_og8 hh, c_og9 hh, c_ko hh, c_kg0 hh, c_kg1 hh, c_kg2 hh, c_kg3 hh, c_kg4 hh, c_kg5 hh, c_kg6 hh, c_wo hh, c_wg0 hh, c_wg1 hh, c_wg2 hh, c_wg3 hh, c_wg4 hh, c_wg5 hh, c_wg6 hh, c_wg7 hh, c_wg8 hh, c_po hh, c_pg0 hh, c_pg1 hh, c_pg2 hh, c_pg3 hh, c_pg4 hh, c_pg5 hh, c_pg6 hh, c_pg7 hh, c_q31 hh, c_q39 hh, c_op7 hh, c_op8 hh, c_op9 hh, c_kp0 hh, c_kp1 hh, c_kp5 hh, c_kp6 hh, c_wp1 hh, c_wp2 hh, c_wp3 hh, c_wp7 hh, c_wp8 hh, c_pp0 hh, c_pp1 hh, c_pp2 hh, c_pp6 hh, c_pp7 hh, c_r32 hh, c_r34 hh, c_r35 hh, c_r36 hh, c_r38 hh, c_r40 hh, c_r41 hh, c_r57 hh, c_r58 hh, c_s32 hh, c_s34 hh, c_s35 hh, c_s36 hh, c_s38 hh, c_s40 hh, c_s41 hh, c_s57 hh, c_s58 hh, zI_add, zI_sub, zI_mul, zI_neg, zL_add, zL_sub, zL_mul, Option.bind_some, Option.toList_some, Option.toList_none, List.cons_append, List.nil_append, zI_lt, zI_le, zI_eq, zI_eq0, zI_lt0, zI_le0, zI_0lt, zI_0le, bZ_e0, e0, up2_s]
    rw [if_pos (by omega)]
    exact fin p h0 h1
  | succ k ih =>
    intro p h0 h1 h2
    have e0 : up2 T 33 6 p 33 0 = t 0 3 := (up2_n (by omega)).trans hc.1
    have hr := tx_rg (p := p) hx
    rw [s_X1_nextToken_104, rnF]
    simp (disch := first | omega | assumption) only [s_X1_nextToken_105, s_X1_nextToken_108, s_X1_nextToken_109, s_X1_nextToken_112, c_oo hh, c_og0 hh, c_og1 hh, c_og2 hh, c_og3 hh, c_og4 hh, c_og5 hh, c_og6 hh, c_og7 hh, c_og8 hh, c_og9 hh, c_ko hh, c_kg0 hh, c_kg1 hh, c_kg2 hh, c_kg3 hh, c_kg4 hh, c_kg5 hh, c_kg6 hh, c_wo hh, c_wg0 hh, c_wg1 hh, c_wg2 hh, c_wg3 hh, c_wg4 hh, c_wg5 hh, c_wg6 hh, c_wg7 hh, c_wg8 hh, c_po hh, c_pg0 hh, c_pg1 hh, c_pg2 hh, c_pg3 hh, c_pg4 hh, c_pg5 hh, c_pg6 hh, c_pg7 hh, c_q31 hh, c_q39 hh, c_op7 hh, c_op8 hh, c_op9 hh, c_kp0 hh, c_kp1 hh, c_kp5 hh, c_kp6 hh, c_wp1 hh, c_wp2 hh, c_wp3 hh, c_wp7 hh, c_wp8 hh, c_pp0 hh, c_pp1 hh, c_pp2 hh, c_pp6 hh, c_pp7 hh, c_r32 hh, c_r34 hh, c_r35 hh, c_r36 hh, c_r38 hh, c_r40 hh, c_r41 hh, c_r57 hh, c_r58 hh, c_s32 hh, c_s34 hh, c_s35 hh, c_s36 hh, c_s38 hh, c_s40 hh, c_s41 hh, c_s57 hh, c_s58 hh, zI_add, zI_sub, zI_mul, zI_neg, zL_add, zL_sub, zL_mul, Option.bind_some, Option.toList_some, Option.toList_none, List.cons_append, List.nil_append, zI_lt, zI_le, zI_eq, zI_eq0, zI_lt0, zI_le0, zI_0lt, zI_0le, bZ_e0, e0, up2_s]
    by_cases z : t 0 3 ≤ p
    · rw [if_pos z, if_neg (show ¬ (p < t 0 3 ∧ 48 ≤ txX t p ∧ txX t p ≤ 57) from fun y => by omega)]
      exact fin p h0 h1
    · have ex : up2 T 33 6 p 34 p.toNat = txX t p := (up2_n (by omega)).trans (cd_x hc (by omega) (by omega))
      rw [if_neg z]
      simp (disch := first | omega | assumption) only [s_X1_nextToken_115, s_X1_nextToken_116, s_X1_nextToken_119, s_X1_nextToken_120, s_X1_nextToken_123, s_X1_nextToken_124, s_X1_nextToken_127, c_oo hh, c_og0 hh, c_og1 hh, c_og2 hh, c_og3 hh, c_og4 hh, c_og5 hh, c_og6 hh, c_og7 hh, c_og8 hh, c_og9 hh, c_ko hh, c_kg0 hh, c_kg1 hh, c_kg2 hh, c_kg3 hh, c_kg4 hh, c_kg5 hh, c_kg6 hh, c_wo hh, c_wg0 hh, c_wg1 hh, c_wg2 hh, c_wg3 hh, c_wg4 hh, c_wg5 hh, c_wg6 hh, c_wg7 hh, c_wg8 hh, c_po hh, c_pg0 hh, c_pg1 hh, c_pg2 hh, c_pg3 hh, c_pg4 hh, c_pg5 hh, c_pg6 hh, c_pg7 hh, c_q31 hh, c_q39 hh, c_op7 hh, c_op8 hh, c_op9 hh, c_kp0 hh, c_kp1 hh, c_kp5 hh, c_kp6 hh, c_wp1 hh, c_wp2 hh, c_wp3 hh, c_wp7 hh, c_wp8 hh, c_pp0 hh, c_pp1 hh, c_pp2 hh, c_pp6 hh, c_pp7 hh, c_r32 hh, c_r34 hh, c_r35 hh, c_r36 hh, c_r38 hh, c_r40 hh, c_r41 hh, c_r57 hh, c_r58 hh, c_s32 hh, c_s34 hh, c_s35 hh, c_s36 hh, c_s38 hh, c_s40 hh, c_s41 hh, c_s57 hh, c_s58 hh, zI_add, zI_sub, zI_mul, zI_neg, zL_add, zL_sub, zL_mul, Option.bind_some, Option.toList_some, Option.toList_none, List.cons_append, List.nil_append, zI_lt, zI_le, zI_eq, zI_eq0, zI_lt0, zI_le0, zI_0lt, zI_0le, bZ_e0, up2_s, ex, k_figure hr]
      by_cases y : 48 ≤ txX t p ∧ txX t p ≤ 57
      · rw [if_neg (show ¬ ¬ (48 ≤ txX t p ∧ txX t p ≤ 57) from fun w => w y), if_pos (show p < t 0 3 ∧ 48 ≤ txX t p ∧ txX t p ≤ 57 from ⟨by omega, y⟩)]
        simp (disch := first | omega | assumption) only [s_X1_nextToken_130, s_X1_nextToken_131, s_X1_nextToken_132, s_X1_nextToken_135, s_X1_nextToken_136, s_X1_nextToken_137, s_X1_nextToken_140, c_oo hh, c_og0 hh, c_og1 hh, c_og2 hh, c_og3 hh, c_og4 hh, c_og5 hh, c_og6 hh, c_og7 hh, c_og8 hh, c_og9 hh, c_ko hh, c_kg0 hh, c_kg1 hh, c_kg2 hh, c_kg3 hh, c_kg4 hh, c_kg5 hh, c_kg6 hh, c_wo hh, c_wg0 hh, c_wg1 hh, c_wg2 hh, c_wg3 hh, c_wg4 hh, c_wg5 hh, c_wg6 hh, c_wg7 hh, c_wg8 hh, c_po hh, c_pg0 hh, c_pg1 hh, c_pg2 hh, c_pg3 hh, c_pg4 hh, c_pg5 hh, c_pg6 hh, c_pg7 hh, c_q31 hh, c_q39 hh, c_op7 hh, c_op8 hh, c_op9 hh, c_kp0 hh, c_kp1 hh, c_kp5 hh, c_kp6 hh, c_wp1 hh, c_wp2 hh, c_wp3 hh, c_wp7 hh, c_wp8 hh, c_pp0 hh, c_pp1 hh, c_pp2 hh, c_pp6 hh, c_pp7 hh, c_r32 hh, c_r34 hh, c_r35 hh, c_r36 hh, c_r38 hh, c_r40 hh, c_r41 hh, c_r57 hh, c_r58 hh, c_s32 hh, c_s34 hh, c_s35 hh, c_s36 hh, c_s38 hh, c_s40 hh, c_s41 hh, c_s57 hh, c_s58 hh, zI_add, zI_sub, zI_mul, zI_neg, zL_add, zL_sub, zL_mul, Option.bind_some, Option.toList_some, Option.toList_none, List.cons_append, List.nil_append, zI_lt, zI_le, zI_eq, zI_eq0, zI_lt0, zI_le0, zI_0lt, zI_0le, bZ_e0, up2_s, up2_2]
        exact ih (p + 1) (by omega) (by omega) (by omega)
      · rw [if_pos y, if_neg (show ¬ (p < t 0 3 ∧ 48 ≤ txX t p ∧ txX t p ≤ 57) from fun w => y w.2)]
        exact fin p h0 h1
/-- the next token: its kind, and where it ends -/
def tkK (x : Int → Int) (n s : Int) : Int := if n ≤ s then 0 else if 97 ≤ x s ∧ x s ≤ 122 then 1 else if 48 ≤ x s ∧ x s ≤ 57 then (if 2 < fiP x n s - s then 4 else 2) else if x s = 59 then 3 else 4
def tkE (x : Int → Int) (n s : Int) : Int := if n ≤ s then s else if 97 ≤ x s ∧ x s ≤ 122 then leP x n s else if 48 ≤ x s ∧ x s ≤ 57 then fiP x n s else s + 1
def ntT (T : Nat → Nat → Int) (s e : Int) : Nat → Nat → Int := up2 (up2 T 33 5 s) 33 6 e
theorem k_next (hh : 91 ≤ h.1) (hx : txOk t) (hc : cdR T t) (h0 : 0 ≤ T 33 6) (h1 : T 33 6 ≤ t 0 3) : x_cl (d + 1) n_X1_nextToken [.ref 33] (cH h T) = some (some (.int (zI (tkK (txX t) (t 0 3) (skP (txX t) (t 0 3) (T 33 6))))), cH h (ntT T (skP (txX t) (t 0 3) (T 33 6)) (tkE (txX t) (t 0 3) (skP (txX t) (t 0 3) (T 33 6))))) := by
  have hn := hx.1
  have r := skP_rg (x := txX t) h1
  have ks := k_skip (d := d) (h := h) (p := T 33 6) hh hx hc h0 h1
  generalize skP (txX t) (t 0 3) (T 33 6) = s at *
  have e0 : up2 (up2 T 33 5 s) 33 6 s 33 0 = t 0 3 := (up2_n (by omega)).trans ((up2_n (by omega)).trans hc.1)
  have e5 : up2 (up2 T 33 5 s) 33 6 s 33 5 = s := (up2_n (by omega)).trans up2_s
  have e5' : up2 T 33 5 s 33 5 = s := up2_s
  have hr := tx_rg (p := s) hx
  have hc2 : cdR (up2 T 33 5 s) t := cdR_u hc (by decide)
  unfold tkK tkE ntT
  simp (disch := first | omega | assumption) only [e_X1_nextToken, s_X1_nextToken_0, s_X1_nextToken_1, s_X1_nextToken_2, s_X1_nextToken_3, s_X1_nextToken_6, s_X1_nextToken_9, s_X1_nextToken_12, s_X1_nextToken_13, s_X1_nextToken_14, s_X1_nextToken_17, s_X1_nextToken_20, s_X1_nextToken_21, s_X1_nextToken_24, s_X1_nextToken_25, s_X1_nextToken_28, c_oo hh, c_og0 hh, c_og1 hh, c_og2 hh, c_og3 hh, c_og4 hh, c_og5 hh, c_og6 hh, c_og7 hh, c_og8 hh, c_og9 hh, c_ko hh, c_kg0 hh, c_kg1 hh, c_kg2 hh, c_kg3 hh, c_kg4 hh, c_kg5 hh, c_kg6 hh, c_wo hh, c_wg0 hh, c_wg1 hh, c_wg2 hh, c_wg3 hh, c_wg4 hh, c_wg5 hh, c_wg6 hh, c_wg7 hh, c_wg8 hh, c_po hh, c_pg0 hh, c_pg1 hh, c_pg2 hh, c_pg3 hh, c_pg4 hh, c_pg5 hh, c_pg6 hh, c_pg7 hh, c_q31 hh, c_q39 hh, c_op7 hh, c_op8 hh, c_op9 hh, c_kp0 hh, c_kp1 hh, c_kp5 hh, c_kp6 hh, c_wp1 hh, c_wp2 hh, c_wp3 hh, c_wp7 hh, c_wp8 hh, c_pp0 hh, c_pp1 hh, c_pp2 hh, c_pp6 hh, c_pp7 hh, c_r32 hh, c_r34 hh, c_r35 hh, c_r36 hh, c_r38 hh, c_r40 hh, c_r41 hh, c_r57 hh, c_r58 hh, c_s32 hh, c_s34 hh, c_s35 hh, c_s36 hh, c_s38 hh, c_s40 hh, c_s41 hh, c_s57 hh, c_s58 hh, zI_add, zI_sub, zI_mul, zI_neg, zL_add, zL_sub, zL_mul, Option.bind_some, Option.toList_some, Option.toList_none, List.cons_append, List.nil_append, zI_lt, zI_le, zI_eq, zI_eq0, zI_lt0, zI_le0, zI_0lt, zI_0le, bZ_e0, ks, e5', e5, e0]
  by_cases z : s < t 0 3
  · have ex : up2 (up2 T 33 5 s) 33 6 s 34 s.toNat = txX t s := (up2_n (by omega)).trans ((up2_n (by omega)).trans (cd_x hc (by omega) (by omega)))
    rw [if_pos z, if_neg (show ¬ t 0 3 ≤ s by omega), if_neg (show ¬ t 0 3 ≤ s by omega)]
    simp (disch := first | omega | assumption) only [s_X1_nextToken_33, s_X1_nextToken_34, s_X1_nextToken_37, s_X1_nextToken_38, s_X1_nextToken_41, s_X1_nextToken_42, s_X1_nextToken_45, c_oo hh, c_og0 hh, c_og1 hh, c_og2 hh, c_og3 hh, c_og4 hh, c_og5 hh, c_og6 hh, c_og7 hh, c_og8 hh, c_og9 hh, c_ko hh, c_kg0 hh, c_kg1 hh, c_kg2 hh, c_kg3 hh, c_kg4 hh, c_kg5 hh, c_kg6 hh, c_wo hh, c_wg0 hh, c_wg1 hh, c_wg2 hh, c_wg3 hh, c_wg4 hh, c_wg5 hh, c_wg6 hh, c_wg7 hh, c_wg8 hh, c_po hh, c_pg0 hh, c_pg1 hh, c_pg2 hh, c_pg3 hh, c_pg4 hh, c_pg5 hh, c_pg6 hh, c_pg7 hh, c_q31 hh, c_q39 hh, c_op7 hh, c_op8 hh, c_op9 hh, c_kp0 hh, c_kp1 hh, c_kp5 hh, c_kp6 hh, c_wp1 hh, c_wp2 hh, c_wp3 hh, c_wp7 hh, c_wp8 hh, c_pp0 hh, c_pp1 hh, c_pp2 hh, c_pp6 hh, c_pp7 hh, c_r32 hh, c_r34 hh, c_r35 hh, c_r36 hh, c_r38 hh, c_r40 hh, c_r41 hh, c_r57 hh, c_r58 hh, c_s32 hh, c_s34 hh, c_s35 hh, c_s36 hh, c_s38 hh, c_s40 hh, c_s41 hh, c_s57 hh, c_s58 hh, zI_add, zI_sub, zI_mul, zI_neg, zL_add, zL_sub, zL_mul, Option.bind_some, Option.toList_some, Option.toList_none, List.cons_append, List.nil_append, zI_lt, zI_le, zI_eq, zI_eq0, zI_lt0, zI_le0, zI_0lt, zI_0le, bZ_e0, e5, ex, k_letter hr]
    by_cases y : 97 ≤ txX t s ∧ txX t s ≤ 122
    · rw [if_neg (show ¬ ¬ (97 ≤ txX t s ∧ txX t s ≤ 122) from fun w => w y), if_pos y, if_pos y]
      exact l_tokW hh hx hc2 200 s (by omega) (by omega) (by omega)
    · rw [if_pos y, if_neg y, if_neg y]
      simp (disch := first | omega | assumption) only [s_X1_nextToken_89, s_X1_nextToken_90, s_X1_nextToken_93, s_X1_nextToken_94, s_X1_nextToken_97, s_X1_nextToken_98, s_X1_nextToken_101, c_oo hh, c_og0 hh, c_og1 hh, c_og2 hh, c_og3 hh, c_og4 hh, c_og5 hh, c_og6 hh, c_og7 hh, c_og8 hh, c_og9 hh, c_ko hh, c_kg0 hh, c_kg1 hh, c_kg2 hh, c_kg3 hh, c_kg4 hh, c_kg5 hh, c_kg6 hh, c_wo hh, c_wg0 hh, c_wg1 hh, c_wg2 hh, c_wg3 hh, c_wg4 hh, c_wg5 hh, c_wg6 hh, c_wg7 hh, c_wg8 hh, c_po hh, c_pg0 hh, c_pg1 hh, c_pg2 hh, c_pg3 hh, c_pg4 hh, c_pg5 hh, c_pg6 hh, c_pg7 hh, c_q31 hh, c_q39 hh, c_op7 hh, c_op8 hh, c_op9 hh, c_kp0 hh, c_kp1 hh, c_kp5 hh, c_kp6 hh, c_wp1 hh, c_wp2 hh, c_wp3 hh, c_wp7 hh, c_wp8 hh, c_pp0 hh, c_pp1 hh, c_pp2 hh, c_pp6 hh, c_pp7 hh, c_r32 hh, c_r34 hh, c_r35 hh, c_r36 hh, c_r38 hh, c_r40 hh, c_r41 hh, c_r57 hh, c_r58 hh, c_s32 hh, c_s34 hh, c_s35 hh, c_s36 hh, c_s38 hh, c_s40 hh, c_s41 hh, c_s57 hh, c_s58 hh, zI_add, zI_sub, zI_mul, zI_neg, zL_add, zL_sub, zL_mul, Option.bind_some, Option.toList_some, Option.toList_none, List.cons_append, List.nil_append, zI_lt, zI_le, zI_eq, zI_eq0, zI_lt0, zI_le0, zI_0lt, zI_0le, bZ_e0, e5, ex, k_figure hr]
      by_cases w : 48 ≤ txX t s ∧ txX t s ≤ 57
      · rw [if_neg (show ¬ ¬ (48 ≤ txX t s ∧ txX t s ≤ 57) from fun v => v w), if_pos w, if_pos w]
        exact l_tokN hh hx hc2 up2_s (by omega) 200 s (by omega) (by omega) (by omega)
      · rw [if_pos w, if_neg w, if_neg w]
        have e6 : up2 (up2 T 33 5 s) 33 6 (s + 1) 33 5 = s := (up2_n (by omega)).trans up2_s
        have ex2 : up2 (up2 T 33 5 s) 33 6 (s + 1) 34 s.toNat = txX t s := (up2_n (by omega)).trans ((up2_n (by omega)).trans (cd_x hc (by omega) (by omega)))
        simp (disch := first | omega | assumption) only [s_X1_nextToken_162, s_X1_nextToken_163, s_X1_nextToken_164, s_X1_nextToken_167, s_X1_nextToken_168, s_X1_nextToken_169, s_X1_nextToken_172, s_X1_nextToken_173, s_X1_nextToken_176, s_X1_nextToken_177, s_X1_nextToken_180, s_X1_nextToken_181, s_X1_nextToken_183, s_X1_nextToken_186, s_X1_nextToken_187, s_X1_nextToken_190, s_X1_nextToken_191, c_oo hh, c_og0 hh, c_og1 hh, c_og2 hh, c_og3 hh, c_og4 hh, c_og5 hh, c_og6 hh, c_og7 hh, c_og8 hh, c_og9 hh, c_ko hh, c_kg0 hh, c_kg1 hh, c_kg2 hh, c_kg3 hh, c_kg4 hh, c_kg5 hh, c_kg6 hh, c_wo hh, c_wg0 hh, c_wg1 hh, c_wg2 hh, c_wg3 hh, c_wg4 hh, c_wg5 hh, c_wg6 hh, c_wg7 hh, c_wg8 hh, c_po hh, c_pg0 hh, c_pg1 hh, c_pg2 hh, c_pg3 hh, c_pg4 hh, c_pg5 hh, c_pg6 hh, c_pg7 hh, c_q31 hh, c_q39 hh, c_op7 hh, c_op8 hh, c_op9 hh, c_kp0 hh, c_kp1 hh, c_kp5 hh, c_kp6 hh, c_wp1 hh, c_wp2 hh, c_wp3 hh, c_wp7 hh, c_wp8 hh, c_pp0 hh, c_pp1 hh, c_pp2 hh, c_pp6 hh, c_pp7 hh, c_r32 hh, c_r34 hh, c_r35 hh, c_r36 hh, c_r38 hh, c_r40 hh, c_r41 hh, c_r57 hh, c_r58 hh, c_s32 hh, c_s34 hh, c_s35 hh, c_s36 hh, c_s38 hh, c_s40 hh, c_s41 hh, c_s57 hh, c_s58 hh, zI_add, zI_sub, zI_mul, zI_neg, zL_add, zL_sub, zL_mul, Option.bind_some, Option.toList_some, Option.toList_none, List.cons_append, List.nil_append, zI_lt, zI_le, zI_eq, zI_eq0, zI_lt0, zI_le0, zI_0lt, zI_0le, bZ_e0, up2_s, up2_2, e6, ex2]
        by_cases v : txX t s = 59
        · rw [if_pos v, if_pos v]
        · rw [if_neg v, if_neg v]
  · rw [if_neg z, if_pos (show t 0 3 ≤ s by omega), if_pos (show t 0 3 ≤ s by omega)]
    simp (disch := first | omega | assumption) only [s_X1_nextToken_31, s_X1_nextToken_32]
end

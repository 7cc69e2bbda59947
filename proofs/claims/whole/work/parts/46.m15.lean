/-! THE REFERENCE, part 15: all ways: what is beside behind, an end -/
section
variable {h : xH} {a : Nat} {t : Nat → Nat → Int} {d : Nat}
def nbF (W S x : Int) : Nat → Int → Int
  | 0, _ => -1
  | n + 1, b => if bes W S x b = true then b else nbF W S x n (b + 1)
theorem l_beside {x l : Int} (ha : a + 12 ≤ h.1) (hW : 2 ≤ t 1 0 ∧ t 1 0 ≤ 5) (hq : sqN t 0 ≤ 25) (hx0 : 0 ≤ x) (hx1 : x < 25) : ∀ (n : Nat) (b : Int), b + n = sqN t 0 → 0 ≤ b → x_ev (d + 2, n_X8_besideBehind, 4, [.ref a, .int (zI x), .int (zI l), .int (zI b)], [], mH h a t) = some (some (.int (zI (nbF (t 1 0) (t 1 4) x n b))), mH h a t) := by
  have e0 : t 1 0 * t 1 1 = sqN t 0 := rfl
  intro n
  induction n with
  | zero =>
    intro b hb h0
    rw [s_X8_besideBehind_4]
    simp (disch := first | omega | assumption) only [s_X8_besideBehind_5, s_X8_besideBehind_6, s_X8_besideBehind_7, s_X8_besideBehind_10, mH_obj ha, m_g0 ha, m_g1 ha, m_g2 ha, m_g3 ha, m_g4 ha, m_g5 ha, m_g6 ha, m_g7 ha, m_g8 ha, m_g9 ha, m_g10 ha, m_g11 ha, m_g12 ha, m_g13 ha, m_g14 ha, m_g15 ha, m_g16 ha, m_g17 ha, m_g18 ha, m_g19 ha, m_g20 ha, m_p3 ha, m_p7 ha, m_p8 ha, m_p9 ha, m_p12 ha, m_p16 ha, m_p17 ha, m_p18 ha, m_p19 ha, m_p20 ha, m_r1 ha, m_r2 ha, m_r3 ha, m_r4 ha, m_r5 ha, m_r6 ha, m_r7 ha, m_r8 ha, m_r9 ha, m_r10 ha, m_r11 ha, m_s1 ha, m_s2 ha, m_s3 ha, m_s4 ha, m_s5 ha, m_s6 ha, m_s7 ha, m_s8 ha, m_s9 ha, m_s10 ha, m_s11 ha, zI_add, zI_sub, zI_mul, zI_neg, zL_add, zL_sub, zL_mul, Option.bind_some, Option.toList_some, Option.toList_none, List.cons_append, List.nil_append, zI_lt, zI_le, zI_eq, zI_eq0, zI_lt0, zI_le0, zI_0lt, zI_0le, bZ_e0, Int.add_zero, Int.zero_add, c_squaresOf ha, Int.reduceToNat, Int.reduceAdd, e0]
    rw [if_pos (by omega)]
    simp (disch := first | omega | assumption) only [s_X8_besideBehind_30, s_X8_besideBehind_31, mH_obj ha, m_g0 ha, m_g1 ha, m_g2 ha, m_g3 ha, m_g4 ha, m_g5 ha, m_g6 ha, m_g7 ha, m_g8 ha, m_g9 ha, m_g10 ha, m_g11 ha, m_g12 ha, m_g13 ha, m_g14 ha, m_g15 ha, m_g16 ha, m_g17 ha, m_g18 ha, m_g19 ha, m_g20 ha, m_p3 ha, m_p7 ha, m_p8 ha, m_p9 ha, m_p12 ha, m_p16 ha, m_p17 ha, m_p18 ha, m_p19 ha, m_p20 ha, m_r1 ha, m_r2 ha, m_r3 ha, m_r4 ha, m_r5 ha, m_r6 ha, m_r7 ha, m_r8 ha, m_r9 ha, m_r10 ha, m_r11 ha, m_s1 ha, m_s2 ha, m_s3 ha, m_s4 ha, m_s5 ha, m_s6 ha, m_s7 ha, m_s8 ha, m_s9 ha, m_s10 ha, m_s11 ha, zI_add, zI_sub, zI_mul, zI_neg, zL_add, zL_sub, zL_mul, Option.bind_some, Option.toList_some, Option.toList_none, List.cons_append, List.nil_append, zI_lt, zI_le, zI_eq, zI_eq0, zI_lt0, zI_le0, zI_0lt, zI_0le, bZ_e0, Int.add_zero, Int.zero_add]
    rfl
  | succ n ih =>
    intro b hb h0
    rw [s_X8_besideBehind_4]
    simp (disch := first | omega | assumption) only [s_X8_besideBehind_5, s_X8_besideBehind_6, s_X8_besideBehind_7, s_X8_besideBehind_10, mH_obj ha, m_g0 ha, m_g1 ha, m_g2 ha, m_g3 ha, m_g4 ha, m_g5 ha, m_g6 ha, m_g7 ha, m_g8 ha, m_g9 ha, m_g10 ha, m_g11 ha, m_g12 ha, m_g13 ha, m_g14 ha, m_g15 ha, m_g16 ha, m_g17 ha, m_g18 ha, m_g19 ha, m_g20 ha, m_p3 ha, m_p7 ha, m_p8 ha, m_p9 ha, m_p12 ha, m_p16 ha, m_p17 ha, m_p18 ha, m_p19 ha, m_p20 ha, m_r1 ha, m_r2 ha, m_r3 ha, m_r4 ha, m_r5 ha, m_r6 ha, m_r7 ha, m_r8 ha, m_r9 ha, m_r10 ha, m_r11 ha, m_s1 ha, m_s2 ha, m_s3 ha, m_s4 ha, m_s5 ha, m_s6 ha, m_s7 ha, m_s8 ha, m_s9 ha, m_s10 ha, m_s11 ha, zI_add, zI_sub, zI_mul, zI_neg, zL_add, zL_sub, zL_mul, Option.bind_some, Option.toList_some, Option.toList_none, List.cons_append, List.nil_append, zI_lt, zI_le, zI_eq, zI_eq0, zI_lt0, zI_le0, zI_0lt, zI_0le, bZ_e0, Int.add_zero, Int.zero_add, c_squaresOf ha, Int.reduceToNat, Int.reduceAdd, e0]
    rw [if_neg (by omega)]
    have hc := c_isBeside (d := d) (h := h) (a := a) (t := t) (x := x) (y := b) ha hW.1 hW.2 hx0 hx1 h0 (by omega)
    simp (disch := first | omega | assumption) only [s_X8_besideBehind_13, s_X8_besideBehind_14, s_X8_besideBehind_15, s_X8_besideBehind_16, s_X8_besideBehind_19, s_X8_besideBehind_22, s_X8_besideBehind_23, mH_obj ha, m_g0 ha, m_g1 ha, m_g2 ha, m_g3 ha, m_g4 ha, m_g5 ha, m_g6 ha, m_g7 ha, m_g8 ha, m_g9 ha, m_g10 ha, m_g11 ha, m_g12 ha, m_g13 ha, m_g14 ha, m_g15 ha, m_g16 ha, m_g17 ha, m_g18 ha, m_g19 ha, m_g20 ha, m_p3 ha, m_p7 ha, m_p8 ha, m_p9 ha, m_p12 ha, m_p16 ha, m_p17 ha, m_p18 ha, m_p19 ha, m_p20 ha, m_r1 ha, m_r2 ha, m_r3 ha, m_r4 ha, m_r5 ha, m_r6 ha, m_r7 ha, m_r8 ha, m_r9 ha, m_r10 ha, m_r11 ha, m_s1 ha, m_s2 ha, m_s3 ha, m_s4 ha, m_s5 ha, m_s6 ha, m_s7 ha, m_s8 ha, m_s9 ha, m_s10 ha, m_s11 ha, zI_add, zI_sub, zI_mul, zI_neg, zL_add, zL_sub, zL_mul, Option.bind_some, Option.toList_some, Option.toList_none, List.cons_append, List.nil_append, zI_lt, zI_le, zI_eq, zI_eq0, zI_lt0, zI_le0, zI_0lt, zI_0le, bZ_e0, Int.add_zero, Int.zero_add, hc, ite_not]
    rw [nbF]
    by_cases z : bes (t 1 0) (t 1 4) x b = true
    · rw [if_pos z, if_pos z]
    · rw [if_neg z, if_neg z]
      simp (disch := first | omega | assumption) only [s_X8_besideBehind_24, s_X8_besideBehind_27, mH_obj ha, m_g0 ha, m_g1 ha, m_g2 ha, m_g3 ha, m_g4 ha, m_g5 ha, m_g6 ha, m_g7 ha, m_g8 ha, m_g9 ha, m_g10 ha, m_g11 ha, m_g12 ha, m_g13 ha, m_g14 ha, m_g15 ha, m_g16 ha, m_g17 ha, m_g18 ha, m_g19 ha, m_g20 ha, m_p3 ha, m_p7 ha, m_p8 ha, m_p9 ha, m_p12 ha, m_p16 ha, m_p17 ha, m_p18 ha, m_p19 ha, m_p20 ha, m_r1 ha, m_r2 ha, m_r3 ha, m_r4 ha, m_r5 ha, m_r6 ha, m_r7 ha, m_r8 ha, m_r9 ha, m_r10 ha, m_r11 ha, m_s1 ha, m_s2 ha, m_s3 ha, m_s4 ha, m_s5 ha, m_s6 ha, m_s7 ha, m_s8 ha, m_s9 ha, m_s10 ha, m_s11 ha, zI_add, zI_sub, zI_mul, zI_neg, zL_add, zL_sub, zL_mul, Option.bind_some, Option.toList_some, Option.toList_none, List.cons_append, List.nil_append, zI_lt, zI_le, zI_eq, zI_eq0, zI_lt0, zI_le0, zI_0lt, zI_0le, bZ_e0, Int.add_zero, Int.zero_add]
      exact ih (b + 1) (by omega) (by omega)
theorem c_beside {x l : Int} (ha : a + 12 ≤ h.1) (hW : 2 ≤ t 1 0 ∧ t 1 0 ≤ 5) (hq : sqN t 0 ≤ 25) (hx0 : 0 ≤ x) (hx1 : x < 25) (hl : -1 ≤ l) (hl2 : l < sqN t 0) : x_cl (d + 2) n_X8_besideBehind [.ref a, .int (zI x), .int (zI l)] (mH h a t) = some (some (.int (zI (nbF (t 1 0) (t 1 4) x (sqN t 0 - (l + 1)).toNat (l + 1)))), mH h a t) := by
  simp (disch := first | omega | assumption) only [e_X8_besideBehind, s_X8_besideBehind_0, s_X8_besideBehind_1, s_X8_besideBehind_2, s_X8_besideBehind_3, mH_obj ha, m_g0 ha, m_g1 ha, m_g2 ha, m_g3 ha, m_g4 ha, m_g5 ha, m_g6 ha, m_g7 ha, m_g8 ha, m_g9 ha, m_g10 ha, m_g11 ha, m_g12 ha, m_g13 ha, m_g14 ha, m_g15 ha, m_g16 ha, m_g17 ha, m_g18 ha, m_g19 ha, m_g20 ha, m_p3 ha, m_p7 ha, m_p8 ha, m_p9 ha, m_p12 ha, m_p16 ha, m_p17 ha, m_p18 ha, m_p19 ha, m_p20 ha, m_r1 ha, m_r2 ha, m_r3 ha, m_r4 ha, m_r5 ha, m_r6 ha, m_r7 ha, m_r8 ha, m_r9 ha, m_r10 ha, m_r11 ha, m_s1 ha, m_s2 ha, m_s3 ha, m_s4 ha, m_s5 ha, m_s6 ha, m_s7 ha, m_s8 ha, m_s9 ha, m_s10 ha, m_s11 ha, zI_add, zI_sub, zI_mul, zI_neg, zL_add, zL_sub, zL_mul, Option.bind_some, Option.toList_some, Option.toList_none, List.cons_append, List.nil_append, zI_lt, zI_le, zI_eq, zI_eq0, zI_lt0, zI_le0, zI_0lt, zI_0le, bZ_e0, Int.add_zero, Int.zero_add]
  exact l_beside ha hW hq hx0 hx1 _ _ (by omega) (by omega)
/-- what is asked of a reader in the end -/
def okP (t : Nat → Nat → Int) (who : Int) (by' : Bool) (lf : Int → Int) (p : Int) : Bool := if by' = true then decide (t 1 (16 + p).toNat - lf p = t 1 (41 + p).toNat) else (!hasB who p || decide (lf p = 0))
def okA (t : Nat → Nat → Int) (who : Int) (by' : Bool) (lf : Int → Int) : Nat → Bool
  | 0 => true
  | n + 1 => okA t who by' lf n && okP t who by' lf n
theorem l_end1 {m who : Int} {by' : Bool} (ha : a + 12 ≤ h.1) (hm : 0 ≤ m ∧ m ≤ 6) (h5 : t 1 5 ≤ 5) (hR : ∀ p, 0 ≤ p → p < t 1 5 → (1 ≤ t 1 (16 + p).toNat ∧ t 1 (16 + p).toNat ≤ 20) ∧ (0 ≤ t 1 (41 + p).toNat ∧ t 1 (41 + p).toNat ≤ 20) ∧ (0 ≤ t 7 (5 * m + p).toNat ∧ t 7 (5 * m + p).toNat ≤ 20)) : ∀ (n k : Nat) (l6 : Value), (k : Int) + n = t 1 5 → ∃ l6',
    x_ev (d + 1, n_X8_end, 6, [.ref a, .int (zI m), .int (zI who), .int (zI (bZ (by' = true))), .int (zI (bZ (okA t who by' (fun p => t 7 (5 * m + p).toNat) k = true))), .int (zI k), l6], [], mH h a t) = x_ev (d + 1, n_X8_end, 95, [.ref a, .int (zI m), .int (zI who), .int (zI (bZ (by' = true))), .int (zI (bZ (okA t who by' (fun p => t 7 (5 * m + p).toNat) (k + n) = true))), .int (zI (t 1 5)), l6'], [], mH h a t) := by
  intro n
  induction n with
  | zero =>
    intro k l6 hk
    refine ⟨l6, ?_⟩
    rw [s_X8_end_6]
    simp (disch := first | omega | assumption) only [s_X8_end_8, s_X8_end_9, s_X8_end_12, s_X8_end_13, s_X8_end_14, mH_obj ha, m_g0 ha, m_g1 ha, m_g2 ha, m_g3 ha, m_g4 ha, m_g5 ha, m_g6 ha, m_g7 ha, m_g8 ha, m_g9 ha, m_g10 ha, m_g11 ha, m_g12 ha, m_g13 ha, m_g14 ha, m_g15 ha, m_g16 ha, m_g17 ha, m_g18 ha, m_g19 ha, m_g20 ha, m_p3 ha, m_p7 ha, m_p8 ha, m_p9 ha, m_p12 ha, m_p16 ha, m_p17 ha, m_p18 ha, m_p19 ha, m_p20 ha, m_r1 ha, m_r2 ha, m_r3 ha, m_r4 ha, m_r5 ha, m_r6 ha, m_r7 ha, m_r8 ha, m_r9 ha, m_r10 ha, m_r11 ha, m_s1 ha, m_s2 ha, m_s3 ha, m_s4 ha, m_s5 ha, m_s6 ha, m_s7 ha, m_s8 ha, m_s9 ha, m_s10 ha, m_s11 ha, zI_add, zI_sub, zI_mul, zI_neg, zL_add, zL_sub, zL_mul, Option.bind_some, Option.toList_some, Option.toList_none, List.cons_append, List.nil_append, zI_lt, zI_le, zI_eq, zI_eq0, zI_lt0, zI_le0, zI_0lt, zI_0le, bZ_e0, Int.add_zero, Int.zero_add, Int.reduceToNat]
    rw [if_pos (by omega), show (k : Int) = t 1 5 by omega]
    rfl
  | succ n ih =>
    intro k l6 hk
    obtain ⟨r1, r2, r3⟩ := hR k (by omega) (by omega)
    rw [s_X8_end_6]
    simp (disch := first | omega | assumption) only [s_X8_end_8, s_X8_end_9, s_X8_end_12, s_X8_end_13, s_X8_end_14, mH_obj ha, m_g0 ha, m_g1 ha, m_g2 ha, m_g3 ha, m_g4 ha, m_g5 ha, m_g6 ha, m_g7 ha, m_g8 ha, m_g9 ha, m_g10 ha, m_g11 ha, m_g12 ha, m_g13 ha, m_g14 ha, m_g15 ha, m_g16 ha, m_g17 ha, m_g18 ha, m_g19 ha, m_g20 ha, m_p3 ha, m_p7 ha, m_p8 ha, m_p9 ha, m_p12 ha, m_p16 ha, m_p17 ha, m_p18 ha, m_p19 ha, m_p20 ha, m_r1 ha, m_r2 ha, m_r3 ha, m_r4 ha, m_r5 ha, m_r6 ha, m_r7 ha, m_r8 ha, m_r9 ha, m_r10 ha, m_r11 ha, m_s1 ha, m_s2 ha, m_s3 ha, m_s4 ha, m_s5 ha, m_s6 ha, m_s7 ha, m_s8 ha, m_s9 ha, m_s10 ha, m_s11 ha, zI_add, zI_sub, zI_mul, zI_neg, zL_add, zL_sub, zL_mul, Option.bind_some, Option.toList_some, Option.toList_none, List.cons_append, List.nil_append, zI_lt, zI_le, zI_eq, zI_eq0, zI_lt0, zI_le0, zI_0lt, zI_0le, bZ_e0, Int.add_zero, Int.zero_add, Int.reduceToNat]
    rw [if_neg (by omega)]
    simp (disch := first | omega | assumption) only [s_X8_end_17, s_X8_end_18, s_X8_end_21, s_X8_end_22, s_X8_end_23, s_X8_end_24, s_X8_end_26, s_X8_end_27, s_X8_end_28, s_X8_end_30, s_X8_end_32, s_X8_end_35, s_X8_end_36, s_X8_end_39, s_X8_end_40, s_X8_end_43, s_X8_end_45, s_X8_end_47, s_X8_end_48, s_X8_end_49, s_X8_end_51, s_X8_end_52, s_X8_end_53, s_X8_end_56, s_X8_end_58, s_X8_end_60, s_X8_end_61, s_X8_end_62, s_X8_end_65, s_X8_end_68, s_X8_end_69, s_X8_end_71, s_X8_end_74, s_X8_end_77, s_X8_end_79, s_X8_end_82, s_X8_end_83, s_X8_end_86, mH_obj ha, m_g0 ha, m_g1 ha, m_g2 ha, m_g3 ha, m_g4 ha, m_g5 ha, m_g6 ha, m_g7 ha, m_g8 ha, m_g9 ha, m_g10 ha, m_g11 ha, m_g12 ha, m_g13 ha, m_g14 ha, m_g15 ha, m_g16 ha, m_g17 ha, m_g18 ha, m_g19 ha, m_g20 ha, m_p3 ha, m_p7 ha, m_p8 ha, m_p9 ha, m_p12 ha, m_p16 ha, m_p17 ha, m_p18 ha, m_p19 ha, m_p20 ha, m_r1 ha, m_r2 ha, m_r3 ha, m_r4 ha, m_r5 ha, m_r6 ha, m_r7 ha, m_r8 ha, m_r9 ha, m_r10 ha, m_r11 ha, m_s1 ha, m_s2 ha, m_s3 ha, m_s4 ha, m_s5 ha, m_s6 ha, m_s7 ha, m_s8 ha, m_s9 ha, m_s10 ha, m_s11 ha, zI_add, zI_sub, zI_mul, zI_neg, zL_add, zL_sub, zL_mul, Option.bind_some, Option.toList_some, Option.toList_none, List.cons_append, List.nil_append, zI_lt, zI_le, zI_eq, zI_eq0, zI_lt0, zI_le0, zI_0lt, zI_0le, bZ_e0, Int.add_zero, Int.zero_add, c_has, x_j1, ite_not]
    have e0 : (if okA t who by' (fun p => t 7 (5 * m + p).toNat) k = true then (if by' = true then (if t 1 (16 + (k : Int)).toNat - t 7 (5 * m + (k : Int)).toNat = t 1 (41 + (k : Int)).toNat then (1 : Int) else 0) else if hasB who k = true then (if t 7 (5 * m + (k : Int)).toNat = 0 then 1 else 0) else 1) else 0) = bZ (okA t who by' (fun p => t 7 (5 * m + p).toNat) (k + 1) = true) := by
      rw [okA]
      by_cases z1 : okA t who by' (fun p => t 7 (5 * m + p).toNat) k = true
      · rw [if_pos z1, z1, Bool.true_and]
        unfold okP
        by_cases z2 : by' = true
        · rw [if_pos z2]
          simp only [if_pos z2]
          by_cases z3 : t 1 (16 + (k : Int)).toNat - t 7 (5 * m + (k : Int)).toNat = t 1 (41 + (k : Int)).toNat
          · rw [if_pos z3, bZ_t (decide_eq_true z3)]
          · rw [if_neg z3, bZ_f (by rw [decide_eq_true_eq]; exact z3)]
        · rw [if_neg z2]
          simp only [if_neg z2]
          by_cases z3 : hasB who k = true
          · rw [if_pos z3, z3]
            by_cases z4 : t 7 (5 * m + (k : Int)).toNat = 0
            · rw [if_pos z4, bZ_t (by rw [decide_eq_true z4]; rfl)]
            · rw [if_neg z4, bZ_f (by rw [decide_eq_false z4]; decide)]
          · rw [if_neg z3, bZ_t (by simp [z3])]
      · rw [if_neg z1, bZ_f (by simp [z1])]
    have e1 : (k : Int) + 1 = ((k + 1 : Nat) : Int) := by omega
    rw [e0]
    simp (disch := first | omega | assumption) only [s_X8_end_87, s_X8_end_89, s_X8_end_92, mH_obj ha, m_g0 ha, m_g1 ha, m_g2 ha, m_g3 ha, m_g4 ha, m_g5 ha, m_g6 ha, m_g7 ha, m_g8 ha, m_g9 ha, m_g10 ha, m_g11 ha, m_g12 ha, m_g13 ha, m_g14 ha, m_g15 ha, m_g16 ha, m_g17 ha, m_g18 ha, m_g19 ha, m_g20 ha, m_p3 ha, m_p7 ha, m_p8 ha, m_p9 ha, m_p12 ha, m_p16 ha, m_p17 ha, m_p18 ha, m_p19 ha, m_p20 ha, m_r1 ha, m_r2 ha, m_r3 ha, m_r4 ha, m_r5 ha, m_r6 ha, m_r7 ha, m_r8 ha, m_r9 ha, m_r10 ha, m_r11 ha, m_s1 ha, m_s2 ha, m_s3 ha, m_s4 ha, m_s5 ha, m_s6 ha, m_s7 ha, m_s8 ha, m_s9 ha, m_s10 ha, m_s11 ha, zI_add, zI_sub, zI_mul, zI_neg, zL_add, zL_sub, zL_mul, Option.bind_some, Option.toList_some, Option.toList_none, List.cons_append, List.nil_append, zI_lt, zI_le, zI_eq, zI_eq0, zI_lt0, zI_le0, zI_0lt, zI_0le, bZ_e0, Int.add_zero, Int.zero_add]
    rw [e1, show k + (n + 1) = k + 1 + n by omega]
    exact ih (k + 1) _ (by omega)
/-- the way is the best so far: from place k on -/
def bpT (t : Nat → Nat → Int) (k m : Nat) : Nat → Nat → Int := fun i j => if i = 10 ∧ k ≤ j ∧ j ≤ m then t 9 j else t i j
theorem bpT_i {k m j : Nat} (h1 : k ≤ j) (h2 : j ≤ m) : bpT t k m 10 j = t 9 j := by
  unfold bpT
  exact if_pos ⟨rfl, h1, h2⟩
theorem bpT_o {k m i j : Nat} (h1 : ¬ (i = 10 ∧ k ≤ j ∧ j ≤ m)) : bpT t k m i j = t i j := by
  unfold bpT
  exact if_neg h1
theorem l_end2 {m : Nat} {who by' is : Int32} {l6 : Value} (ha : a + 12 ≤ h.1) (hm : m ≤ 6) : ∀ (n k : Nat) (t : Nat → Nat → Int), k + n = m + 1 → x_ev (d + 1, n_X8_end, 158, [.ref a, .int (zI m), .int who, .int by', .int is, .int (zI k), l6], [], mH h a t) = some (none, mH h a (bpT t k m)) := by
  intro n
  induction n with
  | zero =>
    intro k t hk
    rw [s_X8_end_158]
    simp (disch := first | omega | assumption) only [s_X8_end_160, s_X8_end_161, mH_obj ha, m_g0 ha, m_g1 ha, m_g2 ha, m_g3 ha, m_g4 ha, m_g5 ha, m_g6 ha, m_g7 ha, m_g8 ha, m_g9 ha, m_g10 ha, m_g11 ha, m_g12 ha, m_g13 ha, m_g14 ha, m_g15 ha, m_g16 ha, m_g17 ha, m_g18 ha, m_g19 ha, m_g20 ha, m_p3 ha, m_p7 ha, m_p8 ha, m_p9 ha, m_p12 ha, m_p16 ha, m_p17 ha, m_p18 ha, m_p19 ha, m_p20 ha, m_r1 ha, m_r2 ha, m_r3 ha, m_r4 ha, m_r5 ha, m_r6 ha, m_r7 ha, m_r8 ha, m_r9 ha, m_r10 ha, m_r11 ha, m_s1 ha, m_s2 ha, m_s3 ha, m_s4 ha, m_s5 ha, m_s6 ha, m_s7 ha, m_s8 ha, m_s9 ha, m_s10 ha, m_s11 ha, zI_add, zI_sub, zI_mul, zI_neg, zL_add, zL_sub, zL_mul, Option.bind_some, Option.toList_some, Option.toList_none, List.cons_append, List.nil_append, zI_lt, zI_le, zI_eq, zI_eq0, zI_lt0, zI_le0, zI_0lt, zI_0le, bZ_e0, Int.add_zero, Int.zero_add]
    rw [if_pos (by omega)]
    simp only [s_X8_end_184]
    congr 3
    funext i j
    rw [bpT_o (by omega)]
  | succ n ih =>
    intro k t hk
    rw [s_X8_end_158]
    simp (disch := first | omega | assumption) only [s_X8_end_160, s_X8_end_161, mH_obj ha, m_g0 ha, m_g1 ha, m_g2 ha, m_g3 ha, m_g4 ha, m_g5 ha, m_g6 ha, m_g7 ha, m_g8 ha, m_g9 ha, m_g10 ha, m_g11 ha, m_g12 ha, m_g13 ha, m_g14 ha, m_g15 ha, m_g16 ha, m_g17 ha, m_g18 ha, m_g19 ha, m_g20 ha, m_p3 ha, m_p7 ha, m_p8 ha, m_p9 ha, m_p12 ha, m_p16 ha, m_p17 ha, m_p18 ha, m_p19 ha, m_p20 ha, m_r1 ha, m_r2 ha, m_r3 ha, m_r4 ha, m_r5 ha, m_r6 ha, m_r7 ha, m_r8 ha, m_r9 ha, m_r10 ha, m_r11 ha, m_s1 ha, m_s2 ha, m_s3 ha, m_s4 ha, m_s5 ha, m_s6 ha, m_s7 ha, m_s8 ha, m_s9 ha, m_s10 ha, m_s11 ha, zI_add, zI_sub, zI_mul, zI_neg, zL_add, zL_sub, zL_mul, Option.bind_some, Option.toList_some, Option.toList_none, List.cons_append, List.nil_append, zI_lt, zI_le, zI_eq, zI_eq0, zI_lt0, zI_le0, zI_0lt, zI_0le, bZ_e0, Int.add_zero, Int.zero_add]
    rw [if_neg (by omega)]
    simp (disch := first | omega | assumption) only [s_X8_end_164, s_X8_end_165, s_X8_end_168, s_X8_end_170, s_X8_end_171, s_X8_end_174, s_X8_end_176, s_X8_end_177, s_X8_end_178, s_X8_end_181, mH_obj ha, m_g0 ha, m_g1 ha, m_g2 ha, m_g3 ha, m_g4 ha, m_g5 ha, m_g6 ha, m_g7 ha, m_g8 ha, m_g9 ha, m_g10 ha, m_g11 ha, m_g12 ha, m_g13 ha, m_g14 ha, m_g15 ha, m_g16 ha, m_g17 ha, m_g18 ha, m_g19 ha, m_g20 ha, m_p3 ha, m_p7 ha, m_p8 ha, m_p9 ha, m_p12 ha, m_p16 ha, m_p17 ha, m_p18 ha, m_p19 ha, m_p20 ha, m_r1 ha, m_r2 ha, m_r3 ha, m_r4 ha, m_r5 ha, m_r6 ha, m_r7 ha, m_r8 ha, m_r9 ha, m_r10 ha, m_r11 ha, m_s1 ha, m_s2 ha, m_s3 ha, m_s4 ha, m_s5 ha, m_s6 ha, m_s7 ha, m_s8 ha, m_s9 ha, m_s10 ha, m_s11 ha, zI_add, zI_sub, zI_mul, zI_neg, zL_add, zL_sub, zL_mul, Option.bind_some, Option.toList_some, Option.toList_none, List.cons_append, List.nil_append, zI_lt, zI_le, zI_eq, zI_eq0, zI_lt0, zI_le0, zI_0lt, zI_0le, bZ_e0, Int.add_zero, Int.zero_add]
    have e1 : (k : Int) + 1 = ((k + 1 : Nat) : Int) := by omega
    rw [e1, Int.toNat_natCast, ih (k + 1) _ (by omega)]
    congr 3
    funext i j
    by_cases q : i = 10 ∧ k ≤ j ∧ j ≤ m
    · rw [q.1, bpT_i q.2.1 q.2.2]
      by_cases q1 : j = k
      · rw [q1, bpT_o (by omega), up2_s]
      · rw [bpT_i (by omega) q.2.2, up2_n (by omega)]
    · rw [bpT_o (by omega), bpT_o q, up2_n (by omega)]
def orB (e q : Int) : Int := (zI e ||| (zI 1 <<< (zI q &&& 31))).toInt
theorem orB_z (e q : Int) : zI e ||| (zI 1 <<< (zI q &&& 31)) = zI (orB e q) := zI_of _
def fnT (t : Nat → Nat → Int) (m : Nat) : Nat → Nat → Int := up2 (up2 t 0 17 (t 0 17 + 1)) 0 18 (orB (t 0 18) (t 9 m))
def edT (t : Nat → Nat → Int) (m : Nat) (ok : Bool) : Nat → Nat → Int := if ok = true then (if t 0 16 < t 11 m then bpT (up2 (fnT t m) 0 16 (t 11 m)) 1 m else fnT t m) else t
theorem c_end {m : Nat} {who : Int} {by' : Bool} (ha : a + 12 ≤ h.1) (hm : m ≤ 6) (h5 : 0 ≤ t 1 5 ∧ t 1 5 ≤ 5) (hR : ∀ p, 0 ≤ p → p < t 1 5 → (1 ≤ t 1 (16 + p).toNat ∧ t 1 (16 + p).toNat ≤ 20) ∧ (0 ≤ t 1 (41 + p).toNat ∧ t 1 (41 + p).toNat ≤ 20) ∧ (0 ≤ t 7 (5 * (m : Int) + p).toNat ∧ t 7 (5 * (m : Int) + p).toNat ≤ 20)) (hs : -1 ≤ t 11 m ∧ t 11 m ≤ 100000) (hmo : -1 ≤ t 0 16 ∧ t 0 16 ≤ 100000) :
    x_cl (d + 1) n_X8_end [.ref a, .int (zI m), .int (zI who), .int (zI (bZ (by' = true)))] (mH h a t) = some (none, mH h a (edT t m (okA t who by' (fun p => t 7 (5 * (m : Int) + p).toNat) (t 1 5).toNat))) := by
  obtain ⟨l6, e1⟩ := l_end1 (d := d) (h := h) (a := a) (t := t) (m := m) (who := who) (by' := by') ha (by omega) h5.2 hR (t 1 5).toNat 0 .null (by omega)
  rw [Nat.zero_add] at e1
  simp only [e_X8_end, s_X8_end_0, s_X8_end_1, s_X8_end_3, s_X8_end_4]
  refine e1.trans ?_
  unfold edT
  generalize okA t who by' (fun p => t 7 (5 * (m : Int) + p).toNat) (t 1 5).toNat = ok
  cases ok with
  | false =>
    simp (disch := first | omega | assumption) only [s_X8_end_95, s_X8_end_97, mH_obj ha, m_g0 ha, m_g1 ha, m_g2 ha, m_g3 ha, m_g4 ha, m_g5 ha, m_g6 ha, m_g7 ha, m_g8 ha, m_g9 ha, m_g10 ha, m_g11 ha, m_g12 ha, m_g13 ha, m_g14 ha, m_g15 ha, m_g16 ha, m_g17 ha, m_g18 ha, m_g19 ha, m_g20 ha, m_p3 ha, m_p7 ha, m_p8 ha, m_p9 ha, m_p12 ha, m_p16 ha, m_p17 ha, m_p18 ha, m_p19 ha, m_p20 ha, m_r1 ha, m_r2 ha, m_r3 ha, m_r4 ha, m_r5 ha, m_r6 ha, m_r7 ha, m_r8 ha, m_r9 ha, m_r10 ha, m_r11 ha, m_s1 ha, m_s2 ha, m_s3 ha, m_s4 ha, m_s5 ha, m_s6 ha, m_s7 ha, m_s8 ha, m_s9 ha, m_s10 ha, m_s11 ha, zI_add, zI_sub, zI_mul, zI_neg, zL_add, zL_sub, zL_mul, Option.bind_some, Option.toList_some, Option.toList_none, List.cons_append, List.nil_append, zI_lt, zI_le, zI_eq, zI_eq0, zI_lt0, zI_le0, zI_0lt, zI_0le, bZ_e0, Int.add_zero, Int.zero_add, Bool.false_eq_true, not_false_eq_true, if_true, if_false]
    simp (disch := first | omega | assumption) only [s_X8_end_127, s_X8_end_129, s_X8_end_184, mH_obj ha, m_g0 ha, m_g1 ha, m_g2 ha, m_g3 ha, m_g4 ha, m_g5 ha, m_g6 ha, m_g7 ha, m_g8 ha, m_g9 ha, m_g10 ha, m_g11 ha, m_g12 ha, m_g13 ha, m_g14 ha, m_g15 ha, m_g16 ha, m_g17 ha, m_g18 ha, m_g19 ha, m_g20 ha, m_p3 ha, m_p7 ha, m_p8 ha, m_p9 ha, m_p12 ha, m_p16 ha, m_p17 ha, m_p18 ha, m_p19 ha, m_p20 ha, m_r1 ha, m_r2 ha, m_r3 ha, m_r4 ha, m_r5 ha, m_r6 ha, m_r7 ha, m_r8 ha, m_r9 ha, m_r10 ha, m_r11 ha, m_s1 ha, m_s2 ha, m_s3 ha, m_s4 ha, m_s5 ha, m_s6 ha, m_s7 ha, m_s8 ha, m_s9 ha, m_s10 ha, m_s11 ha, zI_add, zI_sub, zI_mul, zI_neg, zL_add, zL_sub, zL_mul, Option.bind_some, Option.toList_some, Option.toList_none, List.cons_append, List.nil_append, zI_lt, zI_le, zI_eq, zI_eq0, zI_lt0, zI_le0, zI_0lt, zI_0le, bZ_e0, Int.add_zero, Int.zero_add, Bool.false_eq_true, not_false_eq_true, if_true, if_false]
  | true =>
    simp (disch := first | omega | assumption) only [s_X8_end_95, s_X8_end_97, mH_obj ha, m_g0 ha, m_g1 ha, m_g2 ha, m_g3 ha, m_g4 ha, m_g5 ha, m_g6 ha, m_g7 ha, m_g8 ha, m_g9 ha, m_g10 ha, m_g11 ha, m_g12 ha, m_g13 ha, m_g14 ha, m_g15 ha, m_g16 ha, m_g17 ha, m_g18 ha, m_g19 ha, m_g20 ha, m_p3 ha, m_p7 ha, m_p8 ha, m_p9 ha, m_p12 ha, m_p16 ha, m_p17 ha, m_p18 ha, m_p19 ha, m_p20 ha, m_r1 ha, m_r2 ha, m_r3 ha, m_r4 ha, m_r5 ha, m_r6 ha, m_r7 ha, m_r8 ha, m_r9 ha, m_r10 ha, m_r11 ha, m_s1 ha, m_s2 ha, m_s3 ha, m_s4 ha, m_s5 ha, m_s6 ha, m_s7 ha, m_s8 ha, m_s9 ha, m_s10 ha, m_s11 ha, zI_add, zI_sub, zI_mul, zI_neg, zL_add, zL_sub, zL_mul, Option.bind_some, Option.toList_some, Option.toList_none, List.cons_append, List.nil_append, zI_lt, zI_le, zI_eq, zI_eq0, zI_lt0, zI_le0, zI_0lt, zI_0le, bZ_e0, Int.add_zero, Int.zero_add, not_true_eq_false, if_true, if_false]
    simp (disch := first | omega | assumption) only [s_X8_end_100, s_X8_end_101, s_X8_end_102, s_X8_end_105, s_X8_end_106, s_X8_end_107, s_X8_end_110, s_X8_end_111, s_X8_end_112, s_X8_end_115, s_X8_end_116, s_X8_end_117, s_X8_end_120, s_X8_end_121, s_X8_end_122, s_X8_end_123, s_X8_end_124, s_X8_end_127, s_X8_end_129, mH_obj ha, m_g0 ha, m_g1 ha, m_g2 ha, m_g3 ha, m_g4 ha, m_g5 ha, m_g6 ha, m_g7 ha, m_g8 ha, m_g9 ha, m_g10 ha, m_g11 ha, m_g12 ha, m_g13 ha, m_g14 ha, m_g15 ha, m_g16 ha, m_g17 ha, m_g18 ha, m_g19 ha, m_g20 ha, m_p3 ha, m_p7 ha, m_p8 ha, m_p9 ha, m_p12 ha, m_p16 ha, m_p17 ha, m_p18 ha, m_p19 ha, m_p20 ha, m_r1 ha, m_r2 ha, m_r3 ha, m_r4 ha, m_r5 ha, m_r6 ha, m_r7 ha, m_r8 ha, m_r9 ha, m_r10 ha, m_r11 ha, m_s1 ha, m_s2 ha, m_s3 ha, m_s4 ha, m_s5 ha, m_s6 ha, m_s7 ha, m_s8 ha, m_s9 ha, m_s10 ha, m_s11 ha, zI_add, zI_sub, zI_mul, zI_neg, zL_add, zL_sub, zL_mul, Option.bind_some, Option.toList_some, Option.toList_none, List.cons_append, List.nil_append, zI_lt, zI_le, zI_eq, zI_eq0, zI_lt0, zI_le0, zI_0lt, zI_0le, bZ_e0, Int.add_zero, Int.zero_add, orB_z, up2_n, Int.toNat_natCast, not_true_eq_false, if_true, if_false]
    rw [show up2 (up2 t 0 17 (t 0 17 + 1)) 0 18 (orB (t 0 18) (t 9 m)) = fnT t m from rfl]
    have f16 : fnT t m 0 16 = t 0 16 := by unfold fnT; rw [up2_n (by omega), up2_n (by omega)]
    have f11 : fnT t m 11 m = t 11 m := by unfold fnT; rw [up2_n (by omega), up2_n (by omega)]
    simp (disch := first | omega | assumption) only [s_X8_end_132, s_X8_end_133, s_X8_end_136, s_X8_end_137, s_X8_end_138, s_X8_end_139, s_X8_end_142, mH_obj ha, m_g0 ha, m_g1 ha, m_g2 ha, m_g3 ha, m_g4 ha, m_g5 ha, m_g6 ha, m_g7 ha, m_g8 ha, m_g9 ha, m_g10 ha, m_g11 ha, m_g12 ha, m_g13 ha, m_g14 ha, m_g15 ha, m_g16 ha, m_g17 ha, m_g18 ha, m_g19 ha, m_g20 ha, m_p3 ha, m_p7 ha, m_p8 ha, m_p9 ha, m_p12 ha, m_p16 ha, m_p17 ha, m_p18 ha, m_p19 ha, m_p20 ha, m_r1 ha, m_r2 ha, m_r3 ha, m_r4 ha, m_r5 ha, m_r6 ha, m_r7 ha, m_r8 ha, m_r9 ha, m_r10 ha, m_r11 ha, m_s1 ha, m_s2 ha, m_s3 ha, m_s4 ha, m_s5 ha, m_s6 ha, m_s7 ha, m_s8 ha, m_s9 ha, m_s10 ha, m_s11 ha, zI_add, zI_sub, zI_mul, zI_neg, zL_add, zL_sub, zL_mul, Option.bind_some, Option.toList_some, Option.toList_none, List.cons_append, List.nil_append, zI_lt, zI_le, zI_eq, zI_eq0, zI_lt0, zI_le0, zI_0lt, zI_0le, bZ_e0, Int.add_zero, Int.zero_add, Int.toNat_natCast, f16, f11]
    by_cases z : t 0 16 < t 11 m
    · rw [if_neg (show ¬ t 11 m ≤ t 0 16 by omega), if_pos z]
      simp (disch := first | omega | assumption) only [s_X8_end_145, s_X8_end_146, s_X8_end_147, s_X8_end_150, s_X8_end_151, s_X8_end_152, s_X8_end_155, s_X8_end_156, mH_obj ha, m_g0 ha, m_g1 ha, m_g2 ha, m_g3 ha, m_g4 ha, m_g5 ha, m_g6 ha, m_g7 ha, m_g8 ha, m_g9 ha, m_g10 ha, m_g11 ha, m_g12 ha, m_g13 ha, m_g14 ha, m_g15 ha, m_g16 ha, m_g17 ha, m_g18 ha, m_g19 ha, m_g20 ha, m_p3 ha, m_p7 ha, m_p8 ha, m_p9 ha, m_p12 ha, m_p16 ha, m_p17 ha, m_p18 ha, m_p19 ha, m_p20 ha, m_r1 ha, m_r2 ha, m_r3 ha, m_r4 ha, m_r5 ha, m_r6 ha, m_r7 ha, m_r8 ha, m_r9 ha, m_r10 ha, m_r11 ha, m_s1 ha, m_s2 ha, m_s3 ha, m_s4 ha, m_s5 ha, m_s6 ha, m_s7 ha, m_s8 ha, m_s9 ha, m_s10 ha, m_s11 ha, zI_add, zI_sub, zI_mul, zI_neg, zL_add, zL_sub, zL_mul, Option.bind_some, Option.toList_some, Option.toList_none, List.cons_append, List.nil_append, zI_lt, zI_le, zI_eq, zI_eq0, zI_lt0, zI_le0, zI_0lt, zI_0le, bZ_e0, Int.add_zero, Int.zero_add, Int.toNat_natCast, f11]
      exact l_end2 ha hm m 1 _ (by omega)
    · rw [if_pos (show t 11 m ≤ t 0 16 by omega), if_neg z]
      simp only [s_X8_end_184]
end

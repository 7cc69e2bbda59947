/-! THE REFERENCE, part 1: small words, regions, what is set -/
-- @GLOBAL CMP = zI_lt, zI_le, zI_eq, zI_eq0, zI_lt0, zI_le0, zI_0lt, zI_0le, bZ_e0
-- @GLOBAL MALL = mH_obj ha, m_g0 ha, m_g1 ha, m_g2 ha, m_g3 ha, m_g4 ha, m_g5 ha, m_g6 ha, m_g7 ha, m_g8 ha, m_g9 ha, m_g10 ha, m_g11 ha, m_g12 ha, m_g13 ha, m_g14 ha, m_g15 ha, m_g16 ha, m_g17 ha, m_g18 ha, m_g19 ha, m_g20 ha, m_p3 ha, m_p7 ha, m_p8 ha, m_p9 ha, m_p12 ha, m_p16 ha, m_p17 ha, m_p18 ha, m_p19 ha, m_p20 ha, m_r1 ha, m_r2 ha, m_r3 ha, m_r4 ha, m_r5 ha, m_r6 ha, m_r7 ha, m_r8 ha, m_r9 ha, m_r10 ha, m_r11 ha, m_s1 ha, m_s2 ha, m_s3 ha, m_s4 ha, m_s5 ha, m_s6 ha, m_s7 ha, m_s8 ha, m_s9 ha, m_s10 ha, m_s11 ha, zI_add, zI_sub, zI_mul, zI_neg, zL_add, zL_sub, zL_mul, Option.bind_some, Option.toList_some, Option.toList_none, List.cons_append, List.nil_append, zI_lt, zI_le, zI_eq, zI_eq0, zI_lt0, zI_le0, zI_0lt, zI_0le, bZ_e0, Int.add_zero, Int.zero_add
section
variable {h : xH} {a : Nat} {t : Nat → Nat → Int} {d : Nat}
theorem some_ite {α : Type} {p : Prop} [Decidable p] {x y z : α} (h1 : p → x = z) (h2 : ¬ p → y = z) : (if p then x else y) = z := by
  by_cases q : p
  · rw [if_pos q]; exact h1 q
  · rw [if_neg q]; exact h2 q
theorem c_in {x lo hi : Int} (h1 : -2147483648 ≤ x) (h2 : x < 2147483648) (h3 : -2147483648 ≤ lo) (h4 : lo < 2147483648) (h5 : -2147483648 ≤ hi) (h6 : hi < 2147483648) : x_cl d n_X8_in [.long (zL x), .long (zL lo), .long (zL hi)] h = some (some (.int (zI (bZ (lo ≤ x ∧ x ≤ hi)))), h) := by
  simp only [e_X8_in, s_X8_in_0, s_X8_in_1, s_X8_in_2, s_X8_in_3, s_X8_in_6, s_X8_in_7, s_X8_in_9, s_X8_in_10, s_X8_in_13, s_X8_in_14, s_X8_in_17, s_X8_in_18_0, s_X8_in_18_1, s_X8_in_18_b, lg_cmp_lt, lg_cmp_gt]
  simp (disch := omega) only [zL_lt]
  by_cases q1 : x < lo
  · rw [if_pos q1, bZ_f (by omega)]
  · rw [if_neg q1]
    by_cases q2 : hi < x
    · rw [if_pos q2, bZ_f (by omega)]
    · rw [if_neg q2, bZ_t (by omega)]
def hasB (S k : Int) : Bool := decide (((zI S >>> (zI k &&& 31)) &&& zI 1) = zI 1)
theorem c_has {S k : Int} : x_cl d n_X8_has [.int (zI S), .int (zI k)] h = some (some (.int (zI (bZ (hasB S k = true)))), h) := by
  simp only [e_X8_has, s_X8_has_0, s_X8_has_1, s_X8_has_2, s_X8_has_3, s_X8_has_4, s_X8_has_5, s_X8_has_6, s_X8_has_9, s_X8_has_10, s_X8_has_13, s_X8_has_14_0, s_X8_has_14_1, s_X8_has_14_b]
  by_cases q : ((zI S >>> (zI k &&& 31)) &&& zI 1) = zI 1
  · rw [if_pos q, bZ_t (by unfold hasB; exact decide_eq_true q)]
  · rw [if_neg q, bZ_f (by unfold hasB; rw [decide_eq_true_eq]; exact q)]
theorem c_sizeOf {x : Int} (h1 : -2147483648 < x) (h2 : x < 2147483648) : x_cl d n_X8_sizeOf [.int (zI x)] h = some (some (.int (zI (x.natAbs : Int))), h) := by
  simp (disch := omega) only [e_X8_sizeOf, s_X8_sizeOf_0, s_X8_sizeOf_1, s_X8_sizeOf_4, s_X8_sizeOf_5, s_X8_sizeOf_6, s_X8_sizeOf_9, s_X8_sizeOf_10, zI_add, zI_sub, zI_mul, zI_neg, zL_add, zL_sub, zL_mul, zI_lt, zI_le, zI_eq, zI_eq0, zI_lt0, zI_le0, zI_0lt, zI_0le, bZ_e0]
  refine some_ite (fun q => ?_) (fun q => ?_)
  · rw [show (x.natAbs : Int) = x by omega]
  · rw [show (x.natAbs : Int) = -x by omega]
theorem c_lesser {x y : Int} (h1 : -2147483648 ≤ x) (h2 : x < 2147483648) (h3 : -2147483648 ≤ y) (h4 : y < 2147483648) : x_cl d n_X8_lesser [.int (zI x), .int (zI y)] h = some (some (.int (zI (min x y))), h) := by
  simp (disch := omega) only [e_X8_lesser, s_X8_lesser_0, s_X8_lesser_1, s_X8_lesser_2, s_X8_lesser_5, s_X8_lesser_6, s_X8_lesser_9, s_X8_lesser_10, zI_add, zI_sub, zI_mul, zI_neg, zL_add, zL_sub, zL_mul, zI_lt, zI_le, zI_eq, zI_eq0, zI_lt0, zI_le0, zI_0lt, zI_0le, bZ_e0]
  refine some_ite (fun q => ?_) (fun q => ?_)
  · rw [show min x y = y by omega]
  · rw [show min x y = x by omega]
theorem c_greater {x y : Int} (h1 : -2147483648 ≤ x) (h2 : x < 2147483648) (h3 : -2147483648 ≤ y) (h4 : y < 2147483648) : x_cl d n_X8_greater [.int (zI x), .int (zI y)] h = some (some (.int (zI (max x y))), h) := by
  simp (disch := omega) only [e_X8_greater, s_X8_greater_0, s_X8_greater_1, s_X8_greater_2, s_X8_greater_5, s_X8_greater_6, s_X8_greater_9, s_X8_greater_10, zI_add, zI_sub, zI_mul, zI_neg, zL_add, zL_sub, zL_mul, zI_lt, zI_le, zI_eq, zI_eq0, zI_lt0, zI_le0, zI_0lt, zI_0le, bZ_e0]
  refine some_ite (fun q => ?_) (fun q => ?_)
  · rw [show max x y = y by omega]
  · rw [show max x y = x by omega]
/-- what a refusal counts -/
def metT (t : Nat → Nat → Int) (v : Int) : Nat → Nat → Int := if v = -2 ∨ v = -3 ∨ v = -4 then up2 t 4 (-2 - v).toNat (t 4 (-2 - v).toNat + 1) else t
theorem c_met {v : Int} (ha : a + 12 ≤ h.1) (h1 : -2147483648 ≤ v) (h2 : v < 2147483648) : x_cl d n_X8_met [.ref a, .int (zI v)] (mH h a t) = some (some (.int (zI v)), mH h a (metT t v)) := by
  unfold metT
  by_cases q : v = -2 ∨ v = -3 ∨ v = -4
  · rw [if_pos q]
    simp (disch := omega) only [e_X8_met, s_X8_met_0, s_X8_met_1, s_X8_met_3, s_X8_met_6, s_X8_met_7, s_X8_met_9, s_X8_met_12, s_X8_met_13, s_X8_met_15, s_X8_met_18, s_X8_met_19, s_X8_met_22, s_X8_met_24, s_X8_met_25, s_X8_met_26, s_X8_met_27, s_X8_met_28, s_X8_met_29, s_X8_met_30, s_X8_met_31, s_X8_met_32, mH_obj ha, m_g0 ha, m_g1 ha, m_g2 ha, m_g3 ha, m_g4 ha, m_g5 ha, m_g6 ha, m_g7 ha, m_g8 ha, m_g9 ha, m_g10 ha, m_g11 ha, m_g12 ha, m_g13 ha, m_g14 ha, m_g15 ha, m_g16 ha, m_g17 ha, m_g18 ha, m_g19 ha, m_g20 ha, m_p3 ha, m_p7 ha, m_p8 ha, m_p9 ha, m_p12 ha, m_p16 ha, m_p17 ha, m_p18 ha, m_p19 ha, m_p20 ha, m_r1 ha, m_r2 ha, m_r3 ha, m_r4 ha, m_r5 ha, m_r6 ha, m_r7 ha, m_r8 ha, m_r9 ha, m_r10 ha, m_r11 ha, m_s1 ha, m_s2 ha, m_s3 ha, m_s4 ha, m_s5 ha, m_s6 ha, m_s7 ha, m_s8 ha, m_s9 ha, m_s10 ha, m_s11 ha, zI_add, zI_sub, zI_mul, zI_neg, zL_add, zL_sub, zL_mul, Option.bind_some, Option.toList_some, Option.toList_none, List.cons_append, List.nil_append, zI_lt, zI_le, zI_eq, zI_eq0, zI_lt0, zI_le0, zI_0lt, zI_0le, bZ_e0, Int.add_zero, Int.zero_add]
    rcases q with q | q | q <;> subst q <;> rfl
  · rw [if_neg q]
    simp (disch := omega) only [e_X8_met, s_X8_met_0, s_X8_met_1, s_X8_met_3, s_X8_met_6, s_X8_met_7, s_X8_met_9, s_X8_met_12, s_X8_met_13, s_X8_met_15, s_X8_met_19, s_X8_met_22, s_X8_met_31, s_X8_met_32, mH_obj ha, m_g0 ha, m_g1 ha, m_g2 ha, m_g3 ha, m_g4 ha, m_g5 ha, m_g6 ha, m_g7 ha, m_g8 ha, m_g9 ha, m_g10 ha, m_g11 ha, m_g12 ha, m_g13 ha, m_g14 ha, m_g15 ha, m_g16 ha, m_g17 ha, m_g18 ha, m_g19 ha, m_g20 ha, m_p3 ha, m_p7 ha, m_p8 ha, m_p9 ha, m_p12 ha, m_p16 ha, m_p17 ha, m_p18 ha, m_p19 ha, m_p20 ha, m_r1 ha, m_r2 ha, m_r3 ha, m_r4 ha, m_r5 ha, m_r6 ha, m_r7 ha, m_r8 ha, m_r9 ha, m_r10 ha, m_r11 ha, m_s1 ha, m_s2 ha, m_s3 ha, m_s4 ha, m_s5 ha, m_s6 ha, m_s7 ha, m_s8 ha, m_s9 ha, m_s10 ha, m_s11 ha, zI_add, zI_sub, zI_mul, zI_neg, zL_add, zL_sub, zL_mul, Option.bind_some, Option.toList_some, Option.toList_none, List.cons_append, List.nil_append, zI_lt, zI_le, zI_eq, zI_eq0, zI_lt0, zI_le0, zI_0lt, zI_0le, bZ_e0, Int.add_zero, Int.zero_add]
    rw [if_neg (by omega), if_neg (by omega), if_neg (by omega)]
theorem c_squaresOf {r : Int} (ha : a + 12 ≤ h.1) (h0 : 0 ≤ r) (h1 : r < 700) : x_cl d n_X8_squaresOf [.ref a, .int (zI r)] (mH h a t) = some (some (.int (zI (t 1 r.toNat * t 1 (r + 1).toNat))), mH h a t) := by
  simp (disch := omega) only [e_X8_squaresOf, s_X8_squaresOf_0, s_X8_squaresOf_1, s_X8_squaresOf_4, s_X8_squaresOf_5, s_X8_squaresOf_6, s_X8_squaresOf_7, s_X8_squaresOf_8, s_X8_squaresOf_9, s_X8_squaresOf_12, s_X8_squaresOf_13, s_X8_squaresOf_14, s_X8_squaresOf_15, s_X8_squaresOf_16, s_X8_squaresOf_17, mH_obj ha, m_g0 ha, m_g1 ha, m_g2 ha, m_g3 ha, m_g4 ha, m_g5 ha, m_g6 ha, m_g7 ha, m_g8 ha, m_g9 ha, m_g10 ha, m_g11 ha, m_g12 ha, m_g13 ha, m_g14 ha, m_g15 ha, m_g16 ha, m_g17 ha, m_g18 ha, m_g19 ha, m_g20 ha, m_p3 ha, m_p7 ha, m_p8 ha, m_p9 ha, m_p12 ha, m_p16 ha, m_p17 ha, m_p18 ha, m_p19 ha, m_p20 ha, m_r1 ha, m_r2 ha, m_r3 ha, m_r4 ha, m_r5 ha, m_r6 ha, m_r7 ha, m_r8 ha, m_r9 ha, m_r10 ha, m_r11 ha, m_s1 ha, m_s2 ha, m_s3 ha, m_s4 ha, m_s5 ha, m_s6 ha, m_s7 ha, m_s8 ha, m_s9 ha, m_s10 ha, m_s11 ha, zI_add, zI_sub, zI_mul, zI_neg, zL_add, zL_sub, zL_mul, Option.bind_some, Option.toList_some, Option.toList_none, List.cons_append, List.nil_append, zI_lt, zI_le, zI_eq, zI_eq0, zI_lt0, zI_le0, zI_0lt, zI_0le, bZ_e0, Int.add_zero, Int.zero_add]
end

/-! THE REFERENCE, part 5: images, status, the text's bytes, counts, the digest -/
section
variable {h : xH} {a : Nat} {t : Nat → Nat → Int} {d : Nat}
theorem up2_2 {r i : Nat} {x y : Int} : up2 (up2 t r i x) r i y = up2 t r i y := by
  funext r' i'
  by_cases q : r' = r ∧ i' = i
  · rw [q.1, q.2, up2_s, up2_s]
  · rw [up2_n q, up2_n q, up2_n q]
theorem vpn1 : vp_nar .boolean (zI 1) = zI 1 := by decide +kernel
def qImage (t : Nat → Nat → Int) (i : Int) : Int × (Nat → Nat → Int) := if 0 ≤ i ∧ i ≤ 1 then (1, up2 (cpT t 0 (200 * (1 + i)).toNat 0) 2 i.toNat 1) else (-2, metT t (-2))
theorem m_image {i : Int} (ha : a + 12 ≤ h.1) (h2 : -2147483648 ≤ i) (h3 : i < 2147483648) : x_cl (d + 1) n_X8_image [.ref a, .int (zI i)] (mH h a t) = some (some (.int (zI (qImage t i).1)), mH h a (qImage t i).2) := by
  unfold qImage
  by_cases z : 0 ≤ i ∧ i ≤ 1
  · rw [if_pos z]
    simp (disch := first | omega | assumption) only [e_X8_image, s_X8_image_0, s_X8_image_1, s_X8_image_2, s_X8_image_3, s_X8_image_4, s_X8_image_7, s_X8_image_17, s_X8_image_18, s_X8_image_19, s_X8_image_22, s_X8_image_23, s_X8_image_24, s_X8_image_25, s_X8_image_26, s_X8_image_29, s_X8_image_30, s_X8_image_33, s_X8_image_34, s_X8_image_35, s_X8_image_36, s_X8_image_37, mH_obj ha, m_g0 ha, m_g1 ha, m_g2 ha, m_g3 ha, m_g4 ha, m_g5 ha, m_g6 ha, m_g7 ha, m_g8 ha, m_g9 ha, m_g10 ha, m_g11 ha, m_g12 ha, m_g13 ha, m_g14 ha, m_g15 ha, m_g16 ha, m_g17 ha, m_g18 ha, m_g19 ha, m_g20 ha, m_p3 ha, m_p7 ha, m_p8 ha, m_p9 ha, m_p12 ha, m_p16 ha, m_p17 ha, m_p18 ha, m_p19 ha, m_p20 ha, m_r1 ha, m_r2 ha, m_r3 ha, m_r4 ha, m_r5 ha, m_r6 ha, m_r7 ha, m_r8 ha, m_r9 ha, m_r10 ha, m_r11 ha, m_s1 ha, m_s2 ha, m_s3 ha, m_s4 ha, m_s5 ha, m_s6 ha, m_s7 ha, m_s8 ha, m_s9 ha, m_s10 ha, m_s11 ha, zI_add, zI_sub, zI_mul, zI_neg, zL_add, zL_sub, zL_mul, Option.bind_some, Option.toList_some, Option.toList_none, List.cons_append, List.nil_append, zI_lt, zI_le, zI_eq, zI_eq0, zI_lt0, zI_le0, zI_0lt, zI_0le, bZ_e0, Int.add_zero, Int.zero_add, zI_64, c_in, vpn1, c_copy ha]
    rw [if_neg (by omega)]
    rfl
  · rw [if_neg z]
    simp (disch := first | omega | assumption) only [e_X8_image, s_X8_image_0, s_X8_image_1, s_X8_image_2, s_X8_image_3, s_X8_image_4, s_X8_image_7, s_X8_image_10, s_X8_image_11, s_X8_image_13, s_X8_image_16, mH_obj ha, m_g0 ha, m_g1 ha, m_g2 ha, m_g3 ha, m_g4 ha, m_g5 ha, m_g6 ha, m_g7 ha, m_g8 ha, m_g9 ha, m_g10 ha, m_g11 ha, m_g12 ha, m_g13 ha, m_g14 ha, m_g15 ha, m_g16 ha, m_g17 ha, m_g18 ha, m_g19 ha, m_g20 ha, m_p3 ha, m_p7 ha, m_p8 ha, m_p9 ha, m_p12 ha, m_p16 ha, m_p17 ha, m_p18 ha, m_p19 ha, m_p20 ha, m_r1 ha, m_r2 ha, m_r3 ha, m_r4 ha, m_r5 ha, m_r6 ha, m_r7 ha, m_r8 ha, m_r9 ha, m_r10 ha, m_r11 ha, m_s1 ha, m_s2 ha, m_s3 ha, m_s4 ha, m_s5 ha, m_s6 ha, m_s7 ha, m_s8 ha, m_s9 ha, m_s10 ha, m_s11 ha, zI_add, zI_sub, zI_mul, zI_neg, zL_add, zL_sub, zL_mul, Option.bind_some, Option.toList_some, Option.toList_none, List.cons_append, List.nil_append, zI_lt, zI_le, zI_eq, zI_eq0, zI_lt0, zI_le0, zI_0lt, zI_0le, bZ_e0, Int.add_zero, Int.zero_add, zI_64, c_in, c_met ha]
    rw [if_pos (by omega)]
def qFrom (t : Nat → Nat → Int) (i : Int) : Int × (Nat → Nat → Int) := if 0 ≤ i ∧ i ≤ 1 then (if t 2 i.toNat = 0 then (-3, metT t (-3)) else (1, cpT t (200 * (1 + i)).toNat 0 0)) else (-2, metT t (-2))
theorem m_from {i : Int} (ha : a + 12 ≤ h.1) (h2 : -2147483648 ≤ i) (h3 : i < 2147483648) (hk : ∀ j, j < 2 → 0 ≤ t 2 j ∧ t 2 j ≤ 1) : x_cl (d + 1) n_X8_from [.ref a, .int (zI i)] (mH h a t) = some (some (.int (zI (qFrom t i).1)), mH h a (qFrom t i).2) := by
  unfold qFrom
  by_cases z : 0 ≤ i ∧ i ≤ 1
  · have hk1 := hk i.toNat (by omega)
    rw [if_pos z]
    simp (disch := first | omega | assumption) only [e_X8_from, s_X8_from_0, s_X8_from_1, s_X8_from_2, s_X8_from_3, s_X8_from_4, s_X8_from_7, s_X8_from_17, s_X8_from_18, s_X8_from_21, s_X8_from_22, s_X8_from_23, s_X8_from_26, s_X8_from_27, s_X8_from_29, s_X8_from_32, s_X8_from_33, s_X8_from_34, s_X8_from_37, s_X8_from_38, s_X8_from_39, s_X8_from_40, s_X8_from_41, s_X8_from_42, s_X8_from_45, s_X8_from_46, mH_obj ha, m_g0 ha, m_g1 ha, m_g2 ha, m_g3 ha, m_g4 ha, m_g5 ha, m_g6 ha, m_g7 ha, m_g8 ha, m_g9 ha, m_g10 ha, m_g11 ha, m_g12 ha, m_g13 ha, m_g14 ha, m_g15 ha, m_g16 ha, m_g17 ha, m_g18 ha, m_g19 ha, m_g20 ha, m_p3 ha, m_p7 ha, m_p8 ha, m_p9 ha, m_p12 ha, m_p16 ha, m_p17 ha, m_p18 ha, m_p19 ha, m_p20 ha, m_r1 ha, m_r2 ha, m_r3 ha, m_r4 ha, m_r5 ha, m_r6 ha, m_r7 ha, m_r8 ha, m_r9 ha, m_r10 ha, m_r11 ha, m_s1 ha, m_s2 ha, m_s3 ha, m_s4 ha, m_s5 ha, m_s6 ha, m_s7 ha, m_s8 ha, m_s9 ha, m_s10 ha, m_s11 ha, zI_add, zI_sub, zI_mul, zI_neg, zL_add, zL_sub, zL_mul, Option.bind_some, Option.toList_some, Option.toList_none, List.cons_append, List.nil_append, zI_lt, zI_le, zI_eq, zI_eq0, zI_lt0, zI_le0, zI_0lt, zI_0le, bZ_e0, Int.add_zero, Int.zero_add, zI_64, c_in, c_copy ha, c_met ha]
    rw [if_neg (by omega)]
    by_cases z2 : t 2 i.toNat = 0
    · rw [if_pos z2, if_pos z2]
    · rw [if_neg z2, if_neg z2]; rfl
  · rw [if_neg z]
    simp (disch := first | omega | assumption) only [e_X8_from, s_X8_from_0, s_X8_from_1, s_X8_from_2, s_X8_from_3, s_X8_from_4, s_X8_from_7, s_X8_from_10, s_X8_from_11, s_X8_from_13, s_X8_from_16, mH_obj ha, m_g0 ha, m_g1 ha, m_g2 ha, m_g3 ha, m_g4 ha, m_g5 ha, m_g6 ha, m_g7 ha, m_g8 ha, m_g9 ha, m_g10 ha, m_g11 ha, m_g12 ha, m_g13 ha, m_g14 ha, m_g15 ha, m_g16 ha, m_g17 ha, m_g18 ha, m_g19 ha, m_g20 ha, m_p3 ha, m_p7 ha, m_p8 ha, m_p9 ha, m_p12 ha, m_p16 ha, m_p17 ha, m_p18 ha, m_p19 ha, m_p20 ha, m_r1 ha, m_r2 ha, m_r3 ha, m_r4 ha, m_r5 ha, m_r6 ha, m_r7 ha, m_r8 ha, m_r9 ha, m_r10 ha, m_r11 ha, m_s1 ha, m_s2 ha, m_s3 ha, m_s4 ha, m_s5 ha, m_s6 ha, m_s7 ha, m_s8 ha, m_s9 ha, m_s10 ha, m_s11 ha, zI_add, zI_sub, zI_mul, zI_neg, zL_add, zL_sub, zL_mul, Option.bind_some, Option.toList_some, Option.toList_none, List.cons_append, List.nil_append, zI_lt, zI_le, zI_eq, zI_eq0, zI_lt0, zI_le0, zI_0lt, zI_0le, bZ_e0, Int.add_zero, Int.zero_add, zI_64, c_in, c_met ha]
    rw [if_pos (by omega)]
def qStatus (t : Nat → Nat → Int) (i : Int) : Int × (Nat → Nat → Int) := if 0 ≤ i ∧ i ≤ 2 then (t 4 i.toNat, t) else (-1, up2 t 4 0 (t 4 0 + 1))
theorem m_status {i : Int} (ha : a + 12 ≤ h.1) (h2 : -2147483648 ≤ i) (h3 : i < 2147483648) : x_cl (d + 1) n_X8_status [.ref a, .int (zI i)] (mH h a t) = some (some (.int (zI (qStatus t i).1)), mH h a (qStatus t i).2) := by
  unfold qStatus
  by_cases z : 0 ≤ i ∧ i ≤ 2
  · rw [if_pos z]
    simp (disch := first | omega | assumption) only [e_X8_status, s_X8_status_0, s_X8_status_1, s_X8_status_2, s_X8_status_3, s_X8_status_6, s_X8_status_9, s_X8_status_24, s_X8_status_25, s_X8_status_28, s_X8_status_29, s_X8_status_30, mH_obj ha, m_g0 ha, m_g1 ha, m_g2 ha, m_g3 ha, m_g4 ha, m_g5 ha, m_g6 ha, m_g7 ha, m_g8 ha, m_g9 ha, m_g10 ha, m_g11 ha, m_g12 ha, m_g13 ha, m_g14 ha, m_g15 ha, m_g16 ha, m_g17 ha, m_g18 ha, m_g19 ha, m_g20 ha, m_p3 ha, m_p7 ha, m_p8 ha, m_p9 ha, m_p12 ha, m_p16 ha, m_p17 ha, m_p18 ha, m_p19 ha, m_p20 ha, m_r1 ha, m_r2 ha, m_r3 ha, m_r4 ha, m_r5 ha, m_r6 ha, m_r7 ha, m_r8 ha, m_r9 ha, m_r10 ha, m_r11 ha, m_s1 ha, m_s2 ha, m_s3 ha, m_s4 ha, m_s5 ha, m_s6 ha, m_s7 ha, m_s8 ha, m_s9 ha, m_s10 ha, m_s11 ha, zI_add, zI_sub, zI_mul, zI_neg, zL_add, zL_sub, zL_mul, Option.bind_some, Option.toList_some, Option.toList_none, List.cons_append, List.nil_append, zI_lt, zI_le, zI_eq, zI_eq0, zI_lt0, zI_le0, zI_0lt, zI_0le, bZ_e0, Int.add_zero, Int.zero_add, zI_64, c_in]
    rw [if_neg (by omega)]
  · rw [if_neg z]
    simp (disch := first | omega | assumption) only [e_X8_status, s_X8_status_0, s_X8_status_1, s_X8_status_2, s_X8_status_3, s_X8_status_6, s_X8_status_9, s_X8_status_12, s_X8_status_13, s_X8_status_16, s_X8_status_17, s_X8_status_18, s_X8_status_19, s_X8_status_20, s_X8_status_21, s_X8_status_22, s_X8_status_23, mH_obj ha, m_g0 ha, m_g1 ha, m_g2 ha, m_g3 ha, m_g4 ha, m_g5 ha, m_g6 ha, m_g7 ha, m_g8 ha, m_g9 ha, m_g10 ha, m_g11 ha, m_g12 ha, m_g13 ha, m_g14 ha, m_g15 ha, m_g16 ha, m_g17 ha, m_g18 ha, m_g19 ha, m_g20 ha, m_p3 ha, m_p7 ha, m_p8 ha, m_p9 ha, m_p12 ha, m_p16 ha, m_p17 ha, m_p18 ha, m_p19 ha, m_p20 ha, m_r1 ha, m_r2 ha, m_r3 ha, m_r4 ha, m_r5 ha, m_r6 ha, m_r7 ha, m_r8 ha, m_r9 ha, m_r10 ha, m_r11 ha, m_s1 ha, m_s2 ha, m_s3 ha, m_s4 ha, m_s5 ha, m_s6 ha, m_s7 ha, m_s8 ha, m_s9 ha, m_s10 ha, m_s11 ha, zI_add, zI_sub, zI_mul, zI_neg, zL_add, zL_sub, zL_mul, Option.bind_some, Option.toList_some, Option.toList_none, List.cons_append, List.nil_append, zI_lt, zI_le, zI_eq, zI_eq0, zI_lt0, zI_le0, zI_0lt, zI_0le, bZ_e0, Int.add_zero, Int.zero_add, zI_64, c_in]
    rw [if_pos (by omega)]
    rfl
theorem m_clear (ha : a + 12 ≤ h.1) : x_cl d n_X8_clear [.ref a] (mH h a t) = some (some (.int (zI (t 0 3))), mH h a (up2 t 0 3 0)) := by
  simp (disch := first | omega | assumption) only [e_X8_clear, s_X8_clear_0, s_X8_clear_1, s_X8_clear_4, s_X8_clear_5, s_X8_clear_6, s_X8_clear_7, s_X8_clear_10, s_X8_clear_11, mH_obj ha, m_g0 ha, m_g1 ha, m_g2 ha, m_g3 ha, m_g4 ha, m_g5 ha, m_g6 ha, m_g7 ha, m_g8 ha, m_g9 ha, m_g10 ha, m_g11 ha, m_g12 ha, m_g13 ha, m_g14 ha, m_g15 ha, m_g16 ha, m_g17 ha, m_g18 ha, m_g19 ha, m_g20 ha, m_p3 ha, m_p7 ha, m_p8 ha, m_p9 ha, m_p12 ha, m_p16 ha, m_p17 ha, m_p18 ha, m_p19 ha, m_p20 ha, m_r1 ha, m_r2 ha, m_r3 ha, m_r4 ha, m_r5 ha, m_r6 ha, m_r7 ha, m_r8 ha, m_r9 ha, m_r10 ha, m_r11 ha, m_s1 ha, m_s2 ha, m_s3 ha, m_s4 ha, m_s5 ha, m_s6 ha, m_s7 ha, m_s8 ha, m_s9 ha, m_s10 ha, m_s11 ha, zI_add, zI_sub, zI_mul, zI_neg, zL_add, zL_sub, zL_mul, Option.bind_some, Option.toList_some, Option.toList_none, List.cons_append, List.nil_append, zI_lt, zI_le, zI_eq, zI_eq0, zI_lt0, zI_le0, zI_0lt, zI_0le, bZ_e0, Int.add_zero, Int.zero_add]
/-- a byte of a long -/
def byB (v : Int64) (k : Int) : Int := (((v >>> ((zI (8 * k)).toInt64 &&& 63)) &&& zL 255).toInt32).toInt
theorem byB_z (v : Int64) (k : Int) : ((v >>> ((zI (8 * k)).toInt64 &&& 63)) &&& zL 255).toInt32 = zI (byB v k) := zI_of _
def typT (v : Int64) : Nat → (Nat → Nat → Int) → (Nat → Nat → Int)
  | 0, t => t
  | n + 1, t => typT v n (up2 (up2 t 3 (t 0 3).toNat (byB v n)) 0 3 (t 0 3 + 1))
theorem l_type {v : Int64} {n0 : Int} (ha : a + 12 ≤ h.1) : ∀ (n : Nat) (t : Nat → Nat → Int), 0 ≤ t 0 3 → t 0 3 + n ≤ 200 → n ≤ 8 → x_ev (d, n_X8_type, 43, [.ref a, .long v, .null, .int (zI n0), .int (zI ((n : Int) - 1))], [], mH h a t) = some (some (.int (zI (typT v n t 0 3))), mH h a (typT v n t)) := by
  intro n
  induction n with
  | zero =>
    intro t h0 h1 h8
    rw [s_X8_type_43]
    simp (disch := first | omega | assumption) only [s_X8_type_45, mH_obj ha, m_g0 ha, m_g1 ha, m_g2 ha, m_g3 ha, m_g4 ha, m_g5 ha, m_g6 ha, m_g7 ha, m_g8 ha, m_g9 ha, m_g10 ha, m_g11 ha, m_g12 ha, m_g13 ha, m_g14 ha, m_g15 ha, m_g16 ha, m_g17 ha, m_g18 ha, m_g19 ha, m_g20 ha, m_p3 ha, m_p7 ha, m_p8 ha, m_p9 ha, m_p12 ha, m_p16 ha, m_p17 ha, m_p18 ha, m_p19 ha, m_p20 ha, m_r1 ha, m_r2 ha, m_r3 ha, m_r4 ha, m_r5 ha, m_r6 ha, m_r7 ha, m_r8 ha, m_r9 ha, m_r10 ha, m_r11 ha, m_s1 ha, m_s2 ha, m_s3 ha, m_s4 ha, m_s5 ha, m_s6 ha, m_s7 ha, m_s8 ha, m_s9 ha, m_s10 ha, m_s11 ha, zI_add, zI_sub, zI_mul, zI_neg, zL_add, zL_sub, zL_mul, Option.bind_some, Option.toList_some, Option.toList_none, List.cons_append, List.nil_append, zI_lt, zI_le, zI_eq, zI_eq0, zI_lt0, zI_le0, zI_0lt, zI_0le, bZ_e0, Int.add_zero, Int.zero_add]
    rw [if_pos (by omega)]
    simp (disch := first | omega | assumption) only [s_X8_type_85, s_X8_type_86, s_X8_type_89, mH_obj ha, m_g0 ha, m_g1 ha, m_g2 ha, m_g3 ha, m_g4 ha, m_g5 ha, m_g6 ha, m_g7 ha, m_g8 ha, m_g9 ha, m_g10 ha, m_g11 ha, m_g12 ha, m_g13 ha, m_g14 ha, m_g15 ha, m_g16 ha, m_g17 ha, m_g18 ha, m_g19 ha, m_g20 ha, m_p3 ha, m_p7 ha, m_p8 ha, m_p9 ha, m_p12 ha, m_p16 ha, m_p17 ha, m_p18 ha, m_p19 ha, m_p20 ha, m_r1 ha, m_r2 ha, m_r3 ha, m_r4 ha, m_r5 ha, m_r6 ha, m_r7 ha, m_r8 ha, m_r9 ha, m_r10 ha, m_r11 ha, m_s1 ha, m_s2 ha, m_s3 ha, m_s4 ha, m_s5 ha, m_s6 ha, m_s7 ha, m_s8 ha, m_s9 ha, m_s10 ha, m_s11 ha, zI_add, zI_sub, zI_mul, zI_neg, zL_add, zL_sub, zL_mul, Option.bind_some, Option.toList_some, Option.toList_none, List.cons_append, List.nil_append, zI_lt, zI_le, zI_eq, zI_eq0, zI_lt0, zI_le0, zI_0lt, zI_0le, bZ_e0, Int.add_zero, Int.zero_add]
    rfl
  | succ n ih =>
    intro t h0 h1 h8
    rw [s_X8_type_43]
    simp (disch := first | omega | assumption) only [s_X8_type_45, mH_obj ha, m_g0 ha, m_g1 ha, m_g2 ha, m_g3 ha, m_g4 ha, m_g5 ha, m_g6 ha, m_g7 ha, m_g8 ha, m_g9 ha, m_g10 ha, m_g11 ha, m_g12 ha, m_g13 ha, m_g14 ha, m_g15 ha, m_g16 ha, m_g17 ha, m_g18 ha, m_g19 ha, m_g20 ha, m_p3 ha, m_p7 ha, m_p8 ha, m_p9 ha, m_p12 ha, m_p16 ha, m_p17 ha, m_p18 ha, m_p19 ha, m_p20 ha, m_r1 ha, m_r2 ha, m_r3 ha, m_r4 ha, m_r5 ha, m_r6 ha, m_r7 ha, m_r8 ha, m_r9 ha, m_r10 ha, m_r11 ha, m_s1 ha, m_s2 ha, m_s3 ha, m_s4 ha, m_s5 ha, m_s6 ha, m_s7 ha, m_s8 ha, m_s9 ha, m_s10 ha, m_s11 ha, zI_add, zI_sub, zI_mul, zI_neg, zL_add, zL_sub, zL_mul, Option.bind_some, Option.toList_some, Option.toList_none, List.cons_append, List.nil_append, zI_lt, zI_le, zI_eq, zI_eq0, zI_lt0, zI_le0, zI_0lt, zI_0le, bZ_e0, Int.add_zero, Int.zero_add]
    rw [if_neg (by omega)]
    have e1 : ((n + 1 : Nat) : Int) - 1 = n := by omega
    rw [e1]
    simp (disch := first | omega | assumption) only [s_X8_type_48, s_X8_type_49, s_X8_type_52, s_X8_type_53, s_X8_type_56, s_X8_type_57, s_X8_type_59, s_X8_type_61, s_X8_type_62, s_X8_type_63, s_X8_type_66, s_X8_type_67, s_X8_type_68, s_X8_type_69, s_X8_type_70, s_X8_type_71, s_X8_type_74, s_X8_type_75, s_X8_type_76, s_X8_type_79, s_X8_type_82, mH_obj ha, m_g0 ha, m_g1 ha, m_g2 ha, m_g3 ha, m_g4 ha, m_g5 ha, m_g6 ha, m_g7 ha, m_g8 ha, m_g9 ha, m_g10 ha, m_g11 ha, m_g12 ha, m_g13 ha, m_g14 ha, m_g15 ha, m_g16 ha, m_g17 ha, m_g18 ha, m_g19 ha, m_g20 ha, m_p3 ha, m_p7 ha, m_p8 ha, m_p9 ha, m_p12 ha, m_p16 ha, m_p17 ha, m_p18 ha, m_p19 ha, m_p20 ha, m_r1 ha, m_r2 ha, m_r3 ha, m_r4 ha, m_r5 ha, m_r6 ha, m_r7 ha, m_r8 ha, m_r9 ha, m_r10 ha, m_r11 ha, m_s1 ha, m_s2 ha, m_s3 ha, m_s4 ha, m_s5 ha, m_s6 ha, m_s7 ha, m_s8 ha, m_s9 ha, m_s10 ha, m_s11 ha, zI_add, zI_sub, zI_mul, zI_neg, zL_add, zL_sub, zL_mul, Option.bind_some, Option.toList_some, Option.toList_none, List.cons_append, List.nil_append, zI_lt, zI_le, zI_eq, zI_eq0, zI_lt0, zI_le0, zI_0lt, zI_0le, bZ_e0, Int.add_zero, Int.zero_add, byB_z, up2_n]
    have e2 : (n : Int) + (-1) = (n : Int) - 1 := by omega
    rw [e2, ih _ (by rw [up2_s]; omega) (by rw [up2_s]; omega) (by omega)]
    rfl
def qType (t : Nat → Nat → Int) (v : Int64) (n : Int) : Int × (Nat → Nat → Int) := if 1 ≤ n ∧ n ≤ 8 then (if 200 < t 0 3 + n then (-4, metT t (-4)) else (typT v n.toNat t 0 3, typT v n.toNat t)) else (-2, metT t (-2))
theorem m_type {v : Int64} {n : Int} (ha : a + 12 ≤ h.1) (h2 : -2147483648 ≤ n) (h3 : n < 2147483648) (h4 : 0 ≤ t 0 3) (h5 : t 0 3 ≤ 200) : x_cl (d + 1) n_X8_type [.ref a, .long v, .int (zI n)] (mH h a t) = some (some (.int (zI (qType t v n).1)), mH h a (qType t v n).2) := by
  unfold qType
  by_cases z : 1 ≤ n ∧ n ≤ 8
  · rw [if_pos z]
    simp (disch := first | omega | assumption) only [e_X8_type, s_X8_type_0, s_X8_type_1, s_X8_type_2, s_X8_type_3, s_X8_type_6, s_X8_type_9, s_X8_type_19, s_X8_type_20, s_X8_type_23, s_X8_type_24, s_X8_type_25, s_X8_type_28, s_X8_type_31, s_X8_type_32, s_X8_type_34, s_X8_type_37, s_X8_type_38, s_X8_type_39, s_X8_type_40, s_X8_type_41, mH_obj ha, m_g0 ha, m_g1 ha, m_g2 ha, m_g3 ha, m_g4 ha, m_g5 ha, m_g6 ha, m_g7 ha, m_g8 ha, m_g9 ha, m_g10 ha, m_g11 ha, m_g12 ha, m_g13 ha, m_g14 ha, m_g15 ha, m_g16 ha, m_g17 ha, m_g18 ha, m_g19 ha, m_g20 ha, m_p3 ha, m_p7 ha, m_p8 ha, m_p9 ha, m_p12 ha, m_p16 ha, m_p17 ha, m_p18 ha, m_p19 ha, m_p20 ha, m_r1 ha, m_r2 ha, m_r3 ha, m_r4 ha, m_r5 ha, m_r6 ha, m_r7 ha, m_r8 ha, m_r9 ha, m_r10 ha, m_r11 ha, m_s1 ha, m_s2 ha, m_s3 ha, m_s4 ha, m_s5 ha, m_s6 ha, m_s7 ha, m_s8 ha, m_s9 ha, m_s10 ha, m_s11 ha, zI_add, zI_sub, zI_mul, zI_neg, zL_add, zL_sub, zL_mul, Option.bind_some, Option.toList_some, Option.toList_none, List.cons_append, List.nil_append, zI_lt, zI_le, zI_eq, zI_eq0, zI_lt0, zI_le0, zI_0lt, zI_0le, bZ_e0, Int.add_zero, Int.zero_add, zI_64, c_in, c_met ha]
    rw [if_neg (by omega)]
    by_cases z2 : 200 < t 0 3 + n
    · rw [if_neg (by omega), if_pos z2]
    · rw [if_pos (by omega), if_neg z2]
      have := l_type (d := d + 1) (v := v) (n0 := n) ha n.toNat t h4 (by omega) (by omega)
      rw [show ((n.toNat : Nat) : Int) = n by omega] at this
      exact this
  · rw [if_neg z]
    simp (disch := first | omega | assumption) only [e_X8_type, s_X8_type_0, s_X8_type_1, s_X8_type_2, s_X8_type_3, s_X8_type_6, s_X8_type_9, s_X8_type_12, s_X8_type_13, s_X8_type_15, s_X8_type_18, mH_obj ha, m_g0 ha, m_g1 ha, m_g2 ha, m_g3 ha, m_g4 ha, m_g5 ha, m_g6 ha, m_g7 ha, m_g8 ha, m_g9 ha, m_g10 ha, m_g11 ha, m_g12 ha, m_g13 ha, m_g14 ha, m_g15 ha, m_g16 ha, m_g17 ha, m_g18 ha, m_g19 ha, m_g20 ha, m_p3 ha, m_p7 ha, m_p8 ha, m_p9 ha, m_p12 ha, m_p16 ha, m_p17 ha, m_p18 ha, m_p19 ha, m_p20 ha, m_r1 ha, m_r2 ha, m_r3 ha, m_r4 ha, m_r5 ha, m_r6 ha, m_r7 ha, m_r8 ha, m_r9 ha, m_r10 ha, m_r11 ha, m_s1 ha, m_s2 ha, m_s3 ha, m_s4 ha, m_s5 ha, m_s6 ha, m_s7 ha, m_s8 ha, m_s9 ha, m_s10 ha, m_s11 ha, zI_add, zI_sub, zI_mul, zI_neg, zL_add, zL_sub, zL_mul, Option.bind_some, Option.toList_some, Option.toList_none, List.cons_append, List.nil_append, zI_lt, zI_le, zI_eq, zI_eq0, zI_lt0, zI_le0, zI_0lt, zI_0le, bZ_e0, Int.add_zero, Int.zero_add, zI_64, c_in, c_met ha]
    rw [if_pos (by omega)]
theorem bitV (S k : Int) : (zI S >>> (zI k &&& 31)) &&& zI 1 = zI (bZ (hasB S k = true)) := by
  have key : ∀ x : Int32, x &&& zI 1 = zI 0 ∨ x &&& zI 1 = zI 1 := by
    intro x
    have h1 : ∀ y : BitVec 32, y &&& 1#32 = 0#32 ∨ y &&& 1#32 = 1#32 := by
      intro y
      have e : y &&& 1#32 = BitVec.setWidth 32 (BitVec.ofBool (y.getLsbD 0)) := by
        ext i hi
        simp only [BitVec.getElem_and, BitVec.getElem_setWidth, BitVec.getLsbD_ofBool]
        by_cases q : i = 0
        · subst q; simp [BitVec.getLsbD_eq_getElem]
        · simp [q, BitVec.getElem_one]
      rw [e]
      cases y.getLsbD 0
      · left; decide
      · right; decide
    rcases h1 x.toBitVec with q | q
    · left; exact Int32.toBitVec_inj.mp (by rw [Int32.toBitVec_and]; exact q)
    · right; exact Int32.toBitVec_inj.mp (by rw [Int32.toBitVec_and]; exact q)
  by_cases q : (zI S >>> (zI k &&& 31)) &&& zI 1 = zI 1
  · rw [bZ_t (by unfold hasB; exact decide_eq_true q)]; exact q
  · rw [bZ_f (by unfold hasB; rw [decide_eq_true_eq]; exact q)]
    rcases key (zI S >>> (zI k &&& 31)) with w | w
    · exact w
    · exact absurd w q
def cntB (S : Int) : Nat → Int → Int → Int
  | 0, _, c => c
  | n + 1, q, c => cntB S n (q + 1) (c + bZ (hasB S q = true))
theorem l_countOf {w : Int} (ha : a + 12 ≤ h.1) : ∀ (n : Nat) (q c : Int), q + n = 25 → 0 ≤ q → x_ev (d, n_X8_countOf, 4, [.ref a, .int (zI w), .int (zI c), .int (zI q)], [], mH h a t) = x_ev (d, n_X8_countOf, 29, [.ref a, .int (zI w), .int (zI (cntB (t 1 4) n q c)), .int (zI 25)], [], mH h a t) := by
  intro n
  induction n with
  | zero =>
    intro q c hq h0
    rw [s_X8_countOf_4]
    simp (disch := first | omega | assumption) only [s_X8_countOf_5, s_X8_countOf_7, mH_obj ha, m_g0 ha, m_g1 ha, m_g2 ha, m_g3 ha, m_g4 ha, m_g5 ha, m_g6 ha, m_g7 ha, m_g8 ha, m_g9 ha, m_g10 ha, m_g11 ha, m_g12 ha, m_g13 ha, m_g14 ha, m_g15 ha, m_g16 ha, m_g17 ha, m_g18 ha, m_g19 ha, m_g20 ha, m_p3 ha, m_p7 ha, m_p8 ha, m_p9 ha, m_p12 ha, m_p16 ha, m_p17 ha, m_p18 ha, m_p19 ha, m_p20 ha, m_r1 ha, m_r2 ha, m_r3 ha, m_r4 ha, m_r5 ha, m_r6 ha, m_r7 ha, m_r8 ha, m_r9 ha, m_r10 ha, m_r11 ha, m_s1 ha, m_s2 ha, m_s3 ha, m_s4 ha, m_s5 ha, m_s6 ha, m_s7 ha, m_s8 ha, m_s9 ha, m_s10 ha, m_s11 ha, zI_add, zI_sub, zI_mul, zI_neg, zL_add, zL_sub, zL_mul, Option.bind_some, Option.toList_some, Option.toList_none, List.cons_append, List.nil_append, zI_lt, zI_le, zI_eq, zI_eq0, zI_lt0, zI_le0, zI_0lt, zI_0le, bZ_e0, Int.add_zero, Int.zero_add]
    rw [if_pos (by omega)]
    rw [show q = 25 by omega]
    rfl
  | succ n ih =>
    intro q c hq h0
    rw [s_X8_countOf_4]
    simp (disch := first | omega | assumption) only [s_X8_countOf_5, s_X8_countOf_7, mH_obj ha, m_g0 ha, m_g1 ha, m_g2 ha, m_g3 ha, m_g4 ha, m_g5 ha, m_g6 ha, m_g7 ha, m_g8 ha, m_g9 ha, m_g10 ha, m_g11 ha, m_g12 ha, m_g13 ha, m_g14 ha, m_g15 ha, m_g16 ha, m_g17 ha, m_g18 ha, m_g19 ha, m_g20 ha, m_p3 ha, m_p7 ha, m_p8 ha, m_p9 ha, m_p12 ha, m_p16 ha, m_p17 ha, m_p18 ha, m_p19 ha, m_p20 ha, m_r1 ha, m_r2 ha, m_r3 ha, m_r4 ha, m_r5 ha, m_r6 ha, m_r7 ha, m_r8 ha, m_r9 ha, m_r10 ha, m_r11 ha, m_s1 ha, m_s2 ha, m_s3 ha, m_s4 ha, m_s5 ha, m_s6 ha, m_s7 ha, m_s8 ha, m_s9 ha, m_s10 ha, m_s11 ha, zI_add, zI_sub, zI_mul, zI_neg, zL_add, zL_sub, zL_mul, Option.bind_some, Option.toList_some, Option.toList_none, List.cons_append, List.nil_append, zI_lt, zI_le, zI_eq, zI_eq0, zI_lt0, zI_le0, zI_0lt, zI_0le, bZ_e0, Int.add_zero, Int.zero_add]
    rw [if_neg (by omega)]
    simp (disch := first | omega | assumption) only [s_X8_countOf_10, s_X8_countOf_11, s_X8_countOf_12, s_X8_countOf_15, s_X8_countOf_16, s_X8_countOf_17, s_X8_countOf_18, s_X8_countOf_19, s_X8_countOf_20, s_X8_countOf_21, s_X8_countOf_22, s_X8_countOf_23, s_X8_countOf_26, mH_obj ha, m_g0 ha, m_g1 ha, m_g2 ha, m_g3 ha, m_g4 ha, m_g5 ha, m_g6 ha, m_g7 ha, m_g8 ha, m_g9 ha, m_g10 ha, m_g11 ha, m_g12 ha, m_g13 ha, m_g14 ha, m_g15 ha, m_g16 ha, m_g17 ha, m_g18 ha, m_g19 ha, m_g20 ha, m_p3 ha, m_p7 ha, m_p8 ha, m_p9 ha, m_p12 ha, m_p16 ha, m_p17 ha, m_p18 ha, m_p19 ha, m_p20 ha, m_r1 ha, m_r2 ha, m_r3 ha, m_r4 ha, m_r5 ha, m_r6 ha, m_r7 ha, m_r8 ha, m_r9 ha, m_r10 ha, m_r11 ha, m_s1 ha, m_s2 ha, m_s3 ha, m_s4 ha, m_s5 ha, m_s6 ha, m_s7 ha, m_s8 ha, m_s9 ha, m_s10 ha, m_s11 ha, zI_add, zI_sub, zI_mul, zI_neg, zL_add, zL_sub, zL_mul, Option.bind_some, Option.toList_some, Option.toList_none, List.cons_append, List.nil_append, zI_lt, zI_le, zI_eq, zI_eq0, zI_lt0, zI_le0, zI_0lt, zI_0le, bZ_e0, Int.add_zero, Int.zero_add, bitV, Int.reduceToNat]
    exact ih _ _ (by omega) (by omega)
def cOf (t : Nat → Nat → Int) (w : Int) : Int := if w = 0 then t 1 5 else if w = 1 then cntB (t 1 4) 25 0 0 else if w = 2 then t 1 3 else if w = 3 then t 1 46 else if w = 4 then t 0 3 else if w = 5 then sqN t 0 else t 1 2
theorem c_countOf {w : Int} (ha : a + 12 ≤ h.1) (h0 : 0 ≤ w) (h1 : w ≤ 6) : x_cl (d + 1) n_X8_countOf [.ref a, .int (zI w)] (mH h a t) = some (some (.int (zI (cOf t w))), mH h a t) := by
  simp only [e_X8_countOf, s_X8_countOf_0, s_X8_countOf_1, s_X8_countOf_2, s_X8_countOf_3]
  rw [l_countOf ha 25 0 0 rfl (by decide)]
  simp (disch := first | omega | assumption) only [s_X8_countOf_29, s_X8_countOf_30, s_X8_countOf_33, s_X8_countOf_34, s_X8_countOf_37, s_X8_countOf_38, s_X8_countOf_39, s_X8_countOf_42, s_X8_countOf_43, s_X8_countOf_44, s_X8_countOf_47, s_X8_countOf_48, s_X8_countOf_51, s_X8_countOf_52, s_X8_countOf_53, s_X8_countOf_56, s_X8_countOf_57, s_X8_countOf_60, s_X8_countOf_61, s_X8_countOf_62, s_X8_countOf_65, s_X8_countOf_66, s_X8_countOf_67, s_X8_countOf_70, s_X8_countOf_71, s_X8_countOf_74, s_X8_countOf_76, s_X8_countOf_77, s_X8_countOf_80, s_X8_countOf_81, s_X8_countOf_82, s_X8_countOf_85, s_X8_countOf_86, s_X8_countOf_89, s_X8_countOf_92, s_X8_countOf_93, s_X8_countOf_94, s_X8_countOf_97, s_X8_countOf_98, s_X8_countOf_99, s_X8_countOf_102, s_X8_countOf_105, s_X8_countOf_106, s_X8_countOf_109, s_X8_countOf_110, s_X8_countOf_111, mH_obj ha, m_g0 ha, m_g1 ha, m_g2 ha, m_g3 ha, m_g4 ha, m_g5 ha, m_g6 ha, m_g7 ha, m_g8 ha, m_g9 ha, m_g10 ha, m_g11 ha, m_g12 ha, m_g13 ha, m_g14 ha, m_g15 ha, m_g16 ha, m_g17 ha, m_g18 ha, m_g19 ha, m_g20 ha, m_p3 ha, m_p7 ha, m_p8 ha, m_p9 ha, m_p12 ha, m_p16 ha, m_p17 ha, m_p18 ha, m_p19 ha, m_p20 ha, m_r1 ha, m_r2 ha, m_r3 ha, m_r4 ha, m_r5 ha, m_r6 ha, m_r7 ha, m_r8 ha, m_r9 ha, m_r10 ha, m_r11 ha, m_s1 ha, m_s2 ha, m_s3 ha, m_s4 ha, m_s5 ha, m_s6 ha, m_s7 ha, m_s8 ha, m_s9 ha, m_s10 ha, m_s11 ha, zI_add, zI_sub, zI_mul, zI_neg, zL_add, zL_sub, zL_mul, Option.bind_some, Option.toList_some, Option.toList_none, List.cons_append, List.nil_append, zI_lt, zI_le, zI_eq, zI_eq0, zI_lt0, zI_le0, zI_0lt, zI_0le, bZ_e0, Int.add_zero, Int.zero_add, c_squaresOf ha, Int.reduceToNat]
  unfold cOf
  rcases (show w = 0 ∨ w = 1 ∨ w = 2 ∨ w = 3 ∨ w = 4 ∨ w = 5 ∨ w = 6 by omega) with e | e | e | e | e | e | e <;> subst e <;> rfl
def qCount (t : Nat → Nat → Int) (w : Int) : Int × (Nat → Nat → Int) := if 0 ≤ w ∧ w ≤ 6 then (cOf t w, t) else (-2, metT t (-2))
theorem m_count {w : Int} (ha : a + 12 ≤ h.1) (h2 : -2147483648 ≤ w) (h3 : w < 2147483648) : x_cl (d + 2) n_X8_count [.ref a, .int (zI w)] (mH h a t) = some (some (.int (zI (qCount t w).1)), mH h a (qCount t w).2) := by
  unfold qCount
  by_cases z : 0 ≤ w ∧ w ≤ 6
  · rw [if_pos z]
    simp (disch := first | omega | assumption) only [e_X8_count, s_X8_count_0, s_X8_count_1, s_X8_count_2, s_X8_count_3, s_X8_count_6, s_X8_count_9, s_X8_count_12, s_X8_count_13, s_X8_count_14, s_X8_count_17, s_X8_count_20, s_X8_count_21, s_X8_count_23, s_X8_count_26, mH_obj ha, m_g0 ha, m_g1 ha, m_g2 ha, m_g3 ha, m_g4 ha, m_g5 ha, m_g6 ha, m_g7 ha, m_g8 ha, m_g9 ha, m_g10 ha, m_g11 ha, m_g12 ha, m_g13 ha, m_g14 ha, m_g15 ha, m_g16 ha, m_g17 ha, m_g18 ha, m_g19 ha, m_g20 ha, m_p3 ha, m_p7 ha, m_p8 ha, m_p9 ha, m_p12 ha, m_p16 ha, m_p17 ha, m_p18 ha, m_p19 ha, m_p20 ha, m_r1 ha, m_r2 ha, m_r3 ha, m_r4 ha, m_r5 ha, m_r6 ha, m_r7 ha, m_r8 ha, m_r9 ha, m_r10 ha, m_r11 ha, m_s1 ha, m_s2 ha, m_s3 ha, m_s4 ha, m_s5 ha, m_s6 ha, m_s7 ha, m_s8 ha, m_s9 ha, m_s10 ha, m_s11 ha, zI_add, zI_sub, zI_mul, zI_neg, zL_add, zL_sub, zL_mul, Option.bind_some, Option.toList_some, Option.toList_none, List.cons_append, List.nil_append, zI_lt, zI_le, zI_eq, zI_eq0, zI_lt0, zI_le0, zI_0lt, zI_0le, bZ_e0, Int.add_zero, Int.zero_add, zI_64, c_in, c_met ha, c_countOf ha]
    rw [if_neg (by omega)]
  · rw [if_neg z]
    simp (disch := first | omega | assumption) only [e_X8_count, s_X8_count_0, s_X8_count_1, s_X8_count_2, s_X8_count_3, s_X8_count_6, s_X8_count_9, s_X8_count_20, s_X8_count_21, s_X8_count_23, s_X8_count_26, mH_obj ha, m_g0 ha, m_g1 ha, m_g2 ha, m_g3 ha, m_g4 ha, m_g5 ha, m_g6 ha, m_g7 ha, m_g8 ha, m_g9 ha, m_g10 ha, m_g11 ha, m_g12 ha, m_g13 ha, m_g14 ha, m_g15 ha, m_g16 ha, m_g17 ha, m_g18 ha, m_g19 ha, m_g20 ha, m_p3 ha, m_p7 ha, m_p8 ha, m_p9 ha, m_p12 ha, m_p16 ha, m_p17 ha, m_p18 ha, m_p19 ha, m_p20 ha, m_r1 ha, m_r2 ha, m_r3 ha, m_r4 ha, m_r5 ha, m_r6 ha, m_r7 ha, m_r8 ha, m_r9 ha, m_r10 ha, m_r11 ha, m_s1 ha, m_s2 ha, m_s3 ha, m_s4 ha, m_s5 ha, m_s6 ha, m_s7 ha, m_s8 ha, m_s9 ha, m_s10 ha, m_s11 ha, zI_add, zI_sub, zI_mul, zI_neg, zL_add, zL_sub, zL_mul, Option.bind_some, Option.toList_some, Option.toList_none, List.cons_append, List.nil_append, zI_lt, zI_le, zI_eq, zI_eq0, zI_lt0, zI_le0, zI_0lt, zI_0le, bZ_e0, Int.add_zero, Int.zero_add, zI_64, c_in, c_met ha]
    rw [if_pos (by omega)]
theorem c_mix {v : Int} (ha : a + 12 ≤ h.1) : x_cl d n_X8_mix [.ref a, .long (zL v)] (mH h a t) = some (none, mH h a (up2 t 0 20 (31 * t 0 20 + v))) := by
  simp (disch := first | omega | assumption) only [e_X8_mix, s_X8_mix_0, s_X8_mix_1, s_X8_mix_4, s_X8_mix_5, s_X8_mix_8, s_X8_mix_9, s_X8_mix_10, s_X8_mix_11, s_X8_mix_14, mH_obj ha, m_g0 ha, m_g1 ha, m_g2 ha, m_g3 ha, m_g4 ha, m_g5 ha, m_g6 ha, m_g7 ha, m_g8 ha, m_g9 ha, m_g10 ha, m_g11 ha, m_g12 ha, m_g13 ha, m_g14 ha, m_g15 ha, m_g16 ha, m_g17 ha, m_g18 ha, m_g19 ha, m_g20 ha, m_p3 ha, m_p7 ha, m_p8 ha, m_p9 ha, m_p12 ha, m_p16 ha, m_p17 ha, m_p18 ha, m_p19 ha, m_p20 ha, m_r1 ha, m_r2 ha, m_r3 ha, m_r4 ha, m_r5 ha, m_r6 ha, m_r7 ha, m_r8 ha, m_r9 ha, m_r10 ha, m_r11 ha, m_s1 ha, m_s2 ha, m_s3 ha, m_s4 ha, m_s5 ha, m_s6 ha, m_s7 ha, m_s8 ha, m_s9 ha, m_s10 ha, m_s11 ha, zI_add, zI_sub, zI_mul, zI_neg, zL_add, zL_sub, zL_mul, Option.bind_some, Option.toList_some, Option.toList_none, List.cons_append, List.nil_append, zI_lt, zI_le, zI_eq, zI_eq0, zI_lt0, zI_le0, zI_0lt, zI_0le, bZ_e0, Int.add_zero, Int.zero_add]
end

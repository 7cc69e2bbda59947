/-! THE REFERENCE, part 3: what is set -/
-- @GLOBAL FIN = and_self, not_true_eq_false, not_false_eq_true, if_true, if_false, false_and, and_false, true_and, and_true, Bool.false_eq_true, Bool.true_eq_false, or_false, false_or, or_true, true_or, or_self, iff_false, false_iff, iff_true, true_iff, Classical.not_not, iff_self
section
variable {h : xH} {a : Nat} {t : Nat → Nat → Int} {d : Nat}
theorem bZ_eq (p q : Prop) [Decidable p] [Decidable q] : zI (bZ p) = zI (bZ q) ↔ (p ↔ q) := by
  by_cases hp : p <;> by_cases hq : q
  · rw [bZ_t hp, bZ_t hq]; simp [hp, hq]
  · rw [bZ_t hp, bZ_f hq]; simp [hp, hq]; decide
  · rw [bZ_f hp, bZ_t hq]; simp [hp, hq]; decide
  · rw [bZ_f hp, bZ_f hq]; simp [hp, hq]
def xorB (S q : Int) : Int := (zI S ^^^ (zI 1 <<< (zI q &&& 31))).toInt
theorem xorB_z (S q : Int) : zI S ^^^ (zI 1 <<< (zI q &&& 31)) = zI (xorB S q) := zI_of _
/-- a region's squares -/
def sqN (t : Nat → Nat → Int) (r : Int) : Int := t 1 r.toNat * t 1 (r + 1).toNat
def sitZ (t : Nat → Nat → Int) (r q : Int) : Int := sitF t r q (t 1 (r + 5).toNat).toNat 0 (-1)
/-- what a region must be for its reads to be in their rows -/
def rOk (t : Nat → Nat → Int) (r : Int) : Prop := (0 ≤ sqN t r ∧ sqN t r ≤ 25) ∧ (0 ≤ t 1 (r + 5).toNat ∧ t 1 (r + 5).toNat ≤ 5) ∧ (∀ p, 0 ≤ p → p < t 1 (r + 5).toNat → 0 ≤ t 1 (r + 6 + p).toNat ∧ t 1 (r + 6 + p).toNat < 25) ∧ (0 ≤ t 1 (r + 2).toNat ∧ t 1 (r + 2).toNat < 25) ∧ (∀ p, 0 ≤ p → p < t 1 (r + 5).toNat → 0 ≤ t 1 (r + 26 + p).toNat ∧ t 1 (r + 26 + p).toNat ≤ 9) ∧ (0 ≤ t 1 (r + 3).toNat ∧ t 1 (r + 3).toNat ≤ 12)
theorem c_isSq {r q : Int} (ha : a + 12 ≤ h.1) (h0 : 0 ≤ r) (h1 : r ≤ 600) (h2 : -2147483648 ≤ q) (h3 : q < 2147483648) (ho : rOk t r) : x_cl (d + 1) n_X8_isSquare [.ref a, .int (zI r), .int (zI q)] (mH h a t) = some (some (.int (zI (bZ (0 ≤ q ∧ q < sqN t r)))), mH h a t) := by
  have := c_isSquare (d := d) (t := t) (q := q) ha h0 (by omega) h2 h3 ho.1.1 ho.1.2
  rw [this]
  congr 4
  have e : (0 ≤ q ∧ q ≤ t 1 r.toNat * t 1 (r + 1).toNat - 1) ↔ (0 ≤ q ∧ q < sqN t r) := by unfold sqN; omega
  by_cases z : 0 ≤ q ∧ q < sqN t r
  · rw [bZ_t z, bZ_t (e.mpr z)]
  · rw [bZ_f z, bZ_f (fun w => z (e.mp w))]
theorem c_sits {r q : Int} (ha : a + 12 ≤ h.1) (h0 : 0 ≤ r) (h1 : r ≤ 600) (h2 : -2147483648 ≤ q) (h3 : q < 2147483648) (ho : rOk t r) : x_cl d n_X8_sitsAt [.ref a, .int (zI r), .int (zI q)] (mH h a t) = some (some (.int (zI (sitZ t r q))), mH h a t) := c_sitsAt ha h0 (by omega) h2 h3 ho.2.1.1 ho.2.1.2 ho.2.2.1
theorem sitF_rg (r q : Int) : ∀ (n : Nat) (p f : Int), 0 ≤ p → p + n ≤ 5 → -1 ≤ f → f ≤ 5 → -1 ≤ sitF t r q n p f ∧ sitF t r q n p f ≤ 5 := by
  intro n
  induction n with
  | zero => intro p f _ _ h1 h2; exact ⟨h1, h2⟩
  | succ n ih =>
    intro p f hp hn h1 h2
    rw [sitF]
    by_cases e : t 1 (r + 6 + p).toNat = q
    · rw [if_pos e]; exact ih _ _ (by omega) (by omega) (by omega) (by omega)
    · rw [if_neg e]; exact ih _ _ (by omega) (by omega) (by omega) (by omega)
theorem sitZ_rg {r q : Int} (ho : rOk t r) : -1 ≤ sitZ t r q ∧ sitZ t r q ≤ 5 := sitF_rg r q _ _ _ (by omega) (by have := ho.2.1; omega) (by omega) (by omega)
def sHall (t : Nat → Nat → Int) (r w hh : Int) : Int × (Nat → Nat → Int) := if (2 ≤ w ∧ w ≤ 5) ∧ (2 ≤ hh ∧ hh ≤ 5) then (w * hh, anT t r.toNat w hh) else (-2, t)
theorem c_setHall {r w hh : Int} (ha : a + 12 ≤ h.1) (h0 : 0 ≤ r) (h1 : r ≤ 600) (h2 : -2147483648 ≤ w) (h3 : w < 2147483648) (h4 : -2147483648 ≤ hh) (h5 : hh < 2147483648) : x_cl (d + 1) n_X8_setHall [.ref a, .int (zI r), .int (zI w), .int (zI hh)] (mH h a t) = some (some (.int (zI (sHall t r w hh).1)), mH h a (sHall t r w hh).2) := by
  simp (disch := omega) only [e_X8_setHall, s_X8_setHall_0, s_X8_setHall_1, s_X8_setHall_2, s_X8_setHall_5, s_X8_setHall_8, s_X8_setHall_11, s_X8_setHall_14, s_X8_setHall_15, s_X8_setHall_16, s_X8_setHall_19, s_X8_setHall_22, s_X8_setHall_25, s_X8_setHall_28, s_X8_setHall_30, s_X8_setHall_31, s_X8_setHall_32, s_X8_setHall_33, s_X8_setHall_34, s_X8_setHall_35, s_X8_setHall_38, s_X8_setHall_39, s_X8_setHall_40, s_X8_setHall_41, mH_obj ha, m_g0 ha, m_g1 ha, m_g2 ha, m_g3 ha, m_g4 ha, m_g5 ha, m_g6 ha, m_g7 ha, m_g8 ha, m_g9 ha, m_g10 ha, m_g11 ha, m_g12 ha, m_g13 ha, m_g14 ha, m_g15 ha, m_g16 ha, m_g17 ha, m_g18 ha, m_g19 ha, m_g20 ha, m_p3 ha, m_p7 ha, m_p8 ha, m_p9 ha, m_p12 ha, m_p16 ha, m_p17 ha, m_p18 ha, m_p19 ha, m_p20 ha, m_r1 ha, m_r2 ha, m_r3 ha, m_r4 ha, m_r5 ha, m_r6 ha, m_r7 ha, m_r8 ha, m_r9 ha, m_r10 ha, m_r11 ha, m_s1 ha, m_s2 ha, m_s3 ha, m_s4 ha, m_s5 ha, m_s6 ha, m_s7 ha, m_s8 ha, m_s9 ha, m_s10 ha, m_s11 ha, zI_add, zI_sub, zI_mul, zI_neg, zL_add, zL_sub, zL_mul, Option.bind_some, Option.toList_some, Option.toList_none, List.cons_append, List.nil_append, zI_lt, zI_le, zI_eq, zI_eq0, zI_lt0, zI_le0, zI_0lt, zI_0le, bZ_e0, Int.add_zero, Int.zero_add, zI_64, c_in, c_makeAnew ha]
  unfold sHall
  by_cases q1 : 2 ≤ w ∧ w ≤ 5
  · by_cases q2 : 2 ≤ hh ∧ hh ≤ 5
    · simp only [q1, q2, and_self, not_true_eq_false, if_true, if_false]
    · simp only [q1, q2, and_self, not_true_eq_false, not_false_eq_true, if_true, if_false, and_false]
  · simp only [q1, not_true_eq_false, not_false_eq_true, if_true, if_false, false_and]
def sLamp (t : Nat → Nat → Int) (r q : Int) : Int × (Nat → Nat → Int) := if 0 ≤ q ∧ q < sqN t r then (if hasB (t 1 (r + 4).toNat) q = true then (-20, t) else (t 1 (r + 2).toNat, up2 t 1 (r + 2).toNat q)) else (-10, t)
theorem c_setLamp {r q : Int} (ha : a + 12 ≤ h.1) (h0 : 0 ≤ r) (h1 : r ≤ 600) (h2 : -2147483648 ≤ q) (h3 : q < 2147483648) (ho : rOk t r) : x_cl (d + 2) n_X8_setLamp [.ref a, .int (zI r), .int (zI q)] (mH h a t) = some (some (.int (zI (sLamp t r q).1)), mH h a (sLamp t r q).2) := by
  simp (disch := first | omega | assumption) only [e_X8_setLamp, s_X8_setLamp_0, s_X8_setLamp_1, s_X8_setLamp_2, s_X8_setLamp_3, s_X8_setLamp_6, s_X8_setLamp_9, s_X8_setLamp_11, s_X8_setLamp_12, s_X8_setLamp_13, s_X8_setLamp_16, s_X8_setLamp_17, s_X8_setLamp_18, s_X8_setLamp_19, s_X8_setLamp_20, s_X8_setLamp_21, s_X8_setLamp_24, s_X8_setLamp_27, s_X8_setLamp_29, s_X8_setLamp_30, s_X8_setLamp_31, s_X8_setLamp_34, s_X8_setLamp_35, s_X8_setLamp_36, s_X8_setLamp_37, s_X8_setLamp_38, s_X8_setLamp_39, s_X8_setLamp_40, s_X8_setLamp_43, s_X8_setLamp_44, s_X8_setLamp_45, s_X8_setLamp_46, s_X8_setLamp_47, s_X8_setLamp_48, s_X8_setLamp_49, mH_obj ha, m_g0 ha, m_g1 ha, m_g2 ha, m_g3 ha, m_g4 ha, m_g5 ha, m_g6 ha, m_g7 ha, m_g8 ha, m_g9 ha, m_g10 ha, m_g11 ha, m_g12 ha, m_g13 ha, m_g14 ha, m_g15 ha, m_g16 ha, m_g17 ha, m_g18 ha, m_g19 ha, m_g20 ha, m_p3 ha, m_p7 ha, m_p8 ha, m_p9 ha, m_p12 ha, m_p16 ha, m_p17 ha, m_p18 ha, m_p19 ha, m_p20 ha, m_r1 ha, m_r2 ha, m_r3 ha, m_r4 ha, m_r5 ha, m_r6 ha, m_r7 ha, m_r8 ha, m_r9 ha, m_r10 ha, m_r11 ha, m_s1 ha, m_s2 ha, m_s3 ha, m_s4 ha, m_s5 ha, m_s6 ha, m_s7 ha, m_s8 ha, m_s9 ha, m_s10 ha, m_s11 ha, zI_add, zI_sub, zI_mul, zI_neg, zL_add, zL_sub, zL_mul, Option.bind_some, Option.toList_some, Option.toList_none, List.cons_append, List.nil_append, zI_lt, zI_le, zI_eq, zI_eq0, zI_lt0, zI_le0, zI_0lt, zI_0le, bZ_e0, Int.add_zero, Int.zero_add, c_isSq ha, c_has]
  unfold sLamp
  by_cases q1 : 0 ≤ q ∧ q < sqN t r
  · by_cases q2 : hasB (t 1 (r + 4).toNat) q = true
    · simp only [q1, q2, and_self, not_true_eq_false, if_true, if_false]
    · simp only [q1, q2, and_self, not_true_eq_false, not_false_eq_true, if_true, if_false, Bool.false_eq_true]
  · simp only [q1, not_true_eq_false, not_false_eq_true, if_true, if_false]
def sOil (t : Nat → Nat → Int) (r n : Int) : Int × (Nat → Nat → Int) := if 0 ≤ n ∧ n ≤ 12 then (t 1 (r + 3).toNat, up2 t 1 (r + 3).toNat n) else (-2, t)
theorem c_setOil {r n : Int} (ha : a + 12 ≤ h.1) (h0 : 0 ≤ r) (h1 : r ≤ 600) (h2 : -2147483648 ≤ n) (h3 : n < 2147483648) : x_cl (d + 1) n_X8_setOil [.ref a, .int (zI r), .int (zI n)] (mH h a t) = some (some (.int (zI (sOil t r n).1)), mH h a (sOil t r n).2) := by
  simp (disch := omega) only [e_X8_setOil, s_X8_setOil_0, s_X8_setOil_1, s_X8_setOil_2, s_X8_setOil_3, s_X8_setOil_6, s_X8_setOil_9, s_X8_setOil_12, s_X8_setOil_14, s_X8_setOil_15, s_X8_setOil_16, s_X8_setOil_19, s_X8_setOil_20, s_X8_setOil_21, s_X8_setOil_22, s_X8_setOil_23, s_X8_setOil_24, s_X8_setOil_25, s_X8_setOil_28, s_X8_setOil_29, s_X8_setOil_30, s_X8_setOil_31, s_X8_setOil_32, s_X8_setOil_33, s_X8_setOil_34, mH_obj ha, m_g0 ha, m_g1 ha, m_g2 ha, m_g3 ha, m_g4 ha, m_g5 ha, m_g6 ha, m_g7 ha, m_g8 ha, m_g9 ha, m_g10 ha, m_g11 ha, m_g12 ha, m_g13 ha, m_g14 ha, m_g15 ha, m_g16 ha, m_g17 ha, m_g18 ha, m_g19 ha, m_g20 ha, m_p3 ha, m_p7 ha, m_p8 ha, m_p9 ha, m_p12 ha, m_p16 ha, m_p17 ha, m_p18 ha, m_p19 ha, m_p20 ha, m_r1 ha, m_r2 ha, m_r3 ha, m_r4 ha, m_r5 ha, m_r6 ha, m_r7 ha, m_r8 ha, m_r9 ha, m_r10 ha, m_r11 ha, m_s1 ha, m_s2 ha, m_s3 ha, m_s4 ha, m_s5 ha, m_s6 ha, m_s7 ha, m_s8 ha, m_s9 ha, m_s10 ha, m_s11 ha, zI_add, zI_sub, zI_mul, zI_neg, zL_add, zL_sub, zL_mul, Option.bind_some, Option.toList_some, Option.toList_none, List.cons_append, List.nil_append, zI_lt, zI_le, zI_eq, zI_eq0, zI_lt0, zI_le0, zI_0lt, zI_0le, bZ_e0, Int.add_zero, Int.zero_add, zI_64, c_in]
  unfold sOil
  by_cases q1 : 0 ≤ n ∧ n ≤ 12
  · simp only [q1, and_self, not_true_eq_false, if_true, if_false]
  · simp only [q1, not_true_eq_false, not_false_eq_true, if_true, if_false]
def sStr (t : Nat → Nat → Int) (r p v : Int) : Int × (Nat → Nat → Int) := if (0 ≤ p ∧ p < t 1 (r + 5).toNat) ∧ (0 ≤ v ∧ v ≤ 9) then (t 1 (r + 26 + p).toNat, up2 t 1 (r + 26 + p).toNat v) else (-2, t)
theorem c_setString {r p v : Int} (ha : a + 12 ≤ h.1) (h0 : 0 ≤ r) (h1 : r ≤ 600) (h2 : -2147483648 ≤ p) (h3 : p < 2147483648) (h4 : -2147483648 ≤ v) (h5 : v < 2147483648) (ho : rOk t r) : x_cl (d + 1) n_X8_setString [.ref a, .int (zI r), .int (zI p), .int (zI v)] (mH h a t) = some (some (.int (zI (sStr t r p v).1)), mH h a (sStr t r p v).2) := by
  have o1 := ho.2.1
  unfold sStr
  by_cases q1 : 0 ≤ p ∧ p < t 1 (r + 5).toNat
  · by_cases q2 : 0 ≤ v ∧ v ≤ 9
    · simp (disch := omega) only [e_X8_setString, s_X8_setString_0, s_X8_setString_1, s_X8_setString_2, s_X8_setString_3, s_X8_setString_4, s_X8_setString_7, s_X8_setString_8, s_X8_setString_9, s_X8_setString_10, s_X8_setString_11, s_X8_setString_12, s_X8_setString_13, s_X8_setString_14, s_X8_setString_17, s_X8_setString_20, s_X8_setString_21, s_X8_setString_22, s_X8_setString_23, s_X8_setString_26, s_X8_setString_29, s_X8_setString_32, s_X8_setString_34, s_X8_setString_35, s_X8_setString_36, s_X8_setString_39, s_X8_setString_40, s_X8_setString_42, s_X8_setString_43, s_X8_setString_44, s_X8_setString_45, s_X8_setString_46, s_X8_setString_48, s_X8_setString_49, s_X8_setString_52, s_X8_setString_53, s_X8_setString_55, s_X8_setString_56, s_X8_setString_57, s_X8_setString_58, s_X8_setString_59, s_X8_setString_60, s_X8_setString_62, mH_obj ha, m_g0 ha, m_g1 ha, m_g2 ha, m_g3 ha, m_g4 ha, m_g5 ha, m_g6 ha, m_g7 ha, m_g8 ha, m_g9 ha, m_g10 ha, m_g11 ha, m_g12 ha, m_g13 ha, m_g14 ha, m_g15 ha, m_g16 ha, m_g17 ha, m_g18 ha, m_g19 ha, m_g20 ha, m_p3 ha, m_p7 ha, m_p8 ha, m_p9 ha, m_p12 ha, m_p16 ha, m_p17 ha, m_p18 ha, m_p19 ha, m_p20 ha, m_r1 ha, m_r2 ha, m_r3 ha, m_r4 ha, m_r5 ha, m_r6 ha, m_r7 ha, m_r8 ha, m_r9 ha, m_r10 ha, m_r11 ha, m_s1 ha, m_s2 ha, m_s3 ha, m_s4 ha, m_s5 ha, m_s6 ha, m_s7 ha, m_s8 ha, m_s9 ha, m_s10 ha, m_s11 ha, zI_add, zI_sub, zI_mul, zI_neg, zL_add, zL_sub, zL_mul, Option.bind_some, Option.toList_some, Option.toList_none, List.cons_append, List.nil_append, zI_lt, zI_le, zI_eq, zI_eq0, zI_lt0, zI_le0, zI_0lt, zI_0le, bZ_e0, Int.add_zero, Int.zero_add, zI_64, c_in]
      rw [if_neg (by omega), if_neg (by omega), if_pos (by omega)]
    · simp (disch := omega) only [e_X8_setString, s_X8_setString_0, s_X8_setString_1, s_X8_setString_2, s_X8_setString_3, s_X8_setString_4, s_X8_setString_7, s_X8_setString_8, s_X8_setString_9, s_X8_setString_10, s_X8_setString_11, s_X8_setString_12, s_X8_setString_13, s_X8_setString_14, s_X8_setString_17, s_X8_setString_20, s_X8_setString_21, s_X8_setString_22, s_X8_setString_23, s_X8_setString_26, s_X8_setString_29, s_X8_setString_32, s_X8_setString_34, mH_obj ha, m_g0 ha, m_g1 ha, m_g2 ha, m_g3 ha, m_g4 ha, m_g5 ha, m_g6 ha, m_g7 ha, m_g8 ha, m_g9 ha, m_g10 ha, m_g11 ha, m_g12 ha, m_g13 ha, m_g14 ha, m_g15 ha, m_g16 ha, m_g17 ha, m_g18 ha, m_g19 ha, m_g20 ha, m_p3 ha, m_p7 ha, m_p8 ha, m_p9 ha, m_p12 ha, m_p16 ha, m_p17 ha, m_p18 ha, m_p19 ha, m_p20 ha, m_r1 ha, m_r2 ha, m_r3 ha, m_r4 ha, m_r5 ha, m_r6 ha, m_r7 ha, m_r8 ha, m_r9 ha, m_r10 ha, m_r11 ha, m_s1 ha, m_s2 ha, m_s3 ha, m_s4 ha, m_s5 ha, m_s6 ha, m_s7 ha, m_s8 ha, m_s9 ha, m_s10 ha, m_s11 ha, zI_add, zI_sub, zI_mul, zI_neg, zL_add, zL_sub, zL_mul, Option.bind_some, Option.toList_some, Option.toList_none, List.cons_append, List.nil_append, zI_lt, zI_le, zI_eq, zI_eq0, zI_lt0, zI_le0, zI_0lt, zI_0le, bZ_e0, Int.add_zero, Int.zero_add, zI_64, c_in]
      rw [if_neg (by omega), if_pos (by omega), if_neg (by omega)]
  · simp (disch := omega) only [e_X8_setString, s_X8_setString_0, s_X8_setString_1, s_X8_setString_2, s_X8_setString_3, s_X8_setString_4, s_X8_setString_7, s_X8_setString_8, s_X8_setString_9, s_X8_setString_10, s_X8_setString_11, s_X8_setString_12, s_X8_setString_13, s_X8_setString_14, s_X8_setString_17, s_X8_setString_20, s_X8_setString_21, s_X8_setString_22, s_X8_setString_23, s_X8_setString_26, s_X8_setString_29, s_X8_setString_32, s_X8_setString_34, mH_obj ha, m_g0 ha, m_g1 ha, m_g2 ha, m_g3 ha, m_g4 ha, m_g5 ha, m_g6 ha, m_g7 ha, m_g8 ha, m_g9 ha, m_g10 ha, m_g11 ha, m_g12 ha, m_g13 ha, m_g14 ha, m_g15 ha, m_g16 ha, m_g17 ha, m_g18 ha, m_g19 ha, m_g20 ha, m_p3 ha, m_p7 ha, m_p8 ha, m_p9 ha, m_p12 ha, m_p16 ha, m_p17 ha, m_p18 ha, m_p19 ha, m_p20 ha, m_r1 ha, m_r2 ha, m_r3 ha, m_r4 ha, m_r5 ha, m_r6 ha, m_r7 ha, m_r8 ha, m_r9 ha, m_r10 ha, m_r11 ha, m_s1 ha, m_s2 ha, m_s3 ha, m_s4 ha, m_s5 ha, m_s6 ha, m_s7 ha, m_s8 ha, m_s9 ha, m_s10 ha, m_s11 ha, zI_add, zI_sub, zI_mul, zI_neg, zL_add, zL_sub, zL_mul, Option.bind_some, Option.toList_some, Option.toList_none, List.cons_append, List.nil_append, zI_lt, zI_le, zI_eq, zI_eq0, zI_lt0, zI_le0, zI_0lt, zI_0le, bZ_e0, Int.add_zero, Int.zero_add, zI_64, c_in]
    rw [if_pos (by omega), if_neg (by omega)]
end

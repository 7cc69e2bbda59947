/-! THE REFERENCE, part 18: way, done, been -/
section
variable {h : xH} {a : Nat} {t : Nat → Nat → Int} {d : Nat}
def g0T (t : Nat → Nat → Int) (q : Int) : Nat → Nat → Int := up2 (up2 (up2 (up2 (up2 t 0 16 (-1)) 0 17 0) 0 18 0) 9 0 q) 11 0 0
def goV (t : Nat → Nat → Int) (m : Nat) (who : Int) (by' : Bool) (q : Int) : xA := visF t m who by' m q 0 (fun p => t 7 p.toNat) (fun p => t 8 p.toNat) (fun k => t 9 k) 0 (-1, 0, 0, fun k => t 10 k)
theorem c_goAll {m : Nat} {from' who : Int} {by' : Bool} (ha : a + 12 ≤ h.1) (hs : srOk t) (hb : bkOk t (fun p => t 7 p.toNat) (fun p => t 8 p.toNat)) (hm : m ≤ 6) (hq0 : 0 ≤ from') (hq1 : from' < sqN t 0) : ∃ T', vS t T' ∧ accR T' (goV t m who by' from') ∧ acB (goV t m who by' from') (25 ^ m) ∧ x_cl (d + 3) n_X8_goAll [.ref a, .int (zI from'), .int (zI m), .int (zI who), .int (zI (bZ (by' = true)))] (mH h a t) = some (none, mH h a T') := by
  have e : ∀ i j, ¬ (i = 0 ∧ (j = 16 ∨ j = 17 ∨ j = 18)) → ¬ (i = 9 ∧ j = 0) → ¬ (i = 11 ∧ j = 0) → g0T t from' i j = t i j := fun i j h1 h2 h3 => by
    unfold g0T
    rw [up2_n (by omega), up2_n (by omega), up2_n (by omega), up2_n (by omega), up2_n (by omega)]
  have hn : ndR t (g0T t from') 0 from' 0 (fun p => t 7 p.toNat) (fun p => t 8 p.toNat) (fun k => t 9 k) := by
    refine ⟨fun i j h1 h2 => e i j (by omega) (by omega) (by omega), e 0 3 (by omega) (by omega) (by omega), fun p h0 h1 => ⟨?_, ?_⟩, ?_, ?_, fun j h1 h2 => by omega⟩
    · rw [e _ _ (by omega) (by omega) (by omega), show (5 * ((0 : Nat) : Int) + p).toNat = p.toNat by omega]
    · rw [e _ _ (by omega) (by omega) (by omega), show (5 * ((0 : Nat) : Int) + p).toNat = p.toNat by omega]
    · unfold g0T; rw [up2_n (by omega), up2_s]
    · unfold g0T; rw [up2_s]
  have hA : accR (g0T t from') (-1, 0, 0, fun k => t 10 k) := by
    refine ⟨?_, ?_, ?_, fun k hk => e _ _ (by omega) (by omega) (by omega)⟩
    · unfold g0T; rw [up2_n (by omega), up2_n (by omega), up2_n (by omega), up2_n (by omega), up2_s]
    · unfold g0T; rw [up2_n (by omega), up2_n (by omega), up2_n (by omega), up2_s]
    · unfold g0T; rw [up2_n (by omega), up2_n (by omega), up2_s]
  obtain ⟨T', l7, r1, r2, r3, r4⟩ := sr_all (d := d) (h := h) (a := a) (t := t) (m := m) (from' := from') (who := who) (by' := by') ha hs hm m 0 (g0T t from') (-1, 0, 0, fun k => t 10 k) from' 0 0 (fun p => t 7 p.toNat) (fun p => t 8 p.toNat) (fun k => t 9 k) .null (by omega) hn hb hA ⟨⟨by dsimp only; omega, by dsimp only; omega⟩, ⟨by dsimp only; omega, by dsimp only; omega⟩⟩ hq0 hq1 (by decide) (by decide)
  rw [Int.zero_add] at r3
  refine ⟨T', ⟨fun i j h1 h2 => (r1.1 i j h1 h2).trans (e i j (by omega) (by omega) (by omega)), r1.2.1.trans (e 0 3 (by omega) (by omega) (by omega)), fun j hj => ⟨((r1.2.2.1 j (by omega)).1).trans (e _ _ (by omega) (by omega) (by omega)), ((r1.2.2.1 j (by omega)).2).trans (e _ _ (by omega) (by omega) (by omega))⟩⟩, r2, r3, ?_⟩
  simp (disch := first | omega | assumption) only [e_X8_goAll, s_X8_goAll_0, s_X8_goAll_1, s_X8_goAll_2, s_X8_goAll_5, s_X8_goAll_6, s_X8_goAll_7, s_X8_goAll_10, s_X8_goAll_11, s_X8_goAll_12, s_X8_goAll_15, s_X8_goAll_16, s_X8_goAll_19, s_X8_goAll_20, s_X8_goAll_21, s_X8_goAll_22, s_X8_goAll_23, s_X8_goAll_26, s_X8_goAll_27, s_X8_goAll_28, s_X8_goAll_29, s_X8_goAll_30, s_X8_goAll_32, s_X8_goAll_33, mH_obj ha, m_g0 ha, m_g1 ha, m_g2 ha, m_g3 ha, m_g4 ha, m_g5 ha, m_g6 ha, m_g7 ha, m_g8 ha, m_g9 ha, m_g10 ha, m_g11 ha, m_g12 ha, m_g13 ha, m_g14 ha, m_g15 ha, m_g16 ha, m_g17 ha, m_g18 ha, m_g19 ha, m_g20 ha, m_p3 ha, m_p7 ha, m_p8 ha, m_p9 ha, m_p12 ha, m_p16 ha, m_p17 ha, m_p18 ha, m_p19 ha, m_p20 ha, m_r1 ha, m_r2 ha, m_r3 ha, m_r4 ha, m_r5 ha, m_r6 ha, m_r7 ha, m_r8 ha, m_r9 ha, m_r10 ha, m_r11 ha, m_s1 ha, m_s2 ha, m_s3 ha, m_s4 ha, m_s5 ha, m_s6 ha, m_s7 ha, m_s8 ha, m_s9 ha, m_s10 ha, m_s11 ha, zI_add, zI_sub, zI_mul, zI_neg, zL_add, zL_sub, zL_mul, Option.bind_some, Option.toList_some, Option.toList_none, List.cons_append, List.nil_append, zI_lt, zI_le, zI_eq, zI_eq0, zI_lt0, zI_le0, zI_0lt, zI_0le, bZ_e0, Int.add_zero, Int.zero_add, Int.reduceToNat]
  refine Eq.trans r4 ?_
  rw [s_X8_goAll_35]
  simp (disch := first | omega | assumption) only [s_X8_goAll_37, mH_obj ha, m_g0 ha, m_g1 ha, m_g2 ha, m_g3 ha, m_g4 ha, m_g5 ha, m_g6 ha, m_g7 ha, m_g8 ha, m_g9 ha, m_g10 ha, m_g11 ha, m_g12 ha, m_g13 ha, m_g14 ha, m_g15 ha, m_g16 ha, m_g17 ha, m_g18 ha, m_g19 ha, m_g20 ha, m_p3 ha, m_p7 ha, m_p8 ha, m_p9 ha, m_p12 ha, m_p16 ha, m_p17 ha, m_p18 ha, m_p19 ha, m_p20 ha, m_r1 ha, m_r2 ha, m_r3 ha, m_r4 ha, m_r5 ha, m_r6 ha, m_r7 ha, m_r8 ha, m_r9 ha, m_r10 ha, m_r11 ha, m_s1 ha, m_s2 ha, m_s3 ha, m_s4 ha, m_s5 ha, m_s6 ha, m_s7 ha, m_s8 ha, m_s9 ha, m_s10 ha, m_s11 ha, zI_add, zI_sub, zI_mul, zI_neg, zL_add, zL_sub, zL_mul, Option.bind_some, Option.toList_some, Option.toList_none, List.cons_append, List.nil_append, zI_lt, zI_le, zI_eq, zI_eq0, zI_lt0, zI_le0, zI_0lt, zI_0le, bZ_e0, Int.add_zero, Int.zero_add]
  rw [if_pos (show ((0 : Nat) : Int) - 1 < 0 by decide)]
  simp only [s_X8_goAll_145]
theorem sr_of (ho : nowOk t) : srOk t := by
  obtain ⟨hr, hW, h46, hR⟩ := ho
  refine ⟨hW, hr.1, hr.2.1, fun p h0 h1 => ?_⟩
  obtain ⟨r1, r2, -, -, r5, r6⟩ := hR p h0 h1
  have r0 := hr.2.2.1 p h0 h1
  rw [show (0 + 6 + p).toNat = (6 + p).toNat by omega] at r0
  exact ⟨r0, r1, r2, r5, r6⟩
theorem srOk_w {T : Nat → Nat → Int} (hw : ∀ j, T 1 j = t 1 j) (hs : srOk t) : srOk T := by
  unfold srOk sqN at *
  simp only [hw]
  exact hs
theorem bk_bg (ho : nowOk t) : bkOk (bgT t 0) (fun p => bgT t 0 7 p.toNat) (fun p => bgT t 0 8 p.toNat) := by
  have o5 : 0 ≤ t 1 5 ∧ t 1 5 ≤ 5 := ho.1.2.1
  intro p h0 h1
  rw [bg_1] at h1
  obtain ⟨-, -, r3, r4, -, -⟩ := ho.2.2.2 p h0 h1
  dsimp only
  rw [bgT_7 (by omega) (by omega), bgT_8 (by omega) (by omega), show 31 + p.toNat = (31 + p).toNat by omega, show 36 + p.toNat = (36 + p).toNat by omega]
  exact ⟨r3, r4⟩
def shl1 (n : Int) : Int := (zI 1 <<< (zI n &&& 31)).toInt
theorem shl1_z (n : Int) : zI 1 <<< (zI n &&& 31) = zI (shl1 n) := zI_of _
theorem shl1_rg {n : Int} (h0 : 0 ≤ n) (h1 : n ≤ 5) : 1 ≤ shl1 n ∧ shl1 n ≤ 32 := by
  rcases (show n = 0 ∨ n = 1 ∨ n = 2 ∨ n = 3 ∨ n = 4 ∨ n = 5 by omega) with e | e | e | e | e | e <;> subst e <;> decide +kernel
def wayC (t : Nat → Nat → Int) (m i : Int) : Prop := (0 ≤ m ∧ m ≤ 6) ∧ m ≤ t 1 3 ∧ -1 ≤ i
def wayA (V : xA) (m i : Int) : Int := if i = -1 then V.1 else if i < m then V.2.2.2 (i + 1).toNat else -5
theorem m_way {m i : Int} (ha : a + 12 ≤ h.1) (h2 : -2147483648 ≤ m) (h3 : m < 2147483648) (h4 : -2147483648 ≤ i) (h5 : i < 2147483648) (ho : nowOk t) (hl : t 1 2 < sqN t 0) :
    (wayC t m i → ∃ T', vL t T' ∧ x_cl (d + 4) n_X8_way [.ref a, .int (zI m), .int (zI i)] (mH h a t) = some (some (.int (zI (wayA (goV (bgT t 0) m.toNat 0 false (t 1 2)) m i))), mH h a T')) ∧ (¬ wayC t m i → x_cl (d + 4) n_X8_way [.ref a, .int (zI m), .int (zI i)] (mH h a t) = some (some (.int (zI (-10))), mH h a (metE t (-10)))) := by
  have o3 : 0 ≤ t 1 3 ∧ t 1 3 ≤ 12 := ho.1.2.2.2.2.2
  have o2 : 0 ≤ t 1 2 ∧ t 1 2 < 25 := ho.1.2.2.2.1
  have hx : 1 * 1 = 1 := rfl
  constructor
  · intro ⟨z1, z2, z3⟩
    obtain ⟨T', r1, r2, r3, r4⟩ := c_goAll (d := d) (h := h) (a := a) (t := bgT t 0) (m := m.toNat) (from' := t 1 2) (who := 0) (by' := false) ha (srOk_w (fun j => bg_1) (sr_of ho)) (bk_bg ho) (by omega) o2.1 (by rw [sq_bg]; exact hl)
    rw [show ((m.toNat : Nat) : Int) = m by omega, bZ_f (show ¬ (false = true) by decide)] at r4
    refine ⟨T', vL_bg.trans r1.L, ?_⟩
    simp (disch := first | omega | assumption) only [e_X8_way, s_X8_way_0, s_X8_way_1, s_X8_way_2, s_X8_way_3, s_X8_way_6, s_X8_way_9, s_X8_way_12, s_X8_way_13, s_X8_way_14, s_X8_way_17, s_X8_way_18, s_X8_way_19, s_X8_way_22, s_X8_way_23, s_X8_way_24, mH_obj ha, m_g0 ha, m_g1 ha, m_g2 ha, m_g3 ha, m_g4 ha, m_g5 ha, m_g6 ha, m_g7 ha, m_g8 ha, m_g9 ha, m_g10 ha, m_g11 ha, m_g12 ha, m_g13 ha, m_g14 ha, m_g15 ha, m_g16 ha, m_g17 ha, m_g18 ha, m_g19 ha, m_g20 ha, m_p3 ha, m_p7 ha, m_p8 ha, m_p9 ha, m_p12 ha, m_p16 ha, m_p17 ha, m_p18 ha, m_p19 ha, m_p20 ha, m_r1 ha, m_r2 ha, m_r3 ha, m_r4 ha, m_r5 ha, m_r6 ha, m_r7 ha, m_r8 ha, m_r9 ha, m_r10 ha, m_r11 ha, m_s1 ha, m_s2 ha, m_s3 ha, m_s4 ha, m_s5 ha, m_s6 ha, m_s7 ha, m_s8 ha, m_s9 ha, m_s10 ha, m_s11 ha, zI_add, zI_sub, zI_mul, zI_neg, zL_add, zL_sub, zL_mul, Option.bind_some, Option.toList_some, Option.toList_none, List.cons_append, List.nil_append, zI_lt, zI_le, zI_eq, zI_eq0, zI_lt0, zI_le0, zI_0lt, zI_0le, bZ_e0, Int.add_zero, Int.zero_add, zI_64, c_in, Int.reduceToNat, ite_not]
    rw [if_pos z1, if_neg (show ¬ t 1 3 < m by omega), if_pos z3]
    simp (disch := first | omega | assumption) only [s_X8_way_34, s_X8_way_35, s_X8_way_38, s_X8_way_39, s_X8_way_40, s_X8_way_43, s_X8_way_44, s_X8_way_45, s_X8_way_46, s_X8_way_47, s_X8_way_48, s_X8_way_51, s_X8_way_52, s_X8_way_53, mH_obj ha, m_g0 ha, m_g1 ha, m_g2 ha, m_g3 ha, m_g4 ha, m_g5 ha, m_g6 ha, m_g7 ha, m_g8 ha, m_g9 ha, m_g10 ha, m_g11 ha, m_g12 ha, m_g13 ha, m_g14 ha, m_g15 ha, m_g16 ha, m_g17 ha, m_g18 ha, m_g19 ha, m_g20 ha, m_p3 ha, m_p7 ha, m_p8 ha, m_p9 ha, m_p12 ha, m_p16 ha, m_p17 ha, m_p18 ha, m_p19 ha, m_p20 ha, m_r1 ha, m_r2 ha, m_r3 ha, m_r4 ha, m_r5 ha, m_r6 ha, m_r7 ha, m_r8 ha, m_r9 ha, m_r10 ha, m_r11 ha, m_s1 ha, m_s2 ha, m_s3 ha, m_s4 ha, m_s5 ha, m_s6 ha, m_s7 ha, m_s8 ha, m_s9 ha, m_s10 ha, m_s11 ha, zI_add, zI_sub, zI_mul, zI_neg, zL_add, zL_sub, zL_mul, Option.bind_some, Option.toList_some, Option.toList_none, List.cons_append, List.nil_append, zI_lt, zI_le, zI_eq, zI_eq0, zI_lt0, zI_le0, zI_0lt, zI_0le, bZ_e0, Int.add_zero, Int.zero_add, c_beginNow ha, bg_1, Int.reduceToNat, r4]
    unfold wayA
    by_cases z4 : i = -1
    · rw [if_pos z4, if_pos z4]
      simp (disch := first | omega | assumption) only [s_X8_way_56, s_X8_way_57, s_X8_way_60, s_X8_way_81, mH_obj ha, m_g0 ha, m_g1 ha, m_g2 ha, m_g3 ha, m_g4 ha, m_g5 ha, m_g6 ha, m_g7 ha, m_g8 ha, m_g9 ha, m_g10 ha, m_g11 ha, m_g12 ha, m_g13 ha, m_g14 ha, m_g15 ha, m_g16 ha, m_g17 ha, m_g18 ha, m_g19 ha, m_g20 ha, m_p3 ha, m_p7 ha, m_p8 ha, m_p9 ha, m_p12 ha, m_p16 ha, m_p17 ha, m_p18 ha, m_p19 ha, m_p20 ha, m_r1 ha, m_r2 ha, m_r3 ha, m_r4 ha, m_r5 ha, m_r6 ha, m_r7 ha, m_r8 ha, m_r9 ha, m_r10 ha, m_r11 ha, m_s1 ha, m_s2 ha, m_s3 ha, m_s4 ha, m_s5 ha, m_s6 ha, m_s7 ha, m_s8 ha, m_s9 ha, m_s10 ha, m_s11 ha, zI_add, zI_sub, zI_mul, zI_neg, zL_add, zL_sub, zL_mul, Option.bind_some, Option.toList_some, Option.toList_none, List.cons_append, List.nil_append, zI_lt, zI_le, zI_eq, zI_eq0, zI_lt0, zI_le0, zI_0lt, zI_0le, bZ_e0, Int.add_zero, Int.zero_add, r2.1]
    · rw [if_neg z4, if_neg z4]
      simp (disch := first | omega | assumption) only [s_X8_way_63, s_X8_way_64, s_X8_way_65, mH_obj ha, m_g0 ha, m_g1 ha, m_g2 ha, m_g3 ha, m_g4 ha, m_g5 ha, m_g6 ha, m_g7 ha, m_g8 ha, m_g9 ha, m_g10 ha, m_g11 ha, m_g12 ha, m_g13 ha, m_g14 ha, m_g15 ha, m_g16 ha, m_g17 ha, m_g18 ha, m_g19 ha, m_g20 ha, m_p3 ha, m_p7 ha, m_p8 ha, m_p9 ha, m_p12 ha, m_p16 ha, m_p17 ha, m_p18 ha, m_p19 ha, m_p20 ha, m_r1 ha, m_r2 ha, m_r3 ha, m_r4 ha, m_r5 ha, m_r6 ha, m_r7 ha, m_r8 ha, m_r9 ha, m_r10 ha, m_r11 ha, m_s1 ha, m_s2 ha, m_s3 ha, m_s4 ha, m_s5 ha, m_s6 ha, m_s7 ha, m_s8 ha, m_s9 ha, m_s10 ha, m_s11 ha, zI_add, zI_sub, zI_mul, zI_neg, zL_add, zL_sub, zL_mul, Option.bind_some, Option.toList_some, Option.toList_none, List.cons_append, List.nil_append, zI_lt, zI_le, zI_eq, zI_eq0, zI_lt0, zI_le0, zI_0lt, zI_0le, bZ_e0, Int.add_zero, Int.zero_add]
      by_cases z5 : i < m
      · rw [if_neg (show ¬ m ≤ i by omega), if_pos z5]
        simp (disch := first | omega | assumption) only [s_X8_way_68, s_X8_way_69, s_X8_way_72, s_X8_way_73, s_X8_way_74, s_X8_way_75, s_X8_way_76, s_X8_way_79, s_X8_way_81, mH_obj ha, m_g0 ha, m_g1 ha, m_g2 ha, m_g3 ha, m_g4 ha, m_g5 ha, m_g6 ha, m_g7 ha, m_g8 ha, m_g9 ha, m_g10 ha, m_g11 ha, m_g12 ha, m_g13 ha, m_g14 ha, m_g15 ha, m_g16 ha, m_g17 ha, m_g18 ha, m_g19 ha, m_g20 ha, m_p3 ha, m_p7 ha, m_p8 ha, m_p9 ha, m_p12 ha, m_p16 ha, m_p17 ha, m_p18 ha, m_p19 ha, m_p20 ha, m_r1 ha, m_r2 ha, m_r3 ha, m_r4 ha, m_r5 ha, m_r6 ha, m_r7 ha, m_r8 ha, m_r9 ha, m_r10 ha, m_r11 ha, m_s1 ha, m_s2 ha, m_s3 ha, m_s4 ha, m_s5 ha, m_s6 ha, m_s7 ha, m_s8 ha, m_s9 ha, m_s10 ha, m_s11 ha, zI_add, zI_sub, zI_mul, zI_neg, zL_add, zL_sub, zL_mul, Option.bind_some, Option.toList_some, Option.toList_none, List.cons_append, List.nil_append, zI_lt, zI_le, zI_eq, zI_eq0, zI_lt0, zI_le0, zI_0lt, zI_0le, bZ_e0, Int.add_zero, Int.zero_add, r2.2.2.2]
      · rw [if_pos (show m ≤ i by omega), if_neg z5]
        simp (disch := first | omega | assumption) only [s_X8_way_79, s_X8_way_81, mH_obj ha, m_g0 ha, m_g1 ha, m_g2 ha, m_g3 ha, m_g4 ha, m_g5 ha, m_g6 ha, m_g7 ha, m_g8 ha, m_g9 ha, m_g10 ha, m_g11 ha, m_g12 ha, m_g13 ha, m_g14 ha, m_g15 ha, m_g16 ha, m_g17 ha, m_g18 ha, m_g19 ha, m_g20 ha, m_p3 ha, m_p7 ha, m_p8 ha, m_p9 ha, m_p12 ha, m_p16 ha, m_p17 ha, m_p18 ha, m_p19 ha, m_p20 ha, m_r1 ha, m_r2 ha, m_r3 ha, m_r4 ha, m_r5 ha, m_r6 ha, m_r7 ha, m_r8 ha, m_r9 ha, m_r10 ha, m_r11 ha, m_s1 ha, m_s2 ha, m_s3 ha, m_s4 ha, m_s5 ha, m_s6 ha, m_s7 ha, m_s8 ha, m_s9 ha, m_s10 ha, m_s11 ha, zI_add, zI_sub, zI_mul, zI_neg, zL_add, zL_sub, zL_mul, Option.bind_some, Option.toList_some, Option.toList_none, List.cons_append, List.nil_append, zI_lt, zI_le, zI_eq, zI_eq0, zI_lt0, zI_le0, zI_0lt, zI_0le, bZ_e0, Int.add_zero, Int.zero_add]
  · intro z
    unfold wayC at z
    simp (disch := first | omega | assumption) only [e_X8_way, s_X8_way_0, s_X8_way_1, s_X8_way_2, s_X8_way_3, s_X8_way_6, s_X8_way_9, s_X8_way_12, s_X8_way_13, s_X8_way_14, s_X8_way_17, s_X8_way_18, s_X8_way_19, s_X8_way_22, s_X8_way_23, s_X8_way_24, s_X8_way_27, s_X8_way_28, s_X8_way_30, s_X8_way_33, mH_obj ha, m_g0 ha, m_g1 ha, m_g2 ha, m_g3 ha, m_g4 ha, m_g5 ha, m_g6 ha, m_g7 ha, m_g8 ha, m_g9 ha, m_g10 ha, m_g11 ha, m_g12 ha, m_g13 ha, m_g14 ha, m_g15 ha, m_g16 ha, m_g17 ha, m_g18 ha, m_g19 ha, m_g20 ha, m_p3 ha, m_p7 ha, m_p8 ha, m_p9 ha, m_p12 ha, m_p16 ha, m_p17 ha, m_p18 ha, m_p19 ha, m_p20 ha, m_r1 ha, m_r2 ha, m_r3 ha, m_r4 ha, m_r5 ha, m_r6 ha, m_r7 ha, m_r8 ha, m_r9 ha, m_r10 ha, m_r11 ha, m_s1 ha, m_s2 ha, m_s3 ha, m_s4 ha, m_s5 ha, m_s6 ha, m_s7 ha, m_s8 ha, m_s9 ha, m_s10 ha, m_s11 ha, zI_add, zI_sub, zI_mul, zI_neg, zL_add, zL_sub, zL_mul, Option.bind_some, Option.toList_some, Option.toList_none, List.cons_append, List.nil_append, zI_lt, zI_le, zI_eq, zI_eq0, zI_lt0, zI_le0, zI_0lt, zI_0le, bZ_e0, Int.add_zero, Int.zero_add, zI_64, c_in, Int.reduceToNat, ite_not, c_metElse ha]
    by_cases z1 : 0 ≤ m ∧ m ≤ 6
    · rw [if_pos z1]
      by_cases z2 : m ≤ t 1 3
      · rw [if_neg (show ¬ t 1 3 < m by omega), if_neg (fun w => z ⟨z1, z2, w⟩)]
      · rw [if_pos (show t 1 3 < m by omega)]
    · rw [if_neg z1]
def doneC (t : Nat → Nat → Int) (m who i : Int) : Prop := (0 ≤ m ∧ m ≤ 6) ∧ m ≤ t 1 3 ∧ -1 ≤ i ∧ (0 ≤ who ∧ who ≤ shl1 (t 1 5) - 1)
def doneA (V : xA) (m i : Int) : Int := if V.2.1 = 0 then -1 else wayA V m i
theorem m_done {m who i : Int} (ha : a + 12 ≤ h.1) (h2 : -2147483648 ≤ m) (h3 : m < 2147483648) (h4 : -2147483648 ≤ i) (h5 : i < 2147483648) (h6 : -2147483648 ≤ who) (h7 : who < 2147483648) (ho : nowOk t) (hl : t 1 2 < sqN t 0) :
    (doneC t m who i → ∃ T', vL t T' ∧ x_cl (d + 4) n_X8_done [.ref a, .int (zI m), .int (zI who), .int (zI i)] (mH h a t) = some (some (.int (zI (doneA (goV (bgT t 0) m.toNat who false (t 1 2)) m i))), mH h a T')) ∧ (¬ doneC t m who i → x_cl (d + 4) n_X8_done [.ref a, .int (zI m), .int (zI who), .int (zI i)] (mH h a t) = some (some (.int (zI (-10))), mH h a (metE t (-10)))) := by
  have o3 : 0 ≤ t 1 3 ∧ t 1 3 ≤ 12 := ho.1.2.2.2.2.2
  have o2 : 0 ≤ t 1 2 ∧ t 1 2 < 25 := ho.1.2.2.2.1
  have o5 : 0 ≤ t 1 5 ∧ t 1 5 ≤ 5 := ho.1.2.1
  have os := shl1_rg o5.1 o5.2
  constructor
  · intro ⟨z1, z2, z3, z4⟩
    obtain ⟨T', r1, r2, r3, r4⟩ := c_goAll (d := d) (h := h) (a := a) (t := bgT t 0) (m := m.toNat) (from' := t 1 2) (who := who) (by' := false) ha (srOk_w (fun j => bg_1) (sr_of ho)) (bk_bg ho) (by omega) o2.1 (by rw [sq_bg]; exact hl)
    rw [show ((m.toNat : Nat) : Int) = m by omega, bZ_f (show ¬ (false = true) by decide)] at r4
    refine ⟨T', vL_bg.trans r1.L, ?_⟩
    have hp : (25 : Int) ^ m.toNat ≤ 244140625 := by
      rcases (show m.toNat = 0 ∨ m.toNat = 1 ∨ m.toNat = 2 ∨ m.toNat = 3 ∨ m.toNat = 4 ∨ m.toNat = 5 ∨ m.toNat = 6 by omega) with e | e | e | e | e | e | e <;> rw [e] <;> decide
    have r5 := r3.2
    simp (disch := first | omega | assumption) only [e_X8_done, s_X8_done_0, s_X8_done_1, s_X8_done_2, s_X8_done_3, s_X8_done_6, s_X8_done_9, s_X8_done_12, s_X8_done_13, s_X8_done_14, s_X8_done_17, s_X8_done_18, s_X8_done_19, s_X8_done_22, s_X8_done_23, s_X8_done_24, s_X8_done_27, s_X8_done_28, s_X8_done_29, s_X8_done_30, s_X8_done_31, s_X8_done_32, s_X8_done_35, s_X8_done_36, s_X8_done_37, s_X8_done_38, s_X8_done_39, s_X8_done_40, s_X8_done_41, s_X8_done_44, mH_obj ha, m_g0 ha, m_g1 ha, m_g2 ha, m_g3 ha, m_g4 ha, m_g5 ha, m_g6 ha, m_g7 ha, m_g8 ha, m_g9 ha, m_g10 ha, m_g11 ha, m_g12 ha, m_g13 ha, m_g14 ha, m_g15 ha, m_g16 ha, m_g17 ha, m_g18 ha, m_g19 ha, m_g20 ha, m_p3 ha, m_p7 ha, m_p8 ha, m_p9 ha, m_p12 ha, m_p16 ha, m_p17 ha, m_p18 ha, m_p19 ha, m_p20 ha, m_r1 ha, m_r2 ha, m_r3 ha, m_r4 ha, m_r5 ha, m_r6 ha, m_r7 ha, m_r8 ha, m_r9 ha, m_r10 ha, m_r11 ha, m_s1 ha, m_s2 ha, m_s3 ha, m_s4 ha, m_s5 ha, m_s6 ha, m_s7 ha, m_s8 ha, m_s9 ha, m_s10 ha, m_s11 ha, zI_add, zI_sub, zI_mul, zI_neg, zL_add, zL_sub, zL_mul, Option.bind_some, Option.toList_some, Option.toList_none, List.cons_append, List.nil_append, zI_lt, zI_le, zI_eq, zI_eq0, zI_lt0, zI_le0, zI_0lt, zI_0le, bZ_e0, Int.add_zero, Int.zero_add, zI_64, c_in, Int.reduceToNat, ite_not, shl1_z]
    rw [if_pos z1, if_neg (show ¬ t 1 3 < m by omega), if_neg (show ¬ i < -1 by omega), if_pos z4]
    simp (disch := first | omega | assumption) only [s_X8_done_54, s_X8_done_55, s_X8_done_58, s_X8_done_59, s_X8_done_60, s_X8_done_63, s_X8_done_64, s_X8_done_65, s_X8_done_66, s_X8_done_67, s_X8_done_68, s_X8_done_71, s_X8_done_72, s_X8_done_75, mH_obj ha, m_g0 ha, m_g1 ha, m_g2 ha, m_g3 ha, m_g4 ha, m_g5 ha, m_g6 ha, m_g7 ha, m_g8 ha, m_g9 ha, m_g10 ha, m_g11 ha, m_g12 ha, m_g13 ha, m_g14 ha, m_g15 ha, m_g16 ha, m_g17 ha, m_g18 ha, m_g19 ha, m_g20 ha, m_p3 ha, m_p7 ha, m_p8 ha, m_p9 ha, m_p12 ha, m_p16 ha, m_p17 ha, m_p18 ha, m_p19 ha, m_p20 ha, m_r1 ha, m_r2 ha, m_r3 ha, m_r4 ha, m_r5 ha, m_r6 ha, m_r7 ha, m_r8 ha, m_r9 ha, m_r10 ha, m_r11 ha, m_s1 ha, m_s2 ha, m_s3 ha, m_s4 ha, m_s5 ha, m_s6 ha, m_s7 ha, m_s8 ha, m_s9 ha, m_s10 ha, m_s11 ha, zI_add, zI_sub, zI_mul, zI_neg, zL_add, zL_sub, zL_mul, Option.bind_some, Option.toList_some, Option.toList_none, List.cons_append, List.nil_append, zI_lt, zI_le, zI_eq, zI_eq0, zI_lt0, zI_le0, zI_0lt, zI_0le, bZ_e0, Int.add_zero, Int.zero_add, c_beginNow ha, bg_1, Int.reduceToNat, r4, r2.2.1]
    unfold doneA wayA
    by_cases z0 : (goV (bgT t 0) m.toNat who false (t 1 2)).2.1 = 0
    · rw [if_pos z0, if_pos z0]
      simp (disch := first | omega | assumption) only [s_X8_done_78, s_X8_done_79, s_X8_done_112, mH_obj ha, m_g0 ha, m_g1 ha, m_g2 ha, m_g3 ha, m_g4 ha, m_g5 ha, m_g6 ha, m_g7 ha, m_g8 ha, m_g9 ha, m_g10 ha, m_g11 ha, m_g12 ha, m_g13 ha, m_g14 ha, m_g15 ha, m_g16 ha, m_g17 ha, m_g18 ha, m_g19 ha, m_g20 ha, m_p3 ha, m_p7 ha, m_p8 ha, m_p9 ha, m_p12 ha, m_p16 ha, m_p17 ha, m_p18 ha, m_p19 ha, m_p20 ha, m_r1 ha, m_r2 ha, m_r3 ha, m_r4 ha, m_r5 ha, m_r6 ha, m_r7 ha, m_r8 ha, m_r9 ha, m_r10 ha, m_r11 ha, m_s1 ha, m_s2 ha, m_s3 ha, m_s4 ha, m_s5 ha, m_s6 ha, m_s7 ha, m_s8 ha, m_s9 ha, m_s10 ha, m_s11 ha, zI_add, zI_sub, zI_mul, zI_neg, zL_add, zL_sub, zL_mul, Option.bind_some, Option.toList_some, Option.toList_none, List.cons_append, List.nil_append, zI_lt, zI_le, zI_eq, zI_eq0, zI_lt0, zI_le0, zI_0lt, zI_0le, bZ_e0, Int.add_zero, Int.zero_add]
    · rw [if_neg z0, if_neg z0]
      simp (disch := first | omega | assumption) only [s_X8_done_82, s_X8_done_83, s_X8_done_84, mH_obj ha, m_g0 ha, m_g1 ha, m_g2 ha, m_g3 ha, m_g4 ha, m_g5 ha, m_g6 ha, m_g7 ha, m_g8 ha, m_g9 ha, m_g10 ha, m_g11 ha, m_g12 ha, m_g13 ha, m_g14 ha, m_g15 ha, m_g16 ha, m_g17 ha, m_g18 ha, m_g19 ha, m_g20 ha, m_p3 ha, m_p7 ha, m_p8 ha, m_p9 ha, m_p12 ha, m_p16 ha, m_p17 ha, m_p18 ha, m_p19 ha, m_p20 ha, m_r1 ha, m_r2 ha, m_r3 ha, m_r4 ha, m_r5 ha, m_r6 ha, m_r7 ha, m_r8 ha, m_r9 ha, m_r10 ha, m_r11 ha, m_s1 ha, m_s2 ha, m_s3 ha, m_s4 ha, m_s5 ha, m_s6 ha, m_s7 ha, m_s8 ha, m_s9 ha, m_s10 ha, m_s11 ha, zI_add, zI_sub, zI_mul, zI_neg, zL_add, zL_sub, zL_mul, Option.bind_some, Option.toList_some, Option.toList_none, List.cons_append, List.nil_append, zI_lt, zI_le, zI_eq, zI_eq0, zI_lt0, zI_le0, zI_0lt, zI_0le, bZ_e0, Int.add_zero, Int.zero_add]
      by_cases z4 : i = -1
      · rw [if_pos z4, if_pos z4]
        simp (disch := first | omega | assumption) only [s_X8_done_87, s_X8_done_88, s_X8_done_91, s_X8_done_112, mH_obj ha, m_g0 ha, m_g1 ha, m_g2 ha, m_g3 ha, m_g4 ha, m_g5 ha, m_g6 ha, m_g7 ha, m_g8 ha, m_g9 ha, m_g10 ha, m_g11 ha, m_g12 ha, m_g13 ha, m_g14 ha, m_g15 ha, m_g16 ha, m_g17 ha, m_g18 ha, m_g19 ha, m_g20 ha, m_p3 ha, m_p7 ha, m_p8 ha, m_p9 ha, m_p12 ha, m_p16 ha, m_p17 ha, m_p18 ha, m_p19 ha, m_p20 ha, m_r1 ha, m_r2 ha, m_r3 ha, m_r4 ha, m_r5 ha, m_r6 ha, m_r7 ha, m_r8 ha, m_r9 ha, m_r10 ha, m_r11 ha, m_s1 ha, m_s2 ha, m_s3 ha, m_s4 ha, m_s5 ha, m_s6 ha, m_s7 ha, m_s8 ha, m_s9 ha, m_s10 ha, m_s11 ha, zI_add, zI_sub, zI_mul, zI_neg, zL_add, zL_sub, zL_mul, Option.bind_some, Option.toList_some, Option.toList_none, List.cons_append, List.nil_append, zI_lt, zI_le, zI_eq, zI_eq0, zI_lt0, zI_le0, zI_0lt, zI_0le, bZ_e0, Int.add_zero, Int.zero_add, r2.1]
      · rw [if_neg z4, if_neg z4]
        simp (disch := first | omega | assumption) only [s_X8_done_94, s_X8_done_95, s_X8_done_96, mH_obj ha, m_g0 ha, m_g1 ha, m_g2 ha, m_g3 ha, m_g4 ha, m_g5 ha, m_g6 ha, m_g7 ha, m_g8 ha, m_g9 ha, m_g10 ha, m_g11 ha, m_g12 ha, m_g13 ha, m_g14 ha, m_g15 ha, m_g16 ha, m_g17 ha, m_g18 ha, m_g19 ha, m_g20 ha, m_p3 ha, m_p7 ha, m_p8 ha, m_p9 ha, m_p12 ha, m_p16 ha, m_p17 ha, m_p18 ha, m_p19 ha, m_p20 ha, m_r1 ha, m_r2 ha, m_r3 ha, m_r4 ha, m_r5 ha, m_r6 ha, m_r7 ha, m_r8 ha, m_r9 ha, m_r10 ha, m_r11 ha, m_s1 ha, m_s2 ha, m_s3 ha, m_s4 ha, m_s5 ha, m_s6 ha, m_s7 ha, m_s8 ha, m_s9 ha, m_s10 ha, m_s11 ha, zI_add, zI_sub, zI_mul, zI_neg, zL_add, zL_sub, zL_mul, Option.bind_some, Option.toList_some, Option.toList_none, List.cons_append, List.nil_append, zI_lt, zI_le, zI_eq, zI_eq0, zI_lt0, zI_le0, zI_0lt, zI_0le, bZ_e0, Int.add_zero, Int.zero_add]
        by_cases z5 : i < m
        · rw [if_neg (show ¬ m ≤ i by omega), if_pos z5]
          simp (disch := first | omega | assumption) only [s_X8_done_99, s_X8_done_100, s_X8_done_103, s_X8_done_104, s_X8_done_105, s_X8_done_106, s_X8_done_107, s_X8_done_110, s_X8_done_112, mH_obj ha, m_g0 ha, m_g1 ha, m_g2 ha, m_g3 ha, m_g4 ha, m_g5 ha, m_g6 ha, m_g7 ha, m_g8 ha, m_g9 ha, m_g10 ha, m_g11 ha, m_g12 ha, m_g13 ha, m_g14 ha, m_g15 ha, m_g16 ha, m_g17 ha, m_g18 ha, m_g19 ha, m_g20 ha, m_p3 ha, m_p7 ha, m_p8 ha, m_p9 ha, m_p12 ha, m_p16 ha, m_p17 ha, m_p18 ha, m_p19 ha, m_p20 ha, m_r1 ha, m_r2 ha, m_r3 ha, m_r4 ha, m_r5 ha, m_r6 ha, m_r7 ha, m_r8 ha, m_r9 ha, m_r10 ha, m_r11 ha, m_s1 ha, m_s2 ha, m_s3 ha, m_s4 ha, m_s5 ha, m_s6 ha, m_s7 ha, m_s8 ha, m_s9 ha, m_s10 ha, m_s11 ha, zI_add, zI_sub, zI_mul, zI_neg, zL_add, zL_sub, zL_mul, Option.bind_some, Option.toList_some, Option.toList_none, List.cons_append, List.nil_append, zI_lt, zI_le, zI_eq, zI_eq0, zI_lt0, zI_le0, zI_0lt, zI_0le, bZ_e0, Int.add_zero, Int.zero_add, r2.2.2.2]
        · rw [if_pos (show m ≤ i by omega), if_neg z5]
          simp (disch := first | omega | assumption) only [s_X8_done_110, s_X8_done_112, mH_obj ha, m_g0 ha, m_g1 ha, m_g2 ha, m_g3 ha, m_g4 ha, m_g5 ha, m_g6 ha, m_g7 ha, m_g8 ha, m_g9 ha, m_g10 ha, m_g11 ha, m_g12 ha, m_g13 ha, m_g14 ha, m_g15 ha, m_g16 ha, m_g17 ha, m_g18 ha, m_g19 ha, m_g20 ha, m_p3 ha, m_p7 ha, m_p8 ha, m_p9 ha, m_p12 ha, m_p16 ha, m_p17 ha, m_p18 ha, m_p19 ha, m_p20 ha, m_r1 ha, m_r2 ha, m_r3 ha, m_r4 ha, m_r5 ha, m_r6 ha, m_r7 ha, m_r8 ha, m_r9 ha, m_r10 ha, m_r11 ha, m_s1 ha, m_s2 ha, m_s3 ha, m_s4 ha, m_s5 ha, m_s6 ha, m_s7 ha, m_s8 ha, m_s9 ha, m_s10 ha, m_s11 ha, zI_add, zI_sub, zI_mul, zI_neg, zL_add, zL_sub, zL_mul, Option.bind_some, Option.toList_some, Option.toList_none, List.cons_append, List.nil_append, zI_lt, zI_le, zI_eq, zI_eq0, zI_lt0, zI_le0, zI_0lt, zI_0le, bZ_e0, Int.add_zero, Int.zero_add]
  · intro z
    unfold doneC at z
    simp (disch := first | omega | assumption) only [e_X8_done, s_X8_done_0, s_X8_done_1, s_X8_done_2, s_X8_done_3, s_X8_done_6, s_X8_done_9, s_X8_done_12, s_X8_done_13, s_X8_done_14, s_X8_done_17, s_X8_done_18, s_X8_done_19, s_X8_done_22, s_X8_done_23, s_X8_done_24, s_X8_done_27, s_X8_done_28, s_X8_done_29, s_X8_done_30, s_X8_done_31, s_X8_done_32, s_X8_done_35, s_X8_done_36, s_X8_done_37, s_X8_done_38, s_X8_done_39, s_X8_done_40, s_X8_done_41, s_X8_done_44, s_X8_done_47, s_X8_done_48, s_X8_done_50, s_X8_done_53, mH_obj ha, m_g0 ha, m_g1 ha, m_g2 ha, m_g3 ha, m_g4 ha, m_g5 ha, m_g6 ha, m_g7 ha, m_g8 ha, m_g9 ha, m_g10 ha, m_g11 ha, m_g12 ha, m_g13 ha, m_g14 ha, m_g15 ha, m_g16 ha, m_g17 ha, m_g18 ha, m_g19 ha, m_g20 ha, m_p3 ha, m_p7 ha, m_p8 ha, m_p9 ha, m_p12 ha, m_p16 ha, m_p17 ha, m_p18 ha, m_p19 ha, m_p20 ha, m_r1 ha, m_r2 ha, m_r3 ha, m_r4 ha, m_r5 ha, m_r6 ha, m_r7 ha, m_r8 ha, m_r9 ha, m_r10 ha, m_r11 ha, m_s1 ha, m_s2 ha, m_s3 ha, m_s4 ha, m_s5 ha, m_s6 ha, m_s7 ha, m_s8 ha, m_s9 ha, m_s10 ha, m_s11 ha, zI_add, zI_sub, zI_mul, zI_neg, zL_add, zL_sub, zL_mul, Option.bind_some, Option.toList_some, Option.toList_none, List.cons_append, List.nil_append, zI_lt, zI_le, zI_eq, zI_eq0, zI_lt0, zI_le0, zI_0lt, zI_0le, bZ_e0, Int.add_zero, Int.zero_add, zI_64, c_in, Int.reduceToNat, ite_not, c_metElse ha, shl1_z]
    by_cases z1 : 0 ≤ m ∧ m ≤ 6
    · rw [if_pos z1]
      by_cases z2 : m ≤ t 1 3
      · rw [if_neg (show ¬ t 1 3 < m by omega)]
        by_cases z3 : -1 ≤ i
        · rw [if_neg (show ¬ i < -1 by omega), if_neg (fun w => z ⟨z1, z2, z3, w⟩)]
        · rw [if_pos (show i < -1 by omega)]
      · rw [if_pos (show t 1 3 < m by omega)]
    · rw [if_neg z1]
/-- all books as they were at first, from reader k on -/
def beT (t : Nat → Nat → Int) (k : Nat) : Nat → Nat → Int := fun i j => if i = 7 ∧ k ≤ j ∧ j < 5 then t 1 (16 + j) else if i = 8 ∧ k ≤ j ∧ j < 5 then 0 else t i j
theorem beT_7 {k j : Nat} (h1 : k ≤ j) (h2 : j < 5) : beT t k 7 j = t 1 (16 + j) := by
  unfold beT
  exact if_pos ⟨rfl, h1, h2⟩
theorem beT_8 {k j : Nat} (h1 : k ≤ j) (h2 : j < 5) : beT t k 8 j = 0 := by
  unfold beT
  exact (if_neg (by omega)).trans (if_pos ⟨rfl, h1, h2⟩)
theorem beT_o {k i j : Nat} (h1 : ¬ ((i = 7 ∨ i = 8) ∧ k ≤ j ∧ j < 5)) : beT t k i j = t i j := by
  unfold beT
  exact (if_neg (fun z => h1 ⟨Or.inl z.1, z.2⟩)).trans (if_neg (fun z => h1 ⟨Or.inr z.1, z.2⟩))
theorem l_been {f m w : Int} (ha : a + 12 ≤ h.1) : ∀ (n k : Nat) (t : Nat → Nat → Int), k + n = 5 → x_ev (d, n_X8_been, 54, [.ref a, .int (zI f), .int (zI m), .int (zI w), .int (zI k)], [], mH h a t) = x_ev (d, n_X8_been, 91, [.ref a, .int (zI f), .int (zI m), .int (zI w), .int (zI 5)], [], mH h a (beT t k)) := by
  intro n
  induction n with
  | zero =>
    intro k t hk
    rw [s_X8_been_54]
    simp (disch := first | omega | assumption) only [s_X8_been_56, s_X8_been_57, mH_obj ha, m_g0 ha, m_g1 ha, m_g2 ha, m_g3 ha, m_g4 ha, m_g5 ha, m_g6 ha, m_g7 ha, m_g8 ha, m_g9 ha, m_g10 ha, m_g11 ha, m_g12 ha, m_g13 ha, m_g14 ha, m_g15 ha, m_g16 ha, m_g17 ha, m_g18 ha, m_g19 ha, m_g20 ha, m_p3 ha, m_p7 ha, m_p8 ha, m_p9 ha, m_p12 ha, m_p16 ha, m_p17 ha, m_p18 ha, m_p19 ha, m_p20 ha, m_r1 ha, m_r2 ha, m_r3 ha, m_r4 ha, m_r5 ha, m_r6 ha, m_r7 ha, m_r8 ha, m_r9 ha, m_r10 ha, m_r11 ha, m_s1 ha, m_s2 ha, m_s3 ha, m_s4 ha, m_s5 ha, m_s6 ha, m_s7 ha, m_s8 ha, m_s9 ha, m_s10 ha, m_s11 ha, zI_add, zI_sub, zI_mul, zI_neg, zL_add, zL_sub, zL_mul, Option.bind_some, Option.toList_some, Option.toList_none, List.cons_append, List.nil_append, zI_lt, zI_le, zI_eq, zI_eq0, zI_lt0, zI_le0, zI_0lt, zI_0le, bZ_e0, Int.add_zero, Int.zero_add]
    rw [if_pos (by omega), show (k : Int) = 5 by omega]
    congr 7
    funext i j
    rw [beT_o (by omega)]
  | succ n ih =>
    intro k t hk
    rw [s_X8_been_54]
    simp (disch := first | omega | assumption) only [s_X8_been_56, s_X8_been_57, mH_obj ha, m_g0 ha, m_g1 ha, m_g2 ha, m_g3 ha, m_g4 ha, m_g5 ha, m_g6 ha, m_g7 ha, m_g8 ha, m_g9 ha, m_g10 ha, m_g11 ha, m_g12 ha, m_g13 ha, m_g14 ha, m_g15 ha, m_g16 ha, m_g17 ha, m_g18 ha, m_g19 ha, m_g20 ha, m_p3 ha, m_p7 ha, m_p8 ha, m_p9 ha, m_p12 ha, m_p16 ha, m_p17 ha, m_p18 ha, m_p19 ha, m_p20 ha, m_r1 ha, m_r2 ha, m_r3 ha, m_r4 ha, m_r5 ha, m_r6 ha, m_r7 ha, m_r8 ha, m_r9 ha, m_r10 ha, m_r11 ha, m_s1 ha, m_s2 ha, m_s3 ha, m_s4 ha, m_s5 ha, m_s6 ha, m_s7 ha, m_s8 ha, m_s9 ha, m_s10 ha, m_s11 ha, zI_add, zI_sub, zI_mul, zI_neg, zL_add, zL_sub, zL_mul, Option.bind_some, Option.toList_some, Option.toList_none, List.cons_append, List.nil_append, zI_lt, zI_le, zI_eq, zI_eq0, zI_lt0, zI_le0, zI_0lt, zI_0le, bZ_e0, Int.add_zero, Int.zero_add]
    rw [if_neg (by omega)]
    simp (disch := first | omega | assumption) only [s_X8_been_60, s_X8_been_61, s_X8_been_64, s_X8_been_66, s_X8_been_67, s_X8_been_70, s_X8_been_72, s_X8_been_74, s_X8_been_75, s_X8_been_76, s_X8_been_77, s_X8_been_78, s_X8_been_81, s_X8_been_83, s_X8_been_84, s_X8_been_85, s_X8_been_88, mH_obj ha, m_g0 ha, m_g1 ha, m_g2 ha, m_g3 ha, m_g4 ha, m_g5 ha, m_g6 ha, m_g7 ha, m_g8 ha, m_g9 ha, m_g10 ha, m_g11 ha, m_g12 ha, m_g13 ha, m_g14 ha, m_g15 ha, m_g16 ha, m_g17 ha, m_g18 ha, m_g19 ha, m_g20 ha, m_p3 ha, m_p7 ha, m_p8 ha, m_p9 ha, m_p12 ha, m_p16 ha, m_p17 ha, m_p18 ha, m_p19 ha, m_p20 ha, m_r1 ha, m_r2 ha, m_r3 ha, m_r4 ha, m_r5 ha, m_r6 ha, m_r7 ha, m_r8 ha, m_r9 ha, m_r10 ha, m_r11 ha, m_s1 ha, m_s2 ha, m_s3 ha, m_s4 ha, m_s5 ha, m_s6 ha, m_s7 ha, m_s8 ha, m_s9 ha, m_s10 ha, m_s11 ha, zI_add, zI_sub, zI_mul, zI_neg, zL_add, zL_sub, zL_mul, Option.bind_some, Option.toList_some, Option.toList_none, List.cons_append, List.nil_append, zI_lt, zI_le, zI_eq, zI_eq0, zI_lt0, zI_le0, zI_0lt, zI_0le, bZ_e0, Int.add_zero, Int.zero_add]
    have e1 : (k : Int) + 1 = ((k + 1 : Nat) : Int) := by omega
    have e2 : (16 + (k : Int)).toNat = 16 + k := by omega
    rw [e1, e2, Int.toNat_natCast, ih (k + 1) _ (by omega)]
    congr 7
    funext i j
    by_cases q7 : i = 7 ∧ k ≤ j ∧ j < 5
    · rw [q7.1, beT_7 q7.2.1 q7.2.2]
      by_cases q1 : j = k
      · rw [q1, beT_o (by omega), up2_n (by omega), up2_s]
      · rw [beT_7 (by omega) q7.2.2, up2_n (by omega), up2_n (by omega)]
    · by_cases q8 : i = 8 ∧ k ≤ j ∧ j < 5
      · rw [q8.1, beT_8 q8.2.1 q8.2.2]
        by_cases q1 : j = k
        · rw [q1, beT_o (by omega), up2_s]
        · rw [beT_8 (by omega) q8.2.2]
      · rw [beT_o (by omega), beT_o (by omega), up2_n (by omega), up2_n (by omega)]
theorem be_1 {j : Nat} : beT t 0 1 j = t 1 j := beT_o (by omega)
def beenC (t : Nat → Nat → Int) (f m w : Int) : Prop := (0 ≤ f ∧ f < sqN t 0) ∧ hasB (t 1 4) f = false ∧ (0 ≤ m ∧ m ≤ 5) ∧ (0 ≤ w ∧ w ≤ 1)
theorem m_been {f m w : Int} (ha : a + 12 ≤ h.1) (h2 : -2147483648 ≤ m) (h3 : m < 2147483648) (h4 : -2147483648 ≤ f) (h5 : f < 2147483648) (h6 : -2147483648 ≤ w) (h7 : w < 2147483648) (ho : nowOk t) :
    (beenC t f m w → ∃ T', vL t T' ∧ x_cl (d + 4) n_X8_been [.ref a, .int (zI f), .int (zI m), .int (zI w)] (mH h a t) = some (some (.int (zI (if w = 0 then (goV (beT t 0) m.toNat 0 true f).2.1 else (goV (beT t 0) m.toNat 0 true f).2.2.1))), mH h a T')) ∧ (¬ beenC t f m w → x_cl (d + 4) n_X8_been [.ref a, .int (zI f), .int (zI m), .int (zI w)] (mH h a t) = some (some (.int (zI (-2))), mH h a (metT t (-2)))) := by
  have hr := ho.1
  have o1 := hr.1
  have o5 : 0 ≤ t 1 5 ∧ t 1 5 ≤ 5 := ho.1.2.1
  constructor
  · intro ⟨z1, z2, z3, z4⟩
    have hbk : bkOk (beT t 0) (fun p => beT t 0 7 p.toNat) (fun p => beT t 0 8 p.toNat) := fun p h0 h1 => by
      rw [be_1] at h1
      obtain ⟨-, -, -, -, r5, -⟩ := ho.2.2.2 p h0 h1
      dsimp only
      rw [beT_7 (by omega) (by omega), beT_8 (by omega) (by omega), show 16 + p.toNat = (16 + p).toNat by omega]
      exact ⟨⟨by omega, r5.2⟩, by omega, by omega⟩
    have hsb : sqN (beT t 0) 0 = sqN t 0 := by unfold sqN; rw [be_1, be_1]
    obtain ⟨T', r1, r2, r3, r4⟩ := c_goAll (d := d) (h := h) (a := a) (t := beT t 0) (m := m.toNat) (from' := f) (who := 0) (by' := true) ha (srOk_w (fun j => be_1) (sr_of ho)) hbk (by omega) z1.1 (by rw [hsb]; exact z1.2)
    rw [show ((m.toNat : Nat) : Int) = m by omega, bZ_t (show true = true from rfl)] at r4
    refine ⟨T', (show vL t (beT t 0) from ⟨fun i j h1 h2 => beT_o (by omega), beT_o (by omega)⟩).trans r1.L, ?_⟩
    simp (disch := first | omega | assumption) only [e_X8_been, s_X8_been_0, s_X8_been_1, s_X8_been_2, s_X8_been_3, s_X8_been_6, s_X8_been_9, s_X8_been_10, s_X8_been_13, s_X8_been_14, s_X8_been_15, s_X8_been_16, s_X8_been_19, s_X8_been_22, s_X8_been_23, s_X8_been_24, s_X8_been_25, s_X8_been_28, s_X8_been_31, s_X8_been_34, s_X8_been_35, s_X8_been_36, s_X8_been_37, s_X8_been_38, s_X8_been_41, mH_obj ha, m_g0 ha, m_g1 ha, m_g2 ha, m_g3 ha, m_g4 ha, m_g5 ha, m_g6 ha, m_g7 ha, m_g8 ha, m_g9 ha, m_g10 ha, m_g11 ha, m_g12 ha, m_g13 ha, m_g14 ha, m_g15 ha, m_g16 ha, m_g17 ha, m_g18 ha, m_g19 ha, m_g20 ha, m_p3 ha, m_p7 ha, m_p8 ha, m_p9 ha, m_p12 ha, m_p16 ha, m_p17 ha, m_p18 ha, m_p19 ha, m_p20 ha, m_r1 ha, m_r2 ha, m_r3 ha, m_r4 ha, m_r5 ha, m_r6 ha, m_r7 ha, m_r8 ha, m_r9 ha, m_r10 ha, m_r11 ha, m_s1 ha, m_s2 ha, m_s3 ha, m_s4 ha, m_s5 ha, m_s6 ha, m_s7 ha, m_s8 ha, m_s9 ha, m_s10 ha, m_s11 ha, zI_add, zI_sub, zI_mul, zI_neg, zL_add, zL_sub, zL_mul, Option.bind_some, Option.toList_some, Option.toList_none, List.cons_append, List.nil_append, zI_lt, zI_le, zI_eq, zI_eq0, zI_lt0, zI_le0, zI_0lt, zI_0le, bZ_e0, Int.add_zero, Int.zero_add, c_isSq ha, c_has, zI_64, c_in, Int.reduceToNat, ite_not]
    rw [if_pos z1, if_neg (by rw [z2]; decide), if_pos z3, if_pos z4]
    simp (disch := first | omega | assumption) only [s_X8_been_51, s_X8_been_52, mH_obj ha, m_g0 ha, m_g1 ha, m_g2 ha, m_g3 ha, m_g4 ha, m_g5 ha, m_g6 ha, m_g7 ha, m_g8 ha, m_g9 ha, m_g10 ha, m_g11 ha, m_g12 ha, m_g13 ha, m_g14 ha, m_g15 ha, m_g16 ha, m_g17 ha, m_g18 ha, m_g19 ha, m_g20 ha, m_p3 ha, m_p7 ha, m_p8 ha, m_p9 ha, m_p12 ha, m_p16 ha, m_p17 ha, m_p18 ha, m_p19 ha, m_p20 ha, m_r1 ha, m_r2 ha, m_r3 ha, m_r4 ha, m_r5 ha, m_r6 ha, m_r7 ha, m_r8 ha, m_r9 ha, m_r10 ha, m_r11 ha, m_s1 ha, m_s2 ha, m_s3 ha, m_s4 ha, m_s5 ha, m_s6 ha, m_s7 ha, m_s8 ha, m_s9 ha, m_s10 ha, m_s11 ha, zI_add, zI_sub, zI_mul, zI_neg, zL_add, zL_sub, zL_mul, Option.bind_some, Option.toList_some, Option.toList_none, List.cons_append, List.nil_append, zI_lt, zI_le, zI_eq, zI_eq0, zI_lt0, zI_le0, zI_0lt, zI_0le, bZ_e0, Int.add_zero, Int.zero_add]
    refine Eq.trans (l_been ha 5 0 t rfl) ?_
    simp (disch := first | omega | assumption) only [s_X8_been_91, s_X8_been_92, s_X8_been_93, s_X8_been_94, s_X8_been_95, s_X8_been_96, s_X8_been_99, s_X8_been_100, mH_obj ha, m_g0 ha, m_g1 ha, m_g2 ha, m_g3 ha, m_g4 ha, m_g5 ha, m_g6 ha, m_g7 ha, m_g8 ha, m_g9 ha, m_g10 ha, m_g11 ha, m_g12 ha, m_g13 ha, m_g14 ha, m_g15 ha, m_g16 ha, m_g17 ha, m_g18 ha, m_g19 ha, m_g20 ha, m_p3 ha, m_p7 ha, m_p8 ha, m_p9 ha, m_p12 ha, m_p16 ha, m_p17 ha, m_p18 ha, m_p19 ha, m_p20 ha, m_r1 ha, m_r2 ha, m_r3 ha, m_r4 ha, m_r5 ha, m_r6 ha, m_r7 ha, m_r8 ha, m_r9 ha, m_r10 ha, m_r11 ha, m_s1 ha, m_s2 ha, m_s3 ha, m_s4 ha, m_s5 ha, m_s6 ha, m_s7 ha, m_s8 ha, m_s9 ha, m_s10 ha, m_s11 ha, zI_add, zI_sub, zI_mul, zI_neg, zL_add, zL_sub, zL_mul, Option.bind_some, Option.toList_some, Option.toList_none, List.cons_append, List.nil_append, zI_lt, zI_le, zI_eq, zI_eq0, zI_lt0, zI_le0, zI_0lt, zI_0le, bZ_e0, Int.add_zero, Int.zero_add, r4]
    by_cases z5 : w = 0
    · rw [if_pos z5, if_pos z5]
      simp (disch := first | omega | assumption) only [s_X8_been_103, s_X8_been_104, s_X8_been_107, s_X8_been_114, mH_obj ha, m_g0 ha, m_g1 ha, m_g2 ha, m_g3 ha, m_g4 ha, m_g5 ha, m_g6 ha, m_g7 ha, m_g8 ha, m_g9 ha, m_g10 ha, m_g11 ha, m_g12 ha, m_g13 ha, m_g14 ha, m_g15 ha, m_g16 ha, m_g17 ha, m_g18 ha, m_g19 ha, m_g20 ha, m_p3 ha, m_p7 ha, m_p8 ha, m_p9 ha, m_p12 ha, m_p16 ha, m_p17 ha, m_p18 ha, m_p19 ha, m_p20 ha, m_r1 ha, m_r2 ha, m_r3 ha, m_r4 ha, m_r5 ha, m_r6 ha, m_r7 ha, m_r8 ha, m_r9 ha, m_r10 ha, m_r11 ha, m_s1 ha, m_s2 ha, m_s3 ha, m_s4 ha, m_s5 ha, m_s6 ha, m_s7 ha, m_s8 ha, m_s9 ha, m_s10 ha, m_s11 ha, zI_add, zI_sub, zI_mul, zI_neg, zL_add, zL_sub, zL_mul, Option.bind_some, Option.toList_some, Option.toList_none, List.cons_append, List.nil_append, zI_lt, zI_le, zI_eq, zI_eq0, zI_lt0, zI_le0, zI_0lt, zI_0le, bZ_e0, Int.add_zero, Int.zero_add, r2.2.1]
    · rw [if_neg z5, if_neg z5]
      simp (disch := first | omega | assumption) only [s_X8_been_110, s_X8_been_111, s_X8_been_114, mH_obj ha, m_g0 ha, m_g1 ha, m_g2 ha, m_g3 ha, m_g4 ha, m_g5 ha, m_g6 ha, m_g7 ha, m_g8 ha, m_g9 ha, m_g10 ha, m_g11 ha, m_g12 ha, m_g13 ha, m_g14 ha, m_g15 ha, m_g16 ha, m_g17 ha, m_g18 ha, m_g19 ha, m_g20 ha, m_p3 ha, m_p7 ha, m_p8 ha, m_p9 ha, m_p12 ha, m_p16 ha, m_p17 ha, m_p18 ha, m_p19 ha, m_p20 ha, m_r1 ha, m_r2 ha, m_r3 ha, m_r4 ha, m_r5 ha, m_r6 ha, m_r7 ha, m_r8 ha, m_r9 ha, m_r10 ha, m_r11 ha, m_s1 ha, m_s2 ha, m_s3 ha, m_s4 ha, m_s5 ha, m_s6 ha, m_s7 ha, m_s8 ha, m_s9 ha, m_s10 ha, m_s11 ha, zI_add, zI_sub, zI_mul, zI_neg, zL_add, zL_sub, zL_mul, Option.bind_some, Option.toList_some, Option.toList_none, List.cons_append, List.nil_append, zI_lt, zI_le, zI_eq, zI_eq0, zI_lt0, zI_le0, zI_0lt, zI_0le, bZ_e0, Int.add_zero, Int.zero_add, r2.2.2.1]
  · intro z
    unfold beenC at z
    simp (disch := first | omega | assumption) only [e_X8_been, s_X8_been_0, s_X8_been_1, s_X8_been_2, s_X8_been_3, s_X8_been_6, s_X8_been_9, s_X8_been_10, s_X8_been_13, s_X8_been_14, s_X8_been_15, s_X8_been_16, s_X8_been_19, s_X8_been_22, s_X8_been_23, s_X8_been_24, s_X8_been_25, s_X8_been_28, s_X8_been_31, s_X8_been_34, s_X8_been_35, s_X8_been_36, s_X8_been_37, s_X8_been_38, s_X8_been_41, s_X8_been_44, s_X8_been_45, s_X8_been_47, s_X8_been_50, mH_obj ha, m_g0 ha, m_g1 ha, m_g2 ha, m_g3 ha, m_g4 ha, m_g5 ha, m_g6 ha, m_g7 ha, m_g8 ha, m_g9 ha, m_g10 ha, m_g11 ha, m_g12 ha, m_g13 ha, m_g14 ha, m_g15 ha, m_g16 ha, m_g17 ha, m_g18 ha, m_g19 ha, m_g20 ha, m_p3 ha, m_p7 ha, m_p8 ha, m_p9 ha, m_p12 ha, m_p16 ha, m_p17 ha, m_p18 ha, m_p19 ha, m_p20 ha, m_r1 ha, m_r2 ha, m_r3 ha, m_r4 ha, m_r5 ha, m_r6 ha, m_r7 ha, m_r8 ha, m_r9 ha, m_r10 ha, m_r11 ha, m_s1 ha, m_s2 ha, m_s3 ha, m_s4 ha, m_s5 ha, m_s6 ha, m_s7 ha, m_s8 ha, m_s9 ha, m_s10 ha, m_s11 ha, zI_add, zI_sub, zI_mul, zI_neg, zL_add, zL_sub, zL_mul, Option.bind_some, Option.toList_some, Option.toList_none, List.cons_append, List.nil_append, zI_lt, zI_le, zI_eq, zI_eq0, zI_lt0, zI_le0, zI_0lt, zI_0le, bZ_e0, Int.add_zero, Int.zero_add, c_isSq ha, c_has, zI_64, c_in, Int.reduceToNat, ite_not, c_met ha]
    by_cases z1 : 0 ≤ f ∧ f < sqN t 0
    · rw [if_pos z1]
      by_cases z2 : hasB (t 1 4) f = true
      · rw [if_pos z2]
      · rw [if_neg z2]
        by_cases z3 : 0 ≤ m ∧ m ≤ 5
        · rw [if_pos z3, if_neg (fun w => z ⟨z1, by simpa using z2, z3, w⟩)]
        · rw [if_neg z3]
    · rw [if_neg z1]
end

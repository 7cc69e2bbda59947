/-! THE REFERENCE, part 17: the search itself -/
section
variable {h : xH} {a : Nat} {t : Nat → Nat → Int} {d : Nat}
theorem mn_u9 {T : Nat → Nat → Int} {k n j : Nat} {b c : Int} : lgL (up2 T 9 j b) c (-1) = lgL T c (-1) ∧ mnW (up2 T 9 j b) k (lgL T c (-1)) n = mnW T k (lgL T c (-1)) n ∧ (mnOk T k → mnOk (up2 T 9 j b) k) := by
  refine ⟨?_, ?_, fun ho => ?_⟩
  · funext p
    unfold lgL lg1
    rw [up2_n (by omega), up2_n (by omega), up2_n (by omega)]
  · refine sumF_congr n fun p _ => ?_
    rw [up2_n (by omega)]
    congr 1
  · obtain ⟨h1, h2, h3⟩ := ho
    refine ⟨by rw [up2_n (by omega)]; exact h1, by rw [up2_n (by omega)]; exact h2, fun p h4 h5 => ?_⟩
    rw [up2_n (by omega)] at h5
    rw [up2_n (by omega), up2_n (by omega), up2_n (by omega), up2_n (by omega), up2_n (by omega)]
    exact h3 p h4 h5
/-- from a place of the search back to the one ahead of it, all ways behind it gone -/
def srE (d : Nat) (h : xH) (a : Nat) (t : Nat → Nat → Int) (m : Nat) (from' who : Int) (by' : Bool) (n : Nat) : Prop := ∀ (k : Nat) (T : Nat → Nat → Int) (A : xA) (q sum B : Int) (lf lt : Int → Int) (path : Nat → Int) (l7 : Value), k + n = m → ndR t T k q sum lf lt path → bkOk t lf lt → accR T A → acB A B → 0 ≤ q → q < sqN t 0 → 0 ≤ sum → sum ≤ 900 * (k : Int) →
  ∃ (T' : Nat → Nat → Int) (l7' : Value), lvS k T T' ∧ accR T' (visF t m who by' n q sum lf lt path k A) ∧ acB (visF t m who by' n q sum lf lt path k A) (B + 25 ^ n) ∧ x_ev (d + 3, n_X8_goAll, 35, [.ref a, .int (zI from'), .int (zI m), .int (zI who), .int (zI (bZ (by' = true))), .int (zI k), .int (zI (-1)), l7], [], mH h a T) = x_ev (d + 3, n_X8_goAll, 35, [.ref a, .int (zI from'), .int (zI m), .int (zI who), .int (zI (bZ (by' = true))), .int (zI ((k : Int) - 1)), .int (zI q), l7'], [], mH h a T')
theorem sr_base {m : Nat} {from' who : Int} {by' : Bool} (ha : a + 12 ≤ h.1) (hs : srOk t) (hm : m ≤ 6) : srE d h a t m from' who by' 0 := by
  intro k T A q sum B lf lt path l7 hk hn hb hA hB hq0 hq1 hs0 hs1
  have ek : k = m := by omega
  subst ek
  obtain ⟨n1, n2, n3, n4, n5, n6⟩ := id hn
  have w : ∀ j, T 1 j = t 1 j := fun j => n1 1 j (by decide) (by decide)
  have h5 := hs.2.2.1
  have eok : okA T who by' (fun p => T 7 (5 * (k : Int) + p).toNat) (t 1 5).toNat = okA t who by' lf (t 1 5).toNat := by
    rw [okA_w w, okA_congr _ fun j hj => (n3 j (by omega) (by omega)).1]
  have hend := c_end (d := d + 1) (h := h) (a := a) (t := T) (m := k) (who := who) (by' := by') ha hm (by rw [w]; exact h5) (fun p h0 h1 => by
    rw [w] at h1
    obtain ⟨-, -, -, r4, r5⟩ := hs.2.2.2 p h0 h1
    rw [w, w, (n3 p h0 h1).1]
    exact ⟨r4, r5, (hb p h0 h1).1⟩) (by rw [n5]; omega) (by rw [hA.1]; have := hB.1; omega)
  rw [w, eok] at hend
  obtain ⟨r1, r2⟩ := edT_R (ok := okA t who by' lf (t 1 5).toNat) hA hm n4 n5 n6
  refine ⟨edT T k (okA t who by' lf (t 1 5).toNat), .int (zI (-1)), r2, r1, ?_, ?_⟩
  · rw [visF]
    unfold endA acB at *
    rw [show (25 : Int) ^ 0 = 1 from rfl]
    repeat' split
    all_goals (refine ⟨⟨?_, ?_⟩, ⟨?_, ?_⟩⟩ <;> first | omega | (dsimp only; omega))
  · have e9 : edT T k (okA t who by' lf (t 1 5).toNat) 9 k = q := by rw [(r2.2.2.2 k (by omega)).1]; exact n4
    rw [s_X8_goAll_35]
    simp (disch := first | omega | assumption) only [s_X8_goAll_37, s_X8_goAll_40, s_X8_goAll_42, s_X8_goAll_43, s_X8_goAll_46, s_X8_goAll_47, mH_obj ha, m_g0 ha, m_g1 ha, m_g2 ha, m_g3 ha, m_g4 ha, m_g5 ha, m_g6 ha, m_g7 ha, m_g8 ha, m_g9 ha, m_g10 ha, m_g11 ha, m_g12 ha, m_g13 ha, m_g14 ha, m_g15 ha, m_g16 ha, m_g17 ha, m_g18 ha, m_g19 ha, m_g20 ha, m_p3 ha, m_p7 ha, m_p8 ha, m_p9 ha, m_p12 ha, m_p16 ha, m_p17 ha, m_p18 ha, m_p19 ha, m_p20 ha, m_r1 ha, m_r2 ha, m_r3 ha, m_r4 ha, m_r5 ha, m_r6 ha, m_r7 ha, m_r8 ha, m_r9 ha, m_r10 ha, m_r11 ha, m_s1 ha, m_s2 ha, m_s3 ha, m_s4 ha, m_s5 ha, m_s6 ha, m_s7 ha, m_s8 ha, m_s9 ha, m_s10 ha, m_s11 ha, zI_add, zI_sub, zI_mul, zI_neg, zL_add, zL_sub, zL_mul, Option.bind_some, Option.toList_some, Option.toList_none, List.cons_append, List.nil_append, zI_lt, zI_le, zI_eq, zI_eq0, zI_lt0, zI_le0, zI_0lt, zI_0le, bZ_e0, Int.add_zero, Int.zero_add, if_true]
    rw [if_neg (show ¬ (k : Int) < 0 by omega)]
    simp (disch := first | omega | assumption) only [s_X8_goAll_63, s_X8_goAll_65, s_X8_goAll_67, s_X8_goAll_68, mH_obj ha, m_g0 ha, m_g1 ha, m_g2 ha, m_g3 ha, m_g4 ha, m_g5 ha, m_g6 ha, m_g7 ha, m_g8 ha, m_g9 ha, m_g10 ha, m_g11 ha, m_g12 ha, m_g13 ha, m_g14 ha, m_g15 ha, m_g16 ha, m_g17 ha, m_g18 ha, m_g19 ha, m_g20 ha, m_p3 ha, m_p7 ha, m_p8 ha, m_p9 ha, m_p12 ha, m_p16 ha, m_p17 ha, m_p18 ha, m_p19 ha, m_p20 ha, m_r1 ha, m_r2 ha, m_r3 ha, m_r4 ha, m_r5 ha, m_r6 ha, m_r7 ha, m_r8 ha, m_r9 ha, m_r10 ha, m_r11 ha, m_s1 ha, m_s2 ha, m_s3 ha, m_s4 ha, m_s5 ha, m_s6 ha, m_s7 ha, m_s8 ha, m_s9 ha, m_s10 ha, m_s11 ha, zI_add, zI_sub, zI_mul, zI_neg, zL_add, zL_sub, zL_mul, Option.bind_some, Option.toList_some, Option.toList_none, List.cons_append, List.nil_append, zI_lt, zI_le, zI_eq, zI_eq0, zI_lt0, zI_le0, zI_0lt, zI_0le, bZ_e0, Int.add_zero, Int.zero_add, if_true]
    simp (disch := first | omega | assumption) only [s_X8_goAll_71, s_X8_goAll_72, s_X8_goAll_73, s_X8_goAll_74, s_X8_goAll_76, mH_obj ha, m_g0 ha, m_g1 ha, m_g2 ha, m_g3 ha, m_g4 ha, m_g5 ha, m_g6 ha, m_g7 ha, m_g8 ha, m_g9 ha, m_g10 ha, m_g11 ha, m_g12 ha, m_g13 ha, m_g14 ha, m_g15 ha, m_g16 ha, m_g17 ha, m_g18 ha, m_g19 ha, m_g20 ha, m_p3 ha, m_p7 ha, m_p8 ha, m_p9 ha, m_p12 ha, m_p16 ha, m_p17 ha, m_p18 ha, m_p19 ha, m_p20 ha, m_r1 ha, m_r2 ha, m_r3 ha, m_r4 ha, m_r5 ha, m_r6 ha, m_r7 ha, m_r8 ha, m_r9 ha, m_r10 ha, m_r11 ha, m_s1 ha, m_s2 ha, m_s3 ha, m_s4 ha, m_s5 ha, m_s6 ha, m_s7 ha, m_s8 ha, m_s9 ha, m_s10 ha, m_s11 ha, zI_add, zI_sub, zI_mul, zI_neg, zL_add, zL_sub, zL_mul, Option.bind_some, Option.toList_some, Option.toList_none, List.cons_append, List.nil_append, zI_lt, zI_le, zI_eq, zI_eq0, zI_lt0, zI_le0, zI_0lt, zI_0le, bZ_e0, Int.add_zero, Int.zero_add, hend]
    simp (disch := first | omega | assumption) only [s_X8_goAll_79, s_X8_goAll_81, mH_obj ha, m_g0 ha, m_g1 ha, m_g2 ha, m_g3 ha, m_g4 ha, m_g5 ha, m_g6 ha, m_g7 ha, m_g8 ha, m_g9 ha, m_g10 ha, m_g11 ha, m_g12 ha, m_g13 ha, m_g14 ha, m_g15 ha, m_g16 ha, m_g17 ha, m_g18 ha, m_g19 ha, m_g20 ha, m_p3 ha, m_p7 ha, m_p8 ha, m_p9 ha, m_p12 ha, m_p16 ha, m_p17 ha, m_p18 ha, m_p19 ha, m_p20 ha, m_r1 ha, m_r2 ha, m_r3 ha, m_r4 ha, m_r5 ha, m_r6 ha, m_r7 ha, m_r8 ha, m_r9 ha, m_r10 ha, m_r11 ha, m_s1 ha, m_s2 ha, m_s3 ha, m_s4 ha, m_s5 ha, m_s6 ha, m_s7 ha, m_s8 ha, m_s9 ha, m_s10 ha, m_s11 ha, zI_add, zI_sub, zI_mul, zI_neg, zL_add, zL_sub, zL_mul, Option.bind_some, Option.toList_some, Option.toList_none, List.cons_append, List.nil_append, zI_lt, zI_le, zI_eq, zI_eq0, zI_lt0, zI_le0, zI_0lt, zI_0le, bZ_e0, Int.add_zero, Int.zero_add]
    rw [if_neg (show ¬ (0 : Int) ≤ -1 by decide)]
    simp (disch := first | omega | assumption) only [s_X8_goAll_84, s_X8_goAll_85, s_X8_goAll_88, s_X8_goAll_90, s_X8_goAll_91, s_X8_goAll_93, s_X8_goAll_96, s_X8_goAll_142, mH_obj ha, m_g0 ha, m_g1 ha, m_g2 ha, m_g3 ha, m_g4 ha, m_g5 ha, m_g6 ha, m_g7 ha, m_g8 ha, m_g9 ha, m_g10 ha, m_g11 ha, m_g12 ha, m_g13 ha, m_g14 ha, m_g15 ha, m_g16 ha, m_g17 ha, m_g18 ha, m_g19 ha, m_g20 ha, m_p3 ha, m_p7 ha, m_p8 ha, m_p9 ha, m_p12 ha, m_p16 ha, m_p17 ha, m_p18 ha, m_p19 ha, m_p20 ha, m_r1 ha, m_r2 ha, m_r3 ha, m_r4 ha, m_r5 ha, m_r6 ha, m_r7 ha, m_r8 ha, m_r9 ha, m_r10 ha, m_r11 ha, m_s1 ha, m_s2 ha, m_s3 ha, m_s4 ha, m_s5 ha, m_s6 ha, m_s7 ha, m_s8 ha, m_s9 ha, m_s10 ha, m_s11 ha, zI_add, zI_sub, zI_mul, zI_neg, zL_add, zL_sub, zL_mul, Option.bind_some, Option.toList_some, Option.toList_none, List.cons_append, List.nil_append, zI_lt, zI_le, zI_eq, zI_eq0, zI_lt0, zI_le0, zI_0lt, zI_0le, bZ_e0, Int.add_zero, Int.zero_add, Int.toNat_natCast, e9]
    rw [show (k : Int) + (-1) = (k : Int) - 1 by omega]
theorem sr_kids {m n k : Nat} {from' who : Int} {by' : Bool} {q sum : Int} {lf lt : Int → Int} {path : Nat → Int} (ha : a + 12 ≤ h.1) (hs : srOk t) (hm : m ≤ 6) (ih : srE d h a t m from' who by' n) (hk : k + (n + 1) = m) (hb : bkOk t lf lt) (hq0 : 0 ≤ q) (hq1 : q < sqN t 0) (hs0 : 0 ≤ sum) (hs1 : sum ≤ 900 * (k : Int)) :
    ∀ (j0 j : Nat), j ≤ j0 → ∀ (l : Int) (T : Nat → Nat → Int) (A : xA) (B : Int) (l7 : Value), l + 1 + j = sqN t 0 → -1 ≤ l → ndR t T k q sum lf lt path → accR T A → acB A B →
    ∃ (T' : Nat → Nat → Int) (l7' : Value), lvS k T T' ∧ accR T' (kdF (fun b A => visF t m who by' n b (sum + nwt t b lf lt) (nlf t b lf lt) (nlt t b lf lt) (upP path (k + 1) b) (k + 1) A) (bes (t 1 0) (t 1 4) q) j (l + 1) A) ∧ acB (kdF (fun b A => visF t m who by' n b (sum + nwt t b lf lt) (nlf t b lf lt) (nlt t b lf lt) (upP path (k + 1) b) (k + 1) A) (bes (t 1 0) (t 1 4) q) j (l + 1) A) (B + (j : Int) * 25 ^ n) ∧
      x_ev (d + 3, n_X8_goAll, 35, [.ref a, .int (zI from'), .int (zI m), .int (zI who), .int (zI (bZ (by' = true))), .int (zI k), .int (zI l), l7], [], mH h a T) = x_ev (d + 3, n_X8_goAll, 35, [.ref a, .int (zI from'), .int (zI m), .int (zI who), .int (zI (bZ (by' = true))), .int (zI ((k : Int) - 1)), .int (zI q), l7'], [], mH h a T') := by
  have h5 := hs.2.2.1
  have hsq := hs.2.1
  have hP : (0 : Int) ≤ 25 ^ n := Int.pow_nonneg (by decide)
  intro j0
  induction j0 with
  | zero =>
    intro j hj l T A B l7 hl hl0 hn hA hB
    obtain ⟨n1, n2, n3, n4, n5, n6⟩ := id hn
    have w : ∀ j, T 1 j = t 1 j := fun j => n1 1 j (by decide) (by decide)
    have ej : j = 0 := by omega
    subst ej
    have esq : sqN T 0 = sqN t 0 := by unfold sqN; rw [w, w]
    have hbs := c_beside (d := d) (h := h) (a := a) (t := T) (x := q) (l := l) ha (by rw [w]; exact hs.1) (by rw [esq]; exact hsq.2) hq0 (by omega) hl0 (by rw [esq]; omega)
    rw [esq, show (sqN t 0 - (l + 1)).toNat = 0 by omega, nbF] at hbs
    refine ⟨T, .int (zI (-1)), lvS.rfl', hA, by rw [kdF]; exact ⟨hB.1, hB.2.1, by have := hB.2.2; simp; omega⟩, ?_⟩
    rw [s_X8_goAll_35]
    simp (disch := first | omega | assumption) only [s_X8_goAll_37, s_X8_goAll_40, s_X8_goAll_42, s_X8_goAll_43, mH_obj ha, m_g0 ha, m_g1 ha, m_g2 ha, m_g3 ha, m_g4 ha, m_g5 ha, m_g6 ha, m_g7 ha, m_g8 ha, m_g9 ha, m_g10 ha, m_g11 ha, m_g12 ha, m_g13 ha, m_g14 ha, m_g15 ha, m_g16 ha, m_g17 ha, m_g18 ha, m_g19 ha, m_g20 ha, m_p3 ha, m_p7 ha, m_p8 ha, m_p9 ha, m_p12 ha, m_p16 ha, m_p17 ha, m_p18 ha, m_p19 ha, m_p20 ha, m_r1 ha, m_r2 ha, m_r3 ha, m_r4 ha, m_r5 ha, m_r6 ha, m_r7 ha, m_r8 ha, m_r9 ha, m_r10 ha, m_r11 ha, m_s1 ha, m_s2 ha, m_s3 ha, m_s4 ha, m_s5 ha, m_s6 ha, m_s7 ha, m_s8 ha, m_s9 ha, m_s10 ha, m_s11 ha, zI_add, zI_sub, zI_mul, zI_neg, zL_add, zL_sub, zL_mul, Option.bind_some, Option.toList_some, Option.toList_none, List.cons_append, List.nil_append, zI_lt, zI_le, zI_eq, zI_eq0, zI_lt0, zI_le0, zI_0lt, zI_0le, bZ_e0, Int.add_zero, Int.zero_add]
    rw [if_neg (show ¬ (k : Int) < 0 by omega), if_neg (show ¬ (k : Int) = m by omega)]
    simp (disch := first | omega | assumption) only [s_X8_goAll_50, s_X8_goAll_51, s_X8_goAll_52, s_X8_goAll_55, s_X8_goAll_57, s_X8_goAll_58, s_X8_goAll_60, s_X8_goAll_63, s_X8_goAll_65, s_X8_goAll_67, s_X8_goAll_68, mH_obj ha, m_g0 ha, m_g1 ha, m_g2 ha, m_g3 ha, m_g4 ha, m_g5 ha, m_g6 ha, m_g7 ha, m_g8 ha, m_g9 ha, m_g10 ha, m_g11 ha, m_g12 ha, m_g13 ha, m_g14 ha, m_g15 ha, m_g16 ha, m_g17 ha, m_g18 ha, m_g19 ha, m_g20 ha, m_p3 ha, m_p7 ha, m_p8 ha, m_p9 ha, m_p12 ha, m_p16 ha, m_p17 ha, m_p18 ha, m_p19 ha, m_p20 ha, m_r1 ha, m_r2 ha, m_r3 ha, m_r4 ha, m_r5 ha, m_r6 ha, m_r7 ha, m_r8 ha, m_r9 ha, m_r10 ha, m_r11 ha, m_s1 ha, m_s2 ha, m_s3 ha, m_s4 ha, m_s5 ha, m_s6 ha, m_s7 ha, m_s8 ha, m_s9 ha, m_s10 ha, m_s11 ha, zI_add, zI_sub, zI_mul, zI_neg, zL_add, zL_sub, zL_mul, Option.bind_some, Option.toList_some, Option.toList_none, List.cons_append, List.nil_append, zI_lt, zI_le, zI_eq, zI_eq0, zI_lt0, zI_le0, zI_0lt, zI_0le, bZ_e0, Int.add_zero, Int.zero_add, Int.toNat_natCast, n4, hbs]
    rw [if_neg (show ¬ (k : Int) = m by omega)]
    simp (disch := first | omega | assumption) only [s_X8_goAll_79, s_X8_goAll_81, mH_obj ha, m_g0 ha, m_g1 ha, m_g2 ha, m_g3 ha, m_g4 ha, m_g5 ha, m_g6 ha, m_g7 ha, m_g8 ha, m_g9 ha, m_g10 ha, m_g11 ha, m_g12 ha, m_g13 ha, m_g14 ha, m_g15 ha, m_g16 ha, m_g17 ha, m_g18 ha, m_g19 ha, m_g20 ha, m_p3 ha, m_p7 ha, m_p8 ha, m_p9 ha, m_p12 ha, m_p16 ha, m_p17 ha, m_p18 ha, m_p19 ha, m_p20 ha, m_r1 ha, m_r2 ha, m_r3 ha, m_r4 ha, m_r5 ha, m_r6 ha, m_r7 ha, m_r8 ha, m_r9 ha, m_r10 ha, m_r11 ha, m_s1 ha, m_s2 ha, m_s3 ha, m_s4 ha, m_s5 ha, m_s6 ha, m_s7 ha, m_s8 ha, m_s9 ha, m_s10 ha, m_s11 ha, zI_add, zI_sub, zI_mul, zI_neg, zL_add, zL_sub, zL_mul, Option.bind_some, Option.toList_some, Option.toList_none, List.cons_append, List.nil_append, zI_lt, zI_le, zI_eq, zI_eq0, zI_lt0, zI_le0, zI_0lt, zI_0le, bZ_e0, Int.add_zero, Int.zero_add]
    rw [if_neg (show ¬ (0 : Int) ≤ -1 by decide)]
    simp (disch := first | omega | assumption) only [s_X8_goAll_84, s_X8_goAll_85, s_X8_goAll_88, s_X8_goAll_90, s_X8_goAll_91, s_X8_goAll_93, s_X8_goAll_96, s_X8_goAll_142, mH_obj ha, m_g0 ha, m_g1 ha, m_g2 ha, m_g3 ha, m_g4 ha, m_g5 ha, m_g6 ha, m_g7 ha, m_g8 ha, m_g9 ha, m_g10 ha, m_g11 ha, m_g12 ha, m_g13 ha, m_g14 ha, m_g15 ha, m_g16 ha, m_g17 ha, m_g18 ha, m_g19 ha, m_g20 ha, m_p3 ha, m_p7 ha, m_p8 ha, m_p9 ha, m_p12 ha, m_p16 ha, m_p17 ha, m_p18 ha, m_p19 ha, m_p20 ha, m_r1 ha, m_r2 ha, m_r3 ha, m_r4 ha, m_r5 ha, m_r6 ha, m_r7 ha, m_r8 ha, m_r9 ha, m_r10 ha, m_r11 ha, m_s1 ha, m_s2 ha, m_s3 ha, m_s4 ha, m_s5 ha, m_s6 ha, m_s7 ha, m_s8 ha, m_s9 ha, m_s10 ha, m_s11 ha, zI_add, zI_sub, zI_mul, zI_neg, zL_add, zL_sub, zL_mul, Option.bind_some, Option.toList_some, Option.toList_none, List.cons_append, List.nil_append, zI_lt, zI_le, zI_eq, zI_eq0, zI_lt0, zI_le0, zI_0lt, zI_0le, bZ_e0, Int.add_zero, Int.zero_add, Int.toNat_natCast, n4]
    rw [show (k : Int) + (-1) = (k : Int) - 1 by omega]
  | succ j0 ih2 =>
    intro j hj l T A B l7 hl hl0 hn hA hB
    by_cases hj1 : j ≤ j0
    · exact ih2 j hj1 l T A B l7 hl hl0 hn hA hB
    obtain ⟨n1, n2, n3, n4, n5, n6⟩ := id hn
    have w : ∀ j, T 1 j = t 1 j := fun j => n1 1 j (by decide) (by decide)
    have esq : sqN T 0 = sqN t 0 := by unfold sqN; rw [w, w]
    have hbs := c_beside (d := d) (h := h) (a := a) (t := T) (x := q) (l := l) ha (by rw [w]; exact hs.1) (by rw [esq]; exact hsq.2) hq0 (by omega) hl0 (by rw [esq]; omega)
    rw [esq, show (sqN t 0 - (l + 1)).toNat = j by omega, w, w] at hbs
    have start : x_ev (d + 3, n_X8_goAll, 35, [.ref a, .int (zI from'), .int (zI m), .int (zI who), .int (zI (bZ (by' = true))), .int (zI k), .int (zI l), l7], [], mH h a T) = x_ev (d + 3, n_X8_goAll, 79, [.ref a, .int (zI from'), .int (zI m), .int (zI who), .int (zI (bZ (by' = true))), .int (zI k), .int (zI l), .int (zI (nbF (t 1 0) (t 1 4) q j (l + 1)))], [], mH h a T) := by
      rw [s_X8_goAll_35]
      simp (disch := first | omega | assumption) only [s_X8_goAll_37, s_X8_goAll_40, s_X8_goAll_42, s_X8_goAll_43, mH_obj ha, m_g0 ha, m_g1 ha, m_g2 ha, m_g3 ha, m_g4 ha, m_g5 ha, m_g6 ha, m_g7 ha, m_g8 ha, m_g9 ha, m_g10 ha, m_g11 ha, m_g12 ha, m_g13 ha, m_g14 ha, m_g15 ha, m_g16 ha, m_g17 ha, m_g18 ha, m_g19 ha, m_g20 ha, m_p3 ha, m_p7 ha, m_p8 ha, m_p9 ha, m_p12 ha, m_p16 ha, m_p17 ha, m_p18 ha, m_p19 ha, m_p20 ha, m_r1 ha, m_r2 ha, m_r3 ha, m_r4 ha, m_r5 ha, m_r6 ha, m_r7 ha, m_r8 ha, m_r9 ha, m_r10 ha, m_r11 ha, m_s1 ha, m_s2 ha, m_s3 ha, m_s4 ha, m_s5 ha, m_s6 ha, m_s7 ha, m_s8 ha, m_s9 ha, m_s10 ha, m_s11 ha, zI_add, zI_sub, zI_mul, zI_neg, zL_add, zL_sub, zL_mul, Option.bind_some, Option.toList_some, Option.toList_none, List.cons_append, List.nil_append, zI_lt, zI_le, zI_eq, zI_eq0, zI_lt0, zI_le0, zI_0lt, zI_0le, bZ_e0, Int.add_zero, Int.zero_add]
      rw [if_neg (show ¬ (k : Int) < 0 by omega), if_neg (show ¬ (k : Int) = m by omega)]
      simp (disch := first | omega | assumption) only [s_X8_goAll_50, s_X8_goAll_51, s_X8_goAll_52, s_X8_goAll_55, s_X8_goAll_57, s_X8_goAll_58, s_X8_goAll_60, s_X8_goAll_63, s_X8_goAll_65, s_X8_goAll_67, s_X8_goAll_68, mH_obj ha, m_g0 ha, m_g1 ha, m_g2 ha, m_g3 ha, m_g4 ha, m_g5 ha, m_g6 ha, m_g7 ha, m_g8 ha, m_g9 ha, m_g10 ha, m_g11 ha, m_g12 ha, m_g13 ha, m_g14 ha, m_g15 ha, m_g16 ha, m_g17 ha, m_g18 ha, m_g19 ha, m_g20 ha, m_p3 ha, m_p7 ha, m_p8 ha, m_p9 ha, m_p12 ha, m_p16 ha, m_p17 ha, m_p18 ha, m_p19 ha, m_p20 ha, m_r1 ha, m_r2 ha, m_r3 ha, m_r4 ha, m_r5 ha, m_r6 ha, m_r7 ha, m_r8 ha, m_r9 ha, m_r10 ha, m_r11 ha, m_s1 ha, m_s2 ha, m_s3 ha, m_s4 ha, m_s5 ha, m_s6 ha, m_s7 ha, m_s8 ha, m_s9 ha, m_s10 ha, m_s11 ha, zI_add, zI_sub, zI_mul, zI_neg, zL_add, zL_sub, zL_mul, Option.bind_some, Option.toList_some, Option.toList_none, List.cons_append, List.nil_append, zI_lt, zI_le, zI_eq, zI_eq0, zI_lt0, zI_le0, zI_0lt, zI_0le, bZ_e0, Int.add_zero, Int.zero_add, Int.toNat_natCast, n4, hbs]
      rw [if_neg (show ¬ (k : Int) = m by omega)]
    rcases kd_nb (F := fun b A => visF t m who by' n b (sum + nwt t b lf lt) (nlf t b lf lt) (nlt t b lf lt) (upP path (k + 1) b) (k + 1) A) (W := t 1 0) (S := t 1 4) (x := q) j (l + 1) A (by omega) with ⟨c1, c2⟩ | ⟨c1, c2, c3, c4⟩
    · rw [c2, start, c1]
      refine ⟨T, .int (zI (-1)), lvS.rfl', hA, ⟨hB.1, hB.2.1, by have := hB.2.2; have := Int.mul_nonneg (show (0 : Int) ≤ j by omega) hP; omega⟩, ?_⟩
      simp (disch := first | omega | assumption) only [s_X8_goAll_79, s_X8_goAll_81, mH_obj ha, m_g0 ha, m_g1 ha, m_g2 ha, m_g3 ha, m_g4 ha, m_g5 ha, m_g6 ha, m_g7 ha, m_g8 ha, m_g9 ha, m_g10 ha, m_g11 ha, m_g12 ha, m_g13 ha, m_g14 ha, m_g15 ha, m_g16 ha, m_g17 ha, m_g18 ha, m_g19 ha, m_g20 ha, m_p3 ha, m_p7 ha, m_p8 ha, m_p9 ha, m_p12 ha, m_p16 ha, m_p17 ha, m_p18 ha, m_p19 ha, m_p20 ha, m_r1 ha, m_r2 ha, m_r3 ha, m_r4 ha, m_r5 ha, m_r6 ha, m_r7 ha, m_r8 ha, m_r9 ha, m_r10 ha, m_r11 ha, m_s1 ha, m_s2 ha, m_s3 ha, m_s4 ha, m_s5 ha, m_s6 ha, m_s7 ha, m_s8 ha, m_s9 ha, m_s10 ha, m_s11 ha, zI_add, zI_sub, zI_mul, zI_neg, zL_add, zL_sub, zL_mul, Option.bind_some, Option.toList_some, Option.toList_none, List.cons_append, List.nil_append, zI_lt, zI_le, zI_eq, zI_eq0, zI_lt0, zI_le0, zI_0lt, zI_0le, bZ_e0, Int.add_zero, Int.zero_add]
      rw [if_neg (show ¬ (0 : Int) ≤ -1 by decide)]
      simp (disch := first | omega | assumption) only [s_X8_goAll_84, s_X8_goAll_85, s_X8_goAll_88, s_X8_goAll_90, s_X8_goAll_91, s_X8_goAll_93, s_X8_goAll_96, s_X8_goAll_142, mH_obj ha, m_g0 ha, m_g1 ha, m_g2 ha, m_g3 ha, m_g4 ha, m_g5 ha, m_g6 ha, m_g7 ha, m_g8 ha, m_g9 ha, m_g10 ha, m_g11 ha, m_g12 ha, m_g13 ha, m_g14 ha, m_g15 ha, m_g16 ha, m_g17 ha, m_g18 ha, m_g19 ha, m_g20 ha, m_p3 ha, m_p7 ha, m_p8 ha, m_p9 ha, m_p12 ha, m_p16 ha, m_p17 ha, m_p18 ha, m_p19 ha, m_p20 ha, m_r1 ha, m_r2 ha, m_r3 ha, m_r4 ha, m_r5 ha, m_r6 ha, m_r7 ha, m_r8 ha, m_r9 ha, m_r10 ha, m_r11 ha, m_s1 ha, m_s2 ha, m_s3 ha, m_s4 ha, m_s5 ha, m_s6 ha, m_s7 ha, m_s8 ha, m_s9 ha, m_s10 ha, m_s11 ha, zI_add, zI_sub, zI_mul, zI_neg, zL_add, zL_sub, zL_mul, Option.bind_some, Option.toList_some, Option.toList_none, List.cons_append, List.nil_append, zI_lt, zI_le, zI_eq, zI_eq0, zI_lt0, zI_le0, zI_0lt, zI_0le, bZ_e0, Int.add_zero, Int.zero_add, Int.toNat_natCast, n4]
      rw [show (k : Int) + (-1) = (k : Int) - 1 by omega]
    · rw [c4, start]
      generalize nbF (t 1 0) (t 1 4) q j (l + 1) = c at *
      have hmo := nd_mnOk hn hs hb
      obtain ⟨u1, u2, u3⟩ := mn_u9 (T := T) (k := k) (n := (t 1 5).toNat) (j := k + 1) (b := c) (c := c)
      have hmn := c_minute (d := d) (h := h) (a := a) (t := up2 T 9 (k + 1) c) (lev := k) (one := c) (other := -1) ha (by omega) (u3 hmo) (by omega) (by decide)
      rw [u1, up2_n (by omega), w, u2] at hmn
      obtain ⟨nd2, lv2⟩ := nd_next (b := c) hn h5
      have hw := nd_wt (b := c) hn h5.1
      have hwr := nwt_rg (b := c) hs hb
      have step : x_ev (d + 3, n_X8_goAll, 79, [.ref a, .int (zI from'), .int (zI m), .int (zI who), .int (zI (bZ (by' = true))), .int (zI k), .int (zI l), .int (zI c)], [], mH h a T) = x_ev (d + 3, n_X8_goAll, 35, [.ref a, .int (zI from'), .int (zI m), .int (zI who), .int (zI (bZ (by' = true))), .int (zI ((k + 1 : Nat) : Int)), .int (zI (-1)), .int (zI c)], [], mH h a (nxT T k c (t 1 5).toNat)) := by
        simp (disch := first | omega | assumption) only [s_X8_goAll_79, s_X8_goAll_81, mH_obj ha, m_g0 ha, m_g1 ha, m_g2 ha, m_g3 ha, m_g4 ha, m_g5 ha, m_g6 ha, m_g7 ha, m_g8 ha, m_g9 ha, m_g10 ha, m_g11 ha, m_g12 ha, m_g13 ha, m_g14 ha, m_g15 ha, m_g16 ha, m_g17 ha, m_g18 ha, m_g19 ha, m_g20 ha, m_p3 ha, m_p7 ha, m_p8 ha, m_p9 ha, m_p12 ha, m_p16 ha, m_p17 ha, m_p18 ha, m_p19 ha, m_p20 ha, m_r1 ha, m_r2 ha, m_r3 ha, m_r4 ha, m_r5 ha, m_r6 ha, m_r7 ha, m_r8 ha, m_r9 ha, m_r10 ha, m_r11 ha, m_s1 ha, m_s2 ha, m_s3 ha, m_s4 ha, m_s5 ha, m_s6 ha, m_s7 ha, m_s8 ha, m_s9 ha, m_s10 ha, m_s11 ha, zI_add, zI_sub, zI_mul, zI_neg, zL_add, zL_sub, zL_mul, Option.bind_some, Option.toList_some, Option.toList_none, List.cons_append, List.nil_append, zI_lt, zI_le, zI_eq, zI_eq0, zI_lt0, zI_le0, zI_0lt, zI_0le, bZ_e0, Int.add_zero, Int.zero_add]
        rw [if_pos (show 0 ≤ c by omega)]
        have e1 : ((k : Int) + 1).toNat = k + 1 := by omega
        have e2 : (k : Int) + 1 = ((k + 1 : Nat) : Int) := by omega
        simp (disch := first | omega | assumption) only [s_X8_goAll_99, s_X8_goAll_100, s_X8_goAll_103, s_X8_goAll_105, s_X8_goAll_106, s_X8_goAll_107, s_X8_goAll_109, s_X8_goAll_110, s_X8_goAll_111, s_X8_goAll_114, s_X8_goAll_116, s_X8_goAll_117, s_X8_goAll_118, s_X8_goAll_119, s_X8_goAll_122, s_X8_goAll_124, s_X8_goAll_125, s_X8_goAll_126, s_X8_goAll_128, s_X8_goAll_130, s_X8_goAll_131, s_X8_goAll_134, s_X8_goAll_135, s_X8_goAll_136, s_X8_goAll_139, s_X8_goAll_140, s_X8_goAll_142, mH_obj ha, m_g0 ha, m_g1 ha, m_g2 ha, m_g3 ha, m_g4 ha, m_g5 ha, m_g6 ha, m_g7 ha, m_g8 ha, m_g9 ha, m_g10 ha, m_g11 ha, m_g12 ha, m_g13 ha, m_g14 ha, m_g15 ha, m_g16 ha, m_g17 ha, m_g18 ha, m_g19 ha, m_g20 ha, m_p3 ha, m_p7 ha, m_p8 ha, m_p9 ha, m_p12 ha, m_p16 ha, m_p17 ha, m_p18 ha, m_p19 ha, m_p20 ha, m_r1 ha, m_r2 ha, m_r3 ha, m_r4 ha, m_r5 ha, m_r6 ha, m_r7 ha, m_r8 ha, m_r9 ha, m_r10 ha, m_r11 ha, m_s1 ha, m_s2 ha, m_s3 ha, m_s4 ha, m_s5 ha, m_s6 ha, m_s7 ha, m_s8 ha, m_s9 ha, m_s10 ha, m_s11 ha, zI_add, zI_sub, zI_mul, zI_neg, zL_add, zL_sub, zL_mul, Option.bind_some, Option.toList_some, Option.toList_none, List.cons_append, List.nil_append, zI_lt, zI_le, zI_eq, zI_eq0, zI_lt0, zI_le0, zI_0lt, zI_0le, bZ_e0, Int.add_zero, Int.zero_add, Int.toNat_natCast, e1, up2_n, hmn]
        rw [e2]
        rfl
      rw [step]
      obtain ⟨T2, l72, lv3, a3, b3, e3⟩ := ih (k + 1) (nxT T k c (t 1 5).toNat) A c (sum + nwt t c lf lt) B (nlf t c lf lt) (nlt t c lf lt) (upP path (k + 1) c) (.int (zI c)) (by omega) nd2 (bkOk_n hb) (acc_next hA) hB (by omega) (by omega) (by omega) (by omega)
      rw [e3]
      have lvT : lvS k T T2 := lv2.trans lv3.low
      obtain ⟨T3, l73, lv4, a4, b4, e4⟩ := ih2 (l + 1 + (j : Int) - (c + 1)).toNat (by omega) c T2 (visF t m who by' n c (sum + nwt t c lf lt) (nlf t c lf lt) (nlt t c lf lt) (upP path (k + 1) c) (k + 1) A) (B + 25 ^ n) l72 (by omega) (by omega) (hn.go h5.2 lvT) a3 b3
      refine ⟨T3, l73, lvT.trans lv4, a4, ⟨b4.1, b4.2.1, ?_⟩, ?_⟩
      · have g1 := b4.2.2
        have g2 : (((l + 1 + (j : Int) - (c + 1)).toNat : Int) + 1) * 25 ^ n ≤ (j : Int) * 25 ^ n := Int.mul_le_mul_of_nonneg_right (by omega) hP
        rw [Int.add_mul, Int.one_mul] at g2
        omega
      · rw [show (((k + 1 : Nat) : Int) - 1) = (k : Int) by omega]
        exact e4
theorem sr_all {m : Nat} {from' who : Int} {by' : Bool} (ha : a + 12 ≤ h.1) (hs : srOk t) (hm : m ≤ 6) : ∀ n, srE d h a t m from' who by' n := by
  intro n
  induction n with
  | zero => exact sr_base ha hs hm
  | succ n ih =>
    intro k T A q sum B lf lt path l7 hk hn hb hA hB hq0 hq1 hs0 hs1
    have hsq := hs.2.1
    obtain ⟨T', l7', r1, r2, r3, r4⟩ := sr_kids ha hs hm ih hk hb hq0 hq1 hs0 hs1 (sqN t 0).toNat (sqN t 0).toNat (Nat.le_refl _) (-1) T A B l7 (by omega) (by decide) hn hA hB
    refine ⟨T', l7', r1, r2, ⟨r3.1, r3.2.1, ?_⟩, r4⟩
    have g1 := r3.2.2
    have hP : (0 : Int) ≤ 25 ^ n := Int.pow_nonneg (by decide)
    have g2 : ((sqN t 0).toNat : Int) * 25 ^ n ≤ 25 * 25 ^ n := Int.mul_le_mul_of_nonneg_right (by omega) hP
    rw [Int.pow_succ, Int.mul_comm]
    exact Int.le_trans g1 (Int.add_le_add_left g2 B)
end

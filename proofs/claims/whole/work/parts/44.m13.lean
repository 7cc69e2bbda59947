/-! THE REFERENCE, part 13: a shelf moved; who pulls -/
section
variable {h : xH} {a : Nat} {t : Nat → Nat → Int} {d : Nat}
def mvB (S f g : Int) : Int := ((zI S &&& ((zI 1 <<< (zI f &&& 31)) ^^^ zI (-1))) ||| (zI 1 <<< (zI g &&& 31))).toInt
theorem mvB_z (S f g : Int) : (zI S &&& ((zI 1 <<< (zI f &&& 31)) ^^^ zI (-1))) ||| (zI 1 <<< (zI g &&& 31)) = zI (mvB S f g) := zI_of _
def slT (t : Nat → Nat → Int) (x q : Int) : Nat → Nat → Int := up2 t 1 4 (mvB (t 1 4) x q)
def shO (t : Nat → Nat → Int) (x q : Int) : Bool := hasB (t 1 4) x && !hasB (t 1 4) q && decide (sitZ t 0 q < 0) && decide (¬ t 1 2 = q)
def shI (t : Nat → Nat → Int) (x : Int) (s : Int × Int) : Int × Int := scG (fun q => stB (slT t x q)) (fun q => 100 * x + q) (shO t x) (sqN t 0).toNat 0 s
theorem mnOk_4 {v : Int} (hok : mnOk t 0) : mnOk (up2 t 1 4 v) 0 := by
  obtain ⟨h1, h2, h3⟩ := hok
  refine ⟨by rw [up2_n (by omega)]; exact h1, by rw [up2_n (by omega)]; exact h2, fun k h4 h5 => ?_⟩
  rw [up2_n (by omega)] at h5
  rw [up2_n (by omega), up2_n (by omega), up2_n (by omega), up2_n (by omega), up2_n (by omega)]
  exact h3 k h4 h5
theorem l_moved2 {x : Int} (ha : a + 12 ≤ h.1) (hok : mnOk t 0) (hr : rOk t 0) (hx : 0 ≤ x) : ∀ (n : Nat) (q : Int) (s : Int × Int) (t' : Nat → Nat → Int) (l6 : Value), vS t t' → q + n = sqN t 0 → 0 ≤ q → -1 ≤ s.1 → s.1 ≤ 900 →
    ∃ t'' l6', vS t t'' ∧ (-1 ≤ (scG (fun q => stB (slT t x q)) (fun q => 100 * x + q) (shO t x) n q s).1 ∧ (scG (fun q => stB (slT t x q)) (fun q => 100 * x + q) (shO t x) n q s).1 ≤ 900) ∧ x_ev (d + 4, n_X8_moved, 34, [.ref a, .int (zI s.1), .int (zI s.2), .int (zI (t 1 4)), .int (zI x), .int (zI q), l6], [], mH h a t') = x_ev (d + 4, n_X8_moved, 147, [.ref a, .int (zI (scG (fun q => stB (slT t x q)) (fun q => 100 * x + q) (shO t x) n q s).1), .int (zI (scG (fun q => stB (slT t x q)) (fun q => 100 * x + q) (shO t x) n q s).2), .int (zI (t 1 4)), .int (zI x), .int (zI (sqN t 0)), l6'], [], mH h a t'') := by
  intro n
  have h5 := hok.2.1
  have hq := hr.1.2
  have hq0 := hr.1.1
  have o2 : 0 ≤ t 1 2 ∧ t 1 2 < 25 := hr.2.2.2.1
  induction n with
  | zero =>
    intro q s t' l6 hv hyn hq1 hs0 hs1
    have e0 : t' 1 0 * t' 1 1 = sqN t 0 := by rw [hv.w, hv.w]; rfl
    refine ⟨t', l6, hv, ⟨hs0, hs1⟩, ?_⟩
    rw [s_X8_moved_34]
    simp (disch := first | omega | assumption) only [s_X8_moved_36, s_X8_moved_37, s_X8_moved_38, s_X8_moved_41, mH_obj ha, m_g0 ha, m_g1 ha, m_g2 ha, m_g3 ha, m_g4 ha, m_g5 ha, m_g6 ha, m_g7 ha, m_g8 ha, m_g9 ha, m_g10 ha, m_g11 ha, m_g12 ha, m_g13 ha, m_g14 ha, m_g15 ha, m_g16 ha, m_g17 ha, m_g18 ha, m_g19 ha, m_g20 ha, m_p3 ha, m_p7 ha, m_p8 ha, m_p9 ha, m_p12 ha, m_p16 ha, m_p17 ha, m_p18 ha, m_p19 ha, m_p20 ha, m_r1 ha, m_r2 ha, m_r3 ha, m_r4 ha, m_r5 ha, m_r6 ha, m_r7 ha, m_r8 ha, m_r9 ha, m_r10 ha, m_r11 ha, m_s1 ha, m_s2 ha, m_s3 ha, m_s4 ha, m_s5 ha, m_s6 ha, m_s7 ha, m_s8 ha, m_s9 ha, m_s10 ha, m_s11 ha, zI_add, zI_sub, zI_mul, zI_neg, zL_add, zL_sub, zL_mul, Option.bind_some, Option.toList_some, Option.toList_none, List.cons_append, List.nil_append, zI_lt, zI_le, zI_eq, zI_eq0, zI_lt0, zI_le0, zI_0lt, zI_0le, bZ_e0, Int.add_zero, Int.zero_add, c_squaresOf ha, Int.reduceToNat, Int.reduceAdd, e0]
    rw [if_pos (by omega), show q = sqN t 0 by omega]
    rfl
  | succ n ih =>
    intro q s t' l6 hv hyn hq1 hs0 hs1
    have e0 : t' 1 0 * t' 1 1 = sqN t 0 := by rw [hv.w, hv.w]; rfl
    have hsz := sitZ_rg (q := q) hr
    have hr' : rOk t' 0 := rOk_w hv.w hr
    rw [s_X8_moved_34]
    simp (disch := first | omega | assumption) only [s_X8_moved_36, s_X8_moved_37, s_X8_moved_38, s_X8_moved_41, mH_obj ha, m_g0 ha, m_g1 ha, m_g2 ha, m_g3 ha, m_g4 ha, m_g5 ha, m_g6 ha, m_g7 ha, m_g8 ha, m_g9 ha, m_g10 ha, m_g11 ha, m_g12 ha, m_g13 ha, m_g14 ha, m_g15 ha, m_g16 ha, m_g17 ha, m_g18 ha, m_g19 ha, m_g20 ha, m_p3 ha, m_p7 ha, m_p8 ha, m_p9 ha, m_p12 ha, m_p16 ha, m_p17 ha, m_p18 ha, m_p19 ha, m_p20 ha, m_r1 ha, m_r2 ha, m_r3 ha, m_r4 ha, m_r5 ha, m_r6 ha, m_r7 ha, m_r8 ha, m_r9 ha, m_r10 ha, m_r11 ha, m_s1 ha, m_s2 ha, m_s3 ha, m_s4 ha, m_s5 ha, m_s6 ha, m_s7 ha, m_s8 ha, m_s9 ha, m_s10 ha, m_s11 ha, zI_add, zI_sub, zI_mul, zI_neg, zL_add, zL_sub, zL_mul, Option.bind_some, Option.toList_some, Option.toList_none, List.cons_append, List.nil_append, zI_lt, zI_le, zI_eq, zI_eq0, zI_lt0, zI_le0, zI_0lt, zI_0le, bZ_e0, Int.add_zero, Int.zero_add, c_squaresOf ha, Int.reduceToNat, Int.reduceAdd, e0]
    rw [if_neg (by omega)]
    simp (disch := first | omega | assumption) only [s_X8_moved_44, s_X8_moved_45, s_X8_moved_47, s_X8_moved_50, s_X8_moved_53, s_X8_moved_54, s_X8_moved_56, s_X8_moved_59, s_X8_moved_62, s_X8_moved_63, s_X8_moved_64, s_X8_moved_66, s_X8_moved_69, s_X8_moved_72, s_X8_moved_73, s_X8_moved_76, s_X8_moved_77, s_X8_moved_78, s_X8_moved_80, mH_obj ha, m_g0 ha, m_g1 ha, m_g2 ha, m_g3 ha, m_g4 ha, m_g5 ha, m_g6 ha, m_g7 ha, m_g8 ha, m_g9 ha, m_g10 ha, m_g11 ha, m_g12 ha, m_g13 ha, m_g14 ha, m_g15 ha, m_g16 ha, m_g17 ha, m_g18 ha, m_g19 ha, m_g20 ha, m_p3 ha, m_p7 ha, m_p8 ha, m_p9 ha, m_p12 ha, m_p16 ha, m_p17 ha, m_p18 ha, m_p19 ha, m_p20 ha, m_r1 ha, m_r2 ha, m_r3 ha, m_r4 ha, m_r5 ha, m_r6 ha, m_r7 ha, m_r8 ha, m_r9 ha, m_r10 ha, m_r11 ha, m_s1 ha, m_s2 ha, m_s3 ha, m_s4 ha, m_s5 ha, m_s6 ha, m_s7 ha, m_s8 ha, m_s9 ha, m_s10 ha, m_s11 ha, zI_add, zI_sub, zI_mul, zI_neg, zL_add, zL_sub, zL_mul, Option.bind_some, Option.toList_some, Option.toList_none, List.cons_append, List.nil_append, zI_lt, zI_le, zI_eq, zI_eq0, zI_lt0, zI_le0, zI_0lt, zI_0le, bZ_e0, Int.add_zero, Int.zero_add, c_has, c_sits ha, Int.reduceToNat, hv.w, sitZ_vS hv, ite_not]
    rw [scG]
    have skip : shO t x q = false → ∃ t'' l6', vS t t'' ∧ (-1 ≤ (scG (fun q => stB (slT t x q)) (fun q => 100 * x + q) (shO t x) n (q + 1) (if shO t x q = true ∧ s.1 < stB (slT t x q) then (stB (slT t x q), 100 * x + q) else s)).1 ∧ (scG (fun q => stB (slT t x q)) (fun q => 100 * x + q) (shO t x) n (q + 1) (if shO t x q = true ∧ s.1 < stB (slT t x q) then (stB (slT t x q), 100 * x + q) else s)).1 ≤ 900) ∧ x_ev (d + 4, n_X8_moved, 141, [.ref a, .int (zI s.1), .int (zI s.2), .int (zI (t 1 4)), .int (zI x), .int (zI q), l6], [], mH h a t') = x_ev (d + 4, n_X8_moved, 147, [.ref a, .int (zI (scG (fun q => stB (slT t x q)) (fun q => 100 * x + q) (shO t x) n (q + 1) (if shO t x q = true ∧ s.1 < stB (slT t x q) then (stB (slT t x q), 100 * x + q) else s)).1), .int (zI (scG (fun q => stB (slT t x q)) (fun q => 100 * x + q) (shO t x) n (q + 1) (if shO t x q = true ∧ s.1 < stB (slT t x q) then (stB (slT t x q), 100 * x + q) else s)).2), .int (zI (t 1 4)), .int (zI x), .int (zI (sqN t 0)), l6'], [], mH h a t'') := by
      intro z
      rw [if_neg (show ¬ (shO t x q = true ∧ s.1 < stB (slT t x q)) from fun w => by rw [z] at w; exact absurd w.1 (by decide))]
      simp (disch := first | omega | assumption) only [s_X8_moved_141, s_X8_moved_144, mH_obj ha, m_g0 ha, m_g1 ha, m_g2 ha, m_g3 ha, m_g4 ha, m_g5 ha, m_g6 ha, m_g7 ha, m_g8 ha, m_g9 ha, m_g10 ha, m_g11 ha, m_g12 ha, m_g13 ha, m_g14 ha, m_g15 ha, m_g16 ha, m_g17 ha, m_g18 ha, m_g19 ha, m_g20 ha, m_p3 ha, m_p7 ha, m_p8 ha, m_p9 ha, m_p12 ha, m_p16 ha, m_p17 ha, m_p18 ha, m_p19 ha, m_p20 ha, m_r1 ha, m_r2 ha, m_r3 ha, m_r4 ha, m_r5 ha, m_r6 ha, m_r7 ha, m_r8 ha, m_r9 ha, m_r10 ha, m_r11 ha, m_s1 ha, m_s2 ha, m_s3 ha, m_s4 ha, m_s5 ha, m_s6 ha, m_s7 ha, m_s8 ha, m_s9 ha, m_s10 ha, m_s11 ha, zI_add, zI_sub, zI_mul, zI_neg, zL_add, zL_sub, zL_mul, Option.bind_some, Option.toList_some, Option.toList_none, List.cons_append, List.nil_append, zI_lt, zI_le, zI_eq, zI_eq0, zI_lt0, zI_le0, zI_0lt, zI_0le, bZ_e0, Int.add_zero, Int.zero_add]
      exact ih (q + 1) s t' _ hv (by omega) (by omega) hs0 hs1
    by_cases z0 : hasB (t 1 4) x = true
    · rw [if_pos z0]
      by_cases z1 : hasB (t 1 4) q = true
      · rw [if_pos z1]
        exact skip (by unfold shO; rw [z1]; simp)
      · rw [if_neg z1]
        by_cases z2 : 0 ≤ sitZ t 0 q
        · rw [if_pos z2]
          exact skip (by unfold shO; rw [show decide (sitZ t 0 q < 0) = false from decide_eq_false (by omega)]; simp)
        · rw [if_neg z2]
          by_cases z4 : t 1 2 = q
          · rw [if_pos z4]
            exact skip (by unfold shO; rw [show decide (¬ t 1 2 = q) = false from decide_eq_false (fun w => w z4), Bool.and_false])
          · rw [if_neg z4]
            have hok2 : shO t x q = true := by unfold shO; simp [z0, z1, z4]; omega
            have hvs : vS (slT t x q) (up2 t' 1 4 (mvB (t 1 4) x q)) := up2_vS hv
            have hmo : mnOk (slT t x q) 0 := mnOk_4 hok
            have hms : sqN (slT t x q) 0 = sqN t 0 := sq_up (by decide) (by decide)
            obtain ⟨t2, hv2, hc⟩ := c_fs (d := d) (h := h) (a := a) ha hmo (by rw [hms]; exact hq0) (by rw [hms]; exact hq) hvs
            have hrg := stB_rg hmo
            simp (disch := first | omega | assumption) only [s_X8_moved_83, s_X8_moved_84, s_X8_moved_87, s_X8_moved_88, s_X8_moved_89, s_X8_moved_90, s_X8_moved_92, s_X8_moved_93, s_X8_moved_94, s_X8_moved_95, s_X8_moved_96, s_X8_moved_97, s_X8_moved_99, s_X8_moved_100, s_X8_moved_101, s_X8_moved_102, s_X8_moved_103, mH_obj ha, m_g0 ha, m_g1 ha, m_g2 ha, m_g3 ha, m_g4 ha, m_g5 ha, m_g6 ha, m_g7 ha, m_g8 ha, m_g9 ha, m_g10 ha, m_g11 ha, m_g12 ha, m_g13 ha, m_g14 ha, m_g15 ha, m_g16 ha, m_g17 ha, m_g18 ha, m_g19 ha, m_g20 ha, m_p3 ha, m_p7 ha, m_p8 ha, m_p9 ha, m_p12 ha, m_p16 ha, m_p17 ha, m_p18 ha, m_p19 ha, m_p20 ha, m_r1 ha, m_r2 ha, m_r3 ha, m_r4 ha, m_r5 ha, m_r6 ha, m_r7 ha, m_r8 ha, m_r9 ha, m_r10 ha, m_r11 ha, m_s1 ha, m_s2 ha, m_s3 ha, m_s4 ha, m_s5 ha, m_s6 ha, m_s7 ha, m_s8 ha, m_s9 ha, m_s10 ha, m_s11 ha, zI_add, zI_sub, zI_mul, zI_neg, zL_add, zL_sub, zL_mul, Option.bind_some, Option.toList_some, Option.toList_none, List.cons_append, List.nil_append, zI_lt, zI_le, zI_eq, zI_eq0, zI_lt0, zI_le0, zI_0lt, zI_0le, bZ_e0, Int.add_zero, Int.zero_add, mvB_z, Int.reduceToNat, hc]
            have hv3 : vS t (up2 t2 1 4 (t 1 4)) := by
              have := up2_vS (j := 4) (x := t 1 4) hv2
              unfold slT at this
              rw [up2_back] at this
              exact this
            simp (disch := first | omega | assumption) only [s_X8_moved_106, s_X8_moved_108, s_X8_moved_109, s_X8_moved_112, s_X8_moved_113, s_X8_moved_114, s_X8_moved_115, s_X8_moved_117, s_X8_moved_118, s_X8_moved_121, s_X8_moved_123, s_X8_moved_125, s_X8_moved_126, s_X8_moved_128, s_X8_moved_129, s_X8_moved_132, mH_obj ha, m_g0 ha, m_g1 ha, m_g2 ha, m_g3 ha, m_g4 ha, m_g5 ha, m_g6 ha, m_g7 ha, m_g8 ha, m_g9 ha, m_g10 ha, m_g11 ha, m_g12 ha, m_g13 ha, m_g14 ha, m_g15 ha, m_g16 ha, m_g17 ha, m_g18 ha, m_g19 ha, m_g20 ha, m_p3 ha, m_p7 ha, m_p8 ha, m_p9 ha, m_p12 ha, m_p16 ha, m_p17 ha, m_p18 ha, m_p19 ha, m_p20 ha, m_r1 ha, m_r2 ha, m_r3 ha, m_r4 ha, m_r5 ha, m_r6 ha, m_r7 ha, m_r8 ha, m_r9 ha, m_r10 ha, m_r11 ha, m_s1 ha, m_s2 ha, m_s3 ha, m_s4 ha, m_s5 ha, m_s6 ha, m_s7 ha, m_s8 ha, m_s9 ha, m_s10 ha, m_s11 ha, zI_add, zI_sub, zI_mul, zI_neg, zL_add, zL_sub, zL_mul, Option.bind_some, Option.toList_some, Option.toList_none, List.cons_append, List.nil_append, zI_lt, zI_le, zI_eq, zI_eq0, zI_lt0, zI_le0, zI_0lt, zI_0le, bZ_e0, Int.add_zero, Int.zero_add, Int.reduceToNat]
            generalize up2 t2 1 4 (t 1 4) = t3 at *
            by_cases z3 : s.1 < stB (slT t x q)
            · rw [if_neg (show ¬ stB (slT t x q) ≤ s.1 by omega), if_pos (show shO t x q = true ∧ s.1 < stB (slT t x q) from ⟨hok2, z3⟩)]
              simp (disch := first | omega | assumption) only [s_X8_moved_133, s_X8_moved_134, s_X8_moved_135, s_X8_moved_137, s_X8_moved_140, s_X8_moved_141, s_X8_moved_144, mH_obj ha, m_g0 ha, m_g1 ha, m_g2 ha, m_g3 ha, m_g4 ha, m_g5 ha, m_g6 ha, m_g7 ha, m_g8 ha, m_g9 ha, m_g10 ha, m_g11 ha, m_g12 ha, m_g13 ha, m_g14 ha, m_g15 ha, m_g16 ha, m_g17 ha, m_g18 ha, m_g19 ha, m_g20 ha, m_p3 ha, m_p7 ha, m_p8 ha, m_p9 ha, m_p12 ha, m_p16 ha, m_p17 ha, m_p18 ha, m_p19 ha, m_p20 ha, m_r1 ha, m_r2 ha, m_r3 ha, m_r4 ha, m_r5 ha, m_r6 ha, m_r7 ha, m_r8 ha, m_r9 ha, m_r10 ha, m_r11 ha, m_s1 ha, m_s2 ha, m_s3 ha, m_s4 ha, m_s5 ha, m_s6 ha, m_s7 ha, m_s8 ha, m_s9 ha, m_s10 ha, m_s11 ha, zI_add, zI_sub, zI_mul, zI_neg, zL_add, zL_sub, zL_mul, Option.bind_some, Option.toList_some, Option.toList_none, List.cons_append, List.nil_append, zI_lt, zI_le, zI_eq, zI_eq0, zI_lt0, zI_le0, zI_0lt, zI_0le, bZ_e0, Int.add_zero, Int.zero_add, c_greater]
              rw [show max s.1 (stB (slT t x q)) = stB (slT t x q) by omega]
              exact ih (q + 1) (stB (slT t x q), 100 * x + q) t3 _ hv3 (by omega) (by omega) (by dsimp only; omega) (by dsimp only; omega)
            · rw [if_pos (show stB (slT t x q) ≤ s.1 by omega), if_neg (show ¬ (shO t x q = true ∧ s.1 < stB (slT t x q)) from fun w => z3 w.2)]
              simp (disch := first | omega | assumption) only [s_X8_moved_133, s_X8_moved_134, s_X8_moved_135, s_X8_moved_137, s_X8_moved_140, s_X8_moved_141, s_X8_moved_144, mH_obj ha, m_g0 ha, m_g1 ha, m_g2 ha, m_g3 ha, m_g4 ha, m_g5 ha, m_g6 ha, m_g7 ha, m_g8 ha, m_g9 ha, m_g10 ha, m_g11 ha, m_g12 ha, m_g13 ha, m_g14 ha, m_g15 ha, m_g16 ha, m_g17 ha, m_g18 ha, m_g19 ha, m_g20 ha, m_p3 ha, m_p7 ha, m_p8 ha, m_p9 ha, m_p12 ha, m_p16 ha, m_p17 ha, m_p18 ha, m_p19 ha, m_p20 ha, m_r1 ha, m_r2 ha, m_r3 ha, m_r4 ha, m_r5 ha, m_r6 ha, m_r7 ha, m_r8 ha, m_r9 ha, m_r10 ha, m_r11 ha, m_s1 ha, m_s2 ha, m_s3 ha, m_s4 ha, m_s5 ha, m_s6 ha, m_s7 ha, m_s8 ha, m_s9 ha, m_s10 ha, m_s11 ha, zI_add, zI_sub, zI_mul, zI_neg, zL_add, zL_sub, zL_mul, Option.bind_some, Option.toList_some, Option.toList_none, List.cons_append, List.nil_append, zI_lt, zI_le, zI_eq, zI_eq0, zI_lt0, zI_le0, zI_0lt, zI_0le, bZ_e0, Int.add_zero, Int.zero_add, c_greater]
              rw [show max s.1 (stB (slT t x q)) = s.1 by omega]
              exact ih (q + 1) s t3 _ hv3 (by omega) (by omega) hs0 hs1
    · rw [if_neg z0]
      exact skip (by unfold shO; simp [z0])
theorem l_moved1 (ha : a + 12 ≤ h.1) (hok : mnOk t 0) (hr : rOk t 0) : ∀ (n : Nat) (x : Int) (s : Int × Int) (t' : Nat → Nat → Int) (l5 l6 : Value), vS t t' → x + n = sqN t 0 → 0 ≤ x → -1 ≤ s.1 → s.1 ≤ 900 →
    ∃ t'', vS t t'' ∧ x_ev (d + 4, n_X8_moved, 21, [.ref a, .int (zI s.1), .int (zI s.2), .int (zI (t 1 4)), .int (zI x), l5, l6], [], mH h a t') = some (some (.int (zI (itO (shI t) n x s).2)), mH h a t'') := by
  intro n
  have hq := hr.1.2
  have hq0 := hr.1.1
  induction n with
  | zero =>
    intro x s t' l5 l6 hv hyn hx hs0 hs1
    have e0 : t' 1 0 * t' 1 1 = sqN t 0 := by rw [hv.w, hv.w]; rfl
    refine ⟨t', hv, ?_⟩
    rw [s_X8_moved_21]
    simp (disch := first | omega | assumption) only [s_X8_moved_23, s_X8_moved_24, s_X8_moved_25, s_X8_moved_28, mH_obj ha, m_g0 ha, m_g1 ha, m_g2 ha, m_g3 ha, m_g4 ha, m_g5 ha, m_g6 ha, m_g7 ha, m_g8 ha, m_g9 ha, m_g10 ha, m_g11 ha, m_g12 ha, m_g13 ha, m_g14 ha, m_g15 ha, m_g16 ha, m_g17 ha, m_g18 ha, m_g19 ha, m_g20 ha, m_p3 ha, m_p7 ha, m_p8 ha, m_p9 ha, m_p12 ha, m_p16 ha, m_p17 ha, m_p18 ha, m_p19 ha, m_p20 ha, m_r1 ha, m_r2 ha, m_r3 ha, m_r4 ha, m_r5 ha, m_r6 ha, m_r7 ha, m_r8 ha, m_r9 ha, m_r10 ha, m_r11 ha, m_s1 ha, m_s2 ha, m_s3 ha, m_s4 ha, m_s5 ha, m_s6 ha, m_s7 ha, m_s8 ha, m_s9 ha, m_s10 ha, m_s11 ha, zI_add, zI_sub, zI_mul, zI_neg, zL_add, zL_sub, zL_mul, Option.bind_some, Option.toList_some, Option.toList_none, List.cons_append, List.nil_append, zI_lt, zI_le, zI_eq, zI_eq0, zI_lt0, zI_le0, zI_0lt, zI_0le, bZ_e0, Int.add_zero, Int.zero_add, c_squaresOf ha, Int.reduceToNat, Int.reduceAdd, e0]
    rw [if_pos (by omega)]
    simp (disch := first | omega | assumption) only [s_X8_moved_153, s_X8_moved_154, mH_obj ha, m_g0 ha, m_g1 ha, m_g2 ha, m_g3 ha, m_g4 ha, m_g5 ha, m_g6 ha, m_g7 ha, m_g8 ha, m_g9 ha, m_g10 ha, m_g11 ha, m_g12 ha, m_g13 ha, m_g14 ha, m_g15 ha, m_g16 ha, m_g17 ha, m_g18 ha, m_g19 ha, m_g20 ha, m_p3 ha, m_p7 ha, m_p8 ha, m_p9 ha, m_p12 ha, m_p16 ha, m_p17 ha, m_p18 ha, m_p19 ha, m_p20 ha, m_r1 ha, m_r2 ha, m_r3 ha, m_r4 ha, m_r5 ha, m_r6 ha, m_r7 ha, m_r8 ha, m_r9 ha, m_r10 ha, m_r11 ha, m_s1 ha, m_s2 ha, m_s3 ha, m_s4 ha, m_s5 ha, m_s6 ha, m_s7 ha, m_s8 ha, m_s9 ha, m_s10 ha, m_s11 ha, zI_add, zI_sub, zI_mul, zI_neg, zL_add, zL_sub, zL_mul, Option.bind_some, Option.toList_some, Option.toList_none, List.cons_append, List.nil_append, zI_lt, zI_le, zI_eq, zI_eq0, zI_lt0, zI_le0, zI_0lt, zI_0le, bZ_e0, Int.add_zero, Int.zero_add]
    rfl
  | succ n ih =>
    intro x s t' l5 l6 hv hyn hx hs0 hs1
    have e0 : t' 1 0 * t' 1 1 = sqN t 0 := by rw [hv.w, hv.w]; rfl
    rw [s_X8_moved_21]
    simp (disch := first | omega | assumption) only [s_X8_moved_23, s_X8_moved_24, s_X8_moved_25, s_X8_moved_28, s_X8_moved_31, s_X8_moved_32, mH_obj ha, m_g0 ha, m_g1 ha, m_g2 ha, m_g3 ha, m_g4 ha, m_g5 ha, m_g6 ha, m_g7 ha, m_g8 ha, m_g9 ha, m_g10 ha, m_g11 ha, m_g12 ha, m_g13 ha, m_g14 ha, m_g15 ha, m_g16 ha, m_g17 ha, m_g18 ha, m_g19 ha, m_g20 ha, m_p3 ha, m_p7 ha, m_p8 ha, m_p9 ha, m_p12 ha, m_p16 ha, m_p17 ha, m_p18 ha, m_p19 ha, m_p20 ha, m_r1 ha, m_r2 ha, m_r3 ha, m_r4 ha, m_r5 ha, m_r6 ha, m_r7 ha, m_r8 ha, m_r9 ha, m_r10 ha, m_r11 ha, m_s1 ha, m_s2 ha, m_s3 ha, m_s4 ha, m_s5 ha, m_s6 ha, m_s7 ha, m_s8 ha, m_s9 ha, m_s10 ha, m_s11 ha, zI_add, zI_sub, zI_mul, zI_neg, zL_add, zL_sub, zL_mul, Option.bind_some, Option.toList_some, Option.toList_none, List.cons_append, List.nil_append, zI_lt, zI_le, zI_eq, zI_eq0, zI_lt0, zI_le0, zI_0lt, zI_0le, bZ_e0, Int.add_zero, Int.zero_add, c_squaresOf ha, Int.reduceToNat, Int.reduceAdd, e0]
    rw [if_neg (by omega)]
    obtain ⟨t2, l6', hv2, hrg, e2⟩ := l_moved2 (d := d) (x := x) (t := t) (h := h) (a := a) ha hok hr hx (sqN t 0).toNat 0 s t' l6 hv (by omega) (by decide) hs0 hs1
    rw [e2, itO]
    simp (disch := first | omega | assumption) only [s_X8_moved_147, s_X8_moved_150, mH_obj ha, m_g0 ha, m_g1 ha, m_g2 ha, m_g3 ha, m_g4 ha, m_g5 ha, m_g6 ha, m_g7 ha, m_g8 ha, m_g9 ha, m_g10 ha, m_g11 ha, m_g12 ha, m_g13 ha, m_g14 ha, m_g15 ha, m_g16 ha, m_g17 ha, m_g18 ha, m_g19 ha, m_g20 ha, m_p3 ha, m_p7 ha, m_p8 ha, m_p9 ha, m_p12 ha, m_p16 ha, m_p17 ha, m_p18 ha, m_p19 ha, m_p20 ha, m_r1 ha, m_r2 ha, m_r3 ha, m_r4 ha, m_r5 ha, m_r6 ha, m_r7 ha, m_r8 ha, m_r9 ha, m_r10 ha, m_r11 ha, m_s1 ha, m_s2 ha, m_s3 ha, m_s4 ha, m_s5 ha, m_s6 ha, m_s7 ha, m_s8 ha, m_s9 ha, m_s10 ha, m_s11 ha, zI_add, zI_sub, zI_mul, zI_neg, zL_add, zL_sub, zL_mul, Option.bind_some, Option.toList_some, Option.toList_none, List.cons_append, List.nil_append, zI_lt, zI_le, zI_eq, zI_eq0, zI_lt0, zI_le0, zI_0lt, zI_0le, bZ_e0, Int.add_zero, Int.zero_add]
    exact ih (x + 1) (shI t x s) t2 _ _ hv2 (by omega) (by omega) hrg.1 hrg.2
def aMoved (t : Nat → Nat → Int) : Int := (itO (shI t) (sqN t 0).toNat 0 (stB t, -1)).2
theorem m_moved (ha : a + 12 ≤ h.1) (ho : nowOk t) : ∃ t', vL t t' ∧ x_cl (d + 4) n_X8_moved [.ref a] (mH h a t) = some (some (.int (zI (aMoved (bgT t 0)))), mH h a t') := by
  have hok := bg_ok ho
  have hrb : rOk (bgT t 0) 0 := rOk_w (fun j => bg_1) ho.1
  obtain ⟨t1, hv1, hc1⟩ := c_fs (d := d) (h := h) (a := a) (u := bgT t 0) ha hok hrb.1.1 hrb.1.2 vS.rfl'
  have hb := stB_rg hok
  obtain ⟨t3, hv3, e3⟩ := l_moved1 (d := d) (h := h) (a := a) (t := bgT t 0) ha hok hrb (sqN (bgT t 0) 0).toNat 0 (stB (bgT t 0), -1) t1 .null .null hv1 (by have := hrb.1.1; omega) (by decide) hb.1 hb.2
  refine ⟨t3, vL_bg.trans hv3.L, ?_⟩
  simp (disch := first | omega | assumption) only [e_X8_moved, s_X8_moved_0, s_X8_moved_1, s_X8_moved_4, s_X8_moved_5, s_X8_moved_8, s_X8_moved_9, s_X8_moved_10, s_X8_moved_11, s_X8_moved_12, s_X8_moved_15, s_X8_moved_16, s_X8_moved_17, s_X8_moved_18, s_X8_moved_19, mH_obj ha, m_g0 ha, m_g1 ha, m_g2 ha, m_g3 ha, m_g4 ha, m_g5 ha, m_g6 ha, m_g7 ha, m_g8 ha, m_g9 ha, m_g10 ha, m_g11 ha, m_g12 ha, m_g13 ha, m_g14 ha, m_g15 ha, m_g16 ha, m_g17 ha, m_g18 ha, m_g19 ha, m_g20 ha, m_p3 ha, m_p7 ha, m_p8 ha, m_p9 ha, m_p12 ha, m_p16 ha, m_p17 ha, m_p18 ha, m_p19 ha, m_p20 ha, m_r1 ha, m_r2 ha, m_r3 ha, m_r4 ha, m_r5 ha, m_r6 ha, m_r7 ha, m_r8 ha, m_r9 ha, m_r10 ha, m_r11 ha, m_s1 ha, m_s2 ha, m_s3 ha, m_s4 ha, m_s5 ha, m_s6 ha, m_s7 ha, m_s8 ha, m_s9 ha, m_s10 ha, m_s11 ha, zI_add, zI_sub, zI_mul, zI_neg, zL_add, zL_sub, zL_mul, Option.bind_some, Option.toList_some, Option.toList_none, List.cons_append, List.nil_append, zI_lt, zI_le, zI_eq, zI_eq0, zI_lt0, zI_le0, zI_0lt, zI_0le, bZ_e0, Int.add_zero, Int.zero_add, c_beginNow ha, hc1, hv1.w, Int.reduceToNat]
  exact e3
/-- PULL -/
def pvF (t : Nat → Nat → Int) (p : Int) : Int := if t 1 (31 + p).toNat ≤ 0 then 0 else t 1 (26 + p).toNat
def sgV (x v : Int) : Int := if x ≤ 0 then (if 0 ≤ x then 0 else -v) else v
def pulF (t : Nat → Nat → Int) (q : Int) : Nat → Int → Int × Int → Int × Int
  | 0, _, s => s
  | n + 1, p, s => pulF t q n (p + 1) (s.1 + sgV (t 1 (6 + p).toNat % t 1 0 - q % t 1 0) (pvF t p), s.2 + sgV (t 1 (6 + p).toNat / t 1 0 - q / t 1 0) (pvF t p))
theorem l_pulled {q : Int} (ha : a + 12 ≤ h.1) (ho : nowOk t) (hq0 : 0 ≤ q) (hq1 : q < 25) : ∀ (n : Nat) (p : Int) (s : Int × Int) (l5 l6 l7 : Value), p + n = t 1 5 → 0 ≤ p → ∃ l5' l6' l7',
    x_ev (d + 1, n_X8_pulled, 7, [.ref a, .int (zI q), .int (zI s.1), .int (zI s.2), .int (zI p), l5, l6, l7], [], mH h a t) = x_ev (d + 1, n_X8_pulled, 159, [.ref a, .int (zI q), .int (zI (pulF t q n p s).1), .int (zI (pulF t q n p s).2), .int (zI (t 1 5)), l5', l6', l7'], [], mH h a t) := by
  obtain ⟨hr, hW, h46, hR⟩ := ho
  have o5 : 0 ≤ t 1 5 ∧ t 1 5 ≤ 5 := hr.2.1
  obtain ⟨b1, b2, b3, b4, b5⟩ := sq_rg hW.1 hW.2 hq0 hq1
  intro n
  induction n with
  | zero =>
    intro p s l5 l6 l7 hp h0
    refine ⟨l5, l6, l7, ?_⟩
    rw [s_X8_pulled_7]
    simp (disch := first | omega | assumption) only [s_X8_pulled_9, s_X8_pulled_10, s_X8_pulled_13, s_X8_pulled_14, s_X8_pulled_15, mH_obj ha, m_g0 ha, m_g1 ha, m_g2 ha, m_g3 ha, m_g4 ha, m_g5 ha, m_g6 ha, m_g7 ha, m_g8 ha, m_g9 ha, m_g10 ha, m_g11 ha, m_g12 ha, m_g13 ha, m_g14 ha, m_g15 ha, m_g16 ha, m_g17 ha, m_g18 ha, m_g19 ha, m_g20 ha, m_p3 ha, m_p7 ha, m_p8 ha, m_p9 ha, m_p12 ha, m_p16 ha, m_p17 ha, m_p18 ha, m_p19 ha, m_p20 ha, m_r1 ha, m_r2 ha, m_r3 ha, m_r4 ha, m_r5 ha, m_r6 ha, m_r7 ha, m_r8 ha, m_r9 ha, m_r10 ha, m_r11 ha, m_s1 ha, m_s2 ha, m_s3 ha, m_s4 ha, m_s5 ha, m_s6 ha, m_s7 ha, m_s8 ha, m_s9 ha, m_s10 ha, m_s11 ha, zI_add, zI_sub, zI_mul, zI_neg, zL_add, zL_sub, zL_mul, Option.bind_some, Option.toList_some, Option.toList_none, List.cons_append, List.nil_append, zI_lt, zI_le, zI_eq, zI_eq0, zI_lt0, zI_le0, zI_0lt, zI_0le, bZ_e0, Int.add_zero, Int.zero_add, Int.reduceToNat]
    rw [if_pos (by omega), show p = t 1 5 by omega]
    rfl
  | succ n ih =>
    intro p s l5 l6 l7 hp h0
    have r0 := hr.2.2.1 p h0 (by show p < t 1 5; omega)
    rw [show (0 + 6 + p).toNat = (6 + p).toNat by omega] at r0
    have r26 := hr.2.2.2.2.1 p h0 (by show p < t 1 5; omega)
    rw [show (0 + 26 + p).toNat = (26 + p).toNat by omega] at r26
    obtain ⟨-, -, r31, -, -, -⟩ := hR p h0 (by omega)
    obtain ⟨c1, c2, c3, c4, c5⟩ := sq_rg hW.1 hW.2 r0.1 r0.2
    rw [s_X8_pulled_7]
    simp (disch := first | omega | assumption) only [s_X8_pulled_9, s_X8_pulled_10, s_X8_pulled_13, s_X8_pulled_14, s_X8_pulled_15, mH_obj ha, m_g0 ha, m_g1 ha, m_g2 ha, m_g3 ha, m_g4 ha, m_g5 ha, m_g6 ha, m_g7 ha, m_g8 ha, m_g9 ha, m_g10 ha, m_g11 ha, m_g12 ha, m_g13 ha, m_g14 ha, m_g15 ha, m_g16 ha, m_g17 ha, m_g18 ha, m_g19 ha, m_g20 ha, m_p3 ha, m_p7 ha, m_p8 ha, m_p9 ha, m_p12 ha, m_p16 ha, m_p17 ha, m_p18 ha, m_p19 ha, m_p20 ha, m_r1 ha, m_r2 ha, m_r3 ha, m_r4 ha, m_r5 ha, m_r6 ha, m_r7 ha, m_r8 ha, m_r9 ha, m_r10 ha, m_r11 ha, m_s1 ha, m_s2 ha, m_s3 ha, m_s4 ha, m_s5 ha, m_s6 ha, m_s7 ha, m_s8 ha, m_s9 ha, m_s10 ha, m_s11 ha, zI_add, zI_sub, zI_mul, zI_neg, zL_add, zL_sub, zL_mul, Option.bind_some, Option.toList_some, Option.toList_none, List.cons_append, List.nil_append, zI_lt, zI_le, zI_eq, zI_eq0, zI_lt0, zI_le0, zI_0lt, zI_0le, bZ_e0, Int.add_zero, Int.zero_add, Int.reduceToNat]
    rw [if_neg (by omega)]
    simp (disch := first | omega | assumption) only [s_X8_pulled_18, s_X8_pulled_19, s_X8_pulled_22, s_X8_pulled_24, s_X8_pulled_26, s_X8_pulled_27, s_X8_pulled_28, s_X8_pulled_31, s_X8_pulled_32, s_X8_pulled_35, s_X8_pulled_37, s_X8_pulled_39, s_X8_pulled_40, s_X8_pulled_41, s_X8_pulled_44, mH_obj ha, m_g0 ha, m_g1 ha, m_g2 ha, m_g3 ha, m_g4 ha, m_g5 ha, m_g6 ha, m_g7 ha, m_g8 ha, m_g9 ha, m_g10 ha, m_g11 ha, m_g12 ha, m_g13 ha, m_g14 ha, m_g15 ha, m_g16 ha, m_g17 ha, m_g18 ha, m_g19 ha, m_g20 ha, m_p3 ha, m_p7 ha, m_p8 ha, m_p9 ha, m_p12 ha, m_p16 ha, m_p17 ha, m_p18 ha, m_p19 ha, m_p20 ha, m_r1 ha, m_r2 ha, m_r3 ha, m_r4 ha, m_r5 ha, m_r6 ha, m_r7 ha, m_r8 ha, m_r9 ha, m_r10 ha, m_r11 ha, m_s1 ha, m_s2 ha, m_s3 ha, m_s4 ha, m_s5 ha, m_s6 ha, m_s7 ha, m_s8 ha, m_s9 ha, m_s10 ha, m_s11 ha, zI_add, zI_sub, zI_mul, zI_neg, zL_add, zL_sub, zL_mul, Option.bind_some, Option.toList_some, Option.toList_none, List.cons_append, List.nil_append, zI_lt, zI_le, zI_eq, zI_eq0, zI_lt0, zI_le0, zI_0lt, zI_0le, bZ_e0, Int.add_zero, Int.zero_add, x_j1]
    rw [show (if t 1 (31 + p).toNat ≤ 0 then 0 else t 1 (26 + p).toNat) = pvF t p from rfl]
    have rv : 0 ≤ pvF t p ∧ pvF t p ≤ 9 := by unfold pvF; split <;> omega
    simp (disch := first | omega | assumption | (refine zI_ne0 ?_ ?_ ?_ <;> omega)) only [s_X8_pulled_45, s_X8_pulled_47, s_X8_pulled_48, s_X8_pulled_51, s_X8_pulled_53, s_X8_pulled_55, s_X8_pulled_56, s_X8_pulled_57, s_X8_pulled_58, s_X8_pulled_61, s_X8_pulled_62, s_X8_pulled_63, s_X8_pulled_64, s_X8_pulled_65, s_X8_pulled_66, s_X8_pulled_69, s_X8_pulled_70, s_X8_pulled_71, s_X8_pulled_72, s_X8_pulled_73, s_X8_pulled_75, s_X8_pulled_76, s_X8_pulled_79, s_X8_pulled_81, s_X8_pulled_83, s_X8_pulled_84, s_X8_pulled_85, s_X8_pulled_86, s_X8_pulled_89, s_X8_pulled_90, s_X8_pulled_91, s_X8_pulled_92, s_X8_pulled_93, s_X8_pulled_94, s_X8_pulled_97, s_X8_pulled_98, s_X8_pulled_99, s_X8_pulled_100, s_X8_pulled_101, s_X8_pulled_103, s_X8_pulled_104, s_X8_pulled_106, s_X8_pulled_109, s_X8_pulled_111, s_X8_pulled_114, s_X8_pulled_116, s_X8_pulled_119, s_X8_pulled_121, s_X8_pulled_122, s_X8_pulled_125, mH_obj ha, m_g0 ha, m_g1 ha, m_g2 ha, m_g3 ha, m_g4 ha, m_g5 ha, m_g6 ha, m_g7 ha, m_g8 ha, m_g9 ha, m_g10 ha, m_g11 ha, m_g12 ha, m_g13 ha, m_g14 ha, m_g15 ha, m_g16 ha, m_g17 ha, m_g18 ha, m_g19 ha, m_g20 ha, m_p3 ha, m_p7 ha, m_p8 ha, m_p9 ha, m_p12 ha, m_p16 ha, m_p17 ha, m_p18 ha, m_p19 ha, m_p20 ha, m_r1 ha, m_r2 ha, m_r3 ha, m_r4 ha, m_r5 ha, m_r6 ha, m_r7 ha, m_r8 ha, m_r9 ha, m_r10 ha, m_r11 ha, m_s1 ha, m_s2 ha, m_s3 ha, m_s4 ha, m_s5 ha, m_s6 ha, m_s7 ha, m_s8 ha, m_s9 ha, m_s10 ha, m_s11 ha, zI_add, zI_sub, zI_mul, zI_neg, zL_add, zL_sub, zL_mul, Option.bind_some, Option.toList_some, Option.toList_none, List.cons_append, List.nil_append, zI_lt, zI_le, zI_eq, zI_eq0, zI_lt0, zI_le0, zI_0lt, zI_0le, bZ_e0, Int.add_zero, Int.zero_add, zI_div, rem_eq, x_j1, Int.reduceToNat]
    rw [show (if t 1 (6 + p).toNat % t 1 0 - q % t 1 0 ≤ 0 then (if 0 ≤ t 1 (6 + p).toNat % t 1 0 - q % t 1 0 then 0 else -pvF t p) else pvF t p) = sgV (t 1 (6 + p).toNat % t 1 0 - q % t 1 0) (pvF t p) from rfl]
    simp (disch := first | omega | assumption) only [s_X8_pulled_126, s_X8_pulled_127, s_X8_pulled_128, s_X8_pulled_129, s_X8_pulled_131, s_X8_pulled_134, s_X8_pulled_136, s_X8_pulled_139, s_X8_pulled_141, s_X8_pulled_144, s_X8_pulled_146, s_X8_pulled_147, s_X8_pulled_150, mH_obj ha, m_g0 ha, m_g1 ha, m_g2 ha, m_g3 ha, m_g4 ha, m_g5 ha, m_g6 ha, m_g7 ha, m_g8 ha, m_g9 ha, m_g10 ha, m_g11 ha, m_g12 ha, m_g13 ha, m_g14 ha, m_g15 ha, m_g16 ha, m_g17 ha, m_g18 ha, m_g19 ha, m_g20 ha, m_p3 ha, m_p7 ha, m_p8 ha, m_p9 ha, m_p12 ha, m_p16 ha, m_p17 ha, m_p18 ha, m_p19 ha, m_p20 ha, m_r1 ha, m_r2 ha, m_r3 ha, m_r4 ha, m_r5 ha, m_r6 ha, m_r7 ha, m_r8 ha, m_r9 ha, m_r10 ha, m_r11 ha, m_s1 ha, m_s2 ha, m_s3 ha, m_s4 ha, m_s5 ha, m_s6 ha, m_s7 ha, m_s8 ha, m_s9 ha, m_s10 ha, m_s11 ha, zI_add, zI_sub, zI_mul, zI_neg, zL_add, zL_sub, zL_mul, Option.bind_some, Option.toList_some, Option.toList_none, List.cons_append, List.nil_append, zI_lt, zI_le, zI_eq, zI_eq0, zI_lt0, zI_le0, zI_0lt, zI_0le, bZ_e0, Int.add_zero, Int.zero_add, x_j1]
    rw [show (if t 1 (6 + p).toNat / t 1 0 - q / t 1 0 ≤ 0 then (if 0 ≤ t 1 (6 + p).toNat / t 1 0 - q / t 1 0 then 0 else -pvF t p) else pvF t p) = sgV (t 1 (6 + p).toNat / t 1 0 - q / t 1 0) (pvF t p) from rfl]
    simp (disch := first | omega | assumption) only [s_X8_pulled_151, s_X8_pulled_152, s_X8_pulled_153, s_X8_pulled_156, mH_obj ha, m_g0 ha, m_g1 ha, m_g2 ha, m_g3 ha, m_g4 ha, m_g5 ha, m_g6 ha, m_g7 ha, m_g8 ha, m_g9 ha, m_g10 ha, m_g11 ha, m_g12 ha, m_g13 ha, m_g14 ha, m_g15 ha, m_g16 ha, m_g17 ha, m_g18 ha, m_g19 ha, m_g20 ha, m_p3 ha, m_p7 ha, m_p8 ha, m_p9 ha, m_p12 ha, m_p16 ha, m_p17 ha, m_p18 ha, m_p19 ha, m_p20 ha, m_r1 ha, m_r2 ha, m_r3 ha, m_r4 ha, m_r5 ha, m_r6 ha, m_r7 ha, m_r8 ha, m_r9 ha, m_r10 ha, m_r11 ha, m_s1 ha, m_s2 ha, m_s3 ha, m_s4 ha, m_s5 ha, m_s6 ha, m_s7 ha, m_s8 ha, m_s9 ha, m_s10 ha, m_s11 ha, zI_add, zI_sub, zI_mul, zI_neg, zL_add, zL_sub, zL_mul, Option.bind_some, Option.toList_some, Option.toList_none, List.cons_append, List.nil_append, zI_lt, zI_le, zI_eq, zI_eq0, zI_lt0, zI_le0, zI_0lt, zI_0le, bZ_e0, Int.add_zero, Int.zero_add]
    exact ih (p + 1) (_, _) _ _ _ (by omega) (by omega)
theorem pulF_rg {q : Int} (ho : nowOk t) : ∀ (n : Nat) (p : Int) (s : Int × Int), p + n = t 1 5 → 0 ≤ p → (-1000 + 9 * n ≤ s.1 ∧ s.1 ≤ 1000 - 9 * n) → (-1000 + 9 * n ≤ s.2 ∧ s.2 ≤ 1000 - 9 * n) → (-1000 ≤ (pulF t q n p s).1 ∧ (pulF t q n p s).1 ≤ 1000) ∧ (-1000 ≤ (pulF t q n p s).2 ∧ (pulF t q n p s).2 ≤ 1000) := by
  obtain ⟨hr, hW, h46, hR⟩ := ho
  intro n
  induction n with
  | zero => intro p s _ _ h1 h2; exact ⟨by rw [pulF]; omega, by rw [pulF]; omega⟩
  | succ n ih =>
    intro p s hp h0 h1 h2
    have r26 := hr.2.2.2.2.1 p h0 (by show p < t 1 5; omega)
    rw [show (0 + 26 + p).toNat = (26 + p).toNat by omega] at r26
    have rv : 0 ≤ pvF t p ∧ pvF t p ≤ 9 := by unfold pvF; split <;> omega
    have rs : ∀ x, -9 ≤ sgV x (pvF t p) ∧ sgV x (pvF t p) ≤ 9 := fun x => by
      unfold sgV
      repeat' split
      all_goals omega
    rw [pulF]
    have s1 := rs (t 1 (6 + p).toNat % t 1 0 - q % t 1 0)
    have s2 := rs (t 1 (6 + p).toNat / t 1 0 - q / t 1 0)
    exact ih _ _ (by omega) (by omega) (by dsimp only; omega) (by dsimp only; omega)
def pulS (t : Nat → Nat → Int) (q : Int) : Int × Int := pulF t q (t 1 5).toNat 0 (0, 0)
def pulN (t : Nat → Nat → Int) (q : Int) : Int := if ((pulS t q).1.natAbs : Int) < ((pulS t q).2.natAbs : Int) then q + (if (pulS t q).2 ≤ 0 then -t 1 0 else t 1 0) else q + (if (pulS t q).1 ≤ 0 then (if 0 ≤ (pulS t q).1 then 0 else -1) else 1)
def pul (t : Nat → Nat → Int) (q : Int) : Int := if hasB (t 1 4) (pulN t q) = true then q else pulN t q
theorem c_pulled {q : Int} (ha : a + 12 ≤ h.1) (ho : nowOk t) (hq0 : 0 ≤ q) (hq1 : q < 25) : x_cl (d + 1) n_X8_pulled [.ref a, .int (zI q)] (mH h a t) = some (some (.int (zI (pul t q))), mH h a t) := by
  have hW := ho.2.1
  have o5 : 0 ≤ t 1 5 ∧ t 1 5 ≤ 5 := ho.1.2.1
  have hrg := pulF_rg (q := q) ho (t 1 5).toNat 0 (0, 0) (by omega) (by decide) (by dsimp only; omega) (by dsimp only; omega)
  obtain ⟨l5, l6, l7, e1⟩ := l_pulled (d := d) (h := h) (a := a) ha ho hq0 hq1 (t 1 5).toNat 0 (0, 0) .null .null .null (by omega) (by decide)
  simp only [e_X8_pulled, s_X8_pulled_0, s_X8_pulled_1, s_X8_pulled_2, s_X8_pulled_3, s_X8_pulled_4, s_X8_pulled_5]
  rw [show pulF t q (t 1 5).toNat 0 (0, 0) = pulS t q from rfl] at e1 hrg
  refine e1.trans ?_
  simp (disch := first | omega | assumption) only [s_X8_pulled_159, s_X8_pulled_160, s_X8_pulled_163, s_X8_pulled_164, s_X8_pulled_167, s_X8_pulled_170, s_X8_pulled_171, s_X8_pulled_174, mH_obj ha, m_g0 ha, m_g1 ha, m_g2 ha, m_g3 ha, m_g4 ha, m_g5 ha, m_g6 ha, m_g7 ha, m_g8 ha, m_g9 ha, m_g10 ha, m_g11 ha, m_g12 ha, m_g13 ha, m_g14 ha, m_g15 ha, m_g16 ha, m_g17 ha, m_g18 ha, m_g19 ha, m_g20 ha, m_p3 ha, m_p7 ha, m_p8 ha, m_p9 ha, m_p12 ha, m_p16 ha, m_p17 ha, m_p18 ha, m_p19 ha, m_p20 ha, m_r1 ha, m_r2 ha, m_r3 ha, m_r4 ha, m_r5 ha, m_r6 ha, m_r7 ha, m_r8 ha, m_r9 ha, m_r10 ha, m_r11 ha, m_s1 ha, m_s2 ha, m_s3 ha, m_s4 ha, m_s5 ha, m_s6 ha, m_s7 ha, m_s8 ha, m_s9 ha, m_s10 ha, m_s11 ha, zI_add, zI_sub, zI_mul, zI_neg, zL_add, zL_sub, zL_mul, Option.bind_some, Option.toList_some, Option.toList_none, List.cons_append, List.nil_append, zI_lt, zI_le, zI_eq, zI_eq0, zI_lt0, zI_le0, zI_0lt, zI_0le, bZ_e0, Int.add_zero, Int.zero_add, c_sizeOf, x_j1]
  have tail : ∀ to l4, x_ev (d + 1, n_X8_pulled, 226, [.ref a, .int (zI q), .int (zI (pulS t q).1), .int (zI (pulS t q).2), .int l4, l5, l6, l7], [.int (zI to)], mH h a t) = some (some (.int (zI (if hasB (t 1 4) to = true then q else to))), mH h a t) := by
    intro to l4
    simp (disch := first | omega | assumption) only [s_X8_pulled_226, s_X8_pulled_228, s_X8_pulled_229, s_X8_pulled_232, s_X8_pulled_233, s_X8_pulled_234, s_X8_pulled_236, s_X8_pulled_239, s_X8_pulled_242, s_X8_pulled_243, s_X8_pulled_246, s_X8_pulled_248, mH_obj ha, m_g0 ha, m_g1 ha, m_g2 ha, m_g3 ha, m_g4 ha, m_g5 ha, m_g6 ha, m_g7 ha, m_g8 ha, m_g9 ha, m_g10 ha, m_g11 ha, m_g12 ha, m_g13 ha, m_g14 ha, m_g15 ha, m_g16 ha, m_g17 ha, m_g18 ha, m_g19 ha, m_g20 ha, m_p3 ha, m_p7 ha, m_p8 ha, m_p9 ha, m_p12 ha, m_p16 ha, m_p17 ha, m_p18 ha, m_p19 ha, m_p20 ha, m_r1 ha, m_r2 ha, m_r3 ha, m_r4 ha, m_r5 ha, m_r6 ha, m_r7 ha, m_r8 ha, m_r9 ha, m_r10 ha, m_r11 ha, m_s1 ha, m_s2 ha, m_s3 ha, m_s4 ha, m_s5 ha, m_s6 ha, m_s7 ha, m_s8 ha, m_s9 ha, m_s10 ha, m_s11 ha, zI_add, zI_sub, zI_mul, zI_neg, zL_add, zL_sub, zL_mul, Option.bind_some, Option.toList_some, Option.toList_none, List.cons_append, List.nil_append, zI_lt, zI_le, zI_eq, zI_eq0, zI_lt0, zI_le0, zI_0lt, zI_0le, bZ_e0, Int.add_zero, Int.zero_add, c_has, Int.reduceToNat, ite_not]
    by_cases z : hasB (t 1 4) to = true
    · rw [if_pos z, if_pos z]
    · rw [if_neg z, if_neg z]
  unfold pul pulN
  by_cases z : ((pulS t q).1.natAbs : Int) < ((pulS t q).2.natAbs : Int)
  · rw [if_pos z, if_pos z]
    simp (disch := first | omega | assumption) only [s_X8_pulled_175, s_X8_pulled_177, s_X8_pulled_179, mH_obj ha, m_g0 ha, m_g1 ha, m_g2 ha, m_g3 ha, m_g4 ha, m_g5 ha, m_g6 ha, m_g7 ha, m_g8 ha, m_g9 ha, m_g10 ha, m_g11 ha, m_g12 ha, m_g13 ha, m_g14 ha, m_g15 ha, m_g16 ha, m_g17 ha, m_g18 ha, m_g19 ha, m_g20 ha, m_p3 ha, m_p7 ha, m_p8 ha, m_p9 ha, m_p12 ha, m_p16 ha, m_p17 ha, m_p18 ha, m_p19 ha, m_p20 ha, m_r1 ha, m_r2 ha, m_r3 ha, m_r4 ha, m_r5 ha, m_r6 ha, m_r7 ha, m_r8 ha, m_r9 ha, m_r10 ha, m_r11 ha, m_s1 ha, m_s2 ha, m_s3 ha, m_s4 ha, m_s5 ha, m_s6 ha, m_s7 ha, m_s8 ha, m_s9 ha, m_s10 ha, m_s11 ha, zI_add, zI_sub, zI_mul, zI_neg, zL_add, zL_sub, zL_mul, Option.bind_some, Option.toList_some, Option.toList_none, List.cons_append, List.nil_append, zI_lt, zI_le, zI_eq, zI_eq0, zI_lt0, zI_le0, zI_0lt, zI_0le, bZ_e0, Int.add_zero, Int.zero_add, Int.reduceEq, if_true, if_false, Int.reduceLT]
    simp (disch := first | omega | assumption) only [s_X8_pulled_204, s_X8_pulled_205, s_X8_pulled_206, s_X8_pulled_209, s_X8_pulled_210, s_X8_pulled_213, s_X8_pulled_214, s_X8_pulled_215, s_X8_pulled_218, s_X8_pulled_219, s_X8_pulled_222, s_X8_pulled_223, s_X8_pulled_224, mH_obj ha, m_g0 ha, m_g1 ha, m_g2 ha, m_g3 ha, m_g4 ha, m_g5 ha, m_g6 ha, m_g7 ha, m_g8 ha, m_g9 ha, m_g10 ha, m_g11 ha, m_g12 ha, m_g13 ha, m_g14 ha, m_g15 ha, m_g16 ha, m_g17 ha, m_g18 ha, m_g19 ha, m_g20 ha, m_p3 ha, m_p7 ha, m_p8 ha, m_p9 ha, m_p12 ha, m_p16 ha, m_p17 ha, m_p18 ha, m_p19 ha, m_p20 ha, m_r1 ha, m_r2 ha, m_r3 ha, m_r4 ha, m_r5 ha, m_r6 ha, m_r7 ha, m_r8 ha, m_r9 ha, m_r10 ha, m_r11 ha, m_s1 ha, m_s2 ha, m_s3 ha, m_s4 ha, m_s5 ha, m_s6 ha, m_s7 ha, m_s8 ha, m_s9 ha, m_s10 ha, m_s11 ha, zI_add, zI_sub, zI_mul, zI_neg, zL_add, zL_sub, zL_mul, Option.bind_some, Option.toList_some, Option.toList_none, List.cons_append, List.nil_append, zI_lt, zI_le, zI_eq, zI_eq0, zI_lt0, zI_le0, zI_0lt, zI_0le, bZ_e0, Int.add_zero, Int.zero_add, Int.reduceToNat, x_j1]
    simp (disch := first | omega | assumption) only [s_X8_pulled_225, mH_obj ha, m_g0 ha, m_g1 ha, m_g2 ha, m_g3 ha, m_g4 ha, m_g5 ha, m_g6 ha, m_g7 ha, m_g8 ha, m_g9 ha, m_g10 ha, m_g11 ha, m_g12 ha, m_g13 ha, m_g14 ha, m_g15 ha, m_g16 ha, m_g17 ha, m_g18 ha, m_g19 ha, m_g20 ha, m_p3 ha, m_p7 ha, m_p8 ha, m_p9 ha, m_p12 ha, m_p16 ha, m_p17 ha, m_p18 ha, m_p19 ha, m_p20 ha, m_r1 ha, m_r2 ha, m_r3 ha, m_r4 ha, m_r5 ha, m_r6 ha, m_r7 ha, m_r8 ha, m_r9 ha, m_r10 ha, m_r11 ha, m_s1 ha, m_s2 ha, m_s3 ha, m_s4 ha, m_s5 ha, m_s6 ha, m_s7 ha, m_s8 ha, m_s9 ha, m_s10 ha, m_s11 ha, zI_add, zI_sub, zI_mul, zI_neg, zL_add, zL_sub, zL_mul, Option.bind_some, Option.toList_some, Option.toList_none, List.cons_append, List.nil_append, zI_lt, zI_le, zI_eq, zI_eq0, zI_lt0, zI_le0, zI_0lt, zI_0le, bZ_e0, Int.add_zero, Int.zero_add, x_j1]
    exact tail _ _
  · rw [if_neg z, if_neg z]
    simp (disch := first | omega | assumption) only [s_X8_pulled_175, s_X8_pulled_177, s_X8_pulled_179, mH_obj ha, m_g0 ha, m_g1 ha, m_g2 ha, m_g3 ha, m_g4 ha, m_g5 ha, m_g6 ha, m_g7 ha, m_g8 ha, m_g9 ha, m_g10 ha, m_g11 ha, m_g12 ha, m_g13 ha, m_g14 ha, m_g15 ha, m_g16 ha, m_g17 ha, m_g18 ha, m_g19 ha, m_g20 ha, m_p3 ha, m_p7 ha, m_p8 ha, m_p9 ha, m_p12 ha, m_p16 ha, m_p17 ha, m_p18 ha, m_p19 ha, m_p20 ha, m_r1 ha, m_r2 ha, m_r3 ha, m_r4 ha, m_r5 ha, m_r6 ha, m_r7 ha, m_r8 ha, m_r9 ha, m_r10 ha, m_r11 ha, m_s1 ha, m_s2 ha, m_s3 ha, m_s4 ha, m_s5 ha, m_s6 ha, m_s7 ha, m_s8 ha, m_s9 ha, m_s10 ha, m_s11 ha, zI_add, zI_sub, zI_mul, zI_neg, zL_add, zL_sub, zL_mul, Option.bind_some, Option.toList_some, Option.toList_none, List.cons_append, List.nil_append, zI_lt, zI_le, zI_eq, zI_eq0, zI_lt0, zI_le0, zI_0lt, zI_0le, bZ_e0, Int.add_zero, Int.zero_add, Int.reduceEq, if_true, if_false]
    simp (disch := first | omega | assumption) only [s_X8_pulled_182, s_X8_pulled_183, s_X8_pulled_184, s_X8_pulled_187, s_X8_pulled_188, s_X8_pulled_191, s_X8_pulled_192, s_X8_pulled_195, s_X8_pulled_196, s_X8_pulled_199, mH_obj ha, m_g0 ha, m_g1 ha, m_g2 ha, m_g3 ha, m_g4 ha, m_g5 ha, m_g6 ha, m_g7 ha, m_g8 ha, m_g9 ha, m_g10 ha, m_g11 ha, m_g12 ha, m_g13 ha, m_g14 ha, m_g15 ha, m_g16 ha, m_g17 ha, m_g18 ha, m_g19 ha, m_g20 ha, m_p3 ha, m_p7 ha, m_p8 ha, m_p9 ha, m_p12 ha, m_p16 ha, m_p17 ha, m_p18 ha, m_p19 ha, m_p20 ha, m_r1 ha, m_r2 ha, m_r3 ha, m_r4 ha, m_r5 ha, m_r6 ha, m_r7 ha, m_r8 ha, m_r9 ha, m_r10 ha, m_r11 ha, m_s1 ha, m_s2 ha, m_s3 ha, m_s4 ha, m_s5 ha, m_s6 ha, m_s7 ha, m_s8 ha, m_s9 ha, m_s10 ha, m_s11 ha, zI_add, zI_sub, zI_mul, zI_neg, zL_add, zL_sub, zL_mul, Option.bind_some, Option.toList_some, Option.toList_none, List.cons_append, List.nil_append, zI_lt, zI_le, zI_eq, zI_eq0, zI_lt0, zI_le0, zI_0lt, zI_0le, bZ_e0, Int.add_zero, Int.zero_add, x_j1]
    simp (disch := first | omega | assumption) only [s_X8_pulled_200, s_X8_pulled_201, mH_obj ha, m_g0 ha, m_g1 ha, m_g2 ha, m_g3 ha, m_g4 ha, m_g5 ha, m_g6 ha, m_g7 ha, m_g8 ha, m_g9 ha, m_g10 ha, m_g11 ha, m_g12 ha, m_g13 ha, m_g14 ha, m_g15 ha, m_g16 ha, m_g17 ha, m_g18 ha, m_g19 ha, m_g20 ha, m_p3 ha, m_p7 ha, m_p8 ha, m_p9 ha, m_p12 ha, m_p16 ha, m_p17 ha, m_p18 ha, m_p19 ha, m_p20 ha, m_r1 ha, m_r2 ha, m_r3 ha, m_r4 ha, m_r5 ha, m_r6 ha, m_r7 ha, m_r8 ha, m_r9 ha, m_r10 ha, m_r11 ha, m_s1 ha, m_s2 ha, m_s3 ha, m_s4 ha, m_s5 ha, m_s6 ha, m_s7 ha, m_s8 ha, m_s9 ha, m_s10 ha, m_s11 ha, zI_add, zI_sub, zI_mul, zI_neg, zL_add, zL_sub, zL_mul, Option.bind_some, Option.toList_some, Option.toList_none, List.cons_append, List.nil_append, zI_lt, zI_le, zI_eq, zI_eq0, zI_lt0, zI_le0, zI_0lt, zI_0le, bZ_e0, Int.add_zero, Int.zero_add, x_j1]
    exact tail _ _
end

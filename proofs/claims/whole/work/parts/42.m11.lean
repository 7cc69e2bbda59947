/-! THE REFERENCE, part 11: two lamps, seats, a shelf moved -/
section
variable {h : xH} {a : Nat} {t : Nat → Nat → Int} {d : Nat}
def itO (F : Int → Int × Int → Int × Int) : Nat → Int → Int × Int → Int × Int
  | 0, _, s => s
  | n + 1, x, s => itO F n (x + 1) (F x s)
def twV (t : Nat → Nat → Int) (x y : Int) : Int := mnW t 0 (lgL t x y) (t 1 5).toNat
def twO (t : Nat → Nat → Int) (x y : Int) : Bool := !hasB (t 1 4) x && !hasB (t 1 4) y
def twI (t : Nat → Nat → Int) (x : Int) (s : Int × Int) : Int × Int := scG (twV t x) (fun y => 100 * x + y) (twO t x) (sqN t 0 - (x + 1)).toNat (x + 1) s
theorem l_two2 {w x : Int} (ha : a + 12 ≤ h.1) (hok : mnOk t 0) (hq : sqN t 0 ≤ 25) (hx : 0 ≤ x) : ∀ (n : Nat) (y : Int) (s : Int × Int) (t' : Nat → Nat → Int) (l6 : Value), vS t t' → y + n = sqN t 0 → x < y → -1 ≤ s.1 → s.1 ≤ 900 →
    ∃ t'' l6', vS t t'' ∧ x_ev (d + 3, n_X8_two, 44, [.ref a, .int (zI w), .int (zI s.1), .int (zI s.2), .int (zI x), .int (zI y), l6], [], mH h a t') = x_ev (d + 3, n_X8_two, 129, [.ref a, .int (zI w), .int (zI (scG (twV t x) (fun y => 100 * x + y) (twO t x) n y s).1), .int (zI (scG (twV t x) (fun y => 100 * x + y) (twO t x) n y s).2), .int (zI x), .int (zI (sqN t 0)), l6'], [], mH h a t'') := by
  intro n
  induction n with
  | zero =>
    intro y s t' l6 hv hyn hxy hs0 hs1
    refine ⟨t', l6, hv, ?_⟩
    have e0 : t' 1 0 * t' 1 1 = sqN t 0 := by rw [hv.w, hv.w]; rfl
    rw [s_X8_two_44]
    simp (disch := first | omega | assumption) only [s_X8_two_46, s_X8_two_47, s_X8_two_48, s_X8_two_51, mH_obj ha, m_g0 ha, m_g1 ha, m_g2 ha, m_g3 ha, m_g4 ha, m_g5 ha, m_g6 ha, m_g7 ha, m_g8 ha, m_g9 ha, m_g10 ha, m_g11 ha, m_g12 ha, m_g13 ha, m_g14 ha, m_g15 ha, m_g16 ha, m_g17 ha, m_g18 ha, m_g19 ha, m_g20 ha, m_p3 ha, m_p7 ha, m_p8 ha, m_p9 ha, m_p12 ha, m_p16 ha, m_p17 ha, m_p18 ha, m_p19 ha, m_p20 ha, m_r1 ha, m_r2 ha, m_r3 ha, m_r4 ha, m_r5 ha, m_r6 ha, m_r7 ha, m_r8 ha, m_r9 ha, m_r10 ha, m_r11 ha, m_s1 ha, m_s2 ha, m_s3 ha, m_s4 ha, m_s5 ha, m_s6 ha, m_s7 ha, m_s8 ha, m_s9 ha, m_s10 ha, m_s11 ha, zI_add, zI_sub, zI_mul, zI_neg, zL_add, zL_sub, zL_mul, Option.bind_some, Option.toList_some, Option.toList_none, List.cons_append, List.nil_append, zI_lt, zI_le, zI_eq, zI_eq0, zI_lt0, zI_le0, zI_0lt, zI_0le, bZ_e0, Int.add_zero, Int.zero_add, c_squaresOf ha, Int.reduceToNat, Int.reduceAdd, e0]
    rw [if_pos (by omega), show y = sqN t 0 by omega]
    rfl
  | succ n ih =>
    intro y s t' l6 hv hyn hxy hs0 hs1
    have e0 : t' 1 0 * t' 1 1 = sqN t 0 := by rw [hv.w, hv.w]; rfl
    have h5 := hok.2.1
    rw [s_X8_two_44]
    simp (disch := first | omega | assumption) only [s_X8_two_46, s_X8_two_47, s_X8_two_48, s_X8_two_51, mH_obj ha, m_g0 ha, m_g1 ha, m_g2 ha, m_g3 ha, m_g4 ha, m_g5 ha, m_g6 ha, m_g7 ha, m_g8 ha, m_g9 ha, m_g10 ha, m_g11 ha, m_g12 ha, m_g13 ha, m_g14 ha, m_g15 ha, m_g16 ha, m_g17 ha, m_g18 ha, m_g19 ha, m_g20 ha, m_p3 ha, m_p7 ha, m_p8 ha, m_p9 ha, m_p12 ha, m_p16 ha, m_p17 ha, m_p18 ha, m_p19 ha, m_p20 ha, m_r1 ha, m_r2 ha, m_r3 ha, m_r4 ha, m_r5 ha, m_r6 ha, m_r7 ha, m_r8 ha, m_r9 ha, m_r10 ha, m_r11 ha, m_s1 ha, m_s2 ha, m_s3 ha, m_s4 ha, m_s5 ha, m_s6 ha, m_s7 ha, m_s8 ha, m_s9 ha, m_s10 ha, m_s11 ha, zI_add, zI_sub, zI_mul, zI_neg, zL_add, zL_sub, zL_mul, Option.bind_some, Option.toList_some, Option.toList_none, List.cons_append, List.nil_append, zI_lt, zI_le, zI_eq, zI_eq0, zI_lt0, zI_le0, zI_0lt, zI_0le, bZ_e0, Int.add_zero, Int.zero_add, c_squaresOf ha, Int.reduceToNat, Int.reduceAdd, e0]
    rw [if_neg (by omega)]
    simp (disch := first | omega | assumption) only [s_X8_two_54, s_X8_two_55, s_X8_two_58, s_X8_two_59, s_X8_two_60, s_X8_two_62, s_X8_two_65, s_X8_two_68, s_X8_two_69, s_X8_two_72, s_X8_two_73, s_X8_two_74, s_X8_two_76, s_X8_two_79, mH_obj ha, m_g0 ha, m_g1 ha, m_g2 ha, m_g3 ha, m_g4 ha, m_g5 ha, m_g6 ha, m_g7 ha, m_g8 ha, m_g9 ha, m_g10 ha, m_g11 ha, m_g12 ha, m_g13 ha, m_g14 ha, m_g15 ha, m_g16 ha, m_g17 ha, m_g18 ha, m_g19 ha, m_g20 ha, m_p3 ha, m_p7 ha, m_p8 ha, m_p9 ha, m_p12 ha, m_p16 ha, m_p17 ha, m_p18 ha, m_p19 ha, m_p20 ha, m_r1 ha, m_r2 ha, m_r3 ha, m_r4 ha, m_r5 ha, m_r6 ha, m_r7 ha, m_r8 ha, m_r9 ha, m_r10 ha, m_r11 ha, m_s1 ha, m_s2 ha, m_s3 ha, m_s4 ha, m_s5 ha, m_s6 ha, m_s7 ha, m_s8 ha, m_s9 ha, m_s10 ha, m_s11 ha, zI_add, zI_sub, zI_mul, zI_neg, zL_add, zL_sub, zL_mul, Option.bind_some, Option.toList_some, Option.toList_none, List.cons_append, List.nil_append, zI_lt, zI_le, zI_eq, zI_eq0, zI_lt0, zI_le0, zI_0lt, zI_0le, bZ_e0, Int.add_zero, Int.zero_add, c_has, Int.reduceToNat, hv.w, ite_not]
    rw [scG]
    have skip : twO t x y = false → ∃ t'' l6', vS t t'' ∧ x_ev (d + 3, n_X8_two, 82, [.ref a, .int (zI w), .int (zI s.1), .int (zI s.2), .int (zI x), .int (zI y), l6], [], mH h a t') = x_ev (d + 3, n_X8_two, 129, [.ref a, .int (zI w), .int (zI (scG (twV t x) (fun y => 100 * x + y) (twO t x) n (y + 1) (if twO t x y = true ∧ s.1 < twV t x y then (twV t x y, 100 * x + y) else s)).1), .int (zI (scG (twV t x) (fun y => 100 * x + y) (twO t x) n (y + 1) (if twO t x y = true ∧ s.1 < twV t x y then (twV t x y, 100 * x + y) else s)).2), .int (zI x), .int (zI (sqN t 0)), l6'], [], mH h a t'') := by
      intro z
      rw [if_neg (show ¬ (twO t x y = true ∧ s.1 < twV t x y) from fun w => by rw [z] at w; exact absurd w.1 (by decide))]
      simp (disch := first | omega | assumption) only [s_X8_two_82, s_X8_two_83, s_X8_two_95, s_X8_two_97, s_X8_two_99, s_X8_two_100, s_X8_two_103, s_X8_two_105, s_X8_two_107, s_X8_two_108, s_X8_two_110, s_X8_two_111, s_X8_two_114, mH_obj ha, m_g0 ha, m_g1 ha, m_g2 ha, m_g3 ha, m_g4 ha, m_g5 ha, m_g6 ha, m_g7 ha, m_g8 ha, m_g9 ha, m_g10 ha, m_g11 ha, m_g12 ha, m_g13 ha, m_g14 ha, m_g15 ha, m_g16 ha, m_g17 ha, m_g18 ha, m_g19 ha, m_g20 ha, m_p3 ha, m_p7 ha, m_p8 ha, m_p9 ha, m_p12 ha, m_p16 ha, m_p17 ha, m_p18 ha, m_p19 ha, m_p20 ha, m_r1 ha, m_r2 ha, m_r3 ha, m_r4 ha, m_r5 ha, m_r6 ha, m_r7 ha, m_r8 ha, m_r9 ha, m_r10 ha, m_r11 ha, m_s1 ha, m_s2 ha, m_s3 ha, m_s4 ha, m_s5 ha, m_s6 ha, m_s7 ha, m_s8 ha, m_s9 ha, m_s10 ha, m_s11 ha, zI_add, zI_sub, zI_mul, zI_neg, zL_add, zL_sub, zL_mul, Option.bind_some, Option.toList_some, Option.toList_none, List.cons_append, List.nil_append, zI_lt, zI_le, zI_eq, zI_eq0, zI_lt0, zI_le0, zI_0lt, zI_0le, bZ_e0, Int.add_zero, Int.zero_add]
      rw [if_pos (show (-1 : Int) ≤ s.1 by omega)]
      simp (disch := first | omega | assumption) only [s_X8_two_115, s_X8_two_116, s_X8_two_117, s_X8_two_119, s_X8_two_122, s_X8_two_123, s_X8_two_126, mH_obj ha, m_g0 ha, m_g1 ha, m_g2 ha, m_g3 ha, m_g4 ha, m_g5 ha, m_g6 ha, m_g7 ha, m_g8 ha, m_g9 ha, m_g10 ha, m_g11 ha, m_g12 ha, m_g13 ha, m_g14 ha, m_g15 ha, m_g16 ha, m_g17 ha, m_g18 ha, m_g19 ha, m_g20 ha, m_p3 ha, m_p7 ha, m_p8 ha, m_p9 ha, m_p12 ha, m_p16 ha, m_p17 ha, m_p18 ha, m_p19 ha, m_p20 ha, m_r1 ha, m_r2 ha, m_r3 ha, m_r4 ha, m_r5 ha, m_r6 ha, m_r7 ha, m_r8 ha, m_r9 ha, m_r10 ha, m_r11 ha, m_s1 ha, m_s2 ha, m_s3 ha, m_s4 ha, m_s5 ha, m_s6 ha, m_s7 ha, m_s8 ha, m_s9 ha, m_s10 ha, m_s11 ha, zI_add, zI_sub, zI_mul, zI_neg, zL_add, zL_sub, zL_mul, Option.bind_some, Option.toList_some, Option.toList_none, List.cons_append, List.nil_append, zI_lt, zI_le, zI_eq, zI_eq0, zI_lt0, zI_le0, zI_0lt, zI_0le, bZ_e0, Int.add_zero, Int.zero_add, c_greater]
      rw [show max s.1 (-1) = s.1 by omega]
      exact ih (y + 1) s t' _ hv (by omega) (by omega) hs0 hs1
    by_cases z1 : hasB (t 1 4) x = true
    · rw [if_pos z1]
      exact skip (by unfold twO; rw [z1]; rfl)
    · rw [if_neg z1]
      by_cases z2 : hasB (t 1 4) y = true
      · rw [if_pos z2]
        exact skip (by unfold twO; rw [z2]; simp)
      · rw [if_neg z2]
        have hmn := c_minute (d := d) (t := t') (lev := 0) (one := x) (other := y) ha (by decide) (mnOk_vS hv hok) (by omega) (by omega)
        rw [hv.w] at hmn
        have ev : mnW t' 0 (lgL t' x y) (t 1 5).toNat = twV t x y := by
          rw [lgL_vS hv, mnW_vS hv (by omega)]
          rfl
        rw [ev] at hmn
        have hvm : vS t (mnT t' 0 (lgL t' x y) (t 1 5).toNat) := hv.trans vS_mn
        have hrg : 0 ≤ twV t x y ∧ twV t x y ≤ 900 := mnW_rg hok (by omega)
        have hok2 : twO t x y = true := by unfold twO; simp [z1, z2]
        generalize mnT t' 0 (lgL t' x y) (t 1 5).toNat = t2 at *
        simp (disch := first | omega | assumption) only [s_X8_two_86, s_X8_two_87, s_X8_two_88, s_X8_two_90, s_X8_two_92, s_X8_two_95, s_X8_two_97, s_X8_two_99, s_X8_two_100, s_X8_two_103, s_X8_two_105, s_X8_two_107, s_X8_two_108, s_X8_two_110, s_X8_two_111, s_X8_two_114, mH_obj ha, m_g0 ha, m_g1 ha, m_g2 ha, m_g3 ha, m_g4 ha, m_g5 ha, m_g6 ha, m_g7 ha, m_g8 ha, m_g9 ha, m_g10 ha, m_g11 ha, m_g12 ha, m_g13 ha, m_g14 ha, m_g15 ha, m_g16 ha, m_g17 ha, m_g18 ha, m_g19 ha, m_g20 ha, m_p3 ha, m_p7 ha, m_p8 ha, m_p9 ha, m_p12 ha, m_p16 ha, m_p17 ha, m_p18 ha, m_p19 ha, m_p20 ha, m_r1 ha, m_r2 ha, m_r3 ha, m_r4 ha, m_r5 ha, m_r6 ha, m_r7 ha, m_r8 ha, m_r9 ha, m_r10 ha, m_r11 ha, m_s1 ha, m_s2 ha, m_s3 ha, m_s4 ha, m_s5 ha, m_s6 ha, m_s7 ha, m_s8 ha, m_s9 ha, m_s10 ha, m_s11 ha, zI_add, zI_sub, zI_mul, zI_neg, zL_add, zL_sub, zL_mul, Option.bind_some, Option.toList_some, Option.toList_none, List.cons_append, List.nil_append, zI_lt, zI_le, zI_eq, zI_eq0, zI_lt0, zI_le0, zI_0lt, zI_0le, bZ_e0, Int.add_zero, Int.zero_add, hmn]
        by_cases z3 : s.1 < twV t x y
        · rw [if_neg (show ¬ twV t x y ≤ s.1 by omega), if_pos (show twO t x y = true ∧ s.1 < twV t x y from ⟨hok2, z3⟩)]
          simp (disch := first | omega | assumption) only [s_X8_two_115, s_X8_two_116, s_X8_two_117, s_X8_two_119, s_X8_two_122, s_X8_two_123, s_X8_two_126, mH_obj ha, m_g0 ha, m_g1 ha, m_g2 ha, m_g3 ha, m_g4 ha, m_g5 ha, m_g6 ha, m_g7 ha, m_g8 ha, m_g9 ha, m_g10 ha, m_g11 ha, m_g12 ha, m_g13 ha, m_g14 ha, m_g15 ha, m_g16 ha, m_g17 ha, m_g18 ha, m_g19 ha, m_g20 ha, m_p3 ha, m_p7 ha, m_p8 ha, m_p9 ha, m_p12 ha, m_p16 ha, m_p17 ha, m_p18 ha, m_p19 ha, m_p20 ha, m_r1 ha, m_r2 ha, m_r3 ha, m_r4 ha, m_r5 ha, m_r6 ha, m_r7 ha, m_r8 ha, m_r9 ha, m_r10 ha, m_r11 ha, m_s1 ha, m_s2 ha, m_s3 ha, m_s4 ha, m_s5 ha, m_s6 ha, m_s7 ha, m_s8 ha, m_s9 ha, m_s10 ha, m_s11 ha, zI_add, zI_sub, zI_mul, zI_neg, zL_add, zL_sub, zL_mul, Option.bind_some, Option.toList_some, Option.toList_none, List.cons_append, List.nil_append, zI_lt, zI_le, zI_eq, zI_eq0, zI_lt0, zI_le0, zI_0lt, zI_0le, bZ_e0, Int.add_zero, Int.zero_add, c_greater]
          rw [show max s.1 (twV t x y) = twV t x y by omega]
          exact ih (y + 1) (twV t x y, 100 * x + y) t2 _ hvm (by omega) (by omega) (by dsimp only; omega) (by dsimp only; omega)
        · rw [if_pos (show twV t x y ≤ s.1 by omega), if_neg (show ¬ (twO t x y = true ∧ s.1 < twV t x y) from fun w => z3 w.2)]
          simp (disch := first | omega | assumption) only [s_X8_two_115, s_X8_two_116, s_X8_two_117, s_X8_two_119, s_X8_two_122, s_X8_two_123, s_X8_two_126, mH_obj ha, m_g0 ha, m_g1 ha, m_g2 ha, m_g3 ha, m_g4 ha, m_g5 ha, m_g6 ha, m_g7 ha, m_g8 ha, m_g9 ha, m_g10 ha, m_g11 ha, m_g12 ha, m_g13 ha, m_g14 ha, m_g15 ha, m_g16 ha, m_g17 ha, m_g18 ha, m_g19 ha, m_g20 ha, m_p3 ha, m_p7 ha, m_p8 ha, m_p9 ha, m_p12 ha, m_p16 ha, m_p17 ha, m_p18 ha, m_p19 ha, m_p20 ha, m_r1 ha, m_r2 ha, m_r3 ha, m_r4 ha, m_r5 ha, m_r6 ha, m_r7 ha, m_r8 ha, m_r9 ha, m_r10 ha, m_r11 ha, m_s1 ha, m_s2 ha, m_s3 ha, m_s4 ha, m_s5 ha, m_s6 ha, m_s7 ha, m_s8 ha, m_s9 ha, m_s10 ha, m_s11 ha, zI_add, zI_sub, zI_mul, zI_neg, zL_add, zL_sub, zL_mul, Option.bind_some, Option.toList_some, Option.toList_none, List.cons_append, List.nil_append, zI_lt, zI_le, zI_eq, zI_eq0, zI_lt0, zI_le0, zI_0lt, zI_0le, bZ_e0, Int.add_zero, Int.zero_add, c_greater]
          rw [show max s.1 (twV t x y) = s.1 by omega]
          exact ih (y + 1) s t2 _ hvm (by omega) (by omega) hs0 hs1
theorem l_two1 {w : Int} (ha : a + 12 ≤ h.1) (hok : mnOk t 0) (hq : sqN t 0 ≤ 25) : ∀ (n : Nat) (x : Int) (s : Int × Int) (t' : Nat → Nat → Int) (l5 l6 : Value), vS t t' → x + n = sqN t 0 → 0 ≤ x → -1 ≤ s.1 → s.1 ≤ 900 →
    ∃ t'' l5' l6', vS t t'' ∧ x_ev (d + 3, n_X8_two, 28, [.ref a, .int (zI w), .int (zI s.1), .int (zI s.2), .int (zI x), l5, l6], [], mH h a t') = x_ev (d + 3, n_X8_two, 135, [.ref a, .int (zI w), .int (zI (itO (twI t) n x s).1), .int (zI (itO (twI t) n x s).2), .int (zI (sqN t 0)), l5', l6'], [], mH h a t'') := by
  intro n
  induction n with
  | zero =>
    intro x s t' l5 l6 hv hyn hx hs0 hs1
    refine ⟨t', l5, l6, hv, ?_⟩
    have e0 : t' 1 0 * t' 1 1 = sqN t 0 := by rw [hv.w, hv.w]; rfl
    rw [s_X8_two_28]
    simp (disch := first | omega | assumption) only [s_X8_two_30, s_X8_two_31, s_X8_two_32, s_X8_two_35, mH_obj ha, m_g0 ha, m_g1 ha, m_g2 ha, m_g3 ha, m_g4 ha, m_g5 ha, m_g6 ha, m_g7 ha, m_g8 ha, m_g9 ha, m_g10 ha, m_g11 ha, m_g12 ha, m_g13 ha, m_g14 ha, m_g15 ha, m_g16 ha, m_g17 ha, m_g18 ha, m_g19 ha, m_g20 ha, m_p3 ha, m_p7 ha, m_p8 ha, m_p9 ha, m_p12 ha, m_p16 ha, m_p17 ha, m_p18 ha, m_p19 ha, m_p20 ha, m_r1 ha, m_r2 ha, m_r3 ha, m_r4 ha, m_r5 ha, m_r6 ha, m_r7 ha, m_r8 ha, m_r9 ha, m_r10 ha, m_r11 ha, m_s1 ha, m_s2 ha, m_s3 ha, m_s4 ha, m_s5 ha, m_s6 ha, m_s7 ha, m_s8 ha, m_s9 ha, m_s10 ha, m_s11 ha, zI_add, zI_sub, zI_mul, zI_neg, zL_add, zL_sub, zL_mul, Option.bind_some, Option.toList_some, Option.toList_none, List.cons_append, List.nil_append, zI_lt, zI_le, zI_eq, zI_eq0, zI_lt0, zI_le0, zI_0lt, zI_0le, bZ_e0, Int.add_zero, Int.zero_add, c_squaresOf ha, Int.reduceToNat, Int.reduceAdd, e0]
    rw [if_pos (by omega), show x = sqN t 0 by omega]
    rfl
  | succ n ih =>
    intro x s t' l5 l6 hv hyn hx hs0 hs1
    have e0 : t' 1 0 * t' 1 1 = sqN t 0 := by rw [hv.w, hv.w]; rfl
    rw [s_X8_two_28]
    simp (disch := first | omega | assumption) only [s_X8_two_30, s_X8_two_31, s_X8_two_32, s_X8_two_35, s_X8_two_38, s_X8_two_40, s_X8_two_41, s_X8_two_42, mH_obj ha, m_g0 ha, m_g1 ha, m_g2 ha, m_g3 ha, m_g4 ha, m_g5 ha, m_g6 ha, m_g7 ha, m_g8 ha, m_g9 ha, m_g10 ha, m_g11 ha, m_g12 ha, m_g13 ha, m_g14 ha, m_g15 ha, m_g16 ha, m_g17 ha, m_g18 ha, m_g19 ha, m_g20 ha, m_p3 ha, m_p7 ha, m_p8 ha, m_p9 ha, m_p12 ha, m_p16 ha, m_p17 ha, m_p18 ha, m_p19 ha, m_p20 ha, m_r1 ha, m_r2 ha, m_r3 ha, m_r4 ha, m_r5 ha, m_r6 ha, m_r7 ha, m_r8 ha, m_r9 ha, m_r10 ha, m_r11 ha, m_s1 ha, m_s2 ha, m_s3 ha, m_s4 ha, m_s5 ha, m_s6 ha, m_s7 ha, m_s8 ha, m_s9 ha, m_s10 ha, m_s11 ha, zI_add, zI_sub, zI_mul, zI_neg, zL_add, zL_sub, zL_mul, Option.bind_some, Option.toList_some, Option.toList_none, List.cons_append, List.nil_append, zI_lt, zI_le, zI_eq, zI_eq0, zI_lt0, zI_le0, zI_0lt, zI_0le, bZ_e0, Int.add_zero, Int.zero_add, c_squaresOf ha, Int.reduceToNat, Int.reduceAdd, e0]
    rw [if_neg (by omega)]
    obtain ⟨t2, l6', hv2, e2⟩ := l_two2 (d := d) (w := w) (x := x) (t := t) (h := h) (a := a) ha hok hq hx (sqN t 0 - (x + 1)).toNat (x + 1) s t' l6 hv (by omega) (by omega) hs0 hs1
    rw [e2, itO]
    have hrg := scG_rg (u := twV t x) (c := fun y => 100 * x + y) (ok := twO t x) (B := 900) (fun q => (mnW_rg hok (by have := hok.2.1; omega)).2) (sqN t 0 - (x + 1)).toNat (x + 1) s hs1
    simp (disch := first | omega | assumption) only [s_X8_two_129, s_X8_two_132, mH_obj ha, m_g0 ha, m_g1 ha, m_g2 ha, m_g3 ha, m_g4 ha, m_g5 ha, m_g6 ha, m_g7 ha, m_g8 ha, m_g9 ha, m_g10 ha, m_g11 ha, m_g12 ha, m_g13 ha, m_g14 ha, m_g15 ha, m_g16 ha, m_g17 ha, m_g18 ha, m_g19 ha, m_g20 ha, m_p3 ha, m_p7 ha, m_p8 ha, m_p9 ha, m_p12 ha, m_p16 ha, m_p17 ha, m_p18 ha, m_p19 ha, m_p20 ha, m_r1 ha, m_r2 ha, m_r3 ha, m_r4 ha, m_r5 ha, m_r6 ha, m_r7 ha, m_r8 ha, m_r9 ha, m_r10 ha, m_r11 ha, m_s1 ha, m_s2 ha, m_s3 ha, m_s4 ha, m_s5 ha, m_s6 ha, m_s7 ha, m_s8 ha, m_s9 ha, m_s10 ha, m_s11 ha, zI_add, zI_sub, zI_mul, zI_neg, zL_add, zL_sub, zL_mul, Option.bind_some, Option.toList_some, Option.toList_none, List.cons_append, List.nil_append, zI_lt, zI_le, zI_eq, zI_eq0, zI_lt0, zI_le0, zI_0lt, zI_0le, bZ_e0, Int.add_zero, Int.zero_add]
    exact ih (x + 1) (twI t x s) t2 _ _ hv2 (by omega) (by omega) (by show -1 ≤ (scG _ _ _ _ _ _).1; omega) hrg.2
def twS (t : Nat → Nat → Int) : Int × Int := itO (twI t) (sqN t 0).toNat 0 (-1, 0)
def aTwo (t : Nat → Nat → Int) (w : Int) : Int := if (twS (bgT t 0)).1 < 0 then -20 else if w = 0 then (twS (bgT t 0)).2 else (twS (bgT t 0)).1
theorem sq_bg {r : Int} : sqN (bgT t 0) r = sqN t r := by unfold sqN; rw [bg_1, bg_1]
theorem itO_rg {F : Int → Int × Int → Int × Int} (hF : ∀ x s, -1 ≤ s.1 → s.1 ≤ 900 → -1 ≤ (F x s).1 ∧ (F x s).1 ≤ 900) : ∀ (n : Nat) (x : Int) (s : Int × Int), -1 ≤ s.1 → s.1 ≤ 900 → -1 ≤ (itO F n x s).1 ∧ (itO F n x s).1 ≤ 900 := by
  intro n
  induction n with
  | zero => intro x s h1 h2; exact ⟨h1, h2⟩
  | succ n ih =>
    intro x s h1 h2
    rw [itO]
    exact ih _ _ (hF x s h1 h2).1 (hF x s h1 h2).2
theorem twI_rg (hok : mnOk t 0) : ∀ x s, -1 ≤ s.1 → s.1 ≤ 900 → -1 ≤ (twI t x s).1 ∧ (twI t x s).1 ≤ 900 := by
  intro x s h1 h2
  have hrg := scG_rg (u := twV t x) (c := fun y => 100 * x + y) (ok := twO t x) (B := 900) (fun q => (mnW_rg hok (by have := hok.2.1; omega)).2) (sqN t 0 - (x + 1)).toNat (x + 1) s h2
  exact ⟨Int.le_trans h1 hrg.1, hrg.2⟩
theorem m_two {w : Int} (ha : a + 12 ≤ h.1) (h2 : -2147483648 ≤ w) (h3 : w < 2147483648) (ho : nowOk t) : ∃ t', (if 0 ≤ w ∧ w ≤ 1 then (if (twS (bgT t 0)).1 < 0 then ∃ t1, vL t t1 ∧ t' = metE t1 (-20) else vL t t') else t' = metT t (-2)) ∧ x_cl (d + 3) n_X8_two [.ref a, .int (zI w)] (mH h a t) = some (some (.int (zI (if 0 ≤ w ∧ w ≤ 1 then aTwo t w else -2))), mH h a t') := by
  by_cases z : 0 ≤ w ∧ w ≤ 1
  · have o1 := ho.1.1
    have hrg : -1 ≤ (twS (bgT t 0)).1 ∧ (twS (bgT t 0)).1 ≤ 900 := itO_rg (twI_rg (bg_ok ho)) _ _ _ (by decide) (by decide)
    obtain ⟨t1, l5, l6, hv, hev⟩ := l_two1 (d := d) (w := w) (t := bgT t 0) (h := h) (a := a) ha (bg_ok ho) (by rw [sq_bg]; exact o1.2) (sqN (bgT t 0) 0).toNat 0 (-1, 0) (bgT t 0) .null .null vS.rfl' (by rw [sq_bg]; omega) (by decide) (by decide) (by decide)
    have hvL := vL_bg.trans hv.L
    simp only [if_pos z]
    rw [show itO (twI (bgT t 0)) (sqN (bgT t 0) 0).toNat 0 (-1, 0) = twS (bgT t 0) from rfl] at hev
    have e1 : x_cl (d + 3) n_X8_two [.ref a, .int (zI w)] (mH h a t) = x_ev (d + 3, n_X8_two, 135, [.ref a, .int (zI w), .int (zI (twS (bgT t 0)).1), .int (zI (twS (bgT t 0)).2), .int (zI (sqN (bgT t 0) 0)), l5, l6], [], mH h a t1) := by
      simp (disch := first | omega | assumption) only [e_X8_two, s_X8_two_0, s_X8_two_1, s_X8_two_2, s_X8_two_3, s_X8_two_4, s_X8_two_7, mH_obj ha, m_g0 ha, m_g1 ha, m_g2 ha, m_g3 ha, m_g4 ha, m_g5 ha, m_g6 ha, m_g7 ha, m_g8 ha, m_g9 ha, m_g10 ha, m_g11 ha, m_g12 ha, m_g13 ha, m_g14 ha, m_g15 ha, m_g16 ha, m_g17 ha, m_g18 ha, m_g19 ha, m_g20 ha, m_p3 ha, m_p7 ha, m_p8 ha, m_p9 ha, m_p12 ha, m_p16 ha, m_p17 ha, m_p18 ha, m_p19 ha, m_p20 ha, m_r1 ha, m_r2 ha, m_r3 ha, m_r4 ha, m_r5 ha, m_r6 ha, m_r7 ha, m_r8 ha, m_r9 ha, m_r10 ha, m_r11 ha, m_s1 ha, m_s2 ha, m_s3 ha, m_s4 ha, m_s5 ha, m_s6 ha, m_s7 ha, m_s8 ha, m_s9 ha, m_s10 ha, m_s11 ha, zI_add, zI_sub, zI_mul, zI_neg, zL_add, zL_sub, zL_mul, Option.bind_some, Option.toList_some, Option.toList_none, List.cons_append, List.nil_append, zI_lt, zI_le, zI_eq, zI_eq0, zI_lt0, zI_le0, zI_0lt, zI_0le, bZ_e0, Int.add_zero, Int.zero_add, zI_64, c_in, ite_not]
      rw [if_pos z]
      simp (disch := first | omega | assumption) only [s_X8_two_17, s_X8_two_18, s_X8_two_21, s_X8_two_22, s_X8_two_23, s_X8_two_24, s_X8_two_25, s_X8_two_26, mH_obj ha, m_g0 ha, m_g1 ha, m_g2 ha, m_g3 ha, m_g4 ha, m_g5 ha, m_g6 ha, m_g7 ha, m_g8 ha, m_g9 ha, m_g10 ha, m_g11 ha, m_g12 ha, m_g13 ha, m_g14 ha, m_g15 ha, m_g16 ha, m_g17 ha, m_g18 ha, m_g19 ha, m_g20 ha, m_p3 ha, m_p7 ha, m_p8 ha, m_p9 ha, m_p12 ha, m_p16 ha, m_p17 ha, m_p18 ha, m_p19 ha, m_p20 ha, m_r1 ha, m_r2 ha, m_r3 ha, m_r4 ha, m_r5 ha, m_r6 ha, m_r7 ha, m_r8 ha, m_r9 ha, m_r10 ha, m_r11 ha, m_s1 ha, m_s2 ha, m_s3 ha, m_s4 ha, m_s5 ha, m_s6 ha, m_s7 ha, m_s8 ha, m_s9 ha, m_s10 ha, m_s11 ha, zI_add, zI_sub, zI_mul, zI_neg, zL_add, zL_sub, zL_mul, Option.bind_some, Option.toList_some, Option.toList_none, List.cons_append, List.nil_append, zI_lt, zI_le, zI_eq, zI_eq0, zI_lt0, zI_le0, zI_0lt, zI_0le, bZ_e0, Int.add_zero, Int.zero_add, c_beginNow ha]
      exact hev
    rw [e1]
    simp (disch := first | omega | assumption) only [s_X8_two_135, s_X8_two_136, s_X8_two_139, s_X8_two_140, s_X8_two_142, s_X8_two_145, s_X8_two_148, s_X8_two_149, s_X8_two_152, s_X8_two_153, s_X8_two_156, s_X8_two_157, mH_obj ha, m_g0 ha, m_g1 ha, m_g2 ha, m_g3 ha, m_g4 ha, m_g5 ha, m_g6 ha, m_g7 ha, m_g8 ha, m_g9 ha, m_g10 ha, m_g11 ha, m_g12 ha, m_g13 ha, m_g14 ha, m_g15 ha, m_g16 ha, m_g17 ha, m_g18 ha, m_g19 ha, m_g20 ha, m_p3 ha, m_p7 ha, m_p8 ha, m_p9 ha, m_p12 ha, m_p16 ha, m_p17 ha, m_p18 ha, m_p19 ha, m_p20 ha, m_r1 ha, m_r2 ha, m_r3 ha, m_r4 ha, m_r5 ha, m_r6 ha, m_r7 ha, m_r8 ha, m_r9 ha, m_r10 ha, m_r11 ha, m_s1 ha, m_s2 ha, m_s3 ha, m_s4 ha, m_s5 ha, m_s6 ha, m_s7 ha, m_s8 ha, m_s9 ha, m_s10 ha, m_s11 ha, zI_add, zI_sub, zI_mul, zI_neg, zL_add, zL_sub, zL_mul, Option.bind_some, Option.toList_some, Option.toList_none, List.cons_append, List.nil_append, zI_lt, zI_le, zI_eq, zI_eq0, zI_lt0, zI_le0, zI_0lt, zI_0le, bZ_e0, Int.add_zero, Int.zero_add, c_metElse ha]
    unfold aTwo
    by_cases z2 : (twS (bgT t 0)).1 < 0
    · refine ⟨metE t1 (-20), by rw [if_pos z2]; exact ⟨t1, hvL, rfl⟩, ?_⟩
      rw [if_neg (show ¬ 0 ≤ (twS (bgT t 0)).1 by omega), if_pos z2]
    · refine ⟨t1, by rw [if_neg z2]; exact hvL, ?_⟩
      rw [if_pos (show 0 ≤ (twS (bgT t 0)).1 by omega), if_neg z2]
      by_cases z3 : w = 0
      · rw [if_pos z3, if_pos z3]
      · rw [if_neg z3, if_neg z3]
  · refine ⟨metT t (-2), by rw [if_neg z], ?_⟩
    simp (disch := first | omega | assumption) only [e_X8_two, s_X8_two_0, s_X8_two_1, s_X8_two_2, s_X8_two_3, s_X8_two_4, s_X8_two_7, s_X8_two_10, s_X8_two_11, s_X8_two_13, s_X8_two_16, mH_obj ha, m_g0 ha, m_g1 ha, m_g2 ha, m_g3 ha, m_g4 ha, m_g5 ha, m_g6 ha, m_g7 ha, m_g8 ha, m_g9 ha, m_g10 ha, m_g11 ha, m_g12 ha, m_g13 ha, m_g14 ha, m_g15 ha, m_g16 ha, m_g17 ha, m_g18 ha, m_g19 ha, m_g20 ha, m_p3 ha, m_p7 ha, m_p8 ha, m_p9 ha, m_p12 ha, m_p16 ha, m_p17 ha, m_p18 ha, m_p19 ha, m_p20 ha, m_r1 ha, m_r2 ha, m_r3 ha, m_r4 ha, m_r5 ha, m_r6 ha, m_r7 ha, m_r8 ha, m_r9 ha, m_r10 ha, m_r11 ha, m_s1 ha, m_s2 ha, m_s3 ha, m_s4 ha, m_s5 ha, m_s6 ha, m_s7 ha, m_s8 ha, m_s9 ha, m_s10 ha, m_s11 ha, zI_add, zI_sub, zI_mul, zI_neg, zL_add, zL_sub, zL_mul, Option.bind_some, Option.toList_some, Option.toList_none, List.cons_append, List.nil_append, zI_lt, zI_le, zI_eq, zI_eq0, zI_lt0, zI_le0, zI_0lt, zI_0le, bZ_e0, Int.add_zero, Int.zero_add, zI_64, c_in, c_met ha, ite_not]
    rw [if_neg z, if_neg z]
end

/-! THE REFERENCE, part 12: seats changed, a shelf moved -/
section
variable {h : xH} {a : Nat} {t : Nat → Nat → Int} {d : Nat}
theorem sitF_w {t' : Nat → Nat → Int} {r q : Int} (hw : ∀ j, t' 1 j = t 1 j) : ∀ (n : Nat) (p f : Int), sitF t' r q n p f = sitF t r q n p f := by
  intro n
  induction n with
  | zero => intro p f; rfl
  | succ n ih => intro p f; rw [sitF, sitF, hw, ih]
theorem sitZ_vS {t' : Nat → Nat → Int} {r q : Int} (p : vS t t') : sitZ t' r q = sitZ t r q := by
  unfold sitZ
  rw [p.w, sitF_w p.w]
theorem rOk_w {t' : Nat → Nat → Int} {r : Int} (hw : ∀ j, t' 1 j = t 1 j) (ho : rOk t r) : rOk t' r := by
  unfold rOk sqN at *
  simp only [hw]
  exact ho
def swT (t : Nat → Nat → Int) (x y : Int) : Nat → Nat → Int := up2 (up2 t 1 (6 + x).toNat (t 1 (6 + y).toNat)) 1 (6 + y).toNat (t 1 (6 + x).toNat)
def mvT (t : Nat → Nat → Int) (x q : Int) : Nat → Nat → Int := up2 t 1 (6 + x).toNat q
theorem up2_vS {t' : Nat → Nat → Int} {j : Nat} {x : Int} (p : vS t t') : vS (up2 t 1 j x) (up2 t' 1 j x) := by
  refine ⟨fun i k h1 h2 => ?_, by rw [up2_n (by omega), up2_n (by omega)]; exact p.2.1, fun k hk => ⟨by rw [up2_n (by omega), up2_n (by omega)]; exact (p.2.2 k hk).1, by rw [up2_n (by omega), up2_n (by omega)]; exact (p.2.2 k hk).2⟩⟩
  by_cases e : i = 1 ∧ k = j
  · rw [e.1, e.2, up2_s, up2_s]
  · rw [up2_n e, up2_n e, p.1 i k h1 h2]
theorem up2_back {j : Nat} {x : Int} : up2 (up2 t 1 j x) 1 j (t 1 j) = t := by
  rw [up2_2]
  funext i k
  by_cases e : i = 1 ∧ k = j
  · rw [e.1, e.2, up2_s]
  · rw [up2_n e]
theorem sw_back {x y : Int} (hxy : (6 + x).toNat ≠ (6 + y).toNat) : up2 (up2 (swT t x y) 1 (6 + x).toNat (t 1 (6 + x).toNat)) 1 (6 + y).toNat (t 1 (6 + y).toNat) = t := by
  funext i k
  unfold swT
  by_cases e : i = 1 ∧ k = (6 + y).toNat
  · rw [e.1, e.2, up2_s]
  · rw [up2_n e]
    by_cases f : i = 1 ∧ k = (6 + x).toNat
    · rw [f.1, f.2, up2_s]
    · rw [up2_n f, up2_n e, up2_n f]
theorem mnOk_up {x q : Int} (hok : mnOk t 0) (hx : 0 ≤ x) (hx5 : x < t 1 5) (hq : 0 ≤ q ∧ q < 25) : mnOk (up2 t 1 (6 + x).toNat q) 0 := by
  obtain ⟨h1, h2, h3⟩ := hok
  refine ⟨by rw [up2_n (by omega)]; exact h1, by rw [up2_n (by omega)]; exact h2, fun k h4 h5 => ?_⟩
  rw [up2_n (by omega)] at h5
  obtain ⟨r1, r2⟩ := h3 k h4 h5
  refine ⟨?_, by rw [up2_n (by omega), up2_n (by omega), up2_n (by omega), up2_n (by omega)]; exact r2⟩
  by_cases e : k = x
  · rw [e, up2_s]; exact hq
  · rw [up2_n (by omega)]; exact r1
theorem sq_up {r : Int} {j : Nat} {x : Int} (hj : j ≠ r.toNat) (hj2 : j ≠ (r + 1).toNat) : sqN (up2 t 1 j x) r = sqN t r := by
  unfold sqN
  rw [up2_n (by omega), up2_n (by omega)]
/-- findStand over a table whose seats or shelves were changed for it -/
theorem c_fs {u t' : Nat → Nat → Int} (ha : a + 12 ≤ h.1) (hok : mnOk u 0) (hq0 : 0 ≤ sqN u 0) (hq : sqN u 0 ≤ 25) (hv : vS u t') : ∃ t'', vS u t'' ∧ x_cl (d + 3) n_X8_findStand [.ref a] (mH h a t') = some (some (.int (zI (stB u))), mH h a t'') := by
  obtain ⟨t'', hv2, -, hc⟩ := c_findStand (d := d) (t := t') (h := h) (a := a) ha (mnOk_vS hv hok) (by rw [sqN_vS hv]; exact hq0) (by rw [sqN_vS hv]; exact hq)
  rw [stS_1, stB_vS hv hok.2.1.2] at hc
  exact ⟨t'', hv.trans hv2, hc⟩
def swI (t : Nat → Nat → Int) (x : Int) (s : Int × Int) : Int × Int := scG (fun y => stB (swT t x y)) (fun y => 100 * x + y) (fun _ => true) (t 1 5 - (x + 1)).toNat (x + 1) s
def mvO (t : Nat → Nat → Int) (q : Int) : Bool := !hasB (t 1 4) q && decide (sitZ t 0 q < 0)
def mvI (t : Nat → Nat → Int) (x : Int) (s : Int × Int) : Int × Int := scG (fun q => stB (mvT t x q)) (fun q => 1000 + 100 * x + q) (mvO t) (sqN t 0).toNat 0 s
theorem sw_ok {x y : Int} (hok : mnOk t 0) (hx : 0 ≤ x) (hxy : x < y) (hy : y < t 1 5) : mnOk (swT t x y) 0 := by
  have h1 := (hok.2.2 x hx (by omega)).1
  have h2 := (hok.2.2 y (by omega) hy).1
  exact mnOk_up (mnOk_up hok hx (by omega) h2) (by omega) (by rw [up2_n (by omega)]; exact hy) h1
theorem sw_sq {x y : Int} (hx : 0 ≤ x) (hy : 0 ≤ y) : sqN (swT t x y) 0 = sqN t 0 := by
  unfold swT
  rw [sq_up (by omega) (by omega), sq_up (by omega) (by omega)]
theorem l_seats2 {x : Int} (ha : a + 12 ≤ h.1) (hok : mnOk t 0) (hq0 : 0 ≤ sqN t 0) (hq : sqN t 0 ≤ 25) (hx : 0 ≤ x) : ∀ (n : Nat) (y : Int) (s : Int × Int) (t' : Nat → Nat → Int) (l5 l6 l7 : Value), vS t t' → y + n = t 1 5 → x < y → -1 ≤ s.1 → s.1 ≤ 900 →
    ∃ t'' l5' l6' l7', vS t t'' ∧ x_ev (d + 4, n_X8_seats, 28, [.ref a, .int (zI s.1), .int (zI s.2), .int (zI x), .int (zI y), l5, l6, l7], [], mH h a t') = x_ev (d + 4, n_X8_seats, 145, [.ref a, .int (zI (scG (fun y => stB (swT t x y)) (fun y => 100 * x + y) (fun _ => true) n y s).1), .int (zI (scG (fun y => stB (swT t x y)) (fun y => 100 * x + y) (fun _ => true) n y s).2), .int (zI x), .int (zI (t 1 5)), l5', l6', l7'], [], mH h a t'') := by
  intro n
  have h5 := hok.2.1
  induction n with
  | zero =>
    intro y s t' l5 l6 l7 hv hyn hxy hs0 hs1
    refine ⟨t', l5, l6, l7, hv, ?_⟩
    rw [s_X8_seats_28]
    simp (disch := first | omega | assumption) only [s_X8_seats_30, s_X8_seats_31, s_X8_seats_34, s_X8_seats_35, s_X8_seats_36, mH_obj ha, m_g0 ha, m_g1 ha, m_g2 ha, m_g3 ha, m_g4 ha, m_g5 ha, m_g6 ha, m_g7 ha, m_g8 ha, m_g9 ha, m_g10 ha, m_g11 ha, m_g12 ha, m_g13 ha, m_g14 ha, m_g15 ha, m_g16 ha, m_g17 ha, m_g18 ha, m_g19 ha, m_g20 ha, m_p3 ha, m_p7 ha, m_p8 ha, m_p9 ha, m_p12 ha, m_p16 ha, m_p17 ha, m_p18 ha, m_p19 ha, m_p20 ha, m_r1 ha, m_r2 ha, m_r3 ha, m_r4 ha, m_r5 ha, m_r6 ha, m_r7 ha, m_r8 ha, m_r9 ha, m_r10 ha, m_r11 ha, m_s1 ha, m_s2 ha, m_s3 ha, m_s4 ha, m_s5 ha, m_s6 ha, m_s7 ha, m_s8 ha, m_s9 ha, m_s10 ha, m_s11 ha, zI_add, zI_sub, zI_mul, zI_neg, zL_add, zL_sub, zL_mul, Option.bind_some, Option.toList_some, Option.toList_none, List.cons_append, List.nil_append, zI_lt, zI_le, zI_eq, zI_eq0, zI_lt0, zI_le0, zI_0lt, zI_0le, bZ_e0, Int.add_zero, Int.zero_add, hv.w, Int.reduceToNat]
    rw [if_pos (by omega), show y = t 1 5 by omega]
    rfl
  | succ n ih =>
    intro y s t' l5 l6 l7 hv hyn hxy hs0 hs1
    have r1 := (hok.2.2 x hx (by omega)).1
    have r2 := (hok.2.2 y (by omega) (by omega)).1
    rw [s_X8_seats_28]
    simp (disch := first | omega | assumption) only [s_X8_seats_30, s_X8_seats_31, s_X8_seats_34, s_X8_seats_35, s_X8_seats_36, mH_obj ha, m_g0 ha, m_g1 ha, m_g2 ha, m_g3 ha, m_g4 ha, m_g5 ha, m_g6 ha, m_g7 ha, m_g8 ha, m_g9 ha, m_g10 ha, m_g11 ha, m_g12 ha, m_g13 ha, m_g14 ha, m_g15 ha, m_g16 ha, m_g17 ha, m_g18 ha, m_g19 ha, m_g20 ha, m_p3 ha, m_p7 ha, m_p8 ha, m_p9 ha, m_p12 ha, m_p16 ha, m_p17 ha, m_p18 ha, m_p19 ha, m_p20 ha, m_r1 ha, m_r2 ha, m_r3 ha, m_r4 ha, m_r5 ha, m_r6 ha, m_r7 ha, m_r8 ha, m_r9 ha, m_r10 ha, m_r11 ha, m_s1 ha, m_s2 ha, m_s3 ha, m_s4 ha, m_s5 ha, m_s6 ha, m_s7 ha, m_s8 ha, m_s9 ha, m_s10 ha, m_s11 ha, zI_add, zI_sub, zI_mul, zI_neg, zL_add, zL_sub, zL_mul, Option.bind_some, Option.toList_some, Option.toList_none, List.cons_append, List.nil_append, zI_lt, zI_le, zI_eq, zI_eq0, zI_lt0, zI_le0, zI_0lt, zI_0le, bZ_e0, Int.add_zero, Int.zero_add, hv.w, Int.reduceToNat]
    rw [if_neg (by omega)]
    have hvs : vS (swT t x y) (up2 (up2 t' 1 (6 + x).toNat (t 1 (6 + y).toNat)) 1 (6 + y).toNat (t 1 (6 + x).toNat)) := up2_vS (up2_vS hv)
    obtain ⟨t2, hv2, hc⟩ := c_fs (d := d) (h := h) (a := a) ha (sw_ok hok hx hxy (by omega)) (by rw [sw_sq hx (by omega)]; exact hq0) (by rw [sw_sq hx (by omega)]; exact hq) hvs
    have hrg := stB_rg (sw_ok hok hx hxy (show y < t 1 5 by omega))
    simp (disch := first | omega | assumption) only [s_X8_seats_39, s_X8_seats_40, s_X8_seats_43, s_X8_seats_45, s_X8_seats_46, s_X8_seats_47, s_X8_seats_48, s_X8_seats_50, s_X8_seats_51, s_X8_seats_54, s_X8_seats_56, s_X8_seats_58, s_X8_seats_59, s_X8_seats_60, s_X8_seats_62, s_X8_seats_63, s_X8_seats_66, s_X8_seats_68, s_X8_seats_69, s_X8_seats_70, s_X8_seats_72, s_X8_seats_73, s_X8_seats_74, s_X8_seats_77, s_X8_seats_79, s_X8_seats_81, s_X8_seats_82, s_X8_seats_84, s_X8_seats_85, s_X8_seats_86, mH_obj ha, m_g0 ha, m_g1 ha, m_g2 ha, m_g3 ha, m_g4 ha, m_g5 ha, m_g6 ha, m_g7 ha, m_g8 ha, m_g9 ha, m_g10 ha, m_g11 ha, m_g12 ha, m_g13 ha, m_g14 ha, m_g15 ha, m_g16 ha, m_g17 ha, m_g18 ha, m_g19 ha, m_g20 ha, m_p3 ha, m_p7 ha, m_p8 ha, m_p9 ha, m_p12 ha, m_p16 ha, m_p17 ha, m_p18 ha, m_p19 ha, m_p20 ha, m_r1 ha, m_r2 ha, m_r3 ha, m_r4 ha, m_r5 ha, m_r6 ha, m_r7 ha, m_r8 ha, m_r9 ha, m_r10 ha, m_r11 ha, m_s1 ha, m_s2 ha, m_s3 ha, m_s4 ha, m_s5 ha, m_s6 ha, m_s7 ha, m_s8 ha, m_s9 ha, m_s10 ha, m_s11 ha, zI_add, zI_sub, zI_mul, zI_neg, zL_add, zL_sub, zL_mul, Option.bind_some, Option.toList_some, Option.toList_none, List.cons_append, List.nil_append, zI_lt, zI_le, zI_eq, zI_eq0, zI_lt0, zI_le0, zI_0lt, zI_0le, bZ_e0, Int.add_zero, Int.zero_add, hv.w, hc]
    have hv3 : vS t (up2 (up2 t2 1 (6 + x).toNat (t 1 (6 + x).toNat)) 1 (6 + y).toNat (t 1 (6 + y).toNat)) := by
      have := up2_vS (j := (6 + y).toNat) (x := t 1 (6 + y).toNat) (up2_vS (j := (6 + x).toNat) (x := t 1 (6 + x).toNat) hv2)
      rw [sw_back (by omega)] at this
      exact this
    simp (disch := first | omega | assumption) only [s_X8_seats_89, s_X8_seats_91, s_X8_seats_92, s_X8_seats_95, s_X8_seats_97, s_X8_seats_98, s_X8_seats_99, s_X8_seats_101, s_X8_seats_102, s_X8_seats_103, s_X8_seats_106, s_X8_seats_108, s_X8_seats_110, s_X8_seats_111, s_X8_seats_113, s_X8_seats_114, s_X8_seats_116, s_X8_seats_117, s_X8_seats_120, s_X8_seats_122, s_X8_seats_123, s_X8_seats_124, s_X8_seats_126, s_X8_seats_127, s_X8_seats_130, mH_obj ha, m_g0 ha, m_g1 ha, m_g2 ha, m_g3 ha, m_g4 ha, m_g5 ha, m_g6 ha, m_g7 ha, m_g8 ha, m_g9 ha, m_g10 ha, m_g11 ha, m_g12 ha, m_g13 ha, m_g14 ha, m_g15 ha, m_g16 ha, m_g17 ha, m_g18 ha, m_g19 ha, m_g20 ha, m_p3 ha, m_p7 ha, m_p8 ha, m_p9 ha, m_p12 ha, m_p16 ha, m_p17 ha, m_p18 ha, m_p19 ha, m_p20 ha, m_r1 ha, m_r2 ha, m_r3 ha, m_r4 ha, m_r5 ha, m_r6 ha, m_r7 ha, m_r8 ha, m_r9 ha, m_r10 ha, m_r11 ha, m_s1 ha, m_s2 ha, m_s3 ha, m_s4 ha, m_s5 ha, m_s6 ha, m_s7 ha, m_s8 ha, m_s9 ha, m_s10 ha, m_s11 ha, zI_add, zI_sub, zI_mul, zI_neg, zL_add, zL_sub, zL_mul, Option.bind_some, Option.toList_some, Option.toList_none, List.cons_append, List.nil_append, zI_lt, zI_le, zI_eq, zI_eq0, zI_lt0, zI_le0, zI_0lt, zI_0le, bZ_e0, Int.add_zero, Int.zero_add]
    generalize up2 (up2 t2 1 (6 + x).toNat (t 1 (6 + x).toNat)) 1 (6 + y).toNat (t 1 (6 + y).toNat) = t3 at *
    rw [scG]
    by_cases z3 : s.1 < stB (swT t x y)
    · rw [if_neg (show ¬ stB (swT t x y) ≤ s.1 by omega), if_pos (show true = true ∧ s.1 < stB (swT t x y) from ⟨rfl, z3⟩)]
      simp (disch := first | omega | assumption) only [s_X8_seats_131, s_X8_seats_132, s_X8_seats_133, s_X8_seats_135, s_X8_seats_138, s_X8_seats_139, s_X8_seats_142, mH_obj ha, m_g0 ha, m_g1 ha, m_g2 ha, m_g3 ha, m_g4 ha, m_g5 ha, m_g6 ha, m_g7 ha, m_g8 ha, m_g9 ha, m_g10 ha, m_g11 ha, m_g12 ha, m_g13 ha, m_g14 ha, m_g15 ha, m_g16 ha, m_g17 ha, m_g18 ha, m_g19 ha, m_g20 ha, m_p3 ha, m_p7 ha, m_p8 ha, m_p9 ha, m_p12 ha, m_p16 ha, m_p17 ha, m_p18 ha, m_p19 ha, m_p20 ha, m_r1 ha, m_r2 ha, m_r3 ha, m_r4 ha, m_r5 ha, m_r6 ha, m_r7 ha, m_r8 ha, m_r9 ha, m_r10 ha, m_r11 ha, m_s1 ha, m_s2 ha, m_s3 ha, m_s4 ha, m_s5 ha, m_s6 ha, m_s7 ha, m_s8 ha, m_s9 ha, m_s10 ha, m_s11 ha, zI_add, zI_sub, zI_mul, zI_neg, zL_add, zL_sub, zL_mul, Option.bind_some, Option.toList_some, Option.toList_none, List.cons_append, List.nil_append, zI_lt, zI_le, zI_eq, zI_eq0, zI_lt0, zI_le0, zI_0lt, zI_0le, bZ_e0, Int.add_zero, Int.zero_add, c_greater]
      rw [show max s.1 (stB (swT t x y)) = stB (swT t x y) by omega]
      exact ih (y + 1) (stB (swT t x y), 100 * x + y) t3 _ _ _ hv3 (by omega) (by omega) (by dsimp only; omega) (by dsimp only; omega)
    · rw [if_pos (show stB (swT t x y) ≤ s.1 by omega), if_neg (show ¬ (true = true ∧ s.1 < stB (swT t x y)) from fun w => z3 w.2)]
      simp (disch := first | omega | assumption) only [s_X8_seats_131, s_X8_seats_132, s_X8_seats_133, s_X8_seats_135, s_X8_seats_138, s_X8_seats_139, s_X8_seats_142, mH_obj ha, m_g0 ha, m_g1 ha, m_g2 ha, m_g3 ha, m_g4 ha, m_g5 ha, m_g6 ha, m_g7 ha, m_g8 ha, m_g9 ha, m_g10 ha, m_g11 ha, m_g12 ha, m_g13 ha, m_g14 ha, m_g15 ha, m_g16 ha, m_g17 ha, m_g18 ha, m_g19 ha, m_g20 ha, m_p3 ha, m_p7 ha, m_p8 ha, m_p9 ha, m_p12 ha, m_p16 ha, m_p17 ha, m_p18 ha, m_p19 ha, m_p20 ha, m_r1 ha, m_r2 ha, m_r3 ha, m_r4 ha, m_r5 ha, m_r6 ha, m_r7 ha, m_r8 ha, m_r9 ha, m_r10 ha, m_r11 ha, m_s1 ha, m_s2 ha, m_s3 ha, m_s4 ha, m_s5 ha, m_s6 ha, m_s7 ha, m_s8 ha, m_s9 ha, m_s10 ha, m_s11 ha, zI_add, zI_sub, zI_mul, zI_neg, zL_add, zL_sub, zL_mul, Option.bind_some, Option.toList_some, Option.toList_none, List.cons_append, List.nil_append, zI_lt, zI_le, zI_eq, zI_eq0, zI_lt0, zI_le0, zI_0lt, zI_0le, bZ_e0, Int.add_zero, Int.zero_add, c_greater]
      rw [show max s.1 (stB (swT t x y)) = s.1 by omega]
      exact ih (y + 1) s t3 _ _ _ hv3 (by omega) (by omega) hs0 hs1
theorem scG_rg2 {u c : Int → Int} {ok : Int → Bool} : ∀ (n : Nat) (q : Int) (s : Int × Int), (∀ k, q ≤ k → k < q + n → u k ≤ 900) → -1 ≤ s.1 → s.1 ≤ 900 → -1 ≤ (scG u c ok n q s).1 ∧ (scG u c ok n q s).1 ≤ 900 := by
  intro n
  induction n with
  | zero => intro q s _ h1 h2; exact ⟨h1, h2⟩
  | succ n ih =>
    intro q s hu h1 h2
    rw [scG]
    split
    · rename_i z
      exact ih _ _ (fun k h3 h4 => hu k (by omega) (by omega)) (by dsimp only; omega) (hu q (by omega) (by omega))
    · exact ih _ _ (fun k h3 h4 => hu k (by omega) (by omega)) h1 h2
theorem swI_rg {x : Int} {s : Int × Int} (hok : mnOk t 0) (hx : 0 ≤ x) (hx5 : x < t 1 5) (h1 : -1 ≤ s.1) (h2 : s.1 ≤ 900) : -1 ≤ (swI t x s).1 ∧ (swI t x s).1 ≤ 900 := scG_rg2 _ _ _ (fun k h3 h4 => (stB_rg (sw_ok hok hx (by omega) (by omega))).2) h1 h2
theorem l_seats1 (ha : a + 12 ≤ h.1) (hok : mnOk t 0) (hq0 : 0 ≤ sqN t 0) (hq : sqN t 0 ≤ 25) : ∀ (n : Nat) (x : Int) (s : Int × Int) (t' : Nat → Nat → Int) (l4 l5 l6 l7 : Value), vS t t' → x + n = t 1 5 → 0 ≤ x → -1 ≤ s.1 → s.1 ≤ 900 →
    ∃ t'' l4' l5' l6' l7', vS t t'' ∧ (-1 ≤ (itO (swI t) n x s).1 ∧ (itO (swI t) n x s).1 ≤ 900) ∧ x_ev (d + 4, n_X8_seats, 13, [.ref a, .int (zI s.1), .int (zI s.2), .int (zI x), l4, l5, l6, l7], [], mH h a t') = x_ev (d + 4, n_X8_seats, 151, [.ref a, .int (zI (itO (swI t) n x s).1), .int (zI (itO (swI t) n x s).2), .int (zI (t 1 5)), l4', l5', l6', l7'], [], mH h a t'') := by
  intro n
  have h5 := hok.2.1
  induction n with
  | zero =>
    intro x s t' l4 l5 l6 l7 hv hyn hx hs0 hs1
    refine ⟨t', l4, l5, l6, l7, hv, ⟨hs0, hs1⟩, ?_⟩
    rw [s_X8_seats_13]
    simp (disch := first | omega | assumption) only [s_X8_seats_14, s_X8_seats_15, s_X8_seats_18, s_X8_seats_19, s_X8_seats_20, mH_obj ha, m_g0 ha, m_g1 ha, m_g2 ha, m_g3 ha, m_g4 ha, m_g5 ha, m_g6 ha, m_g7 ha, m_g8 ha, m_g9 ha, m_g10 ha, m_g11 ha, m_g12 ha, m_g13 ha, m_g14 ha, m_g15 ha, m_g16 ha, m_g17 ha, m_g18 ha, m_g19 ha, m_g20 ha, m_p3 ha, m_p7 ha, m_p8 ha, m_p9 ha, m_p12 ha, m_p16 ha, m_p17 ha, m_p18 ha, m_p19 ha, m_p20 ha, m_r1 ha, m_r2 ha, m_r3 ha, m_r4 ha, m_r5 ha, m_r6 ha, m_r7 ha, m_r8 ha, m_r9 ha, m_r10 ha, m_r11 ha, m_s1 ha, m_s2 ha, m_s3 ha, m_s4 ha, m_s5 ha, m_s6 ha, m_s7 ha, m_s8 ha, m_s9 ha, m_s10 ha, m_s11 ha, zI_add, zI_sub, zI_mul, zI_neg, zL_add, zL_sub, zL_mul, Option.bind_some, Option.toList_some, Option.toList_none, List.cons_append, List.nil_append, zI_lt, zI_le, zI_eq, zI_eq0, zI_lt0, zI_le0, zI_0lt, zI_0le, bZ_e0, Int.add_zero, Int.zero_add, hv.w, Int.reduceToNat]
    rw [if_pos (by omega), show x = t 1 5 by omega]
    rfl
  | succ n ih =>
    intro x s t' l4 l5 l6 l7 hv hyn hx hs0 hs1
    rw [s_X8_seats_13]
    simp (disch := first | omega | assumption) only [s_X8_seats_14, s_X8_seats_15, s_X8_seats_18, s_X8_seats_19, s_X8_seats_20, s_X8_seats_23, s_X8_seats_24, s_X8_seats_25, s_X8_seats_26, mH_obj ha, m_g0 ha, m_g1 ha, m_g2 ha, m_g3 ha, m_g4 ha, m_g5 ha, m_g6 ha, m_g7 ha, m_g8 ha, m_g9 ha, m_g10 ha, m_g11 ha, m_g12 ha, m_g13 ha, m_g14 ha, m_g15 ha, m_g16 ha, m_g17 ha, m_g18 ha, m_g19 ha, m_g20 ha, m_p3 ha, m_p7 ha, m_p8 ha, m_p9 ha, m_p12 ha, m_p16 ha, m_p17 ha, m_p18 ha, m_p19 ha, m_p20 ha, m_r1 ha, m_r2 ha, m_r3 ha, m_r4 ha, m_r5 ha, m_r6 ha, m_r7 ha, m_r8 ha, m_r9 ha, m_r10 ha, m_r11 ha, m_s1 ha, m_s2 ha, m_s3 ha, m_s4 ha, m_s5 ha, m_s6 ha, m_s7 ha, m_s8 ha, m_s9 ha, m_s10 ha, m_s11 ha, zI_add, zI_sub, zI_mul, zI_neg, zL_add, zL_sub, zL_mul, Option.bind_some, Option.toList_some, Option.toList_none, List.cons_append, List.nil_append, zI_lt, zI_le, zI_eq, zI_eq0, zI_lt0, zI_le0, zI_0lt, zI_0le, bZ_e0, Int.add_zero, Int.zero_add, hv.w, Int.reduceToNat]
    rw [if_neg (by omega)]
    obtain ⟨t2, l5', l6', l7', hv2, e2⟩ := l_seats2 (d := d) (x := x) (t := t) (h := h) (a := a) ha hok hq0 hq hx (t 1 5 - (x + 1)).toNat (x + 1) s t' l5 l6 l7 hv (by omega) (by omega) hs0 hs1
    have hrg := swI_rg (x := x) (s := s) hok hx (by omega) hs0 hs1
    rw [e2, itO]
    simp (disch := first | omega | assumption) only [s_X8_seats_145, s_X8_seats_148, mH_obj ha, m_g0 ha, m_g1 ha, m_g2 ha, m_g3 ha, m_g4 ha, m_g5 ha, m_g6 ha, m_g7 ha, m_g8 ha, m_g9 ha, m_g10 ha, m_g11 ha, m_g12 ha, m_g13 ha, m_g14 ha, m_g15 ha, m_g16 ha, m_g17 ha, m_g18 ha, m_g19 ha, m_g20 ha, m_p3 ha, m_p7 ha, m_p8 ha, m_p9 ha, m_p12 ha, m_p16 ha, m_p17 ha, m_p18 ha, m_p19 ha, m_p20 ha, m_r1 ha, m_r2 ha, m_r3 ha, m_r4 ha, m_r5 ha, m_r6 ha, m_r7 ha, m_r8 ha, m_r9 ha, m_r10 ha, m_r11 ha, m_s1 ha, m_s2 ha, m_s3 ha, m_s4 ha, m_s5 ha, m_s6 ha, m_s7 ha, m_s8 ha, m_s9 ha, m_s10 ha, m_s11 ha, zI_add, zI_sub, zI_mul, zI_neg, zL_add, zL_sub, zL_mul, Option.bind_some, Option.toList_some, Option.toList_none, List.cons_append, List.nil_append, zI_lt, zI_le, zI_eq, zI_eq0, zI_lt0, zI_le0, zI_0lt, zI_0le, bZ_e0, Int.add_zero, Int.zero_add]
    exact ih (x + 1) (swI t x s) t2 _ _ _ _ hv2 (by omega) (by omega) hrg.1 hrg.2
theorem l_seats4 {x : Int} {one : Int} (ha : a + 12 ≤ h.1) (hok : mnOk t 0) (hr : rOk t 0) (hone : one = t 1 (6 + x).toNat) (hx : 0 ≤ x) (hx5 : x < t 1 5) : ∀ (n : Nat) (q : Int) (s : Int × Int) (t' : Nat → Nat → Int) (l6 l7 : Value), vS t t' → q + n = sqN t 0 → 0 ≤ q → -1 ≤ s.1 → s.1 ≤ 900 →
    ∃ t'' l6' l7', vS t t'' ∧ (-1 ≤ (scG (fun q => stB (mvT t x q)) (fun q => 1000 + 100 * x + q) (mvO t) n q s).1 ∧ (scG (fun q => stB (mvT t x q)) (fun q => 1000 + 100 * x + q) (mvO t) n q s).1 ≤ 900) ∧ x_ev (d + 4, n_X8_seats, 177, [.ref a, .int (zI s.1), .int (zI s.2), .int (zI x), .int (zI one), .int (zI q), l6, l7], [], mH h a t') = x_ev (d + 4, n_X8_seats, 274, [.ref a, .int (zI (scG (fun q => stB (mvT t x q)) (fun q => 1000 + 100 * x + q) (mvO t) n q s).1), .int (zI (scG (fun q => stB (mvT t x q)) (fun q => 1000 + 100 * x + q) (mvO t) n q s).2), .int (zI x), .int (zI one), .int (zI (sqN t 0)), l6', l7'], [], mH h a t'') := by
  intro n
  have h5 := hok.2.1
  have hq := hr.1.2
  have hq0 := hr.1.1
  induction n with
  | zero =>
    intro q s t' l6 l7 hv hyn hq1 hs0 hs1
    have e0 : t' 1 0 * t' 1 1 = sqN t 0 := by rw [hv.w, hv.w]; rfl
    refine ⟨t', l6, l7, hv, ⟨hs0, hs1⟩, ?_⟩
    rw [s_X8_seats_177]
    simp (disch := first | omega | assumption) only [s_X8_seats_179, s_X8_seats_180, s_X8_seats_181, s_X8_seats_184, mH_obj ha, m_g0 ha, m_g1 ha, m_g2 ha, m_g3 ha, m_g4 ha, m_g5 ha, m_g6 ha, m_g7 ha, m_g8 ha, m_g9 ha, m_g10 ha, m_g11 ha, m_g12 ha, m_g13 ha, m_g14 ha, m_g15 ha, m_g16 ha, m_g17 ha, m_g18 ha, m_g19 ha, m_g20 ha, m_p3 ha, m_p7 ha, m_p8 ha, m_p9 ha, m_p12 ha, m_p16 ha, m_p17 ha, m_p18 ha, m_p19 ha, m_p20 ha, m_r1 ha, m_r2 ha, m_r3 ha, m_r4 ha, m_r5 ha, m_r6 ha, m_r7 ha, m_r8 ha, m_r9 ha, m_r10 ha, m_r11 ha, m_s1 ha, m_s2 ha, m_s3 ha, m_s4 ha, m_s5 ha, m_s6 ha, m_s7 ha, m_s8 ha, m_s9 ha, m_s10 ha, m_s11 ha, zI_add, zI_sub, zI_mul, zI_neg, zL_add, zL_sub, zL_mul, Option.bind_some, Option.toList_some, Option.toList_none, List.cons_append, List.nil_append, zI_lt, zI_le, zI_eq, zI_eq0, zI_lt0, zI_le0, zI_0lt, zI_0le, bZ_e0, Int.add_zero, Int.zero_add, c_squaresOf ha, Int.reduceToNat, Int.reduceAdd, e0]
    rw [if_pos (by omega), show q = sqN t 0 by omega]
    rfl
  | succ n ih =>
    intro q s t' l6 l7 hv hyn hq1 hs0 hs1
    have e0 : t' 1 0 * t' 1 1 = sqN t 0 := by rw [hv.w, hv.w]; rfl
    have hsz := sitZ_rg (q := q) hr
    have hr' : rOk t' 0 := rOk_w hv.w hr
    rw [s_X8_seats_177]
    simp (disch := first | omega | assumption) only [s_X8_seats_179, s_X8_seats_180, s_X8_seats_181, s_X8_seats_184, mH_obj ha, m_g0 ha, m_g1 ha, m_g2 ha, m_g3 ha, m_g4 ha, m_g5 ha, m_g6 ha, m_g7 ha, m_g8 ha, m_g9 ha, m_g10 ha, m_g11 ha, m_g12 ha, m_g13 ha, m_g14 ha, m_g15 ha, m_g16 ha, m_g17 ha, m_g18 ha, m_g19 ha, m_g20 ha, m_p3 ha, m_p7 ha, m_p8 ha, m_p9 ha, m_p12 ha, m_p16 ha, m_p17 ha, m_p18 ha, m_p19 ha, m_p20 ha, m_r1 ha, m_r2 ha, m_r3 ha, m_r4 ha, m_r5 ha, m_r6 ha, m_r7 ha, m_r8 ha, m_r9 ha, m_r10 ha, m_r11 ha, m_s1 ha, m_s2 ha, m_s3 ha, m_s4 ha, m_s5 ha, m_s6 ha, m_s7 ha, m_s8 ha, m_s9 ha, m_s10 ha, m_s11 ha, zI_add, zI_sub, zI_mul, zI_neg, zL_add, zL_sub, zL_mul, Option.bind_some, Option.toList_some, Option.toList_none, List.cons_append, List.nil_append, zI_lt, zI_le, zI_eq, zI_eq0, zI_lt0, zI_le0, zI_0lt, zI_0le, bZ_e0, Int.add_zero, Int.zero_add, c_squaresOf ha, Int.reduceToNat, Int.reduceAdd, e0]
    rw [if_neg (by omega)]
    simp (disch := first | omega | assumption) only [s_X8_seats_187, s_X8_seats_188, s_X8_seats_191, s_X8_seats_192, s_X8_seats_193, s_X8_seats_195, s_X8_seats_198, s_X8_seats_201, s_X8_seats_202, s_X8_seats_203, s_X8_seats_205, s_X8_seats_208, mH_obj ha, m_g0 ha, m_g1 ha, m_g2 ha, m_g3 ha, m_g4 ha, m_g5 ha, m_g6 ha, m_g7 ha, m_g8 ha, m_g9 ha, m_g10 ha, m_g11 ha, m_g12 ha, m_g13 ha, m_g14 ha, m_g15 ha, m_g16 ha, m_g17 ha, m_g18 ha, m_g19 ha, m_g20 ha, m_p3 ha, m_p7 ha, m_p8 ha, m_p9 ha, m_p12 ha, m_p16 ha, m_p17 ha, m_p18 ha, m_p19 ha, m_p20 ha, m_r1 ha, m_r2 ha, m_r3 ha, m_r4 ha, m_r5 ha, m_r6 ha, m_r7 ha, m_r8 ha, m_r9 ha, m_r10 ha, m_r11 ha, m_s1 ha, m_s2 ha, m_s3 ha, m_s4 ha, m_s5 ha, m_s6 ha, m_s7 ha, m_s8 ha, m_s9 ha, m_s10 ha, m_s11 ha, zI_add, zI_sub, zI_mul, zI_neg, zL_add, zL_sub, zL_mul, Option.bind_some, Option.toList_some, Option.toList_none, List.cons_append, List.nil_append, zI_lt, zI_le, zI_eq, zI_eq0, zI_lt0, zI_le0, zI_0lt, zI_0le, bZ_e0, Int.add_zero, Int.zero_add, c_has, c_sits ha, Int.reduceToNat, hv.w, sitZ_vS hv, ite_not]
    rw [scG]
    have skip : mvO t q = false → ∃ t'' l6' l7', vS t t'' ∧ (-1 ≤ (scG (fun q => stB (mvT t x q)) (fun q => 1000 + 100 * x + q) (mvO t) n (q + 1) (if mvO t q = true ∧ s.1 < stB (mvT t x q) then (stB (mvT t x q), 1000 + 100 * x + q) else s)).1 ∧ (scG (fun q => stB (mvT t x q)) (fun q => 1000 + 100 * x + q) (mvO t) n (q + 1) (if mvO t q = true ∧ s.1 < stB (mvT t x q) then (stB (mvT t x q), 1000 + 100 * x + q) else s)).1 ≤ 900) ∧ x_ev (d + 4, n_X8_seats, 268, [.ref a, .int (zI s.1), .int (zI s.2), .int (zI x), .int (zI one), .int (zI q), l6, l7], [], mH h a t') = x_ev (d + 4, n_X8_seats, 274, [.ref a, .int (zI (scG (fun q => stB (mvT t x q)) (fun q => 1000 + 100 * x + q) (mvO t) n (q + 1) (if mvO t q = true ∧ s.1 < stB (mvT t x q) then (stB (mvT t x q), 1000 + 100 * x + q) else s)).1), .int (zI (scG (fun q => stB (mvT t x q)) (fun q => 1000 + 100 * x + q) (mvO t) n (q + 1) (if mvO t q = true ∧ s.1 < stB (mvT t x q) then (stB (mvT t x q), 1000 + 100 * x + q) else s)).2), .int (zI x), .int (zI one), .int (zI (sqN t 0)), l6', l7'], [], mH h a t'') := by
      intro z
      rw [if_neg (show ¬ (mvO t q = true ∧ s.1 < stB (mvT t x q)) from fun w => by rw [z] at w; exact absurd w.1 (by decide))]
      simp (disch := first | omega | assumption) only [s_X8_seats_268, s_X8_seats_271, mH_obj ha, m_g0 ha, m_g1 ha, m_g2 ha, m_g3 ha, m_g4 ha, m_g5 ha, m_g6 ha, m_g7 ha, m_g8 ha, m_g9 ha, m_g10 ha, m_g11 ha, m_g12 ha, m_g13 ha, m_g14 ha, m_g15 ha, m_g16 ha, m_g17 ha, m_g18 ha, m_g19 ha, m_g20 ha, m_p3 ha, m_p7 ha, m_p8 ha, m_p9 ha, m_p12 ha, m_p16 ha, m_p17 ha, m_p18 ha, m_p19 ha, m_p20 ha, m_r1 ha, m_r2 ha, m_r3 ha, m_r4 ha, m_r5 ha, m_r6 ha, m_r7 ha, m_r8 ha, m_r9 ha, m_r10 ha, m_r11 ha, m_s1 ha, m_s2 ha, m_s3 ha, m_s4 ha, m_s5 ha, m_s6 ha, m_s7 ha, m_s8 ha, m_s9 ha, m_s10 ha, m_s11 ha, zI_add, zI_sub, zI_mul, zI_neg, zL_add, zL_sub, zL_mul, Option.bind_some, Option.toList_some, Option.toList_none, List.cons_append, List.nil_append, zI_lt, zI_le, zI_eq, zI_eq0, zI_lt0, zI_le0, zI_0lt, zI_0le, bZ_e0, Int.add_zero, Int.zero_add]
      exact ih (q + 1) s t' _ _ hv (by omega) (by omega) hs0 hs1
    by_cases z1 : hasB (t 1 4) q = true
    · rw [if_pos z1]
      exact skip (by unfold mvO; rw [z1]; rfl)
    · rw [if_neg z1]
      by_cases z2 : 0 ≤ sitZ t 0 q
      · rw [if_pos z2]
        exact skip (by unfold mvO; rw [show decide (sitZ t 0 q < 0) = false from decide_eq_false (by omega), Bool.and_false])
      · rw [if_neg z2]
        have hok2 : mvO t q = true := by unfold mvO; simp [z1]; omega
        have hvs : vS (mvT t x q) (up2 t' 1 (6 + x).toNat q) := up2_vS hv
        have hmo : mnOk (mvT t x q) 0 := mnOk_up hok hx hx5 (by omega)
        have hms : sqN (mvT t x q) 0 = sqN t 0 := sq_up (by omega) (by omega)
        obtain ⟨t2, hv2, hc⟩ := c_fs (d := d) (h := h) (a := a) ha hmo (by rw [hms]; exact hq0) (by rw [hms]; exact hq) hvs
        have hrg := stB_rg hmo
        simp (disch := first | omega | assumption) only [s_X8_seats_211, s_X8_seats_212, s_X8_seats_215, s_X8_seats_217, s_X8_seats_218, s_X8_seats_219, s_X8_seats_221, s_X8_seats_222, s_X8_seats_223, mH_obj ha, m_g0 ha, m_g1 ha, m_g2 ha, m_g3 ha, m_g4 ha, m_g5 ha, m_g6 ha, m_g7 ha, m_g8 ha, m_g9 ha, m_g10 ha, m_g11 ha, m_g12 ha, m_g13 ha, m_g14 ha, m_g15 ha, m_g16 ha, m_g17 ha, m_g18 ha, m_g19 ha, m_g20 ha, m_p3 ha, m_p7 ha, m_p8 ha, m_p9 ha, m_p12 ha, m_p16 ha, m_p17 ha, m_p18 ha, m_p19 ha, m_p20 ha, m_r1 ha, m_r2 ha, m_r3 ha, m_r4 ha, m_r5 ha, m_r6 ha, m_r7 ha, m_r8 ha, m_r9 ha, m_r10 ha, m_r11 ha, m_s1 ha, m_s2 ha, m_s3 ha, m_s4 ha, m_s5 ha, m_s6 ha, m_s7 ha, m_s8 ha, m_s9 ha, m_s10 ha, m_s11 ha, zI_add, zI_sub, zI_mul, zI_neg, zL_add, zL_sub, zL_mul, Option.bind_some, Option.toList_some, Option.toList_none, List.cons_append, List.nil_append, zI_lt, zI_le, zI_eq, zI_eq0, zI_lt0, zI_le0, zI_0lt, zI_0le, bZ_e0, Int.add_zero, Int.zero_add, hc]
        have hv3 : vS t (up2 t2 1 (6 + x).toNat one) := by
          have := up2_vS (j := (6 + x).toNat) (x := one) hv2
          unfold mvT at this
          rw [hone, up2_back] at this
          rw [hone]
          exact this
        simp (disch := first | omega | assumption) only [s_X8_seats_226, s_X8_seats_228, s_X8_seats_229, s_X8_seats_232, s_X8_seats_234, s_X8_seats_235, s_X8_seats_236, s_X8_seats_238, s_X8_seats_239, s_X8_seats_241, s_X8_seats_242, s_X8_seats_245, s_X8_seats_248, s_X8_seats_250, s_X8_seats_251, s_X8_seats_252, s_X8_seats_253, s_X8_seats_255, s_X8_seats_256, s_X8_seats_259, mH_obj ha, m_g0 ha, m_g1 ha, m_g2 ha, m_g3 ha, m_g4 ha, m_g5 ha, m_g6 ha, m_g7 ha, m_g8 ha, m_g9 ha, m_g10 ha, m_g11 ha, m_g12 ha, m_g13 ha, m_g14 ha, m_g15 ha, m_g16 ha, m_g17 ha, m_g18 ha, m_g19 ha, m_g20 ha, m_p3 ha, m_p7 ha, m_p8 ha, m_p9 ha, m_p12 ha, m_p16 ha, m_p17 ha, m_p18 ha, m_p19 ha, m_p20 ha, m_r1 ha, m_r2 ha, m_r3 ha, m_r4 ha, m_r5 ha, m_r6 ha, m_r7 ha, m_r8 ha, m_r9 ha, m_r10 ha, m_r11 ha, m_s1 ha, m_s2 ha, m_s3 ha, m_s4 ha, m_s5 ha, m_s6 ha, m_s7 ha, m_s8 ha, m_s9 ha, m_s10 ha, m_s11 ha, zI_add, zI_sub, zI_mul, zI_neg, zL_add, zL_sub, zL_mul, Option.bind_some, Option.toList_some, Option.toList_none, List.cons_append, List.nil_append, zI_lt, zI_le, zI_eq, zI_eq0, zI_lt0, zI_le0, zI_0lt, zI_0le, bZ_e0, Int.add_zero, Int.zero_add]
        generalize up2 t2 1 (6 + x).toNat one = t3 at *
        by_cases z3 : s.1 < stB (mvT t x q)
        · rw [if_neg (show ¬ stB (mvT t x q) ≤ s.1 by omega), if_pos (show mvO t q = true ∧ s.1 < stB (mvT t x q) from ⟨hok2, z3⟩)]
          simp (disch := first | omega | assumption) only [s_X8_seats_260, s_X8_seats_261, s_X8_seats_262, s_X8_seats_264, s_X8_seats_267, s_X8_seats_268, s_X8_seats_271, mH_obj ha, m_g0 ha, m_g1 ha, m_g2 ha, m_g3 ha, m_g4 ha, m_g5 ha, m_g6 ha, m_g7 ha, m_g8 ha, m_g9 ha, m_g10 ha, m_g11 ha, m_g12 ha, m_g13 ha, m_g14 ha, m_g15 ha, m_g16 ha, m_g17 ha, m_g18 ha, m_g19 ha, m_g20 ha, m_p3 ha, m_p7 ha, m_p8 ha, m_p9 ha, m_p12 ha, m_p16 ha, m_p17 ha, m_p18 ha, m_p19 ha, m_p20 ha, m_r1 ha, m_r2 ha, m_r3 ha, m_r4 ha, m_r5 ha, m_r6 ha, m_r7 ha, m_r8 ha, m_r9 ha, m_r10 ha, m_r11 ha, m_s1 ha, m_s2 ha, m_s3 ha, m_s4 ha, m_s5 ha, m_s6 ha, m_s7 ha, m_s8 ha, m_s9 ha, m_s10 ha, m_s11 ha, zI_add, zI_sub, zI_mul, zI_neg, zL_add, zL_sub, zL_mul, Option.bind_some, Option.toList_some, Option.toList_none, List.cons_append, List.nil_append, zI_lt, zI_le, zI_eq, zI_eq0, zI_lt0, zI_le0, zI_0lt, zI_0le, bZ_e0, Int.add_zero, Int.zero_add, c_greater]
          rw [show max s.1 (stB (mvT t x q)) = stB (mvT t x q) by omega]
          exact ih (q + 1) (stB (mvT t x q), 1000 + 100 * x + q) t3 _ _ hv3 (by omega) (by omega) (by dsimp only; omega) (by dsimp only; omega)
        · rw [if_pos (show stB (mvT t x q) ≤ s.1 by omega), if_neg (show ¬ (mvO t q = true ∧ s.1 < stB (mvT t x q)) from fun w => z3 w.2)]
          simp (disch := first | omega | assumption) only [s_X8_seats_260, s_X8_seats_261, s_X8_seats_262, s_X8_seats_264, s_X8_seats_267, s_X8_seats_268, s_X8_seats_271, mH_obj ha, m_g0 ha, m_g1 ha, m_g2 ha, m_g3 ha, m_g4 ha, m_g5 ha, m_g6 ha, m_g7 ha, m_g8 ha, m_g9 ha, m_g10 ha, m_g11 ha, m_g12 ha, m_g13 ha, m_g14 ha, m_g15 ha, m_g16 ha, m_g17 ha, m_g18 ha, m_g19 ha, m_g20 ha, m_p3 ha, m_p7 ha, m_p8 ha, m_p9 ha, m_p12 ha, m_p16 ha, m_p17 ha, m_p18 ha, m_p19 ha, m_p20 ha, m_r1 ha, m_r2 ha, m_r3 ha, m_r4 ha, m_r5 ha, m_r6 ha, m_r7 ha, m_r8 ha, m_r9 ha, m_r10 ha, m_r11 ha, m_s1 ha, m_s2 ha, m_s3 ha, m_s4 ha, m_s5 ha, m_s6 ha, m_s7 ha, m_s8 ha, m_s9 ha, m_s10 ha, m_s11 ha, zI_add, zI_sub, zI_mul, zI_neg, zL_add, zL_sub, zL_mul, Option.bind_some, Option.toList_some, Option.toList_none, List.cons_append, List.nil_append, zI_lt, zI_le, zI_eq, zI_eq0, zI_lt0, zI_le0, zI_0lt, zI_0le, bZ_e0, Int.add_zero, Int.zero_add, c_greater]
          rw [show max s.1 (stB (mvT t x q)) = s.1 by omega]
          exact ih (q + 1) s t3 _ _ hv3 (by omega) (by omega) hs0 hs1
theorem l_seats3 (ha : a + 12 ≤ h.1) (hok : mnOk t 0) (hr : rOk t 0) : ∀ (n : Nat) (x : Int) (s : Int × Int) (t' : Nat → Nat → Int) (l4 l5 l6 l7 : Value), vS t t' → x + n = t 1 5 → 0 ≤ x → -1 ≤ s.1 → s.1 ≤ 900 →
    ∃ t'', vS t t'' ∧ x_ev (d + 4, n_X8_seats, 153, [.ref a, .int (zI s.1), .int (zI s.2), .int (zI x), l4, l5, l6, l7], [], mH h a t') = some (some (.int (zI (itO (mvI t) n x s).2)), mH h a t'') := by
  intro n
  have h5 := hok.2.1
  induction n with
  | zero =>
    intro x s t' l4 l5 l6 l7 hv hyn hx hs0 hs1
    refine ⟨t', hv, ?_⟩
    rw [s_X8_seats_153]
    simp (disch := first | omega | assumption) only [s_X8_seats_154, s_X8_seats_155, s_X8_seats_158, s_X8_seats_159, s_X8_seats_160, mH_obj ha, m_g0 ha, m_g1 ha, m_g2 ha, m_g3 ha, m_g4 ha, m_g5 ha, m_g6 ha, m_g7 ha, m_g8 ha, m_g9 ha, m_g10 ha, m_g11 ha, m_g12 ha, m_g13 ha, m_g14 ha, m_g15 ha, m_g16 ha, m_g17 ha, m_g18 ha, m_g19 ha, m_g20 ha, m_p3 ha, m_p7 ha, m_p8 ha, m_p9 ha, m_p12 ha, m_p16 ha, m_p17 ha, m_p18 ha, m_p19 ha, m_p20 ha, m_r1 ha, m_r2 ha, m_r3 ha, m_r4 ha, m_r5 ha, m_r6 ha, m_r7 ha, m_r8 ha, m_r9 ha, m_r10 ha, m_r11 ha, m_s1 ha, m_s2 ha, m_s3 ha, m_s4 ha, m_s5 ha, m_s6 ha, m_s7 ha, m_s8 ha, m_s9 ha, m_s10 ha, m_s11 ha, zI_add, zI_sub, zI_mul, zI_neg, zL_add, zL_sub, zL_mul, Option.bind_some, Option.toList_some, Option.toList_none, List.cons_append, List.nil_append, zI_lt, zI_le, zI_eq, zI_eq0, zI_lt0, zI_le0, zI_0lt, zI_0le, bZ_e0, Int.add_zero, Int.zero_add, hv.w, Int.reduceToNat]
    rw [if_pos (by omega)]
    simp (disch := first | omega | assumption) only [s_X8_seats_280, s_X8_seats_281, mH_obj ha, m_g0 ha, m_g1 ha, m_g2 ha, m_g3 ha, m_g4 ha, m_g5 ha, m_g6 ha, m_g7 ha, m_g8 ha, m_g9 ha, m_g10 ha, m_g11 ha, m_g12 ha, m_g13 ha, m_g14 ha, m_g15 ha, m_g16 ha, m_g17 ha, m_g18 ha, m_g19 ha, m_g20 ha, m_p3 ha, m_p7 ha, m_p8 ha, m_p9 ha, m_p12 ha, m_p16 ha, m_p17 ha, m_p18 ha, m_p19 ha, m_p20 ha, m_r1 ha, m_r2 ha, m_r3 ha, m_r4 ha, m_r5 ha, m_r6 ha, m_r7 ha, m_r8 ha, m_r9 ha, m_r10 ha, m_r11 ha, m_s1 ha, m_s2 ha, m_s3 ha, m_s4 ha, m_s5 ha, m_s6 ha, m_s7 ha, m_s8 ha, m_s9 ha, m_s10 ha, m_s11 ha, zI_add, zI_sub, zI_mul, zI_neg, zL_add, zL_sub, zL_mul, Option.bind_some, Option.toList_some, Option.toList_none, List.cons_append, List.nil_append, zI_lt, zI_le, zI_eq, zI_eq0, zI_lt0, zI_le0, zI_0lt, zI_0le, bZ_e0, Int.add_zero, Int.zero_add]
    rfl
  | succ n ih =>
    intro x s t' l4 l5 l6 l7 hv hyn hx hs0 hs1
    rw [s_X8_seats_153]
    simp (disch := first | omega | assumption) only [s_X8_seats_154, s_X8_seats_155, s_X8_seats_158, s_X8_seats_159, s_X8_seats_160, s_X8_seats_163, s_X8_seats_164, s_X8_seats_167, s_X8_seats_169, s_X8_seats_170, s_X8_seats_171, s_X8_seats_172, s_X8_seats_174, s_X8_seats_175, mH_obj ha, m_g0 ha, m_g1 ha, m_g2 ha, m_g3 ha, m_g4 ha, m_g5 ha, m_g6 ha, m_g7 ha, m_g8 ha, m_g9 ha, m_g10 ha, m_g11 ha, m_g12 ha, m_g13 ha, m_g14 ha, m_g15 ha, m_g16 ha, m_g17 ha, m_g18 ha, m_g19 ha, m_g20 ha, m_p3 ha, m_p7 ha, m_p8 ha, m_p9 ha, m_p12 ha, m_p16 ha, m_p17 ha, m_p18 ha, m_p19 ha, m_p20 ha, m_r1 ha, m_r2 ha, m_r3 ha, m_r4 ha, m_r5 ha, m_r6 ha, m_r7 ha, m_r8 ha, m_r9 ha, m_r10 ha, m_r11 ha, m_s1 ha, m_s2 ha, m_s3 ha, m_s4 ha, m_s5 ha, m_s6 ha, m_s7 ha, m_s8 ha, m_s9 ha, m_s10 ha, m_s11 ha, zI_add, zI_sub, zI_mul, zI_neg, zL_add, zL_sub, zL_mul, Option.bind_some, Option.toList_some, Option.toList_none, List.cons_append, List.nil_append, zI_lt, zI_le, zI_eq, zI_eq0, zI_lt0, zI_le0, zI_0lt, zI_0le, bZ_e0, Int.add_zero, Int.zero_add, hv.w, Int.reduceToNat]
    rw [if_neg (by omega)]
    obtain ⟨t2, l6', l7', hv2, hrg, e2⟩ := l_seats4 (d := d) (x := x) (one := t 1 (6 + x).toNat) (t := t) (h := h) (a := a) ha hok hr rfl hx (by omega) (sqN t 0).toNat 0 s t' l6 l7 hv (by have := hr.1.1; omega) (by decide) hs0 hs1
    rw [e2, itO]
    simp (disch := first | omega | assumption) only [s_X8_seats_274, s_X8_seats_277, mH_obj ha, m_g0 ha, m_g1 ha, m_g2 ha, m_g3 ha, m_g4 ha, m_g5 ha, m_g6 ha, m_g7 ha, m_g8 ha, m_g9 ha, m_g10 ha, m_g11 ha, m_g12 ha, m_g13 ha, m_g14 ha, m_g15 ha, m_g16 ha, m_g17 ha, m_g18 ha, m_g19 ha, m_g20 ha, m_p3 ha, m_p7 ha, m_p8 ha, m_p9 ha, m_p12 ha, m_p16 ha, m_p17 ha, m_p18 ha, m_p19 ha, m_p20 ha, m_r1 ha, m_r2 ha, m_r3 ha, m_r4 ha, m_r5 ha, m_r6 ha, m_r7 ha, m_r8 ha, m_r9 ha, m_r10 ha, m_r11 ha, m_s1 ha, m_s2 ha, m_s3 ha, m_s4 ha, m_s5 ha, m_s6 ha, m_s7 ha, m_s8 ha, m_s9 ha, m_s10 ha, m_s11 ha, zI_add, zI_sub, zI_mul, zI_neg, zL_add, zL_sub, zL_mul, Option.bind_some, Option.toList_some, Option.toList_none, List.cons_append, List.nil_append, zI_lt, zI_le, zI_eq, zI_eq0, zI_lt0, zI_le0, zI_0lt, zI_0le, bZ_e0, Int.add_zero, Int.zero_add]
    exact ih (x + 1) (mvI t x s) t2 _ _ _ _ hv2 (by omega) (by omega) hrg.1 hrg.2
def aSeats (t : Nat → Nat → Int) : Int := (itO (mvI t) (t 1 5).toNat 0 (itO (swI t) (t 1 5).toNat 0 (stB t, -1))).2
theorem m_seats (ha : a + 12 ≤ h.1) (ho : nowOk t) : ∃ t', vL t t' ∧ x_cl (d + 4) n_X8_seats [.ref a] (mH h a t) = some (some (.int (zI (aSeats (bgT t 0)))), mH h a t') := by
  have hok := bg_ok ho
  have hrb : rOk (bgT t 0) 0 := rOk_w (fun j => bg_1) ho.1
  have h5 := hok.2.1
  obtain ⟨t1, hv1, hc1⟩ := c_fs (d := d) (h := h) (a := a) (u := bgT t 0) ha hok hrb.1.1 hrb.1.2 vS.rfl'
  have hb := stB_rg hok
  obtain ⟨t2, l4, l5, l6, l7, hv2, hrg2, e2⟩ := l_seats1 (d := d) (h := h) (a := a) (t := bgT t 0) ha hok hrb.1.1 hrb.1.2 (bgT t 0 1 5).toNat 0 (stB (bgT t 0), -1) t1 .null .null .null .null hv1 (by omega) (by decide) hb.1 hb.2
  obtain ⟨t3, hv3, e3⟩ := l_seats3 (d := d) (h := h) (a := a) (t := bgT t 0) ha hok hrb (bgT t 0 1 5).toNat 0 (itO (swI (bgT t 0)) (bgT t 0 1 5).toNat 0 (stB (bgT t 0), -1)) t2 l4 l5 l6 l7 hv2 (by omega) (by decide) hrg2.1 hrg2.2
  refine ⟨t3, vL_bg.trans hv3.L, ?_⟩
  simp (disch := first | omega | assumption) only [e_X8_seats, s_X8_seats_0, s_X8_seats_1, s_X8_seats_4, s_X8_seats_5, s_X8_seats_8, s_X8_seats_9, s_X8_seats_10, s_X8_seats_11, s_X8_seats_12, mH_obj ha, m_g0 ha, m_g1 ha, m_g2 ha, m_g3 ha, m_g4 ha, m_g5 ha, m_g6 ha, m_g7 ha, m_g8 ha, m_g9 ha, m_g10 ha, m_g11 ha, m_g12 ha, m_g13 ha, m_g14 ha, m_g15 ha, m_g16 ha, m_g17 ha, m_g18 ha, m_g19 ha, m_g20 ha, m_p3 ha, m_p7 ha, m_p8 ha, m_p9 ha, m_p12 ha, m_p16 ha, m_p17 ha, m_p18 ha, m_p19 ha, m_p20 ha, m_r1 ha, m_r2 ha, m_r3 ha, m_r4 ha, m_r5 ha, m_r6 ha, m_r7 ha, m_r8 ha, m_r9 ha, m_r10 ha, m_r11 ha, m_s1 ha, m_s2 ha, m_s3 ha, m_s4 ha, m_s5 ha, m_s6 ha, m_s7 ha, m_s8 ha, m_s9 ha, m_s10 ha, m_s11 ha, zI_add, zI_sub, zI_mul, zI_neg, zL_add, zL_sub, zL_mul, Option.bind_some, Option.toList_some, Option.toList_none, List.cons_append, List.nil_append, zI_lt, zI_le, zI_eq, zI_eq0, zI_lt0, zI_le0, zI_0lt, zI_0le, bZ_e0, Int.add_zero, Int.zero_add, c_beginNow ha, hc1]
  refine e2.trans ?_
  simp (disch := first | omega | assumption) only [s_X8_seats_151, s_X8_seats_152, mH_obj ha, m_g0 ha, m_g1 ha, m_g2 ha, m_g3 ha, m_g4 ha, m_g5 ha, m_g6 ha, m_g7 ha, m_g8 ha, m_g9 ha, m_g10 ha, m_g11 ha, m_g12 ha, m_g13 ha, m_g14 ha, m_g15 ha, m_g16 ha, m_g17 ha, m_g18 ha, m_g19 ha, m_g20 ha, m_p3 ha, m_p7 ha, m_p8 ha, m_p9 ha, m_p12 ha, m_p16 ha, m_p17 ha, m_p18 ha, m_p19 ha, m_p20 ha, m_r1 ha, m_r2 ha, m_r3 ha, m_r4 ha, m_r5 ha, m_r6 ha, m_r7 ha, m_r8 ha, m_r9 ha, m_r10 ha, m_r11 ha, m_s1 ha, m_s2 ha, m_s3 ha, m_s4 ha, m_s5 ha, m_s6 ha, m_s7 ha, m_s8 ha, m_s9 ha, m_s10 ha, m_s11 ha, zI_add, zI_sub, zI_mul, zI_neg, zL_add, zL_sub, zL_mul, Option.bind_some, Option.toList_some, Option.toList_none, List.cons_append, List.nil_append, zI_lt, zI_le, zI_eq, zI_eq0, zI_lt0, zI_le0, zI_0lt, zI_0le, bZ_e0, Int.add_zero, Int.zero_add]
  exact e3
end

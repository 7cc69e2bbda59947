/-! THE REFERENCE, part 14: REST -/
section
variable {h : xH} {a : Nat} {t : Nat → Nat → Int} {d : Nat}
theorem sgV_le {x v : Int} (hv : 0 ≤ v) (hx : x ≤ 0) : sgV x v ≤ 0 := by
  unfold sgV
  rw [if_pos hx]
  split <;> omega
theorem sgV_ge {x v : Int} (hv : 0 ≤ v) (hx : 0 ≤ x) : 0 ≤ sgV x v := by
  unfold sgV
  by_cases q : x ≤ 0
  · rw [if_pos q, if_pos hx]; omega
  · rw [if_neg q]; exact hv
theorem pulF_sgn {q : Int} (hv : ∀ p, 0 ≤ p → p < t 1 5 → 0 ≤ pvF t p) : ∀ (n : Nat) (p : Int) (s : Int × Int), p + n = t 1 5 → 0 ≤ p →
    ((∀ j, p ≤ j → j < t 1 5 → t 1 (6 + j).toNat % t 1 0 - q % t 1 0 ≤ 0) → (pulF t q n p s).1 ≤ s.1) ∧ ((∀ j, p ≤ j → j < t 1 5 → 0 ≤ t 1 (6 + j).toNat % t 1 0 - q % t 1 0) → s.1 ≤ (pulF t q n p s).1) ∧
    ((∀ j, p ≤ j → j < t 1 5 → t 1 (6 + j).toNat / t 1 0 - q / t 1 0 ≤ 0) → (pulF t q n p s).2 ≤ s.2) ∧ ((∀ j, p ≤ j → j < t 1 5 → 0 ≤ t 1 (6 + j).toNat / t 1 0 - q / t 1 0) → s.2 ≤ (pulF t q n p s).2) := by
  intro n
  induction n with
  | zero => intro p s _ _; exact ⟨fun _ => Int.le_refl _, fun _ => Int.le_refl _, fun _ => Int.le_refl _, fun _ => Int.le_refl _⟩
  | succ n ih =>
    intro p s hp h0
    rw [pulF]
    have v0 := hv p h0 (by omega)
    obtain ⟨i1, i2, i3, i4⟩ := ih (p + 1) (s.1 + sgV (t 1 (6 + p).toNat % t 1 0 - q % t 1 0) (pvF t p), s.2 + sgV (t 1 (6 + p).toNat / t 1 0 - q / t 1 0) (pvF t p)) (by omega) (by omega)
    refine ⟨fun hh => ?_, fun hh => ?_, fun hh => ?_, fun hh => ?_⟩
    · have a1 := i1 (fun j h1 h2 => hh j (by omega) h2)
      have a2 := sgV_le v0 (hh p (by omega) (by omega))
      dsimp only at a1
      omega
    · have a1 := i2 (fun j h1 h2 => hh j (by omega) h2)
      have a2 := sgV_ge v0 (hh p (by omega) (by omega))
      dsimp only at a1
      omega
    · have a1 := i3 (fun j h1 h2 => hh j (by omega) h2)
      have a2 := sgV_le v0 (hh p (by omega) (by omega))
      dsimp only at a1
      omega
    · have a1 := i4 (fun j h1 h2 => hh j (by omega) h2)
      have a2 := sgV_ge v0 (hh p (by omega) (by omega))
      dsimp only at a1
      omega
/-- the readers sit in the hall -/
def seatOk (t : Nat → Nat → Int) : Prop := (2 ≤ t 1 1 ∧ t 1 1 ≤ 5) ∧ ∀ p, 0 ≤ p → p < t 1 5 → t 1 (6 + p).toNat < sqN t 0
theorem row_lt {W H x : Int} (hW : 0 < W) (hx : x < W * H) : x / W < H := Int.ediv_lt_of_lt_mul hW (by rw [Int.mul_comm]; exact hx)
theorem pulN_rg {q : Int} (ho : nowOk t) (hs : seatOk t) (hq0 : 0 ≤ q) (hq1 : q < sqN t 0) : 0 ≤ pulN t q ∧ pulN t q < sqN t 0 := by
  have hW := ho.2.1
  have o1 := ho.1.1
  have o5 : 0 ≤ t 1 5 ∧ t 1 5 ≤ 5 := ho.1.2.1
  obtain ⟨b1, b2, b3, b4, b5⟩ := sq_rg hW.1 hW.2 hq0 (by omega)
  have esq : sqN t 0 = t 1 0 * t 1 1 := rfl
  have byH : q / t 1 0 < t 1 1 := row_lt (by omega) (by rw [← esq]; exact hq1)
  have hv : ∀ p, 0 ≤ p → p < t 1 5 → 0 ≤ pvF t p := fun p h0 h1 => by
    have r26 := ho.1.2.2.2.2.1 p h0 h1
    rw [show (0 + 26 + p).toNat = (26 + p).toNat by omega] at r26
    unfold pvF
    split <;> omega
  have hsq : ∀ p, 0 ≤ p → p < t 1 5 → 0 ≤ t 1 (6 + p).toNat % t 1 0 ∧ t 1 (6 + p).toNat % t 1 0 < t 1 0 ∧ 0 ≤ t 1 (6 + p).toNat / t 1 0 ∧ t 1 (6 + p).toNat / t 1 0 < t 1 1 := fun p h0 h1 => by
    have r0 := ho.1.2.2.1 p h0 h1
    rw [show (0 + 6 + p).toNat = (6 + p).toNat by omega] at r0
    obtain ⟨c1, c2, c3, c4, c5⟩ := sq_rg hW.1 hW.2 r0.1 r0.2
    exact ⟨c1, c2, c3, row_lt (by omega) (by rw [← esq]; exact hs.2 p h0 h1)⟩
  obtain ⟨g1, g2, g3, g4⟩ := pulF_sgn (q := q) hv (t 1 5).toNat 0 (0, 0) (by omega) (by decide)
  rw [show pulF t q (t 1 5).toNat 0 (0, 0) = pulS t q from rfl] at g1 g2 g3 g4
  have ex : ∀ (P : Int → Prop), (¬ ∀ j, 0 ≤ j → j < t 1 5 → ¬ P j) → ∃ j, 0 ≤ j ∧ j < t 1 5 ∧ P j := fun P hn => Classical.byContradiction fun hc => hn fun j h1 h2 h3 => hc ⟨j, h1, h2, h3⟩
  have hmul : ∀ u w : Int, u ≤ w → t 1 0 * u ≤ t 1 0 * w := fun u w huw => Int.mul_le_mul_of_nonneg_left huw (by omega)
  unfold pulN
  by_cases z : ((pulS t q).1.natAbs : Int) < ((pulS t q).2.natAbs : Int)
  · rw [if_pos z]
    by_cases z2 : (pulS t q).2 ≤ 0
    · rw [if_pos z2]
      obtain ⟨j, j0, j1, j2⟩ := ex (fun j => ¬ 0 ≤ t 1 (6 + j).toNat / t 1 0 - q / t 1 0) (fun hn => by
        have := g4 fun j h1 h2 => Classical.not_not.mp (hn j h1 h2)
        dsimp only at this
        omega)
      have := (hsq j j0 j1).2.2.1
      have h3 := hmul 1 (q / t 1 0) (by omega)
      rw [Int.mul_one] at h3
      omega
    · rw [if_neg z2]
      obtain ⟨j, j0, j1, j2⟩ := ex (fun j => ¬ t 1 (6 + j).toNat / t 1 0 - q / t 1 0 ≤ 0) (fun hn => by
        have := g3 fun j h1 h2 => Classical.not_not.mp (hn j h1 h2)
        dsimp only at this
        omega)
      have := (hsq j j0 j1).2.2.2
      have h3 := hmul (q / t 1 0 + 2) (t 1 1) (by omega)
      rw [Int.mul_add] at h3
      rw [esq]
      omega
  · rw [if_neg z]
    by_cases z2 : (pulS t q).1 ≤ 0
    · rw [if_pos z2]
      by_cases z3 : 0 ≤ (pulS t q).1
      · rw [if_pos z3]; omega
      · rw [if_neg z3]
        obtain ⟨j, j0, j1, j2⟩ := ex (fun j => ¬ 0 ≤ t 1 (6 + j).toNat % t 1 0 - q % t 1 0) (fun hn => by
          have := g2 fun j h1 h2 => Classical.not_not.mp (hn j h1 h2)
          dsimp only at this
          omega)
        have := (hsq j j0 j1).1
        have h3 := hmul 0 (q / t 1 0) (by omega)
        omega
    · rw [if_neg z2]
      obtain ⟨j, j0, j1, j2⟩ := ex (fun j => ¬ t 1 (6 + j).toNat % t 1 0 - q % t 1 0 ≤ 0) (fun hn => by
        have := g1 fun j h1 h2 => Classical.not_not.mp (hn j h1 h2)
        dsimp only at this
        omega)
      have := (hsq j j0 j1).2.1
      have h3 := hmul (q / t 1 0 + 1) (t 1 1) (by omega)
      rw [Int.mul_add] at h3
      rw [esq]
      omega
theorem pul_rg {q : Int} (ho : nowOk t) (hs : seatOk t) (hq0 : 0 ≤ q) (hq1 : q < sqN t 0) : 0 ≤ pul t q ∧ pul t q < sqN t 0 := by
  unfold pul
  split
  · exact ⟨hq0, hq1⟩
  · exact pulN_rg ho hs hq0 hq1
def rstF (t : Nat → Nat → Int) (w : Int) : Nat → Int → Int → Int
  | 0, _, _ => -1
  | n + 1, r, q => if pul t q = q then (if w = 0 then r else q) else rstF t w n (r + 1) (pul t q)
theorem l_rest {w : Int} (ha : a + 12 ≤ h.1) (ho : nowOk t) (hs : seatOk t) (hw : 0 ≤ w ∧ w ≤ 1) : ∀ (n : Nat) (r q : Int) (l4 : Value), r + n = 21 → 0 ≤ r → 0 ≤ q → q < sqN t 0 → x_ev (d + 2, n_X8_rest, 26, [.ref a, .int (zI w), .int (zI q), .int (zI r), l4], [], mH h a t) = some (some (.int (zI (rstF t w n r q))), mH h a t) := by
  have o1 := ho.1.1
  intro n
  induction n with
  | zero =>
    intro r q l4 hr h0 hq0 hq1
    rw [s_X8_rest_26]
    simp (disch := first | omega | assumption) only [s_X8_rest_27, s_X8_rest_29, mH_obj ha, m_g0 ha, m_g1 ha, m_g2 ha, m_g3 ha, m_g4 ha, m_g5 ha, m_g6 ha, m_g7 ha, m_g8 ha, m_g9 ha, m_g10 ha, m_g11 ha, m_g12 ha, m_g13 ha, m_g14 ha, m_g15 ha, m_g16 ha, m_g17 ha, m_g18 ha, m_g19 ha, m_g20 ha, m_p3 ha, m_p7 ha, m_p8 ha, m_p9 ha, m_p12 ha, m_p16 ha, m_p17 ha, m_p18 ha, m_p19 ha, m_p20 ha, m_r1 ha, m_r2 ha, m_r3 ha, m_r4 ha, m_r5 ha, m_r6 ha, m_r7 ha, m_r8 ha, m_r9 ha, m_r10 ha, m_r11 ha, m_s1 ha, m_s2 ha, m_s3 ha, m_s4 ha, m_s5 ha, m_s6 ha, m_s7 ha, m_s8 ha, m_s9 ha, m_s10 ha, m_s11 ha, zI_add, zI_sub, zI_mul, zI_neg, zL_add, zL_sub, zL_mul, Option.bind_some, Option.toList_some, Option.toList_none, List.cons_append, List.nil_append, zI_lt, zI_le, zI_eq, zI_eq0, zI_lt0, zI_le0, zI_0lt, zI_0le, bZ_e0, Int.add_zero, Int.zero_add]
    rw [if_pos (by omega)]
    simp (disch := first | omega | assumption) only [s_X8_rest_64, s_X8_rest_65, mH_obj ha, m_g0 ha, m_g1 ha, m_g2 ha, m_g3 ha, m_g4 ha, m_g5 ha, m_g6 ha, m_g7 ha, m_g8 ha, m_g9 ha, m_g10 ha, m_g11 ha, m_g12 ha, m_g13 ha, m_g14 ha, m_g15 ha, m_g16 ha, m_g17 ha, m_g18 ha, m_g19 ha, m_g20 ha, m_p3 ha, m_p7 ha, m_p8 ha, m_p9 ha, m_p12 ha, m_p16 ha, m_p17 ha, m_p18 ha, m_p19 ha, m_p20 ha, m_r1 ha, m_r2 ha, m_r3 ha, m_r4 ha, m_r5 ha, m_r6 ha, m_r7 ha, m_r8 ha, m_r9 ha, m_r10 ha, m_r11 ha, m_s1 ha, m_s2 ha, m_s3 ha, m_s4 ha, m_s5 ha, m_s6 ha, m_s7 ha, m_s8 ha, m_s9 ha, m_s10 ha, m_s11 ha, zI_add, zI_sub, zI_mul, zI_neg, zL_add, zL_sub, zL_mul, Option.bind_some, Option.toList_some, Option.toList_none, List.cons_append, List.nil_append, zI_lt, zI_le, zI_eq, zI_eq0, zI_lt0, zI_le0, zI_0lt, zI_0le, bZ_e0, Int.add_zero, Int.zero_add]
    rfl
  | succ n ih =>
    intro r q l4 hr h0 hq0 hq1
    have hp := pul_rg ho hs hq0 hq1
    rw [s_X8_rest_26]
    simp (disch := first | omega | assumption) only [s_X8_rest_27, s_X8_rest_29, mH_obj ha, m_g0 ha, m_g1 ha, m_g2 ha, m_g3 ha, m_g4 ha, m_g5 ha, m_g6 ha, m_g7 ha, m_g8 ha, m_g9 ha, m_g10 ha, m_g11 ha, m_g12 ha, m_g13 ha, m_g14 ha, m_g15 ha, m_g16 ha, m_g17 ha, m_g18 ha, m_g19 ha, m_g20 ha, m_p3 ha, m_p7 ha, m_p8 ha, m_p9 ha, m_p12 ha, m_p16 ha, m_p17 ha, m_p18 ha, m_p19 ha, m_p20 ha, m_r1 ha, m_r2 ha, m_r3 ha, m_r4 ha, m_r5 ha, m_r6 ha, m_r7 ha, m_r8 ha, m_r9 ha, m_r10 ha, m_r11 ha, m_s1 ha, m_s2 ha, m_s3 ha, m_s4 ha, m_s5 ha, m_s6 ha, m_s7 ha, m_s8 ha, m_s9 ha, m_s10 ha, m_s11 ha, zI_add, zI_sub, zI_mul, zI_neg, zL_add, zL_sub, zL_mul, Option.bind_some, Option.toList_some, Option.toList_none, List.cons_append, List.nil_append, zI_lt, zI_le, zI_eq, zI_eq0, zI_lt0, zI_le0, zI_0lt, zI_0le, bZ_e0, Int.add_zero, Int.zero_add]
    rw [if_neg (by omega)]
    have hc := c_pulled (d := d) (h := h) (a := a) (q := q) ha ho hq0 (by omega)
    simp (disch := first | omega | assumption) only [s_X8_rest_32, s_X8_rest_33, s_X8_rest_34, s_X8_rest_37, s_X8_rest_39, s_X8_rest_41, s_X8_rest_42, mH_obj ha, m_g0 ha, m_g1 ha, m_g2 ha, m_g3 ha, m_g4 ha, m_g5 ha, m_g6 ha, m_g7 ha, m_g8 ha, m_g9 ha, m_g10 ha, m_g11 ha, m_g12 ha, m_g13 ha, m_g14 ha, m_g15 ha, m_g16 ha, m_g17 ha, m_g18 ha, m_g19 ha, m_g20 ha, m_p3 ha, m_p7 ha, m_p8 ha, m_p9 ha, m_p12 ha, m_p16 ha, m_p17 ha, m_p18 ha, m_p19 ha, m_p20 ha, m_r1 ha, m_r2 ha, m_r3 ha, m_r4 ha, m_r5 ha, m_r6 ha, m_r7 ha, m_r8 ha, m_r9 ha, m_r10 ha, m_r11 ha, m_s1 ha, m_s2 ha, m_s3 ha, m_s4 ha, m_s5 ha, m_s6 ha, m_s7 ha, m_s8 ha, m_s9 ha, m_s10 ha, m_s11 ha, zI_add, zI_sub, zI_mul, zI_neg, zL_add, zL_sub, zL_mul, Option.bind_some, Option.toList_some, Option.toList_none, List.cons_append, List.nil_append, zI_lt, zI_le, zI_eq, zI_eq0, zI_lt0, zI_le0, zI_0lt, zI_0le, bZ_e0, Int.add_zero, Int.zero_add, hc]
    rw [rstF]
    by_cases z : pul t q = q
    · rw [if_pos z, if_pos z]
      simp (disch := first | omega | assumption) only [s_X8_rest_45, s_X8_rest_46, s_X8_rest_49, s_X8_rest_50, s_X8_rest_53, s_X8_rest_54, mH_obj ha, m_g0 ha, m_g1 ha, m_g2 ha, m_g3 ha, m_g4 ha, m_g5 ha, m_g6 ha, m_g7 ha, m_g8 ha, m_g9 ha, m_g10 ha, m_g11 ha, m_g12 ha, m_g13 ha, m_g14 ha, m_g15 ha, m_g16 ha, m_g17 ha, m_g18 ha, m_g19 ha, m_g20 ha, m_p3 ha, m_p7 ha, m_p8 ha, m_p9 ha, m_p12 ha, m_p16 ha, m_p17 ha, m_p18 ha, m_p19 ha, m_p20 ha, m_r1 ha, m_r2 ha, m_r3 ha, m_r4 ha, m_r5 ha, m_r6 ha, m_r7 ha, m_r8 ha, m_r9 ha, m_r10 ha, m_r11 ha, m_s1 ha, m_s2 ha, m_s3 ha, m_s4 ha, m_s5 ha, m_s6 ha, m_s7 ha, m_s8 ha, m_s9 ha, m_s10 ha, m_s11 ha, zI_add, zI_sub, zI_mul, zI_neg, zL_add, zL_sub, zL_mul, Option.bind_some, Option.toList_some, Option.toList_none, List.cons_append, List.nil_append, zI_lt, zI_le, zI_eq, zI_eq0, zI_lt0, zI_le0, zI_0lt, zI_0le, bZ_e0, Int.add_zero, Int.zero_add]
      by_cases z2 : w = 0
      · rw [if_pos z2, if_pos z2]
      · rw [if_neg z2, if_neg z2]
    · rw [if_neg z, if_neg z]
      simp (disch := first | omega | assumption) only [s_X8_rest_55, s_X8_rest_57, s_X8_rest_58, s_X8_rest_61, mH_obj ha, m_g0 ha, m_g1 ha, m_g2 ha, m_g3 ha, m_g4 ha, m_g5 ha, m_g6 ha, m_g7 ha, m_g8 ha, m_g9 ha, m_g10 ha, m_g11 ha, m_g12 ha, m_g13 ha, m_g14 ha, m_g15 ha, m_g16 ha, m_g17 ha, m_g18 ha, m_g19 ha, m_g20 ha, m_p3 ha, m_p7 ha, m_p8 ha, m_p9 ha, m_p12 ha, m_p16 ha, m_p17 ha, m_p18 ha, m_p19 ha, m_p20 ha, m_r1 ha, m_r2 ha, m_r3 ha, m_r4 ha, m_r5 ha, m_r6 ha, m_r7 ha, m_r8 ha, m_r9 ha, m_r10 ha, m_r11 ha, m_s1 ha, m_s2 ha, m_s3 ha, m_s4 ha, m_s5 ha, m_s6 ha, m_s7 ha, m_s8 ha, m_s9 ha, m_s10 ha, m_s11 ha, zI_add, zI_sub, zI_mul, zI_neg, zL_add, zL_sub, zL_mul, Option.bind_some, Option.toList_some, Option.toList_none, List.cons_append, List.nil_append, zI_lt, zI_le, zI_eq, zI_eq0, zI_lt0, zI_le0, zI_0lt, zI_0le, bZ_e0, Int.add_zero, Int.zero_add]
      exact ih (r + 1) (pul t q) _ (by omega) (by omega) hp.1 hp.2
def qRest (t : Nat → Nat → Int) (w : Int) : Int × (Nat → Nat → Int) := if 0 ≤ w ∧ w ≤ 1 then (rstF t w 21 0 (t 1 2), t) else (-2, metT t (-2))
theorem m_rest {w : Int} (ha : a + 12 ≤ h.1) (h2 : -2147483648 ≤ w) (h3 : w < 2147483648) (ho : nowOk t) (hs : seatOk t) (hl : t 1 2 < sqN t 0) : x_cl (d + 2) n_X8_rest [.ref a, .int (zI w)] (mH h a t) = some (some (.int (zI (qRest t w).1)), mH h a (qRest t w).2) := by
  have o2 : 0 ≤ t 1 2 ∧ t 1 2 < 25 := ho.1.2.2.2.1
  unfold qRest
  simp (disch := first | omega | assumption) only [e_X8_rest, s_X8_rest_0, s_X8_rest_1, s_X8_rest_2, s_X8_rest_3, s_X8_rest_4, s_X8_rest_7, s_X8_rest_10, s_X8_rest_11, s_X8_rest_13, s_X8_rest_16, mH_obj ha, m_g0 ha, m_g1 ha, m_g2 ha, m_g3 ha, m_g4 ha, m_g5 ha, m_g6 ha, m_g7 ha, m_g8 ha, m_g9 ha, m_g10 ha, m_g11 ha, m_g12 ha, m_g13 ha, m_g14 ha, m_g15 ha, m_g16 ha, m_g17 ha, m_g18 ha, m_g19 ha, m_g20 ha, m_p3 ha, m_p7 ha, m_p8 ha, m_p9 ha, m_p12 ha, m_p16 ha, m_p17 ha, m_p18 ha, m_p19 ha, m_p20 ha, m_r1 ha, m_r2 ha, m_r3 ha, m_r4 ha, m_r5 ha, m_r6 ha, m_r7 ha, m_r8 ha, m_r9 ha, m_r10 ha, m_r11 ha, m_s1 ha, m_s2 ha, m_s3 ha, m_s4 ha, m_s5 ha, m_s6 ha, m_s7 ha, m_s8 ha, m_s9 ha, m_s10 ha, m_s11 ha, zI_add, zI_sub, zI_mul, zI_neg, zL_add, zL_sub, zL_mul, Option.bind_some, Option.toList_some, Option.toList_none, List.cons_append, List.nil_append, zI_lt, zI_le, zI_eq, zI_eq0, zI_lt0, zI_le0, zI_0lt, zI_0le, bZ_e0, Int.add_zero, Int.zero_add, zI_64, c_in, c_met ha, ite_not]
  by_cases z : 0 ≤ w ∧ w ≤ 1
  · rw [if_pos z, if_pos z]
    simp (disch := first | omega | assumption) only [s_X8_rest_17, s_X8_rest_18, s_X8_rest_21, s_X8_rest_22, s_X8_rest_23, s_X8_rest_24, s_X8_rest_25, mH_obj ha, m_g0 ha, m_g1 ha, m_g2 ha, m_g3 ha, m_g4 ha, m_g5 ha, m_g6 ha, m_g7 ha, m_g8 ha, m_g9 ha, m_g10 ha, m_g11 ha, m_g12 ha, m_g13 ha, m_g14 ha, m_g15 ha, m_g16 ha, m_g17 ha, m_g18 ha, m_g19 ha, m_g20 ha, m_p3 ha, m_p7 ha, m_p8 ha, m_p9 ha, m_p12 ha, m_p16 ha, m_p17 ha, m_p18 ha, m_p19 ha, m_p20 ha, m_r1 ha, m_r2 ha, m_r3 ha, m_r4 ha, m_r5 ha, m_r6 ha, m_r7 ha, m_r8 ha, m_r9 ha, m_r10 ha, m_r11 ha, m_s1 ha, m_s2 ha, m_s3 ha, m_s4 ha, m_s5 ha, m_s6 ha, m_s7 ha, m_s8 ha, m_s9 ha, m_s10 ha, m_s11 ha, zI_add, zI_sub, zI_mul, zI_neg, zL_add, zL_sub, zL_mul, Option.bind_some, Option.toList_some, Option.toList_none, List.cons_append, List.nil_append, zI_lt, zI_le, zI_eq, zI_eq0, zI_lt0, zI_le0, zI_0lt, zI_0le, bZ_e0, Int.add_zero, Int.zero_add, Int.reduceToNat]
    exact l_rest ha ho hs z 21 0 (t 1 2) _ (by decide) (by decide) o2.1 hl
  · rw [if_neg z, if_neg z]
end

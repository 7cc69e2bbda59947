/-! THE REFERENCE, part 23: items told, read -/
section
variable {h : xH} {a : Nat} {t : Nat → Nat → Int} {d : Nat}
def tnG (x : Int → Int) (q e : Int) : Int := if e = q + 1 then x q - 48 else 10 * (x q - 48) + x (q + 1) - 48
theorem dgF_g {x : Int → Int} {n q : Int} (hb : ¬ tnB q (fiP x n q)) : dgF x n q 200 q 0 = tnG x q (fiP x n q) ∧ (48 ≤ x q ∧ x q ≤ 57) ∧ (fiP x n q = q + 1 ∨ (fiP x n q = q + 2 ∧ 48 ≤ x (q + 1) ∧ x (q + 1) ≤ 57)) ∧ q < n := by
  unfold fiP at *
  have e0 : rnF 48 57 x n 200 q = if q < n ∧ 48 ≤ x q ∧ x q ≤ 57 then rnF 48 57 x n 199 (q + 1) else q := rfl
  have e1 : rnF 48 57 x n 199 (q + 1) = if q + 1 < n ∧ 48 ≤ x (q + 1) ∧ x (q + 1) ≤ 57 then rnF 48 57 x n 198 (q + 1 + 1) else q + 1 := rfl
  have e2 : rnF 48 57 x n 198 (q + 1 + 1) = if q + 1 + 1 < n ∧ 48 ≤ x (q + 1 + 1) ∧ x (q + 1 + 1) ≤ 57 then rnF 48 57 x n 197 (q + 1 + 1 + 1) else q + 1 + 1 := rfl
  have f0 : dgF x n q 200 q 0 = if q < n ∧ 48 ≤ x q ∧ x q ≤ 57 then dgF x n q 199 (q + 1) (if q - q < 2 then 10 * 0 + x q - 48 else 0) else 0 := rfl
  by_cases c0 : q < n ∧ 48 ≤ x q ∧ x q ≤ 57
  · rw [if_pos c0] at e0 f0
    rw [if_pos (by omega)] at f0
    have f1 : dgF x n q 199 (q + 1) (10 * 0 + x q - 48) = if q + 1 < n ∧ 48 ≤ x (q + 1) ∧ x (q + 1) ≤ 57 then dgF x n q 198 (q + 1 + 1) (if q + 1 - q < 2 then 10 * (10 * 0 + x q - 48) + x (q + 1) - 48 else 10 * 0 + x q - 48) else 10 * 0 + x q - 48 := rfl
    by_cases c1 : q + 1 < n ∧ 48 ≤ x (q + 1) ∧ x (q + 1) ≤ 57
    · rw [if_pos c1] at e1 f1
      rw [if_pos (by omega)] at f1
      by_cases c2 : q + 1 + 1 < n ∧ 48 ≤ x (q + 1 + 1) ∧ x (q + 1 + 1) ≤ 57
      · rw [if_pos c2] at e2
        have := (rnF_rg (lo := 48) (hi := 57) (x := x) (n := n) 197 (q + 1 + 1 + 1) (by omega)).1
        exact absurd (show tnB q (rnF 48 57 x n 200 q) by omega) hb
      · rw [if_neg c2] at e2
        have f2 : dgF x n q 198 (q + 1 + 1) (10 * (10 * 0 + x q - 48) + x (q + 1) - 48) = 10 * (10 * 0 + x q - 48) + x (q + 1) - 48 := if_neg c2
        unfold tnG
        rw [e0, e1, e2, if_neg (by omega), f0, f1, f2]
        exact ⟨by omega, c0.2, Or.inr ⟨by omega, c1.2⟩, c0.1⟩
    · rw [if_neg c1] at e1 f1
      unfold tnG
      rw [e0, e1, if_pos rfl, f0, f1]
      exact ⟨by omega, c0.2, Or.inl rfl, c0.1⟩
  · rw [if_neg c0] at e0
    exact absurd (show tnB q (rnF 48 57 x n 200 q) from Or.inl e0) hb
theorem tnV_g {x : Int → Int} {n p : Int} (hb : ¬ tnB (skP x n p) (tnE x n p)) : tnV x n p = tnG x (skP x n p) (tnE x n p) ∧ 0 ≤ tnV x n p ∧ tnV x n p ≤ 99 := by
  obtain ⟨r1, r2, r3, r4⟩ := dgF_g (x := x) (n := n) (q := skP x n p) hb
  have e : tnV x n p = tnG x (skP x n p) (tnE x n p) := by
    unfold tnV
    rw [if_neg (by omega), r1]
    rfl
  refine ⟨e, ?_⟩
  rw [e]
  unfold tnG tnE
  rcases r3 with z | z
  · rw [if_pos z]; omega
  · rw [if_neg (by omega)]; omega
theorem nuS_rg {x : Int → Int} {n : Int} : ∀ (k : Nat) (p : Int) (l : List Int) (p' : Int), nuS x n k p = .inr (l, p') → ∀ i : Nat, 0 ≤ l.getD i 0 ∧ l.getD i 0 ≤ 99 := by
  intro k
  induction k with
  | zero =>
    intro p l p' e i
    rw [nuS] at e
    cases e
    exact ⟨by rw [List.getD_nil]; decide, by rw [List.getD_nil]; decide⟩
  | succ k ih =>
    intro p l p' e i
    rw [nuS] at e
    split at e
    · cases e
    next hb =>
      generalize hr : nuS x n k (tnE x n p) = r at e
      cases r with
      | inl f => cases e
      | inr c =>
        cases e
        cases i with
        | zero => exact (tnV_g hb).2
        | succ i => exact ih _ _ _ hr i
theorem itS_rg {x : Int → Int} {n m q w p : Int} {l : List Int} (e : itS x n m q = .inr (w, l, p)) : ∀ i : Nat, 0 ≤ l.getD i 0 ∧ l.getD i 0 ≤ 99 := by
  unfold itS at e
  split at e
  · cases e
  · generalize hr : nuS x n (nmO (wdO (ltN x q (leP x n q - q).toNat))).toNat (leP x n q) = r at e
    cases r with
    | inl f => cases e
    | inr c =>
      dsimp only at e
      split at e
      · cases e
      · cases e
        exact nuS_rg _ _ _ _ hr
theorem alS_rg {x : Int → Int} {n : Int} : ∀ (k : Nat) (m p : Int) (L : List (Int × List Int)), alS x n k m p = .inr L → ∀ c ∈ L, ∀ i : Nat, 0 ≤ c.2.getD i 0 ∧ c.2.getD i 0 ≤ 99 := by
  intro k
  induction k with
  | zero => intro m p L e c hc; rw [alS] at e; cases e; cases hc
  | succ k ih =>
    intro m p L e c hc
    rw [alS] at e
    split at e
    · split at e
      · cases e
      · cases e; cases hc
    · generalize hr : itS x n m (skP x n p) = r at e
      cases r with
      | inl f => cases e
      | inr s =>
        obtain ⟨w, l, p'⟩ := s
        dsimp only at e
        generalize hs : alS x n k (m + 1) p' = s at e
        cases s with
        | inl f => cases e
        | inr M =>
          cases e
          cases hc with
          | head => exact itS_rg hr
          | tail _ z => exact ih _ _ _ hs c z
theorem c_tellItem {i w : Int} {l : List Int} (ha : a + 12 ≤ h.1) (h0 : 0 ≤ i) (h1 : i < 49) (hw : 0 ≤ w ∧ w ≤ 5) (h5 : t 5 i.toNat = w) (hl : ∀ k : Nat, (k : Int) < nmO w → t 6 (4 * i + k).toNat = l.getD k 0) (hr : ∀ k : Nat, 0 ≤ l.getD k 0 ∧ l.getD k 0 ≤ 99) (hv : w = 0 ∨ vI (rg t 600)) : x_cl (d + 3) n_X8_tellItem [.ref a, .int (zI i)] (mH h a t) = some (some (.int (zI (tlU (rg t 600) w l).1)), mH h a (pr t 600 (tlU (rg t 600) w l).2)) := by
  have n0 := hl 0 (by have := nmO_rg w; omega)
  rw [show (4 * i + ((0 : Nat) : Int)).toNat = (4 * i).toNat by omega] at n0
  have r0 := hr 0
  have r1 := hr 1
  have r2 := hr 2
  have r3 := hr 3
  simp (disch := first | omega | assumption) only [e_X8_tellItem, s_X8_tellItem_0, s_X8_tellItem_1, s_X8_tellItem_4, s_X8_tellItem_5, s_X8_tellItem_6, s_X8_tellItem_7, s_X8_tellItem_8, s_X8_tellItem_9, s_X8_tellItem_10, s_X8_tellItem_13, s_X8_tellItem_14, s_X8_tellItem_15, s_X8_tellItem_16, s_X8_tellItem_17, s_X8_tellItem_18, s_X8_tellItem_19, s_X8_tellItem_20, s_X8_tellItem_21, s_X8_tellItem_24, s_X8_tellItem_25, mH_obj ha, m_g0 ha, m_g1 ha, m_g2 ha, m_g3 ha, m_g4 ha, m_g5 ha, m_g6 ha, m_g7 ha, m_g8 ha, m_g9 ha, m_g10 ha, m_g11 ha, m_g12 ha, m_g13 ha, m_g14 ha, m_g15 ha, m_g16 ha, m_g17 ha, m_g18 ha, m_g19 ha, m_g20 ha, m_p3 ha, m_p7 ha, m_p8 ha, m_p9 ha, m_p12 ha, m_p16 ha, m_p17 ha, m_p18 ha, m_p19 ha, m_p20 ha, m_r1 ha, m_r2 ha, m_r3 ha, m_r4 ha, m_r5 ha, m_r6 ha, m_r7 ha, m_r8 ha, m_r9 ha, m_r10 ha, m_r11 ha, m_s1 ha, m_s2 ha, m_s3 ha, m_s4 ha, m_s5 ha, m_s6 ha, m_s7 ha, m_s8 ha, m_s9 ha, m_s10 ha, m_s11 ha, zI_add, zI_sub, zI_mul, zI_neg, zL_add, zL_sub, zL_mul, Option.bind_some, Option.toList_some, Option.toList_none, List.cons_append, List.nil_append, zI_lt, zI_le, zI_eq, zI_eq0, zI_lt0, zI_le0, zI_0lt, zI_0le, bZ_e0, Int.add_zero, Int.zero_add, h5, n0]
  unfold tlU
  rcases (show w = 0 ∨ w = 1 ∨ w = 2 ∨ w = 3 ∨ w = 4 ∨ w = 5 by omega) with e | e | e | e | e | e <;> subst e
  · have n1 := hl 1 (by decide)
    rw [show (4 * i + ((1 : Nat) : Int)).toNat = (4 * i + 1).toNat by omega] at n1
    rw [s_X8_tellItem_26_c0, n1, if_pos rfl]
    have := c_setHall (d := d + 1) (h := h) (t := t) (r := ((600 : Nat) : Int)) (w := l.getD 0 0) (hh := l.getD 1 0) ha (by omega) (by omega) (by omega) (by omega) (by omega) (by omega)
    rw [sHall_u, show ((600 : Nat) : Int) = 600 from rfl] at this
    simp (disch := first | omega | assumption) only [s_X8_tellItem_60, s_X8_tellItem_61, s_X8_tellItem_64, s_X8_tellItem_65, s_X8_tellItem_66, s_X8_tellItem_69, mH_obj ha, m_g0 ha, m_g1 ha, m_g2 ha, m_g3 ha, m_g4 ha, m_g5 ha, m_g6 ha, m_g7 ha, m_g8 ha, m_g9 ha, m_g10 ha, m_g11 ha, m_g12 ha, m_g13 ha, m_g14 ha, m_g15 ha, m_g16 ha, m_g17 ha, m_g18 ha, m_g19 ha, m_g20 ha, m_p3 ha, m_p7 ha, m_p8 ha, m_p9 ha, m_p12 ha, m_p16 ha, m_p17 ha, m_p18 ha, m_p19 ha, m_p20 ha, m_r1 ha, m_r2 ha, m_r3 ha, m_r4 ha, m_r5 ha, m_r6 ha, m_r7 ha, m_r8 ha, m_r9 ha, m_r10 ha, m_r11 ha, m_s1 ha, m_s2 ha, m_s3 ha, m_s4 ha, m_s5 ha, m_s6 ha, m_s7 ha, m_s8 ha, m_s9 ha, m_s10 ha, m_s11 ha, zI_add, zI_sub, zI_mul, zI_neg, zL_add, zL_sub, zL_mul, Option.bind_some, Option.toList_some, Option.toList_none, List.cons_append, List.nil_append, zI_lt, zI_le, zI_eq, zI_eq0, zI_lt0, zI_le0, zI_0lt, zI_0le, bZ_e0, Int.add_zero, Int.zero_add, this]
  · have hv' := hv.resolve_left (by decide)
    rw [s_X8_tellItem_26_c1, if_neg (by decide), if_pos rfl]
    have := c_setShelf (d := d) (h := h) (t := t) (r := ((600 : Nat) : Int)) (q := l.getD 0 0) (is := true) ha (by omega) (by omega) (by omega) (by omega) (rOk_v hv')
    rw [sShelf_u hv'.2.2.2.2.2.2.1.2, bZ_t rfl, show ((600 : Nat) : Int) = 600 from rfl] at this
    simp (disch := first | omega | assumption) only [s_X8_tellItem_70, s_X8_tellItem_71, s_X8_tellItem_74, s_X8_tellItem_75, s_X8_tellItem_76, s_X8_tellItem_79, mH_obj ha, m_g0 ha, m_g1 ha, m_g2 ha, m_g3 ha, m_g4 ha, m_g5 ha, m_g6 ha, m_g7 ha, m_g8 ha, m_g9 ha, m_g10 ha, m_g11 ha, m_g12 ha, m_g13 ha, m_g14 ha, m_g15 ha, m_g16 ha, m_g17 ha, m_g18 ha, m_g19 ha, m_g20 ha, m_p3 ha, m_p7 ha, m_p8 ha, m_p9 ha, m_p12 ha, m_p16 ha, m_p17 ha, m_p18 ha, m_p19 ha, m_p20 ha, m_r1 ha, m_r2 ha, m_r3 ha, m_r4 ha, m_r5 ha, m_r6 ha, m_r7 ha, m_r8 ha, m_r9 ha, m_r10 ha, m_r11 ha, m_s1 ha, m_s2 ha, m_s3 ha, m_s4 ha, m_s5 ha, m_s6 ha, m_s7 ha, m_s8 ha, m_s9 ha, m_s10 ha, m_s11 ha, zI_add, zI_sub, zI_mul, zI_neg, zL_add, zL_sub, zL_mul, Option.bind_some, Option.toList_some, Option.toList_none, List.cons_append, List.nil_append, zI_lt, zI_le, zI_eq, zI_eq0, zI_lt0, zI_le0, zI_0lt, zI_0le, bZ_e0, Int.add_zero, Int.zero_add, this]
  · have hv' := hv.resolve_left (by decide)
    have n1 := hl 1 (by decide)
    have n2 := hl 2 (by decide)
    have n3 := hl 3 (by decide)
    rw [show (4 * i + ((1 : Nat) : Int)).toNat = (4 * i + 1).toNat by omega] at n1
    rw [show (4 * i + ((2 : Nat) : Int)).toNat = (4 * i + 2).toNat by omega] at n2
    rw [show (4 * i + ((3 : Nat) : Int)).toNat = (4 * i + 3).toNat by omega] at n3
    rw [s_X8_tellItem_26_c2, n1, if_neg (by decide), if_neg (by decide), if_pos rfl]
    have := c_addReader (d := d) (h := h) (t := t) (r := ((600 : Nat) : Int)) (q := l.getD 0 0) (k := l.getD 1 0) (pg := l.getD 2 0) (wo := l.getD 3 0) ha (by omega) (by omega) (by omega) (by omega) (by omega) (by omega) (by omega) (by omega) (by omega) (by omega) (rOk_v hv')
    rw [sRead_u hv'.2.2.2.2.2.2.1, show ((600 : Nat) : Int) = 600 from rfl] at this
    simp (disch := first | omega | assumption) only [s_X8_tellItem_80, s_X8_tellItem_81, s_X8_tellItem_84, s_X8_tellItem_85, s_X8_tellItem_86, s_X8_tellItem_87, s_X8_tellItem_90, s_X8_tellItem_91, s_X8_tellItem_92, s_X8_tellItem_93, s_X8_tellItem_94, s_X8_tellItem_95, s_X8_tellItem_96, s_X8_tellItem_97, s_X8_tellItem_100, s_X8_tellItem_101, s_X8_tellItem_102, s_X8_tellItem_103, s_X8_tellItem_104, s_X8_tellItem_105, s_X8_tellItem_106, s_X8_tellItem_109, mH_obj ha, m_g0 ha, m_g1 ha, m_g2 ha, m_g3 ha, m_g4 ha, m_g5 ha, m_g6 ha, m_g7 ha, m_g8 ha, m_g9 ha, m_g10 ha, m_g11 ha, m_g12 ha, m_g13 ha, m_g14 ha, m_g15 ha, m_g16 ha, m_g17 ha, m_g18 ha, m_g19 ha, m_g20 ha, m_p3 ha, m_p7 ha, m_p8 ha, m_p9 ha, m_p12 ha, m_p16 ha, m_p17 ha, m_p18 ha, m_p19 ha, m_p20 ha, m_r1 ha, m_r2 ha, m_r3 ha, m_r4 ha, m_r5 ha, m_r6 ha, m_r7 ha, m_r8 ha, m_r9 ha, m_r10 ha, m_r11 ha, m_s1 ha, m_s2 ha, m_s3 ha, m_s4 ha, m_s5 ha, m_s6 ha, m_s7 ha, m_s8 ha, m_s9 ha, m_s10 ha, m_s11 ha, zI_add, zI_sub, zI_mul, zI_neg, zL_add, zL_sub, zL_mul, Option.bind_some, Option.toList_some, Option.toList_none, List.cons_append, List.nil_append, zI_lt, zI_le, zI_eq, zI_eq0, zI_lt0, zI_le0, zI_0lt, zI_0le, bZ_e0, Int.add_zero, Int.zero_add, n2, n3, this]
  · have hv' := hv.resolve_left (by decide)
    rw [s_X8_tellItem_26_c3, if_neg (by decide), if_neg (by decide), if_neg (by decide), if_pos rfl]
    have := c_setLamp (d := d) (h := h) (t := t) (r := ((600 : Nat) : Int)) (q := l.getD 0 0) ha (by omega) (by omega) (by omega) (by omega) (rOk_v hv')
    rw [sLamp_u, show ((600 : Nat) : Int) = 600 from rfl] at this
    simp (disch := first | omega | assumption) only [s_X8_tellItem_110, s_X8_tellItem_111, s_X8_tellItem_114, s_X8_tellItem_115, s_X8_tellItem_118, mH_obj ha, m_g0 ha, m_g1 ha, m_g2 ha, m_g3 ha, m_g4 ha, m_g5 ha, m_g6 ha, m_g7 ha, m_g8 ha, m_g9 ha, m_g10 ha, m_g11 ha, m_g12 ha, m_g13 ha, m_g14 ha, m_g15 ha, m_g16 ha, m_g17 ha, m_g18 ha, m_g19 ha, m_g20 ha, m_p3 ha, m_p7 ha, m_p8 ha, m_p9 ha, m_p12 ha, m_p16 ha, m_p17 ha, m_p18 ha, m_p19 ha, m_p20 ha, m_r1 ha, m_r2 ha, m_r3 ha, m_r4 ha, m_r5 ha, m_r6 ha, m_r7 ha, m_r8 ha, m_r9 ha, m_r10 ha, m_r11 ha, m_s1 ha, m_s2 ha, m_s3 ha, m_s4 ha, m_s5 ha, m_s6 ha, m_s7 ha, m_s8 ha, m_s9 ha, m_s10 ha, m_s11 ha, zI_add, zI_sub, zI_mul, zI_neg, zL_add, zL_sub, zL_mul, Option.bind_some, Option.toList_some, Option.toList_none, List.cons_append, List.nil_append, zI_lt, zI_le, zI_eq, zI_eq0, zI_lt0, zI_le0, zI_0lt, zI_0le, bZ_e0, Int.add_zero, Int.zero_add, this]
  · rw [s_X8_tellItem_26_c4, if_neg (by decide), if_neg (by decide), if_neg (by decide), if_neg (by decide), if_pos rfl]
    have := c_setOil (d := d + 1) (h := h) (t := t) (r := ((600 : Nat) : Int)) (n := l.getD 0 0) ha (by omega) (by omega) (by omega) (by omega)
    rw [sOil_u, show ((600 : Nat) : Int) = 600 from rfl] at this
    simp (disch := first | omega | assumption) only [s_X8_tellItem_119, s_X8_tellItem_120, s_X8_tellItem_123, s_X8_tellItem_124, s_X8_tellItem_127, mH_obj ha, m_g0 ha, m_g1 ha, m_g2 ha, m_g3 ha, m_g4 ha, m_g5 ha, m_g6 ha, m_g7 ha, m_g8 ha, m_g9 ha, m_g10 ha, m_g11 ha, m_g12 ha, m_g13 ha, m_g14 ha, m_g15 ha, m_g16 ha, m_g17 ha, m_g18 ha, m_g19 ha, m_g20 ha, m_p3 ha, m_p7 ha, m_p8 ha, m_p9 ha, m_p12 ha, m_p16 ha, m_p17 ha, m_p18 ha, m_p19 ha, m_p20 ha, m_r1 ha, m_r2 ha, m_r3 ha, m_r4 ha, m_r5 ha, m_r6 ha, m_r7 ha, m_r8 ha, m_r9 ha, m_r10 ha, m_r11 ha, m_s1 ha, m_s2 ha, m_s3 ha, m_s4 ha, m_s5 ha, m_s6 ha, m_s7 ha, m_s8 ha, m_s9 ha, m_s10 ha, m_s11 ha, zI_add, zI_sub, zI_mul, zI_neg, zL_add, zL_sub, zL_mul, Option.bind_some, Option.toList_some, Option.toList_none, List.cons_append, List.nil_append, zI_lt, zI_le, zI_eq, zI_eq0, zI_lt0, zI_le0, zI_0lt, zI_0le, bZ_e0, Int.add_zero, Int.zero_add, this]
  · have hv' := hv.resolve_left (by decide)
    have n1 := hl 1 (by decide)
    rw [show (4 * i + ((1 : Nat) : Int)).toNat = (4 * i + 1).toNat by omega] at n1
    rw [s_X8_tellItem_26_d (Or.inr (by decide)), n1, if_neg (by decide), if_neg (by decide), if_neg (by decide), if_neg (by decide), if_neg (by decide)]
    have := c_setString (d := d + 1) (h := h) (t := t) (r := ((600 : Nat) : Int)) (p := l.getD 0 0) (v := l.getD 1 0) ha (by omega) (by omega) (by omega) (by omega) (by omega) (by omega) (rOk_v hv')
    rw [sStr_u hv'.2.2.2.2.2.2.1.2, show ((600 : Nat) : Int) = 600 from rfl] at this
    simp (disch := first | omega | assumption) only [s_X8_tellItem_128, s_X8_tellItem_129, s_X8_tellItem_132, s_X8_tellItem_133, s_X8_tellItem_134, s_X8_tellItem_137, mH_obj ha, m_g0 ha, m_g1 ha, m_g2 ha, m_g3 ha, m_g4 ha, m_g5 ha, m_g6 ha, m_g7 ha, m_g8 ha, m_g9 ha, m_g10 ha, m_g11 ha, m_g12 ha, m_g13 ha, m_g14 ha, m_g15 ha, m_g16 ha, m_g17 ha, m_g18 ha, m_g19 ha, m_g20 ha, m_p3 ha, m_p7 ha, m_p8 ha, m_p9 ha, m_p12 ha, m_p16 ha, m_p17 ha, m_p18 ha, m_p19 ha, m_p20 ha, m_r1 ha, m_r2 ha, m_r3 ha, m_r4 ha, m_r5 ha, m_r6 ha, m_r7 ha, m_r8 ha, m_r9 ha, m_r10 ha, m_r11 ha, m_s1 ha, m_s2 ha, m_s3 ha, m_s4 ha, m_s5 ha, m_s6 ha, m_s7 ha, m_s8 ha, m_s9 ha, m_s10 ha, m_s11 ha, zI_add, zI_sub, zI_mul, zI_neg, zL_add, zL_sub, zL_mul, Option.bind_some, Option.toList_some, Option.toList_none, List.cons_append, List.nil_append, zI_lt, zI_le, zI_eq, zI_eq0, zI_lt0, zI_le0, zI_0lt, zI_0le, bZ_e0, Int.add_zero, Int.zero_add, this]
end

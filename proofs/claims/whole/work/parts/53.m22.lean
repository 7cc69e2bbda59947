/-! THE REFERENCE, part 22: all items of the text -/
section
variable {h : xH} {a : Nat} {t : Nat → Nat → Int} {d : Nat}
/-- all items from a place on, m of them behind: the place of the fault, or the words with their numbers -/
def alS (x : Int → Int) (n : Int) : Nat → Int → Int → Int ⊕ List (Int × List Int)
  | 0, _, _ => .inr []
  | k + 1, m, p => if skP x n p = n then (if m = 0 then .inl n else .inr []) else
    match itS x n m (skP x n p) with
    | .inl f => .inl f
    | .inr (w, l, p') => match alS x n k (m + 1) p' with
      | .inl f => .inl f
      | .inr L => .inr ((w, l) :: L)
/-- the tables hold the items from m on -/
def alH (T : Nat → Nat → Int) : Int → List (Int × List Int) → Prop
  | _, [] => True
  | m, (w, l) :: L => T 5 m.toNat = w ∧ (0 ≤ w ∧ w ≤ 5) ∧ (w = 0 ↔ m = 0) ∧ (l.length : Int) = nmO w ∧ (∀ i : Nat, (i : Int) < nmO w → T 6 (4 * m + i).toNat = l.getD i 0) ∧ alH T (m + 1) L
def alP (t T' : Nat → Nat → Int) (m : Int) : Int ⊕ List (Int × List Int) → Prop
  | .inl f => T' 0 9 = f ∧ 0 ≤ f ∧ f ≤ t 0 3
  | .inr L => T' 0 9 = -1 ∧ T' 0 7 = m + L.length ∧ 5 * (m + L.length) ≤ t 0 3 ∧ 1 ≤ m + L.length ∧ alH T' m L
theorem l_readItems (ha : a + 12 ≤ h.1) (hx : txOk t) : ∀ (k : Nat) (T : Nat → Nat → Int) (m p : Int) (l1 : Value), tkR t T → T 0 9 = -1 → T 0 7 = m → T 0 8 = p → 0 ≤ m → 5 * m ≤ p → p ≤ t 0 3 → t 0 3 - p < k →
    ∃ T', tkR t T' ∧ (∀ i : Nat, (i : Int) < m → T' 5 i = T 5 i) ∧ (∀ i : Nat, (i : Int) < 4 * m → T' 6 i = T 6 i) ∧ alP t T' m (alS (txX t) (t 0 3) k m p) ∧
      x_ev (d + 3, n_X8_read, 15, [.ref a, l1], [], mH h a T) = x_ev (d + 3, n_X8_read, 67, [.ref a, l1], [], mH h a T') := by
  have hn := hx.1
  intro k
  induction k with
  | zero => intro T m p l1 hT h9 h7 h8 hm0 hm1 hp hk; omega
  | succ k ih =>
    intro T m p l1 hT h9 h7 h8 hm0 hm1 hp hk
    have hnT := tkR_n hT
    have hsk := skP_rg (x := txX t) hp
    have e3 := c_isEnd (d := d + 2) (h := h) ha (tkR_ok hT hx) (by omega) (by omega)
    rw [tkR_x hT, hnT, h8] at e3
    rw [s_X8_read_15]
    simp (disch := first | omega | assumption) only [s_X8_read_16, s_X8_read_19, s_X8_read_20, s_X8_read_23, s_X8_read_24, s_X8_read_27, mH_obj ha, m_g0 ha, m_g1 ha, m_g2 ha, m_g3 ha, m_g4 ha, m_g5 ha, m_g6 ha, m_g7 ha, m_g8 ha, m_g9 ha, m_g10 ha, m_g11 ha, m_g12 ha, m_g13 ha, m_g14 ha, m_g15 ha, m_g16 ha, m_g17 ha, m_g18 ha, m_g19 ha, m_g20 ha, m_p3 ha, m_p7 ha, m_p8 ha, m_p9 ha, m_p12 ha, m_p16 ha, m_p17 ha, m_p18 ha, m_p19 ha, m_p20 ha, m_r1 ha, m_r2 ha, m_r3 ha, m_r4 ha, m_r5 ha, m_r6 ha, m_r7 ha, m_r8 ha, m_r9 ha, m_r10 ha, m_r11 ha, m_s1 ha, m_s2 ha, m_s3 ha, m_s4 ha, m_s5 ha, m_s6 ha, m_s7 ha, m_s8 ha, m_s9 ha, m_s10 ha, m_s11 ha, zI_add, zI_sub, zI_mul, zI_neg, zL_add, zL_sub, zL_mul, Option.bind_some, Option.toList_some, Option.toList_none, List.cons_append, List.nil_append, zI_lt, zI_le, zI_eq, zI_eq0, zI_lt0, zI_le0, zI_0lt, zI_0le, bZ_e0, Int.add_zero, Int.zero_add, h9, e3, if_true]
    rw [alS]
    by_cases q : skP (txX t) (t 0 3) p = t 0 3
    · rw [if_pos q, if_neg (show ¬ ¬ skP (txX t) (t 0 3) p = t 0 3 from fun z => z q)]
      simp (disch := first | omega | assumption) only [s_X8_read_37, s_X8_read_38, s_X8_read_39, s_X8_read_42, s_X8_read_43, mH_obj ha, m_g0 ha, m_g1 ha, m_g2 ha, m_g3 ha, m_g4 ha, m_g5 ha, m_g6 ha, m_g7 ha, m_g8 ha, m_g9 ha, m_g10 ha, m_g11 ha, m_g12 ha, m_g13 ha, m_g14 ha, m_g15 ha, m_g16 ha, m_g17 ha, m_g18 ha, m_g19 ha, m_g20 ha, m_p3 ha, m_p7 ha, m_p8 ha, m_p9 ha, m_p12 ha, m_p16 ha, m_p17 ha, m_p18 ha, m_p19 ha, m_p20 ha, m_r1 ha, m_r2 ha, m_r3 ha, m_r4 ha, m_r5 ha, m_r6 ha, m_r7 ha, m_r8 ha, m_r9 ha, m_r10 ha, m_r11 ha, m_s1 ha, m_s2 ha, m_s3 ha, m_s4 ha, m_s5 ha, m_s6 ha, m_s7 ha, m_s8 ha, m_s9 ha, m_s10 ha, m_s11 ha, zI_add, zI_sub, zI_mul, zI_neg, zL_add, zL_sub, zL_mul, Option.bind_some, Option.toList_some, Option.toList_none, List.cons_append, List.nil_append, zI_lt, zI_le, zI_eq, zI_eq0, zI_lt0, zI_le0, zI_0lt, zI_0le, bZ_e0, Int.add_zero, Int.zero_add, up2_s, up2_n, h9, if_true]
      by_cases z : m = 0
      · rw [if_pos z]
        refine ⟨up2 (up2 T 0 8 (skP (txX t) (t 0 3) p)) 0 9 (t 0 3), tkR_t hT (tkR_t (tkR_u (by omega)) (tkR_u (by omega))), fun i hi => ?_, fun i hi => ?_, ⟨up2_s, by omega, by omega⟩, ?_⟩
        · rw [up2_n (by omega), up2_n (by omega)]
        · rw [up2_n (by omega), up2_n (by omega)]
        · simp (disch := first | omega | assumption) only [s_X8_read_46, s_X8_read_47, s_X8_read_50, s_X8_read_53, s_X8_read_54, s_X8_read_57, s_X8_read_60, s_X8_read_61, s_X8_read_64, mH_obj ha, m_g0 ha, m_g1 ha, m_g2 ha, m_g3 ha, m_g4 ha, m_g5 ha, m_g6 ha, m_g7 ha, m_g8 ha, m_g9 ha, m_g10 ha, m_g11 ha, m_g12 ha, m_g13 ha, m_g14 ha, m_g15 ha, m_g16 ha, m_g17 ha, m_g18 ha, m_g19 ha, m_g20 ha, m_p3 ha, m_p7 ha, m_p8 ha, m_p9 ha, m_p12 ha, m_p16 ha, m_p17 ha, m_p18 ha, m_p19 ha, m_p20 ha, m_r1 ha, m_r2 ha, m_r3 ha, m_r4 ha, m_r5 ha, m_r6 ha, m_r7 ha, m_r8 ha, m_r9 ha, m_r10 ha, m_r11 ha, m_s1 ha, m_s2 ha, m_s3 ha, m_s4 ha, m_s5 ha, m_s6 ha, m_s7 ha, m_s8 ha, m_s9 ha, m_s10 ha, m_s11 ha, zI_add, zI_sub, zI_mul, zI_neg, zL_add, zL_sub, zL_mul, Option.bind_some, Option.toList_some, Option.toList_none, List.cons_append, List.nil_append, zI_lt, zI_le, zI_eq, zI_eq0, zI_lt0, zI_le0, zI_0lt, zI_0le, bZ_e0, Int.add_zero, Int.zero_add, up2_s, up2_n, h7, hnT]
          rw [if_pos z]
      · rw [if_neg z]
        refine ⟨up2 (up2 T 0 8 (skP (txX t) (t 0 3) p)) 0 9 (-1), tkR_t hT (tkR_t (tkR_u (by omega)) (tkR_u (by omega))), fun i hi => ?_, fun i hi => ?_, ⟨up2_s, ?_, ?_, ?_, trivial⟩, ?_⟩
        · rw [up2_n (by omega), up2_n (by omega)]
        · rw [up2_n (by omega), up2_n (by omega)]
        · rw [up2_n (by omega), up2_n (by omega), h7]; exact (Int.add_zero m).symm
        · show 5 * (m + 0) ≤ t 0 3; omega
        · show 1 ≤ m + 0; omega
        · simp (disch := first | omega | assumption) only [s_X8_read_46, s_X8_read_47, s_X8_read_50, s_X8_read_53, s_X8_read_54, s_X8_read_57, s_X8_read_60, s_X8_read_61, s_X8_read_64, mH_obj ha, m_g0 ha, m_g1 ha, m_g2 ha, m_g3 ha, m_g4 ha, m_g5 ha, m_g6 ha, m_g7 ha, m_g8 ha, m_g9 ha, m_g10 ha, m_g11 ha, m_g12 ha, m_g13 ha, m_g14 ha, m_g15 ha, m_g16 ha, m_g17 ha, m_g18 ha, m_g19 ha, m_g20 ha, m_p3 ha, m_p7 ha, m_p8 ha, m_p9 ha, m_p12 ha, m_p16 ha, m_p17 ha, m_p18 ha, m_p19 ha, m_p20 ha, m_r1 ha, m_r2 ha, m_r3 ha, m_r4 ha, m_r5 ha, m_r6 ha, m_r7 ha, m_r8 ha, m_r9 ha, m_r10 ha, m_r11 ha, m_s1 ha, m_s2 ha, m_s3 ha, m_s4 ha, m_s5 ha, m_s6 ha, m_s7 ha, m_s8 ha, m_s9 ha, m_s10 ha, m_s11 ha, zI_add, zI_sub, zI_mul, zI_neg, zL_add, zL_sub, zL_mul, Option.bind_some, Option.toList_some, Option.toList_none, List.cons_append, List.nil_append, zI_lt, zI_le, zI_eq, zI_eq0, zI_lt0, zI_le0, zI_0lt, zI_0le, bZ_e0, Int.add_zero, Int.zero_add, up2_s, up2_n, h7, h9]
          rw [if_neg z]
    · rw [if_neg q, if_pos q]
      have hT1 : tkR t (up2 T 0 8 (skP (txX t) (t 0 3) p)) := tkR_t hT (tkR_u (by omega))
      have hlt : skP (txX t) (t 0 3) p < t 0 3 := by omega
      obtain ⟨U, r1, r2, r3, r4, r5⟩ := c_takeItem (d := d) (h := h) (a := a) (t := up2 T 0 8 (skP (txX t) (t 0 3) p)) (m := m) (q := skP (txX t) (t 0 3) p) ha (tkR_ok hT1 hx) (by rw [up2_n (by omega), h9]) (by rw [up2_n (by omega), h7]) up2_s hm0 (by omega) (by omega) (by rw [tkR_n hT1]; omega)
      rw [tkR_x hT1, tkR_n hT1] at r4
      simp (disch := first | omega | assumption) only [s_X8_read_30, s_X8_read_31, s_X8_read_34, mH_obj ha, m_g0 ha, m_g1 ha, m_g2 ha, m_g3 ha, m_g4 ha, m_g5 ha, m_g6 ha, m_g7 ha, m_g8 ha, m_g9 ha, m_g10 ha, m_g11 ha, m_g12 ha, m_g13 ha, m_g14 ha, m_g15 ha, m_g16 ha, m_g17 ha, m_g18 ha, m_g19 ha, m_g20 ha, m_p3 ha, m_p7 ha, m_p8 ha, m_p9 ha, m_p12 ha, m_p16 ha, m_p17 ha, m_p18 ha, m_p19 ha, m_p20 ha, m_r1 ha, m_r2 ha, m_r3 ha, m_r4 ha, m_r5 ha, m_r6 ha, m_r7 ha, m_r8 ha, m_r9 ha, m_r10 ha, m_r11 ha, m_s1 ha, m_s2 ha, m_s3 ha, m_s4 ha, m_s5 ha, m_s6 ha, m_s7 ha, m_s8 ha, m_s9 ha, m_s10 ha, m_s11 ha, zI_add, zI_sub, zI_mul, zI_neg, zL_add, zL_sub, zL_mul, Option.bind_some, Option.toList_some, Option.toList_none, List.cons_append, List.nil_append, zI_lt, zI_le, zI_eq, zI_eq0, zI_lt0, zI_le0, zI_0lt, zI_0le, bZ_e0, Int.add_zero, Int.zero_add, r5]
      have rT : tkR t U := tkR_t hT1 r1
      have r2' : ∀ i : Nat, (i : Int) < m → U 5 i = T 5 i := fun i hi => by rw [r2 i hi, up2_n (by omega)]
      have r3' : ∀ i : Nat, (i : Int) < 4 * m → U 6 i = T 6 i := fun i hi => by rw [r3 i hi, up2_n (by omega)]
      generalize hI : itS (txX t) (t 0 3) m (skP (txX t) (t 0 3) p) = I at r4
      cases I with
      | inl f =>
        obtain ⟨f1, f2, f3⟩ := r4
        rw [tkR_n hT1] at f3
        refine ⟨up2 U 0 9 f, tkR_t rT (tkR_u (by omega)), fun i hi => ?_, fun i hi => ?_, ⟨up2_s, f2, f3⟩, ?_⟩
        · rw [up2_n (by omega), r2' i hi]
        · rw [up2_n (by omega), r3' i hi]
        · rw [s_X8_read_15]
          simp (disch := first | omega | assumption) only [s_X8_read_16, s_X8_read_19, s_X8_read_20, mH_obj ha, m_g0 ha, m_g1 ha, m_g2 ha, m_g3 ha, m_g4 ha, m_g5 ha, m_g6 ha, m_g7 ha, m_g8 ha, m_g9 ha, m_g10 ha, m_g11 ha, m_g12 ha, m_g13 ha, m_g14 ha, m_g15 ha, m_g16 ha, m_g17 ha, m_g18 ha, m_g19 ha, m_g20 ha, m_p3 ha, m_p7 ha, m_p8 ha, m_p9 ha, m_p12 ha, m_p16 ha, m_p17 ha, m_p18 ha, m_p19 ha, m_p20 ha, m_r1 ha, m_r2 ha, m_r3 ha, m_r4 ha, m_r5 ha, m_r6 ha, m_r7 ha, m_r8 ha, m_r9 ha, m_r10 ha, m_r11 ha, m_s1 ha, m_s2 ha, m_s3 ha, m_s4 ha, m_s5 ha, m_s6 ha, m_s7 ha, m_s8 ha, m_s9 ha, m_s10 ha, m_s11 ha, zI_add, zI_sub, zI_mul, zI_neg, zL_add, zL_sub, zL_mul, Option.bind_some, Option.toList_some, Option.toList_none, List.cons_append, List.nil_append, zI_lt, zI_le, zI_eq, zI_eq0, zI_lt0, zI_le0, zI_0lt, zI_0le, bZ_e0, Int.add_zero, Int.zero_add, f1]
          rw [if_neg (by omega)]
          simp (disch := first | omega | assumption) only [s_X8_read_37, s_X8_read_38, s_X8_read_39, s_X8_read_42, s_X8_read_43, mH_obj ha, m_g0 ha, m_g1 ha, m_g2 ha, m_g3 ha, m_g4 ha, m_g5 ha, m_g6 ha, m_g7 ha, m_g8 ha, m_g9 ha, m_g10 ha, m_g11 ha, m_g12 ha, m_g13 ha, m_g14 ha, m_g15 ha, m_g16 ha, m_g17 ha, m_g18 ha, m_g19 ha, m_g20 ha, m_p3 ha, m_p7 ha, m_p8 ha, m_p9 ha, m_p12 ha, m_p16 ha, m_p17 ha, m_p18 ha, m_p19 ha, m_p20 ha, m_r1 ha, m_r2 ha, m_r3 ha, m_r4 ha, m_r5 ha, m_r6 ha, m_r7 ha, m_r8 ha, m_r9 ha, m_r10 ha, m_r11 ha, m_s1 ha, m_s2 ha, m_s3 ha, m_s4 ha, m_s5 ha, m_s6 ha, m_s7 ha, m_s8 ha, m_s9 ha, m_s10 ha, m_s11 ha, zI_add, zI_sub, zI_mul, zI_neg, zL_add, zL_sub, zL_mul, Option.bind_some, Option.toList_some, Option.toList_none, List.cons_append, List.nil_append, zI_lt, zI_le, zI_eq, zI_eq0, zI_lt0, zI_le0, zI_0lt, zI_0le, bZ_e0, Int.add_zero, Int.zero_add, f1]
          rw [if_neg (by omega)]
          simp (disch := first | omega | assumption) only [s_X8_read_60, s_X8_read_61, s_X8_read_64, mH_obj ha, m_g0 ha, m_g1 ha, m_g2 ha, m_g3 ha, m_g4 ha, m_g5 ha, m_g6 ha, m_g7 ha, m_g8 ha, m_g9 ha, m_g10 ha, m_g11 ha, m_g12 ha, m_g13 ha, m_g14 ha, m_g15 ha, m_g16 ha, m_g17 ha, m_g18 ha, m_g19 ha, m_g20 ha, m_p3 ha, m_p7 ha, m_p8 ha, m_p9 ha, m_p12 ha, m_p16 ha, m_p17 ha, m_p18 ha, m_p19 ha, m_p20 ha, m_r1 ha, m_r2 ha, m_r3 ha, m_r4 ha, m_r5 ha, m_r6 ha, m_r7 ha, m_r8 ha, m_r9 ha, m_r10 ha, m_r11 ha, m_s1 ha, m_s2 ha, m_s3 ha, m_s4 ha, m_s5 ha, m_s6 ha, m_s7 ha, m_s8 ha, m_s9 ha, m_s10 ha, m_s11 ha, zI_add, zI_sub, zI_mul, zI_neg, zL_add, zL_sub, zL_mul, Option.bind_some, Option.toList_some, Option.toList_none, List.cons_append, List.nil_append, zI_lt, zI_le, zI_eq, zI_eq0, zI_lt0, zI_le0, zI_0lt, zI_0le, bZ_e0, Int.add_zero, Int.zero_add, f1]
      | inr c =>
        obtain ⟨w, l, p'⟩ := c
        obtain ⟨f1, f2, f3, f4, f5, f6, f7, f8, f9, f10⟩ := r4
        rw [tkR_n hT1] at f4
        obtain ⟨T', g1, g2, g3, g4, g5⟩ := ih U (m + 1) p' l1 rT f1 f5 f2 (by omega) (by omega) f4 (by omega)
        refine ⟨T', g1, fun i hi => (g2 i (by omega)).trans (r2' i hi), fun i hi => (g3 i (by omega)).trans (r3' i hi), ?_, g5⟩
        dsimp only
        generalize alS (txX t) (t 0 3) k (m + 1) p' = R at g4
        cases R with
        | inl f => exact g4
        | inr L =>
          obtain ⟨k1, k2, k3, k4, k5⟩ := g4
          refine ⟨k1, ?_, ?_, ?_, ?_, f7, f8, f9, fun i hi => ?_, k5⟩
          · rw [k2, List.length_cons]; omega
          · rw [List.length_cons]; omega
          · rw [List.length_cons]; omega
          · rw [g2 _ (by omega), f6]
          · have := nmO_rg w
            rw [g3 _ (by omega), f10 i hi]
end

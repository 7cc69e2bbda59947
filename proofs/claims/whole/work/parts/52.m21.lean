/-! THE REFERENCE, part 21: an item, all items of the text -/
section
variable {h : xH} {a : Nat} {t : Nat → Nat → Int} {d : Nat}
/-- an item from a place on: the place of its fault; or its word, its numbers and the place behind it -/
def itS (x : Int → Int) (n m q : Int) : Int ⊕ (Int × List Int × Int) :=
  if wdB (wdO (ltN x q (leP x n q - q).toNat)) m then .inl q else
  match nuS x n (nmO (wdO (ltN x q (leP x n q - q).toNat))).toNat (leP x n q) with
  | .inl f => .inl f
  | .inr (l, p) => if skP x n p = n ∨ x (skP x n p) ≠ 59 then .inl (skP x n p) else .inr (wdO (ltN x q (leP x n q - q).toNat), l, skP x n p + 1)
theorem wdO_rg (l : Int) : -1 ≤ wdO l ∧ wdO l ≤ 5 := by
  unfold wdO
  repeat' split
  all_goals omega
theorem wdO_3 {x : Int → Int} {q : Int} {c : Nat} (hl : ∀ j : Nat, j < c → 97 ≤ x (q + j) ∧ x (q + j) ≤ 122) (hw : wdO (ltN x q c) ≠ -1) : 3 ≤ c := by
  have g : ∀ l : Int, l < 1000 → wdO l = -1 := fun l hl => by
    unfold wdO
    rw [if_neg (by omega), if_neg (by omega), if_neg (by omega), if_neg (by omega), if_neg (by omega), if_neg (by omega)]
  refine Classical.byContradiction fun z => hw (g _ ?_)
  rcases (show c = 0 ∨ c = 1 ∨ c = 2 by omega) with e | e | e
  · rw [e, ltN]; decide
  · have := hl 0 (by omega)
    rw [e, ltN_s (by decide), ltN]; omega
  · have := hl 0 (by omega)
    have := hl 1 (by omega)
    rw [e, ltN_s (by decide), ltN_s (by decide), ltN]; omega
theorem nmO_rg (w : Int) : 1 ≤ nmO w ∧ nmO w ≤ 4 := by
  unfold nmO
  split
  · omega
  · split <;> omega
def itP (t T' : Nat → Nat → Int) (m q : Int) : Int ⊕ (Int × List Int × Int) → Prop
  | .inl f => T' 0 9 = f ∧ 0 ≤ f ∧ f ≤ t 0 3
  | .inr (w, l, p) => T' 0 9 = -1 ∧ T' 0 8 = p ∧ q + 5 ≤ p ∧ p ≤ t 0 3 ∧ T' 0 7 = m + 1 ∧ T' 5 m.toNat = w ∧ (0 ≤ w ∧ w ≤ 5) ∧ (w = 0 ↔ m = 0) ∧ (l.length : Int) = nmO w ∧ ∀ i : Nat, (i : Int) < nmO w → T' 6 (4 * m + i).toNat = l.getD i 0
theorem c_takeItem {m q : Int} (ha : a + 12 ≤ h.1) (hx : txOk t) (h9 : t 0 9 = -1) (h7 : t 0 7 = m) (h8 : t 0 8 = q) (hm0 : 0 ≤ m) (hm1 : m < 50) (hq0 : 0 ≤ q) (hq1 : q ≤ t 0 3) :
    ∃ T', tkR t T' ∧ (∀ i : Nat, (i : Int) < m → T' 5 i = t 5 i) ∧ (∀ i : Nat, (i : Int) < 4 * m → T' 6 i = t 6 i) ∧ itP t T' m q (itS (txX t) (t 0 3) m q) ∧ x_cl (d + 2) n_X8_takeItem [.ref a] (mH h a t) = some (none, mH h a T') := by
  have hn := hx.1
  have hb := hx.2
  have hle : q ≤ leP (txX t) (t 0 3) q ∧ leP (txX t) (t 0 3) q ≤ t 0 3 := rnF_rg _ _ hq1
  have hlet : ∀ j : Nat, j < (leP (txX t) (t 0 3) q - q).toNat → 97 ≤ txX t (q + j) ∧ txX t (q + j) ≤ 122 := fun j hj => (rnF_all (n := t 0 3) 200 q (q + j) (by omega) (by unfold leP at hj; omega)).2
  have hlr := ltN_rg _ hlet
  have hw3 := wdO_3 hlet
  have s0 : x_cl (d + 2) n_X8_takeItem [.ref a] (mH h a t) = x_ev (d + 2, n_X8_takeItem, 152, [.ref a, .int (zI q), .long (zL (ltN (txX t) q (leP (txX t) (t 0 3) q - q).toNat)), .null, .int (zI (wdO (ltN (txX t) q (leP (txX t) (t 0 3) q - q).toNat))), .int (zI 0)], [], mH h a (up2 (up2 (up2 t 0 8 (leP (txX t) (t 0 3) q)) 0 9 (if wdB (wdO (ltN (txX t) q (leP (txX t) (t 0 3) q - q).toNat)) m then q else -1)) 5 m.toNat (wdO (ltN (txX t) q (leP (txX t) (t 0 3) q - q).toNat)))) := by
    simp (disch := first | omega | assumption) only [e_X8_takeItem, s_X8_takeItem_0, s_X8_takeItem_1, s_X8_takeItem_4, s_X8_takeItem_5, s_X8_takeItem_6, mH_obj ha, m_g0 ha, m_g1 ha, m_g2 ha, m_g3 ha, m_g4 ha, m_g5 ha, m_g6 ha, m_g7 ha, m_g8 ha, m_g9 ha, m_g10 ha, m_g11 ha, m_g12 ha, m_g13 ha, m_g14 ha, m_g15 ha, m_g16 ha, m_g17 ha, m_g18 ha, m_g19 ha, m_g20 ha, m_p3 ha, m_p7 ha, m_p8 ha, m_p9 ha, m_p12 ha, m_p16 ha, m_p17 ha, m_p18 ha, m_p19 ha, m_p20 ha, m_r1 ha, m_r2 ha, m_r3 ha, m_r4 ha, m_r5 ha, m_r6 ha, m_r7 ha, m_r8 ha, m_r9 ha, m_r10 ha, m_r11 ha, m_s1 ha, m_s2 ha, m_s3 ha, m_s4 ha, m_s5 ha, m_s6 ha, m_s7 ha, m_s8 ha, m_s9 ha, m_s10 ha, m_s11 ha, zI_add, zI_sub, zI_mul, zI_neg, zL_add, zL_sub, zL_mul, Option.bind_some, Option.toList_some, Option.toList_none, List.cons_append, List.nil_append, zI_lt, zI_le, zI_eq, zI_eq0, zI_lt0, zI_le0, zI_0lt, zI_0le, bZ_e0, Int.add_zero, Int.zero_add, h8]
    have := l_takeWord (d := d) (from' := q) (l4 := .null) (l5 := .null) ha hx hq0 200 0 (by omega) (by omega)
    rw [show q + ((0 : Nat) : Int) = q by omega, ← h8, up2_id, h8] at this
    refine Eq.trans this ?_
    have e1 : rnF 97 122 (txX t) (t 0 3) 200 q = leP (txX t) (t 0 3) q := rfl
    rw [e1, s_X8_takeItem_89]
    simp (disch := first | omega | assumption) only [s_X8_takeItem_90, s_X8_takeItem_93, mH_obj ha, m_g0 ha, m_g1 ha, m_g2 ha, m_g3 ha, m_g4 ha, m_g5 ha, m_g6 ha, m_g7 ha, m_g8 ha, m_g9 ha, m_g10 ha, m_g11 ha, m_g12 ha, m_g13 ha, m_g14 ha, m_g15 ha, m_g16 ha, m_g17 ha, m_g18 ha, m_g19 ha, m_g20 ha, m_p3 ha, m_p7 ha, m_p8 ha, m_p9 ha, m_p12 ha, m_p16 ha, m_p17 ha, m_p18 ha, m_p19 ha, m_p20 ha, m_r1 ha, m_r2 ha, m_r3 ha, m_r4 ha, m_r5 ha, m_r6 ha, m_r7 ha, m_r8 ha, m_r9 ha, m_r10 ha, m_r11 ha, m_s1 ha, m_s2 ha, m_s3 ha, m_s4 ha, m_s5 ha, m_s6 ha, m_s7 ha, m_s8 ha, m_s9 ha, m_s10 ha, m_s11 ha, zI_add, zI_sub, zI_mul, zI_neg, zL_add, zL_sub, zL_mul, Option.bind_some, Option.toList_some, Option.toList_none, List.cons_append, List.nil_append, zI_lt, zI_le, zI_eq, zI_eq0, zI_lt0, zI_le0, zI_0lt, zI_0le, bZ_e0, Int.add_zero, Int.zero_add, c_wordOf hlr.1 hlr.2]
    rw [g_takeWord ha (wdO_rg _) (m := m) (by rw [up2_n (by omega), h7]) hm0 hm1, up2_n (show ¬ (0 = 0 ∧ 9 = 8) by omega), h9]
  rw [s0]
  unfold itS
  generalize hL : ltN (txX t) q (leP (txX t) (t 0 3) q - q).toNat = L at *
  generalize he : leP (txX t) (t 0 3) q = e at *
  have hwr := wdO_rg L
  generalize hW : wdO L = w at *
  have hnm := nmO_rg w
  by_cases qb : wdB w m
  · rw [if_pos qb, if_pos qb]
    refine ⟨up2 (up2 (up2 (up2 (up2 t 0 8 e) 0 9 q) 5 m.toNat w) 0 8 (e + 1)) 0 7 (m + 1), ?_, ?_, ?_, ?_, ?_⟩
    · exact tkR_t (tkR_t (tkR_t (tkR_t (tkR_u (by omega)) (tkR_u (by omega))) (tkR_u (by omega))) (tkR_u (by omega))) (tkR_u (by omega))
    · intro i hi
      rw [up2_n (by omega), up2_n (by omega), up2_n (by omega), up2_n (by omega), up2_n (by omega)]
    · intro i hi
      rw [up2_n (by omega), up2_n (by omega), up2_n (by omega), up2_n (by omega), up2_n (by omega)]
    · refine ⟨?_, hq0, hq1⟩
      rw [up2_n (by omega), up2_n (by omega), up2_n (by omega), up2_s]
    · rw [s_X8_takeItem_152]
      simp (disch := first | omega | assumption) only [s_X8_takeItem_154, s_X8_takeItem_156, s_X8_takeItem_159, mH_obj ha, m_g0 ha, m_g1 ha, m_g2 ha, m_g3 ha, m_g4 ha, m_g5 ha, m_g6 ha, m_g7 ha, m_g8 ha, m_g9 ha, m_g10 ha, m_g11 ha, m_g12 ha, m_g13 ha, m_g14 ha, m_g15 ha, m_g16 ha, m_g17 ha, m_g18 ha, m_g19 ha, m_g20 ha, m_p3 ha, m_p7 ha, m_p8 ha, m_p9 ha, m_p12 ha, m_p16 ha, m_p17 ha, m_p18 ha, m_p19 ha, m_p20 ha, m_r1 ha, m_r2 ha, m_r3 ha, m_r4 ha, m_r5 ha, m_r6 ha, m_r7 ha, m_r8 ha, m_r9 ha, m_r10 ha, m_r11 ha, m_s1 ha, m_s2 ha, m_s3 ha, m_s4 ha, m_s5 ha, m_s6 ha, m_s7 ha, m_s8 ha, m_s9 ha, m_s10 ha, m_s11 ha, zI_add, zI_sub, zI_mul, zI_neg, zL_add, zL_sub, zL_mul, Option.bind_some, Option.toList_some, Option.toList_none, List.cons_append, List.nil_append, zI_lt, zI_le, zI_eq, zI_eq0, zI_lt0, zI_le0, zI_0lt, zI_0le, bZ_e0, Int.add_zero, Int.zero_add, c_numbersOf]
      rw [if_neg (by omega)]
      simp (disch := first | omega | assumption) only [s_X8_takeItem_162, s_X8_takeItem_163, s_X8_takeItem_166, s_X8_takeItem_167, mH_obj ha, m_g0 ha, m_g1 ha, m_g2 ha, m_g3 ha, m_g4 ha, m_g5 ha, m_g6 ha, m_g7 ha, m_g8 ha, m_g9 ha, m_g10 ha, m_g11 ha, m_g12 ha, m_g13 ha, m_g14 ha, m_g15 ha, m_g16 ha, m_g17 ha, m_g18 ha, m_g19 ha, m_g20 ha, m_p3 ha, m_p7 ha, m_p8 ha, m_p9 ha, m_p12 ha, m_p16 ha, m_p17 ha, m_p18 ha, m_p19 ha, m_p20 ha, m_r1 ha, m_r2 ha, m_r3 ha, m_r4 ha, m_r5 ha, m_r6 ha, m_r7 ha, m_r8 ha, m_r9 ha, m_r10 ha, m_r11 ha, m_s1 ha, m_s2 ha, m_s3 ha, m_s4 ha, m_s5 ha, m_s6 ha, m_s7 ha, m_s8 ha, m_s9 ha, m_s10 ha, m_s11 ha, zI_add, zI_sub, zI_mul, zI_neg, zL_add, zL_sub, zL_mul, Option.bind_some, Option.toList_some, Option.toList_none, List.cons_append, List.nil_append, zI_lt, zI_le, zI_eq, zI_eq0, zI_lt0, zI_le0, zI_0lt, zI_0le, bZ_e0, Int.add_zero, Int.zero_add, up2_s, up2_n]
      rw [if_neg (by omega)]
      simp (disch := first | omega | assumption) only [s_X8_takeItem_194, s_X8_takeItem_195, s_X8_takeItem_198, s_X8_takeItem_199, mH_obj ha, m_g0 ha, m_g1 ha, m_g2 ha, m_g3 ha, m_g4 ha, m_g5 ha, m_g6 ha, m_g7 ha, m_g8 ha, m_g9 ha, m_g10 ha, m_g11 ha, m_g12 ha, m_g13 ha, m_g14 ha, m_g15 ha, m_g16 ha, m_g17 ha, m_g18 ha, m_g19 ha, m_g20 ha, m_p3 ha, m_p7 ha, m_p8 ha, m_p9 ha, m_p12 ha, m_p16 ha, m_p17 ha, m_p18 ha, m_p19 ha, m_p20 ha, m_r1 ha, m_r2 ha, m_r3 ha, m_r4 ha, m_r5 ha, m_r6 ha, m_r7 ha, m_r8 ha, m_r9 ha, m_r10 ha, m_r11 ha, m_s1 ha, m_s2 ha, m_s3 ha, m_s4 ha, m_s5 ha, m_s6 ha, m_s7 ha, m_s8 ha, m_s9 ha, m_s10 ha, m_s11 ha, zI_add, zI_sub, zI_mul, zI_neg, zL_add, zL_sub, zL_mul, Option.bind_some, Option.toList_some, Option.toList_none, List.cons_append, List.nil_append, zI_lt, zI_le, zI_eq, zI_eq0, zI_lt0, zI_le0, zI_0lt, zI_0le, bZ_e0, Int.add_zero, Int.zero_add, up2_s, up2_n]
      rw [if_neg (by omega)]
      simp (disch := first | omega | assumption) only [s_X8_takeItem_231, s_X8_takeItem_232, s_X8_takeItem_233, s_X8_takeItem_236, s_X8_takeItem_237, s_X8_takeItem_238, s_X8_takeItem_241, s_X8_takeItem_242, s_X8_takeItem_243, s_X8_takeItem_246, s_X8_takeItem_247, s_X8_takeItem_248, s_X8_takeItem_251, mH_obj ha, m_g0 ha, m_g1 ha, m_g2 ha, m_g3 ha, m_g4 ha, m_g5 ha, m_g6 ha, m_g7 ha, m_g8 ha, m_g9 ha, m_g10 ha, m_g11 ha, m_g12 ha, m_g13 ha, m_g14 ha, m_g15 ha, m_g16 ha, m_g17 ha, m_g18 ha, m_g19 ha, m_g20 ha, m_p3 ha, m_p7 ha, m_p8 ha, m_p9 ha, m_p12 ha, m_p16 ha, m_p17 ha, m_p18 ha, m_p19 ha, m_p20 ha, m_r1 ha, m_r2 ha, m_r3 ha, m_r4 ha, m_r5 ha, m_r6 ha, m_r7 ha, m_r8 ha, m_r9 ha, m_r10 ha, m_r11 ha, m_s1 ha, m_s2 ha, m_s3 ha, m_s4 ha, m_s5 ha, m_s6 ha, m_s7 ha, m_s8 ha, m_s9 ha, m_s10 ha, m_s11 ha, zI_add, zI_sub, zI_mul, zI_neg, zL_add, zL_sub, zL_mul, Option.bind_some, Option.toList_some, Option.toList_none, List.cons_append, List.nil_append, zI_lt, zI_le, zI_eq, zI_eq0, zI_lt0, zI_le0, zI_0lt, zI_0le, bZ_e0, Int.add_zero, Int.zero_add, up2_s, up2_n, h7]
  · rw [if_neg qb, if_neg qb]
    have hT1 : tkR t (up2 (up2 (up2 t 0 8 e) 0 9 (-1)) 5 m.toNat w) := tkR_t (tkR_t (tkR_u (by omega)) (tkR_u (by omega))) (tkR_u (by omega))
    obtain ⟨T', k', r1, r2, r3, r4, r5, r6⟩ := l_takeNums (d := d) (from' := q) (l2 := .long (zL L)) ha hwr hm0 hm1 hx (nmO w).toNat 0 _ (by omega) hT1 (by rw [up2_n (by omega), up2_s]) (by rw [up2_n (by omega), up2_n (by omega), up2_n (by omega), h7]) (by rw [up2_n (by omega), up2_n (by omega), up2_s]; omega) (by rw [up2_n (by omega), up2_n (by omega), up2_s]; omega)
    rw [up2_n (show ¬ (0 = 5 ∧ 8 = m.toNat) by omega), up2_n (show ¬ (0 = 0 ∧ 8 = 9) by omega), up2_s] at r5
    rw [show zI (0 : Int) = zI ((0 : Nat) : Int) from rfl, r6]
    have v5 : ∀ i : Nat, (i : Int) < m → T' 5 i = t 5 i := fun i hi => by
      rw [r3 i, up2_n (by omega), up2_n (by omega), up2_n (by omega)]
    have v6 : ∀ i : Nat, (i : Int) < 4 * m → T' 6 i = t 6 i := fun i hi => by
      rw [r4 i (by omega), up2_n (by omega), up2_n (by omega), up2_n (by omega)]
    have v5m : T' 5 m.toNat = w := by rw [r3, up2_s]
    generalize nuS (txX t) (t 0 3) (nmO w).toNat e = R at r5
    have hnT := tkR_n r1
    cases R with
    | inl f =>
      obtain ⟨s1, s2, s3⟩ := r5
      refine ⟨up2 (up2 T' 0 8 (T' 0 8 + 1)) 0 7 (m + 1), tkR_t r1 (tkR_t (tkR_u (by omega)) (tkR_u (by omega))), ?_, ?_, ?_, ?_⟩
      · intro i hi
        rw [up2_n (by omega), up2_n (by omega), v5 i hi]
      · intro i hi
        rw [up2_n (by omega), up2_n (by omega), v6 i hi]
      · refine ⟨?_, s2, s3⟩
        rw [up2_n (by omega), up2_n (by omega), s1]
      · simp (disch := first | omega | assumption) only [s_X8_takeItem_194, s_X8_takeItem_195, s_X8_takeItem_198, s_X8_takeItem_199, mH_obj ha, m_g0 ha, m_g1 ha, m_g2 ha, m_g3 ha, m_g4 ha, m_g5 ha, m_g6 ha, m_g7 ha, m_g8 ha, m_g9 ha, m_g10 ha, m_g11 ha, m_g12 ha, m_g13 ha, m_g14 ha, m_g15 ha, m_g16 ha, m_g17 ha, m_g18 ha, m_g19 ha, m_g20 ha, m_p3 ha, m_p7 ha, m_p8 ha, m_p9 ha, m_p12 ha, m_p16 ha, m_p17 ha, m_p18 ha, m_p19 ha, m_p20 ha, m_r1 ha, m_r2 ha, m_r3 ha, m_r4 ha, m_r5 ha, m_r6 ha, m_r7 ha, m_r8 ha, m_r9 ha, m_r10 ha, m_r11 ha, m_s1 ha, m_s2 ha, m_s3 ha, m_s4 ha, m_s5 ha, m_s6 ha, m_s7 ha, m_s8 ha, m_s9 ha, m_s10 ha, m_s11 ha, zI_add, zI_sub, zI_mul, zI_neg, zL_add, zL_sub, zL_mul, Option.bind_some, Option.toList_some, Option.toList_none, List.cons_append, List.nil_append, zI_lt, zI_le, zI_eq, zI_eq0, zI_lt0, zI_le0, zI_0lt, zI_0le, bZ_e0, Int.add_zero, Int.zero_add, s1]
        rw [if_neg (by omega)]
        simp (disch := first | omega | assumption) only [s_X8_takeItem_231, s_X8_takeItem_232, s_X8_takeItem_233, s_X8_takeItem_236, s_X8_takeItem_237, s_X8_takeItem_238, s_X8_takeItem_241, s_X8_takeItem_242, s_X8_takeItem_243, s_X8_takeItem_246, s_X8_takeItem_247, s_X8_takeItem_248, s_X8_takeItem_251, mH_obj ha, m_g0 ha, m_g1 ha, m_g2 ha, m_g3 ha, m_g4 ha, m_g5 ha, m_g6 ha, m_g7 ha, m_g8 ha, m_g9 ha, m_g10 ha, m_g11 ha, m_g12 ha, m_g13 ha, m_g14 ha, m_g15 ha, m_g16 ha, m_g17 ha, m_g18 ha, m_g19 ha, m_g20 ha, m_p3 ha, m_p7 ha, m_p8 ha, m_p9 ha, m_p12 ha, m_p16 ha, m_p17 ha, m_p18 ha, m_p19 ha, m_p20 ha, m_r1 ha, m_r2 ha, m_r3 ha, m_r4 ha, m_r5 ha, m_r6 ha, m_r7 ha, m_r8 ha, m_r9 ha, m_r10 ha, m_r11 ha, m_s1 ha, m_s2 ha, m_s3 ha, m_s4 ha, m_s5 ha, m_s6 ha, m_s7 ha, m_s8 ha, m_s9 ha, m_s10 ha, m_s11 ha, zI_add, zI_sub, zI_mul, zI_neg, zL_add, zL_sub, zL_mul, Option.bind_some, Option.toList_some, Option.toList_none, List.cons_append, List.nil_append, zI_lt, zI_le, zI_eq, zI_eq0, zI_lt0, zI_le0, zI_0lt, zI_0le, bZ_e0, Int.add_zero, Int.zero_add, up2_s, up2_n, r2]
    | inr c =>
      obtain ⟨l, p⟩ := c
      obtain ⟨s1, s2, s3, s4, s5, s6⟩ := r5
      have hsk := skP_rg (x := txX t) s4
      have c1 : x_ev (d + 2, n_X8_takeItem, 194, [.ref a, .int (zI q), .long (zL L), .null, .int (zI w), k'], [], mH h a T') = (if skP (txX t) (t 0 3) p = t 0 3 ∨ txX t (skP (txX t) (t 0 3) p) ≠ 59 then x_ev (d + 2, n_X8_takeItem, 231, [.ref a, .int (zI q), .long (zL L), .null, .int (zI w), k'], [], mH h a (up2 (up2 T' 0 8 (skP (txX t) (t 0 3) p)) 0 9 (skP (txX t) (t 0 3) p))) else x_ev (d + 2, n_X8_takeItem, 231, [.ref a, .int (zI q), .long (zL L), .null, .int (zI w), k'], [], mH h a (up2 T' 0 8 (skP (txX t) (t 0 3) p)))) := by
        have e3 := c_isEnd (d := d + 1) (h := h) ha (tkR_ok r1 hx) (by omega) (by omega)
        rw [tkR_x r1, hnT, s2] at e3
        simp (disch := first | omega | assumption) only [s_X8_takeItem_194, s_X8_takeItem_195, s_X8_takeItem_198, s_X8_takeItem_199, s_X8_takeItem_202, s_X8_takeItem_203, s_X8_takeItem_206, mH_obj ha, m_g0 ha, m_g1 ha, m_g2 ha, m_g3 ha, m_g4 ha, m_g5 ha, m_g6 ha, m_g7 ha, m_g8 ha, m_g9 ha, m_g10 ha, m_g11 ha, m_g12 ha, m_g13 ha, m_g14 ha, m_g15 ha, m_g16 ha, m_g17 ha, m_g18 ha, m_g19 ha, m_g20 ha, m_p3 ha, m_p7 ha, m_p8 ha, m_p9 ha, m_p12 ha, m_p16 ha, m_p17 ha, m_p18 ha, m_p19 ha, m_p20 ha, m_r1 ha, m_r2 ha, m_r3 ha, m_r4 ha, m_r5 ha, m_r6 ha, m_r7 ha, m_r8 ha, m_r9 ha, m_r10 ha, m_r11 ha, m_s1 ha, m_s2 ha, m_s3 ha, m_s4 ha, m_s5 ha, m_s6 ha, m_s7 ha, m_s8 ha, m_s9 ha, m_s10 ha, m_s11 ha, zI_add, zI_sub, zI_mul, zI_neg, zL_add, zL_sub, zL_mul, Option.bind_some, Option.toList_some, Option.toList_none, List.cons_append, List.nil_append, zI_lt, zI_le, zI_eq, zI_eq0, zI_lt0, zI_le0, zI_0lt, zI_0le, bZ_e0, Int.add_zero, Int.zero_add, s1, e3, if_true]
        by_cases z1 : skP (txX t) (t 0 3) p = t 0 3
        · rw [if_neg (fun z => z z1), if_pos (Or.inl z1)]
          simp (disch := first | omega | assumption) only [s_X8_takeItem_223, s_X8_takeItem_224, s_X8_takeItem_225, s_X8_takeItem_228, mH_obj ha, m_g0 ha, m_g1 ha, m_g2 ha, m_g3 ha, m_g4 ha, m_g5 ha, m_g6 ha, m_g7 ha, m_g8 ha, m_g9 ha, m_g10 ha, m_g11 ha, m_g12 ha, m_g13 ha, m_g14 ha, m_g15 ha, m_g16 ha, m_g17 ha, m_g18 ha, m_g19 ha, m_g20 ha, m_p3 ha, m_p7 ha, m_p8 ha, m_p9 ha, m_p12 ha, m_p16 ha, m_p17 ha, m_p18 ha, m_p19 ha, m_p20 ha, m_r1 ha, m_r2 ha, m_r3 ha, m_r4 ha, m_r5 ha, m_r6 ha, m_r7 ha, m_r8 ha, m_r9 ha, m_r10 ha, m_r11 ha, m_s1 ha, m_s2 ha, m_s3 ha, m_s4 ha, m_s5 ha, m_s6 ha, m_s7 ha, m_s8 ha, m_s9 ha, m_s10 ha, m_s11 ha, zI_add, zI_sub, zI_mul, zI_neg, zL_add, zL_sub, zL_mul, Option.bind_some, Option.toList_some, Option.toList_none, List.cons_append, List.nil_append, zI_lt, zI_le, zI_eq, zI_eq0, zI_lt0, zI_le0, zI_0lt, zI_0le, bZ_e0, Int.add_zero, Int.zero_add, up2_s, up2_n]
        · rw [if_pos z1]
          have b1 := hb (skP (txX t) (t 0 3) p).toNat
          have b2 : T' 3 (skP (txX t) (t 0 3) p).toNat = t 3 (skP (txX t) (t 0 3) p).toNat := r1 3 _ (by omega) (by omega) (by omega)
          simp (disch := first | omega | assumption) only [s_X8_takeItem_209, s_X8_takeItem_210, s_X8_takeItem_213, s_X8_takeItem_214, s_X8_takeItem_217, s_X8_takeItem_218, s_X8_takeItem_220, mH_obj ha, m_g0 ha, m_g1 ha, m_g2 ha, m_g3 ha, m_g4 ha, m_g5 ha, m_g6 ha, m_g7 ha, m_g8 ha, m_g9 ha, m_g10 ha, m_g11 ha, m_g12 ha, m_g13 ha, m_g14 ha, m_g15 ha, m_g16 ha, m_g17 ha, m_g18 ha, m_g19 ha, m_g20 ha, m_p3 ha, m_p7 ha, m_p8 ha, m_p9 ha, m_p12 ha, m_p16 ha, m_p17 ha, m_p18 ha, m_p19 ha, m_p20 ha, m_r1 ha, m_r2 ha, m_r3 ha, m_r4 ha, m_r5 ha, m_r6 ha, m_r7 ha, m_r8 ha, m_r9 ha, m_r10 ha, m_r11 ha, m_s1 ha, m_s2 ha, m_s3 ha, m_s4 ha, m_s5 ha, m_s6 ha, m_s7 ha, m_s8 ha, m_s9 ha, m_s10 ha, m_s11 ha, zI_add, zI_sub, zI_mul, zI_neg, zL_add, zL_sub, zL_mul, Option.bind_some, Option.toList_some, Option.toList_none, List.cons_append, List.nil_append, zI_lt, zI_le, zI_eq, zI_eq0, zI_lt0, zI_le0, zI_0lt, zI_0le, bZ_e0, Int.add_zero, Int.zero_add, up2_s, up2_n, b2]
          by_cases z2 : t 3 (skP (txX t) (t 0 3) p).toNat = 59
          · have z3 : ¬ (skP (txX t) (t 0 3) p = t 0 3 ∨ txX t (skP (txX t) (t 0 3) p) ≠ 59) := fun z => z.elim z1 fun y => y z2
            rw [if_pos z2, if_neg z3]
          · have z3 : skP (txX t) (t 0 3) p = t 0 3 ∨ txX t (skP (txX t) (t 0 3) p) ≠ 59 := Or.inr z2
            rw [if_neg z2, if_pos z3]
            simp (disch := first | omega | assumption) only [s_X8_takeItem_223, s_X8_takeItem_224, s_X8_takeItem_225, s_X8_takeItem_228, mH_obj ha, m_g0 ha, m_g1 ha, m_g2 ha, m_g3 ha, m_g4 ha, m_g5 ha, m_g6 ha, m_g7 ha, m_g8 ha, m_g9 ha, m_g10 ha, m_g11 ha, m_g12 ha, m_g13 ha, m_g14 ha, m_g15 ha, m_g16 ha, m_g17 ha, m_g18 ha, m_g19 ha, m_g20 ha, m_p3 ha, m_p7 ha, m_p8 ha, m_p9 ha, m_p12 ha, m_p16 ha, m_p17 ha, m_p18 ha, m_p19 ha, m_p20 ha, m_r1 ha, m_r2 ha, m_r3 ha, m_r4 ha, m_r5 ha, m_r6 ha, m_r7 ha, m_r8 ha, m_r9 ha, m_r10 ha, m_r11 ha, m_s1 ha, m_s2 ha, m_s3 ha, m_s4 ha, m_s5 ha, m_s6 ha, m_s7 ha, m_s8 ha, m_s9 ha, m_s10 ha, m_s11 ha, zI_add, zI_sub, zI_mul, zI_neg, zL_add, zL_sub, zL_mul, Option.bind_some, Option.toList_some, Option.toList_none, List.cons_append, List.nil_append, zI_lt, zI_le, zI_eq, zI_eq0, zI_lt0, zI_le0, zI_0lt, zI_0le, bZ_e0, Int.add_zero, Int.zero_add, up2_s, up2_n]
      by_cases z : skP (txX t) (t 0 3) p = t 0 3 ∨ txX t (skP (txX t) (t 0 3) p) ≠ 59
      · rw [if_pos z] at c1
        refine ⟨up2 (up2 (up2 (up2 T' 0 8 (skP (txX t) (t 0 3) p)) 0 9 (skP (txX t) (t 0 3) p)) 0 8 (skP (txX t) (t 0 3) p + 1)) 0 7 (m + 1), tkR_t r1 (tkR_t (tkR_t (tkR_t (tkR_u (by omega)) (tkR_u (by omega))) (tkR_u (by omega))) (tkR_u (by omega))), ?_, ?_, ?_, ?_⟩
        · intro i hi
          rw [up2_n (by omega), up2_n (by omega), up2_n (by omega), up2_n (by omega), v5 i hi]
        · intro i hi
          rw [up2_n (by omega), up2_n (by omega), up2_n (by omega), up2_n (by omega), v6 i hi]
        · dsimp only
          rw [if_pos z]
          refine ⟨?_, by omega, by omega⟩
          rw [up2_n (by omega), up2_n (by omega), up2_s]
        · rw [c1]
          simp (disch := first | omega | assumption) only [s_X8_takeItem_231, s_X8_takeItem_232, s_X8_takeItem_233, s_X8_takeItem_236, s_X8_takeItem_237, s_X8_takeItem_238, s_X8_takeItem_241, s_X8_takeItem_242, s_X8_takeItem_243, s_X8_takeItem_246, s_X8_takeItem_247, s_X8_takeItem_248, s_X8_takeItem_251, mH_obj ha, m_g0 ha, m_g1 ha, m_g2 ha, m_g3 ha, m_g4 ha, m_g5 ha, m_g6 ha, m_g7 ha, m_g8 ha, m_g9 ha, m_g10 ha, m_g11 ha, m_g12 ha, m_g13 ha, m_g14 ha, m_g15 ha, m_g16 ha, m_g17 ha, m_g18 ha, m_g19 ha, m_g20 ha, m_p3 ha, m_p7 ha, m_p8 ha, m_p9 ha, m_p12 ha, m_p16 ha, m_p17 ha, m_p18 ha, m_p19 ha, m_p20 ha, m_r1 ha, m_r2 ha, m_r3 ha, m_r4 ha, m_r5 ha, m_r6 ha, m_r7 ha, m_r8 ha, m_r9 ha, m_r10 ha, m_r11 ha, m_s1 ha, m_s2 ha, m_s3 ha, m_s4 ha, m_s5 ha, m_s6 ha, m_s7 ha, m_s8 ha, m_s9 ha, m_s10 ha, m_s11 ha, zI_add, zI_sub, zI_mul, zI_neg, zL_add, zL_sub, zL_mul, Option.bind_some, Option.toList_some, Option.toList_none, List.cons_append, List.nil_append, zI_lt, zI_le, zI_eq, zI_eq0, zI_lt0, zI_le0, zI_0lt, zI_0le, bZ_e0, Int.add_zero, Int.zero_add, up2_s, up2_n, r2]
      · rw [if_neg z] at c1
        refine ⟨up2 (up2 T' 0 8 (skP (txX t) (t 0 3) p + 1)) 0 7 (m + 1), tkR_t r1 (tkR_t (tkR_u (by omega)) (tkR_u (by omega))), ?_, ?_, ?_, ?_⟩
        · intro i hi
          rw [up2_n (by omega), up2_n (by omega), v5 i hi]
        · intro i hi
          rw [up2_n (by omega), up2_n (by omega), v6 i hi]
        · dsimp only
          rw [if_neg z]
          have hlt : skP (txX t) (t 0 3) p < t 0 3 := by omega
          refine ⟨?_, ?_, by omega, by omega, up2_s, ?_, by omega, by omega, by omega, fun i hi => ?_⟩
          · rw [up2_n (by omega), up2_n (by omega), s1]
          · rw [up2_n (by omega), up2_s]
          · rw [up2_n (by omega), up2_n (by omega), v5m]
          · have := s6 i (by omega)
            rw [up2_n (by omega), up2_n (by omega), ← this]
            congr 1
            omega
        · rw [c1]
          simp (disch := first | omega | assumption) only [s_X8_takeItem_231, s_X8_takeItem_232, s_X8_takeItem_233, s_X8_takeItem_236, s_X8_takeItem_237, s_X8_takeItem_238, s_X8_takeItem_241, s_X8_takeItem_242, s_X8_takeItem_243, s_X8_takeItem_246, s_X8_takeItem_247, s_X8_takeItem_248, s_X8_takeItem_251, mH_obj ha, m_g0 ha, m_g1 ha, m_g2 ha, m_g3 ha, m_g4 ha, m_g5 ha, m_g6 ha, m_g7 ha, m_g8 ha, m_g9 ha, m_g10 ha, m_g11 ha, m_g12 ha, m_g13 ha, m_g14 ha, m_g15 ha, m_g16 ha, m_g17 ha, m_g18 ha, m_g19 ha, m_g20 ha, m_p3 ha, m_p7 ha, m_p8 ha, m_p9 ha, m_p12 ha, m_p16 ha, m_p17 ha, m_p18 ha, m_p19 ha, m_p20 ha, m_r1 ha, m_r2 ha, m_r3 ha, m_r4 ha, m_r5 ha, m_r6 ha, m_r7 ha, m_r8 ha, m_r9 ha, m_r10 ha, m_r11 ha, m_s1 ha, m_s2 ha, m_s3 ha, m_s4 ha, m_s5 ha, m_s6 ha, m_s7 ha, m_s8 ha, m_s9 ha, m_s10 ha, m_s11 ha, zI_add, zI_sub, zI_mul, zI_neg, zL_add, zL_sub, zL_mul, Option.bind_some, Option.toList_some, Option.toList_none, List.cons_append, List.nil_append, zI_lt, zI_le, zI_eq, zI_eq0, zI_lt0, zI_le0, zI_0lt, zI_0le, bZ_e0, Int.add_zero, Int.zero_add, up2_s, up2_n, r2, up2_2]
end

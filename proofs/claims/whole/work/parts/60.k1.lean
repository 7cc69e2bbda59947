/-! THE COMPONENT, part 1: a hall's cells hold a hall's row; small questions, setters -/
section
variable {h : xH} {G : Nat → Nat → Int} {d o : Nat} {g : Nat → Int}
/-- who read by light, as bits -/
def liR (x : Int) (n : Int) (f : Nat → Int) : Prop := ∀ k : Nat, k < 32 → hasB x k = decide (k < 5 ∧ (k : Int) < n ∧ f k = 1)
def rdR' (G : Nat → Nat → Int) (o : Nat) (g : Nat → Int) (p : Nat) : Prop := G (o + 10 + p) 0 = g (6 + p) ∧ G (o + 10 + p) 1 = g (11 + p) ∧ G (o + 10 + p) 2 = g (16 + p) ∧ G (o + 10 + p) 3 = g (21 + p) ∧ G (o + 10 + p) 4 = g (26 + p) ∧ G (o + 10 + p) 5 = g (41 + p) ∧ G (o + 3) p = g (31 + p)
def mnR (G : Nat → Nat → Int) (o : Nat) (g : Nat → Int) (m : Nat) : Prop := G (o + 5) m = g (47 + 12 * m) ∧ G (o + 6) m = g (48 + 12 * m) ∧ liR (G (o + 7) m) (g 5) (fun k => g (54 + 12 * m + k)) ∧ ∀ p : Nat, p < 5 → (p : Int) < g 5 → G (o + 8) (5 * m + p) = g (49 + 12 * m + p)
def hR (G : Nat → Nat → Int) (o : Nat) (g : Nat → Int) : Prop := G o 4 = g 0 ∧ G o 5 = g 1 ∧ G o 6 = g 0 * g 1 ∧ G o 7 = g 2 ∧ G o 8 = g 3 ∧ G o 9 = g 5 ∧ G o 10 = g 4 ∧ (∀ p : Nat, p < 5 → (p : Int) < g 5 → rdR' G o g p) ∧ liR (G (o + 2) 1) (g 5) (fun k => g (36 + k)) ∧ G (o + 4) 4 = g 46 ∧ ∀ m : Nat, m < 12 → (m : Int) < g 46 → mnR G o g m
theorem k_hasSquare {q : Int} (hh : 91 ≤ h.1) (hO : isH o) (hr : hR G o g) (hv : vI g) (h1 : -2147483648 ≤ q) (h2 : q < 2147483648) : x_cl d n_X2_hasSquare [.ref o, .int (zI q)] (cH h G) = some (some (.int (zI (bZ (0 ≤ q ∧ q < g 0 * g 1)))), cH h G) := by
  have hq := vI_sq hv
  have e6 := hr.2.2.1
  simp (disch := first | omega | assumption) only [e_X2_hasSquare, s_X2_hasSquare_0, s_X2_hasSquare_1, s_X2_hasSquare_4, s_X2_hasSquare_5, s_X2_hasSquare_6, s_X2_hasSquare_9, s_X2_hasSquare_12, s_X2_hasSquare_13, s_X2_hasSquare_16, s_X2_hasSquare_17_0, s_X2_hasSquare_17_1, s_X2_hasSquare_17_b, c_ho hh hO, c_hg0 hh hO, c_hg1 hh hO, c_hg2 hh hO, c_hg3 hh hO, c_hg4 hh hO, c_hg5 hh hO, c_hg6 hh hO, c_hg7 hh hO, c_hg8 hh hO, c_hg9 hh hO, c_hg10 hh hO, c_hq hh hO, c_hbg0 hh hO, c_hbg1 hh hO, c_hbo hh hO, c_hno hh hO, c_hng0 hh hO, c_hng1 hh hO, c_hng2 hh hO, c_hng3 hh hO, c_hng4 hh hO, c_hdo hh hO, c_hdg0 hh hO, c_hdg1 hh hO, c_hdg2 hh hO, c_hdg3 hh hO, c_hdg4 hh hO, c_hdg5 hh hO, c_hp4 hh hO, c_hp5 hh hO, c_hp6 hh hO, c_hp7 hh hO, c_hp8 hh hO, c_hp9 hh hO, c_hp10 hh hO, c_hbp hh hO, c_hnp hh hO, c_hdp0 hh hO, c_hdp1 hh hO, c_hdp2 hh hO, c_hdp3 hh hO, c_hdp4 hh hO, c_hdp5 hh hO, c_hr3 hh hO, c_hr5 hh hO, c_hr6 hh hO, c_hr7 hh hO, c_hr8 hh hO, c_hr9 hh hO, c_hs3 hh hO, c_hs5 hh hO, c_hs6 hh hO, c_hs7 hh hO, c_hs8 hh hO, c_hs9 hh hO, zI_add, zI_sub, zI_mul, zI_neg, zL_add, zL_sub, zL_mul, Option.bind_some, Option.toList_some, Option.toList_none, List.cons_append, List.nil_append, zI_lt, zI_le, zI_eq, zI_eq0, zI_lt0, zI_le0, zI_0lt, zI_0le, bZ_e0, Int.add_zero, Int.zero_add, e6]
  by_cases q1 : ¬ q < 0
  · rw [if_neg q1]
    by_cases q2 : g 0 * g 1 ≤ q
    · rw [if_pos q2, bZ_f (by omega)]
    · rw [if_neg q2, bZ_t (by omega)]
  · rw [if_pos (Classical.not_not.mp q1), bZ_f (by omega)]
theorem k_hasReader {q : Int} (hh : 91 ≤ h.1) (hO : isH o) (hr : hR G o g) (hv : vI g) (h1 : -2147483648 ≤ q) (h2 : q < 2147483648) : x_cl d n_X2_hasReader [.ref o, .int (zI q)] (cH h G) = some (some (.int (zI (bZ (0 ≤ q ∧ q < g 5)))), cH h G) := by
  have hq := hv.2.2.2.2.2.2.1
  have e9 := hr.2.2.2.2.2.1
  simp (disch := first | omega | assumption) only [e_X2_hasReader, s_X2_hasReader_0, s_X2_hasReader_1, s_X2_hasReader_4, s_X2_hasReader_5, s_X2_hasReader_6, s_X2_hasReader_9, s_X2_hasReader_12, s_X2_hasReader_13, s_X2_hasReader_16, s_X2_hasReader_17_0, s_X2_hasReader_17_1, s_X2_hasReader_17_b, c_ho hh hO, c_hg0 hh hO, c_hg1 hh hO, c_hg2 hh hO, c_hg3 hh hO, c_hg4 hh hO, c_hg5 hh hO, c_hg6 hh hO, c_hg7 hh hO, c_hg8 hh hO, c_hg9 hh hO, c_hg10 hh hO, c_hq hh hO, c_hbg0 hh hO, c_hbg1 hh hO, c_hbo hh hO, c_hno hh hO, c_hng0 hh hO, c_hng1 hh hO, c_hng2 hh hO, c_hng3 hh hO, c_hng4 hh hO, c_hdo hh hO, c_hdg0 hh hO, c_hdg1 hh hO, c_hdg2 hh hO, c_hdg3 hh hO, c_hdg4 hh hO, c_hdg5 hh hO, c_hp4 hh hO, c_hp5 hh hO, c_hp6 hh hO, c_hp7 hh hO, c_hp8 hh hO, c_hp9 hh hO, c_hp10 hh hO, c_hbp hh hO, c_hnp hh hO, c_hdp0 hh hO, c_hdp1 hh hO, c_hdp2 hh hO, c_hdp3 hh hO, c_hdp4 hh hO, c_hdp5 hh hO, c_hr3 hh hO, c_hr5 hh hO, c_hr6 hh hO, c_hr7 hh hO, c_hr8 hh hO, c_hr9 hh hO, c_hs3 hh hO, c_hs5 hh hO, c_hs6 hh hO, c_hs7 hh hO, c_hs8 hh hO, c_hs9 hh hO, zI_add, zI_sub, zI_mul, zI_neg, zL_add, zL_sub, zL_mul, Option.bind_some, Option.toList_some, Option.toList_none, List.cons_append, List.nil_append, zI_lt, zI_le, zI_eq, zI_eq0, zI_lt0, zI_le0, zI_0lt, zI_0le, bZ_e0, Int.add_zero, Int.zero_add, e9]
  by_cases q1 : ¬ q < 0
  · rw [if_neg q1]
    by_cases q2 : g 5 ≤ q
    · rw [if_pos q2, bZ_f (by omega)]
    · rw [if_neg q2, bZ_t (by omega)]
  · rw [if_pos (Classical.not_not.mp q1), bZ_f (by omega)]
def shP (g : Nat → Int) (q : Int) : Prop := (0 ≤ q ∧ q < g 0 * g 1) ∧ hasB (g 4) q = true
theorem k_hasShelf {q : Int} (hh : 91 ≤ h.1) (hO : isH o) (hr : hR G o g) (hv : vI g) (h1 : -2147483648 ≤ q) (h2 : q < 2147483648) : x_cl d n_X2_hasShelf [.ref o, .int (zI q)] (cH h G) = some (some (.int (zI (bZ ((0 ≤ q ∧ q < g 0 * g 1) ∧ hasB (g 4) q = true)))), cH h G) := by
  have hq := vI_sq hv
  have e6 := hr.2.2.1
  have e10 := hr.2.2.2.2.2.2.1
  simp (disch := first | omega | assumption) only [e_X2_hasShelf, s_X2_hasShelf_0, s_X2_hasShelf_1, s_X2_hasShelf_4, s_X2_hasShelf_5, s_X2_hasShelf_6, s_X2_hasShelf_9, s_X2_hasShelf_12, s_X2_hasShelf_13, s_X2_hasShelf_16, s_X2_hasShelf_17, s_X2_hasShelf_18, s_X2_hasShelf_19, s_X2_hasShelf_20, s_X2_hasShelf_21, s_X2_hasShelf_24, s_X2_hasShelf_25, s_X2_hasShelf_28, s_X2_hasShelf_29_0, s_X2_hasShelf_29_1, s_X2_hasShelf_29_b, c_ho hh hO, c_hg0 hh hO, c_hg1 hh hO, c_hg2 hh hO, c_hg3 hh hO, c_hg4 hh hO, c_hg5 hh hO, c_hg6 hh hO, c_hg7 hh hO, c_hg8 hh hO, c_hg9 hh hO, c_hg10 hh hO, c_hq hh hO, c_hbg0 hh hO, c_hbg1 hh hO, c_hbo hh hO, c_hno hh hO, c_hng0 hh hO, c_hng1 hh hO, c_hng2 hh hO, c_hng3 hh hO, c_hng4 hh hO, c_hdo hh hO, c_hdg0 hh hO, c_hdg1 hh hO, c_hdg2 hh hO, c_hdg3 hh hO, c_hdg4 hh hO, c_hdg5 hh hO, c_hp4 hh hO, c_hp5 hh hO, c_hp6 hh hO, c_hp7 hh hO, c_hp8 hh hO, c_hp9 hh hO, c_hp10 hh hO, c_hbp hh hO, c_hnp hh hO, c_hdp0 hh hO, c_hdp1 hh hO, c_hdp2 hh hO, c_hdp3 hh hO, c_hdp4 hh hO, c_hdp5 hh hO, c_hr3 hh hO, c_hr5 hh hO, c_hr6 hh hO, c_hr7 hh hO, c_hr8 hh hO, c_hr9 hh hO, c_hs3 hh hO, c_hs5 hh hO, c_hs6 hh hO, c_hs7 hh hO, c_hs8 hh hO, c_hs9 hh hO, zI_add, zI_sub, zI_mul, zI_neg, zL_add, zL_sub, zL_mul, Option.bind_some, Option.toList_some, Option.toList_none, List.cons_append, List.nil_append, zI_lt, zI_le, zI_eq, zI_eq0, zI_lt0, zI_le0, zI_0lt, zI_0le, bZ_e0, Int.add_zero, Int.zero_add, e6, e10]
  by_cases q1 : ¬ q < 0
  · rw [if_neg q1]
    by_cases q2 : g 0 * g 1 ≤ q
    · rw [if_pos q2, bZ_f (by omega)]
    · rw [if_neg q2]
      by_cases q3 : (zI (g 4) >>> (zI q &&& 31)) &&& zI 1 = zI 1
      · rw [if_pos q3, bZ_t ⟨⟨by omega, by omega⟩, decide_eq_true q3⟩]
      · rw [if_neg q3, bZ_f (fun z => q3 (of_decide_eq_true z.2))]
  · rw [if_pos (Classical.not_not.mp q1), bZ_f (by omega)]
theorem k_isOpen {q : Int} (hh : 91 ≤ h.1) (hO : isH o) (hr : hR G o g) (hv : vI g) (h1 : -2147483648 ≤ q) (h2 : q < 2147483648) : x_cl (d + 1) n_X2_isOpen [.ref o, .int (zI q)] (cH h G) = some (some (.int (zI (bZ ((0 ≤ q ∧ q < g 0 * g 1) ∧ hasB (g 4) q = false)))), cH h G) := by
  have hq := vI_sq hv
  have e6 := hr.2.2.1
  simp (disch := first | omega | assumption) only [e_X2_isOpen, s_X2_isOpen_0, s_X2_isOpen_1, s_X2_isOpen_4, s_X2_isOpen_5, s_X2_isOpen_6, s_X2_isOpen_9, s_X2_isOpen_12, s_X2_isOpen_13, s_X2_isOpen_14, s_X2_isOpen_17, s_X2_isOpen_20, s_X2_isOpen_21, s_X2_isOpen_24, s_X2_isOpen_25_0, s_X2_isOpen_25_1, s_X2_isOpen_25_b, c_ho hh hO, c_hg0 hh hO, c_hg1 hh hO, c_hg2 hh hO, c_hg3 hh hO, c_hg4 hh hO, c_hg5 hh hO, c_hg6 hh hO, c_hg7 hh hO, c_hg8 hh hO, c_hg9 hh hO, c_hg10 hh hO, c_hq hh hO, c_hbg0 hh hO, c_hbg1 hh hO, c_hbo hh hO, c_hno hh hO, c_hng0 hh hO, c_hng1 hh hO, c_hng2 hh hO, c_hng3 hh hO, c_hng4 hh hO, c_hdo hh hO, c_hdg0 hh hO, c_hdg1 hh hO, c_hdg2 hh hO, c_hdg3 hh hO, c_hdg4 hh hO, c_hdg5 hh hO, c_hp4 hh hO, c_hp5 hh hO, c_hp6 hh hO, c_hp7 hh hO, c_hp8 hh hO, c_hp9 hh hO, c_hp10 hh hO, c_hbp hh hO, c_hnp hh hO, c_hdp0 hh hO, c_hdp1 hh hO, c_hdp2 hh hO, c_hdp3 hh hO, c_hdp4 hh hO, c_hdp5 hh hO, c_hr3 hh hO, c_hr5 hh hO, c_hr6 hh hO, c_hr7 hh hO, c_hr8 hh hO, c_hr9 hh hO, c_hs3 hh hO, c_hs5 hh hO, c_hs6 hh hO, c_hs7 hh hO, c_hs8 hh hO, c_hs9 hh hO, zI_add, zI_sub, zI_mul, zI_neg, zL_add, zL_sub, zL_mul, Option.bind_some, Option.toList_some, Option.toList_none, List.cons_append, List.nil_append, zI_lt, zI_le, zI_eq, zI_eq0, zI_lt0, zI_le0, zI_0lt, zI_0le, bZ_e0, Int.add_zero, Int.zero_add, e6, k_hasShelf hh hO hr hv]
  by_cases q1 : ¬ q < 0
  · rw [if_neg q1]
    by_cases q2 : g 0 * g 1 ≤ q
    · rw [if_pos q2, bZ_f (by omega)]
    · rw [if_neg q2]
      by_cases q3 : hasB (g 4) q = true
      · rw [if_neg (fun z => z ⟨⟨by omega, by omega⟩, q3⟩), bZ_f (fun z => by rw [z.2] at q3; exact absurd q3 (by decide))]
      · rw [if_pos (fun z => q3 z.2), bZ_t ⟨⟨by omega, by omega⟩, Bool.eq_false_iff.mpr q3⟩]
  · rw [if_pos (Classical.not_not.mp q1), bZ_f (by omega)]
def raG (g : Nat → Int) (q : Int) : Nat → Int → Int
  | 0, _ => -1
  | n + 1, p => if g (6 + p.toNat) = q then p else raG g q n (p + 1)
theorem l_readerAt {q : Int} (hh : 91 ≤ h.1) (hO : isH o) (hr : hR G o g) (hv : vI g) (h1 : -2147483648 ≤ q) (h2 : q < 2147483648) : ∀ (n : Nat) (p : Int), p + n = g 5 → 0 ≤ p → x_ev (d, n_X2_readerAt, 2, [.ref o, .int (zI q), .int (zI p)], [], cH h G) = some (some (.int (zI (raG g q n p))), cH h G) := by
  have h5 := hv.2.2.2.2.2.2.1
  have hq := vI_sq hv
  have e9 := hr.2.2.2.2.2.1
  intro n
  induction n with
  | zero =>
    intro p hp h0
    rw [s_X2_readerAt_2]
    simp (disch := first | omega | assumption) only [s_X2_readerAt_3, s_X2_readerAt_4, s_X2_readerAt_7, c_ho hh hO, c_hg0 hh hO, c_hg1 hh hO, c_hg2 hh hO, c_hg3 hh hO, c_hg4 hh hO, c_hg5 hh hO, c_hg6 hh hO, c_hg7 hh hO, c_hg8 hh hO, c_hg9 hh hO, c_hg10 hh hO, c_hq hh hO, c_hbg0 hh hO, c_hbg1 hh hO, c_hbo hh hO, c_hno hh hO, c_hng0 hh hO, c_hng1 hh hO, c_hng2 hh hO, c_hng3 hh hO, c_hng4 hh hO, c_hdo hh hO, c_hdg0 hh hO, c_hdg1 hh hO, c_hdg2 hh hO, c_hdg3 hh hO, c_hdg4 hh hO, c_hdg5 hh hO, c_hp4 hh hO, c_hp5 hh hO, c_hp6 hh hO, c_hp7 hh hO, c_hp8 hh hO, c_hp9 hh hO, c_hp10 hh hO, c_hbp hh hO, c_hnp hh hO, c_hdp0 hh hO, c_hdp1 hh hO, c_hdp2 hh hO, c_hdp3 hh hO, c_hdp4 hh hO, c_hdp5 hh hO, c_hr3 hh hO, c_hr5 hh hO, c_hr6 hh hO, c_hr7 hh hO, c_hr8 hh hO, c_hr9 hh hO, c_hs3 hh hO, c_hs5 hh hO, c_hs6 hh hO, c_hs7 hh hO, c_hs8 hh hO, c_hs9 hh hO, zI_add, zI_sub, zI_mul, zI_neg, zL_add, zL_sub, zL_mul, Option.bind_some, Option.toList_some, Option.toList_none, List.cons_append, List.nil_append, zI_lt, zI_le, zI_eq, zI_eq0, zI_lt0, zI_le0, zI_0lt, zI_0le, bZ_e0, Int.add_zero, Int.zero_add, e9]
    rw [if_pos (by omega)]
    simp (disch := first | omega | assumption) only [s_X2_readerAt_31, s_X2_readerAt_32, c_ho hh hO, c_hg0 hh hO, c_hg1 hh hO, c_hg2 hh hO, c_hg3 hh hO, c_hg4 hh hO, c_hg5 hh hO, c_hg6 hh hO, c_hg7 hh hO, c_hg8 hh hO, c_hg9 hh hO, c_hg10 hh hO, c_hq hh hO, c_hbg0 hh hO, c_hbg1 hh hO, c_hbo hh hO, c_hno hh hO, c_hng0 hh hO, c_hng1 hh hO, c_hng2 hh hO, c_hng3 hh hO, c_hng4 hh hO, c_hdo hh hO, c_hdg0 hh hO, c_hdg1 hh hO, c_hdg2 hh hO, c_hdg3 hh hO, c_hdg4 hh hO, c_hdg5 hh hO, c_hp4 hh hO, c_hp5 hh hO, c_hp6 hh hO, c_hp7 hh hO, c_hp8 hh hO, c_hp9 hh hO, c_hp10 hh hO, c_hbp hh hO, c_hnp hh hO, c_hdp0 hh hO, c_hdp1 hh hO, c_hdp2 hh hO, c_hdp3 hh hO, c_hdp4 hh hO, c_hdp5 hh hO, c_hr3 hh hO, c_hr5 hh hO, c_hr6 hh hO, c_hr7 hh hO, c_hr8 hh hO, c_hr9 hh hO, c_hs3 hh hO, c_hs5 hh hO, c_hs6 hh hO, c_hs7 hh hO, c_hs8 hh hO, c_hs9 hh hO, zI_add, zI_sub, zI_mul, zI_neg, zL_add, zL_sub, zL_mul, Option.bind_some, Option.toList_some, Option.toList_none, List.cons_append, List.nil_append, zI_lt, zI_le, zI_eq, zI_eq0, zI_lt0, zI_le0, zI_0lt, zI_0le, bZ_e0, Int.add_zero, Int.zero_add]
    rfl
  | succ n ih =>
    intro p hp h0
    have e := (hr.2.2.2.2.2.2.2.1 p.toNat (by omega) (by omega)).1
    have eg := (hv.2.2.2.2.2.2.2.1 p.toNat (by omega) (by omega)).1
    rw [s_X2_readerAt_2, raG]
    simp (disch := first | omega | assumption) only [s_X2_readerAt_3, s_X2_readerAt_4, s_X2_readerAt_7, c_ho hh hO, c_hg0 hh hO, c_hg1 hh hO, c_hg2 hh hO, c_hg3 hh hO, c_hg4 hh hO, c_hg5 hh hO, c_hg6 hh hO, c_hg7 hh hO, c_hg8 hh hO, c_hg9 hh hO, c_hg10 hh hO, c_hq hh hO, c_hbg0 hh hO, c_hbg1 hh hO, c_hbo hh hO, c_hno hh hO, c_hng0 hh hO, c_hng1 hh hO, c_hng2 hh hO, c_hng3 hh hO, c_hng4 hh hO, c_hdo hh hO, c_hdg0 hh hO, c_hdg1 hh hO, c_hdg2 hh hO, c_hdg3 hh hO, c_hdg4 hh hO, c_hdg5 hh hO, c_hp4 hh hO, c_hp5 hh hO, c_hp6 hh hO, c_hp7 hh hO, c_hp8 hh hO, c_hp9 hh hO, c_hp10 hh hO, c_hbp hh hO, c_hnp hh hO, c_hdp0 hh hO, c_hdp1 hh hO, c_hdp2 hh hO, c_hdp3 hh hO, c_hdp4 hh hO, c_hdp5 hh hO, c_hr3 hh hO, c_hr5 hh hO, c_hr6 hh hO, c_hr7 hh hO, c_hr8 hh hO, c_hr9 hh hO, c_hs3 hh hO, c_hs5 hh hO, c_hs6 hh hO, c_hs7 hh hO, c_hs8 hh hO, c_hs9 hh hO, zI_add, zI_sub, zI_mul, zI_neg, zL_add, zL_sub, zL_mul, Option.bind_some, Option.toList_some, Option.toList_none, List.cons_append, List.nil_append, zI_lt, zI_le, zI_eq, zI_eq0, zI_lt0, zI_le0, zI_0lt, zI_0le, bZ_e0, Int.add_zero, Int.zero_add, e9]
    rw [if_neg (by omega)]
    simp (disch := first | omega | assumption) only [s_X2_readerAt_10, s_X2_readerAt_11, s_X2_readerAt_14, s_X2_readerAt_15, s_X2_readerAt_16, s_X2_readerAt_19, s_X2_readerAt_20, c_ho hh hO, c_hg0 hh hO, c_hg1 hh hO, c_hg2 hh hO, c_hg3 hh hO, c_hg4 hh hO, c_hg5 hh hO, c_hg6 hh hO, c_hg7 hh hO, c_hg8 hh hO, c_hg9 hh hO, c_hg10 hh hO, c_hq hh hO, c_hbg0 hh hO, c_hbg1 hh hO, c_hbo hh hO, c_hno hh hO, c_hng0 hh hO, c_hng1 hh hO, c_hng2 hh hO, c_hng3 hh hO, c_hng4 hh hO, c_hdo hh hO, c_hdg0 hh hO, c_hdg1 hh hO, c_hdg2 hh hO, c_hdg3 hh hO, c_hdg4 hh hO, c_hdg5 hh hO, c_hp4 hh hO, c_hp5 hh hO, c_hp6 hh hO, c_hp7 hh hO, c_hp8 hh hO, c_hp9 hh hO, c_hp10 hh hO, c_hbp hh hO, c_hnp hh hO, c_hdp0 hh hO, c_hdp1 hh hO, c_hdp2 hh hO, c_hdp3 hh hO, c_hdp4 hh hO, c_hdp5 hh hO, c_hr3 hh hO, c_hr5 hh hO, c_hr6 hh hO, c_hr7 hh hO, c_hr8 hh hO, c_hr9 hh hO, c_hs3 hh hO, c_hs5 hh hO, c_hs6 hh hO, c_hs7 hh hO, c_hs8 hh hO, c_hs9 hh hO, zI_add, zI_sub, zI_mul, zI_neg, zL_add, zL_sub, zL_mul, Option.bind_some, Option.toList_some, Option.toList_none, List.cons_append, List.nil_append, zI_lt, zI_le, zI_eq, zI_eq0, zI_lt0, zI_le0, zI_0lt, zI_0le, bZ_e0, Int.add_zero, Int.zero_add, e]
    by_cases z : g (6 + p.toNat) = q
    · rw [if_pos z, if_pos z]
      simp (disch := first | omega | assumption) only [s_X2_readerAt_23, s_X2_readerAt_24, c_ho hh hO, c_hg0 hh hO, c_hg1 hh hO, c_hg2 hh hO, c_hg3 hh hO, c_hg4 hh hO, c_hg5 hh hO, c_hg6 hh hO, c_hg7 hh hO, c_hg8 hh hO, c_hg9 hh hO, c_hg10 hh hO, c_hq hh hO, c_hbg0 hh hO, c_hbg1 hh hO, c_hbo hh hO, c_hno hh hO, c_hng0 hh hO, c_hng1 hh hO, c_hng2 hh hO, c_hng3 hh hO, c_hng4 hh hO, c_hdo hh hO, c_hdg0 hh hO, c_hdg1 hh hO, c_hdg2 hh hO, c_hdg3 hh hO, c_hdg4 hh hO, c_hdg5 hh hO, c_hp4 hh hO, c_hp5 hh hO, c_hp6 hh hO, c_hp7 hh hO, c_hp8 hh hO, c_hp9 hh hO, c_hp10 hh hO, c_hbp hh hO, c_hnp hh hO, c_hdp0 hh hO, c_hdp1 hh hO, c_hdp2 hh hO, c_hdp3 hh hO, c_hdp4 hh hO, c_hdp5 hh hO, c_hr3 hh hO, c_hr5 hh hO, c_hr6 hh hO, c_hr7 hh hO, c_hr8 hh hO, c_hr9 hh hO, c_hs3 hh hO, c_hs5 hh hO, c_hs6 hh hO, c_hs7 hh hO, c_hs8 hh hO, c_hs9 hh hO, zI_add, zI_sub, zI_mul, zI_neg, zL_add, zL_sub, zL_mul, Option.bind_some, Option.toList_some, Option.toList_none, List.cons_append, List.nil_append, zI_lt, zI_le, zI_eq, zI_eq0, zI_lt0, zI_le0, zI_0lt, zI_0le, bZ_e0, Int.add_zero, Int.zero_add]
    · rw [if_neg z, if_neg z]
      simp (disch := first | omega | assumption) only [s_X2_readerAt_25, s_X2_readerAt_28, c_ho hh hO, c_hg0 hh hO, c_hg1 hh hO, c_hg2 hh hO, c_hg3 hh hO, c_hg4 hh hO, c_hg5 hh hO, c_hg6 hh hO, c_hg7 hh hO, c_hg8 hh hO, c_hg9 hh hO, c_hg10 hh hO, c_hq hh hO, c_hbg0 hh hO, c_hbg1 hh hO, c_hbo hh hO, c_hno hh hO, c_hng0 hh hO, c_hng1 hh hO, c_hng2 hh hO, c_hng3 hh hO, c_hng4 hh hO, c_hdo hh hO, c_hdg0 hh hO, c_hdg1 hh hO, c_hdg2 hh hO, c_hdg3 hh hO, c_hdg4 hh hO, c_hdg5 hh hO, c_hp4 hh hO, c_hp5 hh hO, c_hp6 hh hO, c_hp7 hh hO, c_hp8 hh hO, c_hp9 hh hO, c_hp10 hh hO, c_hbp hh hO, c_hnp hh hO, c_hdp0 hh hO, c_hdp1 hh hO, c_hdp2 hh hO, c_hdp3 hh hO, c_hdp4 hh hO, c_hdp5 hh hO, c_hr3 hh hO, c_hr5 hh hO, c_hr6 hh hO, c_hr7 hh hO, c_hr8 hh hO, c_hr9 hh hO, c_hs3 hh hO, c_hs5 hh hO, c_hs6 hh hO, c_hs7 hh hO, c_hs8 hh hO, c_hs9 hh hO, zI_add, zI_sub, zI_mul, zI_neg, zL_add, zL_sub, zL_mul, Option.bind_some, Option.toList_some, Option.toList_none, List.cons_append, List.nil_append, zI_lt, zI_le, zI_eq, zI_eq0, zI_lt0, zI_le0, zI_0lt, zI_0le, bZ_e0, Int.add_zero, Int.zero_add]
      exact ih _ (by omega) (by omega)
theorem raG_lt (q : Int) : ∀ (n : Nat) (p : Int), 0 ≤ p → (raG g q n p = -1 ↔ ∀ j : Nat, p ≤ j → (j : Int) < p + n → g (6 + j) ≠ q) ∧ -1 ≤ raG g q n p ∧ raG g q n p < p + n := by
  intro n
  induction n with
  | zero => intro p hp; exact ⟨⟨fun _ j h1 h2 => by omega, fun _ => rfl⟩, by rw [raG]; omega, by rw [raG]; omega⟩
  | succ n ih =>
    intro p hp
    have hi := ih (p + 1) (by omega)
    rw [raG]
    by_cases z : g (6 + p.toNat) = q
    · rw [if_pos z]
      exact ⟨⟨fun y => by omega, fun y => absurd z (y p.toNat (by omega) (by omega))⟩, by omega, by omega⟩
    · rw [if_neg z]
      refine ⟨⟨fun y j h1 h2 => ?_, fun y => hi.1.mpr fun j h1 h2 => y j (by omega) (by omega)⟩, by omega, by omega⟩
      by_cases e : j = p.toNat
      · rw [e]; exact z
      · exact hi.1.mp y j (by omega) (by omega)
theorem k_readerAt {q : Int} (hh : 91 ≤ h.1) (hO : isH o) (hr : hR G o g) (hv : vI g) (h1 : -2147483648 ≤ q) (h2 : q < 2147483648) : ∃ v, (v = -1 ↔ sitY g q < 0) ∧ -1 ≤ v ∧ v < 5 ∧ x_cl d n_X2_readerAt [.ref o, .int (zI q)] (cH h G) = some (some (.int (zI v)), cH h G) := by
  have h5 := hv.2.2.2.2.2.2.1
  have hl := raG_lt (g := g) q (g 5).toNat 0 (by omega)
  refine ⟨raG g q (g 5).toNat 0, ?_, hl.2.1, by omega, ?_⟩
  · rw [hl.1, sitY_lt h5.1]
    exact ⟨fun z j hj => z j (by omega) (by omega), fun z j _ hj => z j (by omega)⟩
  · simp only [e_X2_readerAt, s_X2_readerAt_0, s_X2_readerAt_1]
    exact l_readerAt hh hO hr hv h1 h2 _ 0 (by omega) (by omega)
theorem k_isFree {q : Int} (hh : 91 ≤ h.1) (hO : isH o) (hr : hR G o g) (hv : vI g) (h1 : -2147483648 ≤ q) (h2 : q < 2147483648) : x_cl (d + 2) n_X2_isFree [.ref o, .int (zI q)] (cH h G) = some (some (.int (zI (bZ (((0 ≤ q ∧ q < g 0 * g 1) ∧ hasB (g 4) q = false) ∧ sitY g q < 0)))), cH h G) := by
  obtain ⟨v, v1, v2, v3, v4⟩ := k_readerAt (d := d + 1) hh hO hr hv h1 h2
  simp (disch := first | omega | assumption) only [e_X2_isFree, s_X2_isFree_0, s_X2_isFree_1, s_X2_isFree_2, s_X2_isFree_5, s_X2_isFree_8, s_X2_isFree_9, s_X2_isFree_10, s_X2_isFree_13, s_X2_isFree_14, s_X2_isFree_17, s_X2_isFree_18, s_X2_isFree_21, s_X2_isFree_22_0, s_X2_isFree_22_1, s_X2_isFree_22_b, c_ho hh hO, c_hg0 hh hO, c_hg1 hh hO, c_hg2 hh hO, c_hg3 hh hO, c_hg4 hh hO, c_hg5 hh hO, c_hg6 hh hO, c_hg7 hh hO, c_hg8 hh hO, c_hg9 hh hO, c_hg10 hh hO, c_hq hh hO, c_hbg0 hh hO, c_hbg1 hh hO, c_hbo hh hO, c_hno hh hO, c_hng0 hh hO, c_hng1 hh hO, c_hng2 hh hO, c_hng3 hh hO, c_hng4 hh hO, c_hdo hh hO, c_hdg0 hh hO, c_hdg1 hh hO, c_hdg2 hh hO, c_hdg3 hh hO, c_hdg4 hh hO, c_hdg5 hh hO, c_hp4 hh hO, c_hp5 hh hO, c_hp6 hh hO, c_hp7 hh hO, c_hp8 hh hO, c_hp9 hh hO, c_hp10 hh hO, c_hbp hh hO, c_hnp hh hO, c_hdp0 hh hO, c_hdp1 hh hO, c_hdp2 hh hO, c_hdp3 hh hO, c_hdp4 hh hO, c_hdp5 hh hO, c_hr3 hh hO, c_hr5 hh hO, c_hr6 hh hO, c_hr7 hh hO, c_hr8 hh hO, c_hr9 hh hO, c_hs3 hh hO, c_hs5 hh hO, c_hs6 hh hO, c_hs7 hh hO, c_hs8 hh hO, c_hs9 hh hO, zI_add, zI_sub, zI_mul, zI_neg, zL_add, zL_sub, zL_mul, Option.bind_some, Option.toList_some, Option.toList_none, List.cons_append, List.nil_append, zI_lt, zI_le, zI_eq, zI_eq0, zI_lt0, zI_le0, zI_0lt, zI_0le, bZ_e0, Int.add_zero, Int.zero_add, k_isOpen hh hO hr hv, v4]
  by_cases q1 : (0 ≤ q ∧ q < g 0 * g 1) ∧ hasB (g 4) q = false
  · rw [if_neg (fun z => z q1)]
    by_cases q2 : v = -1
    · rw [if_pos q2, bZ_t ⟨q1, v1.mp q2⟩]
    · rw [if_neg q2, bZ_f (fun z => q2 (v1.mpr z.2))]
  · rw [if_pos q1, bZ_f (fun z => q1 z.1)]
end

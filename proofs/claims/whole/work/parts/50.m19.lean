/-! THE REFERENCE, part 19: the text's signs, numbers -/
section
variable {h : xH} {a : Nat} {t : Nat → Nat → Int} {d : Nat}
/-- on while the signs lie in a row of signs -/
def rnF (lo hi : Int) (x : Int → Int) (n : Int) : Nat → Int → Int
  | 0, p => p
  | k + 1, p => if p < n ∧ lo ≤ x p ∧ x p ≤ hi then rnF lo hi x n k (p + 1) else p
theorem rnF_rg {lo hi : Int} {x : Int → Int} {n : Int} : ∀ (k : Nat) (p : Int), p ≤ n → p ≤ rnF lo hi x n k p ∧ rnF lo hi x n k p ≤ n := by
  intro k
  induction k with
  | zero => intro p hp; exact ⟨Int.le_refl _, hp⟩
  | succ k ih =>
    intro p hp
    rw [rnF]
    by_cases q : p < n ∧ lo ≤ x p ∧ x p ≤ hi
    · rw [if_pos q]
      have := ih (p + 1) (by omega)
      omega
    · rw [if_neg q]; omega
/-- enough is enough -/
theorem rnF_more {lo hi : Int} {x : Int → Int} {n : Int} : ∀ (k j : Nat) (p : Int), n - p ≤ k → rnF lo hi x n (k + j) p = rnF lo hi x n k p := by
  intro k
  induction k with
  | zero =>
    intro j p hp
    cases j with
    | zero => rfl
    | succ j =>
      rw [Nat.zero_add]
      exact if_neg (by omega)
  | succ k ih =>
    intro j p hp
    rw [show k + 1 + j = (k + j) + 1 by omega, rnF, rnF, ih j (p + 1) (by omega)]
theorem rnF_same {lo hi : Int} {x : Int → Int} {n : Int} {k j : Nat} {p : Int} (h1 : n - p ≤ k) (h2 : n - p ≤ j) : rnF lo hi x n k p = rnF lo hi x n j p := by
  rcases Nat.le_total k j with q | q
  · rw [show j = k + (j - k) by omega, rnF_more _ _ _ h1]
  · rw [show k = j + (k - j) by omega, rnF_more _ _ _ h2]
/-- where it stops there is the end or another sign -/
theorem rnF_stop {lo hi : Int} {x : Int → Int} {n : Int} : ∀ (k : Nat) (p : Int), n - p ≤ k → ¬ (rnF lo hi x n k p < n ∧ lo ≤ x (rnF lo hi x n k p) ∧ x (rnF lo hi x n k p) ≤ hi) := by
  intro k
  induction k with
  | zero => intro p hp q; rw [rnF] at q; omega
  | succ k ih =>
    intro p hp
    rw [rnF]
    by_cases q : p < n ∧ lo ≤ x p ∧ x p ≤ hi
    · rw [if_pos q]; exact ih _ (by omega)
    · rw [if_neg q]; exact q
theorem rnF_all {lo hi : Int} {x : Int → Int} {n : Int} : ∀ (k : Nat) (p j : Int), p ≤ j → j < rnF lo hi x n k p → j < n ∧ lo ≤ x j ∧ x j ≤ hi := by
  intro k
  induction k with
  | zero => intro p j h1 h2; rw [rnF] at h2; omega
  | succ k ih =>
    intro p j h1 h2
    rw [rnF] at h2
    by_cases q : p < n ∧ lo ≤ x p ∧ x p ≤ hi
    · rw [if_pos q] at h2
      by_cases e : j = p
      · rw [e]; exact q
      · exact ih (p + 1) j (by omega) h2
    · rw [if_neg q] at h2; omega
def txX (t : Nat → Nat → Int) : Int → Int := fun p => t 3 p.toNat
def txOk (t : Nat → Nat → Int) : Prop := (0 ≤ t 0 3 ∧ t 0 3 ≤ 200) ∧ ∀ j, 0 ≤ t 3 j ∧ t 3 j ≤ 255
def skP (x : Int → Int) (n p : Int) : Int := rnF 32 32 x n 200 p
theorem skP_rg {x : Int → Int} {n p : Int} (h : p ≤ n) : p ≤ skP x n p ∧ skP x n p ≤ n := rnF_rg _ _ h
theorem l_isEnd (ha : a + 12 ≤ h.1) (hx : txOk t) : ∀ (k : Nat) (p : Int), 0 ≤ p → p ≤ t 0 3 → t 0 3 - p ≤ k →
    x_ev (d, n_X8_isEnd, 0, [.ref a], [], mH h a (up2 t 0 8 p)) = some (some (.int (zI (bZ (rnF 32 32 (txX t) (t 0 3) k p = t 0 3)))), mH h a (up2 t 0 8 (rnF 32 32 (txX t) (t 0 3) k p))) := by
  obtain ⟨hn, hb⟩ := hx
  intro k
  induction k with
  | zero =>
    intro p h0 h1 h2
    rw [s_X8_isEnd_0]
    simp (disch := first | omega | assumption) only [s_X8_isEnd_1, s_X8_isEnd_4, s_X8_isEnd_5, s_X8_isEnd_8, mH_obj ha, m_g0 ha, m_g1 ha, m_g2 ha, m_g3 ha, m_g4 ha, m_g5 ha, m_g6 ha, m_g7 ha, m_g8 ha, m_g9 ha, m_g10 ha, m_g11 ha, m_g12 ha, m_g13 ha, m_g14 ha, m_g15 ha, m_g16 ha, m_g17 ha, m_g18 ha, m_g19 ha, m_g20 ha, m_p3 ha, m_p7 ha, m_p8 ha, m_p9 ha, m_p12 ha, m_p16 ha, m_p17 ha, m_p18 ha, m_p19 ha, m_p20 ha, m_r1 ha, m_r2 ha, m_r3 ha, m_r4 ha, m_r5 ha, m_r6 ha, m_r7 ha, m_r8 ha, m_r9 ha, m_r10 ha, m_r11 ha, m_s1 ha, m_s2 ha, m_s3 ha, m_s4 ha, m_s5 ha, m_s6 ha, m_s7 ha, m_s8 ha, m_s9 ha, m_s10 ha, m_s11 ha, zI_add, zI_sub, zI_mul, zI_neg, zL_add, zL_sub, zL_mul, Option.bind_some, Option.toList_some, Option.toList_none, List.cons_append, List.nil_append, zI_lt, zI_le, zI_eq, zI_eq0, zI_lt0, zI_le0, zI_0lt, zI_0le, bZ_e0, Int.add_zero, Int.zero_add, up2_s, up2_n]
    rw [if_pos (by omega)]
    simp (disch := first | omega | assumption) only [s_X8_isEnd_38, s_X8_isEnd_39, s_X8_isEnd_42, s_X8_isEnd_43, s_X8_isEnd_46, s_X8_isEnd_49, s_X8_isEnd_50, s_X8_isEnd_53, s_X8_isEnd_54_0, s_X8_isEnd_54_1, s_X8_isEnd_54_b, mH_obj ha, m_g0 ha, m_g1 ha, m_g2 ha, m_g3 ha, m_g4 ha, m_g5 ha, m_g6 ha, m_g7 ha, m_g8 ha, m_g9 ha, m_g10 ha, m_g11 ha, m_g12 ha, m_g13 ha, m_g14 ha, m_g15 ha, m_g16 ha, m_g17 ha, m_g18 ha, m_g19 ha, m_g20 ha, m_p3 ha, m_p7 ha, m_p8 ha, m_p9 ha, m_p12 ha, m_p16 ha, m_p17 ha, m_p18 ha, m_p19 ha, m_p20 ha, m_r1 ha, m_r2 ha, m_r3 ha, m_r4 ha, m_r5 ha, m_r6 ha, m_r7 ha, m_r8 ha, m_r9 ha, m_r10 ha, m_r11 ha, m_s1 ha, m_s2 ha, m_s3 ha, m_s4 ha, m_s5 ha, m_s6 ha, m_s7 ha, m_s8 ha, m_s9 ha, m_s10 ha, m_s11 ha, zI_add, zI_sub, zI_mul, zI_neg, zL_add, zL_sub, zL_mul, Option.bind_some, Option.toList_some, Option.toList_none, List.cons_append, List.nil_append, zI_lt, zI_le, zI_eq, zI_eq0, zI_lt0, zI_le0, zI_0lt, zI_0le, bZ_e0, Int.add_zero, Int.zero_add, up2_s, up2_n]
    rw [if_pos (by omega), rnF, bZ_t (by omega)]
  | succ k ih =>
    intro p h0 h1 h2
    rw [s_X8_isEnd_0]
    simp (disch := first | omega | assumption) only [s_X8_isEnd_1, s_X8_isEnd_4, s_X8_isEnd_5, s_X8_isEnd_8, mH_obj ha, m_g0 ha, m_g1 ha, m_g2 ha, m_g3 ha, m_g4 ha, m_g5 ha, m_g6 ha, m_g7 ha, m_g8 ha, m_g9 ha, m_g10 ha, m_g11 ha, m_g12 ha, m_g13 ha, m_g14 ha, m_g15 ha, m_g16 ha, m_g17 ha, m_g18 ha, m_g19 ha, m_g20 ha, m_p3 ha, m_p7 ha, m_p8 ha, m_p9 ha, m_p12 ha, m_p16 ha, m_p17 ha, m_p18 ha, m_p19 ha, m_p20 ha, m_r1 ha, m_r2 ha, m_r3 ha, m_r4 ha, m_r5 ha, m_r6 ha, m_r7 ha, m_r8 ha, m_r9 ha, m_r10 ha, m_r11 ha, m_s1 ha, m_s2 ha, m_s3 ha, m_s4 ha, m_s5 ha, m_s6 ha, m_s7 ha, m_s8 ha, m_s9 ha, m_s10 ha, m_s11 ha, zI_add, zI_sub, zI_mul, zI_neg, zL_add, zL_sub, zL_mul, Option.bind_some, Option.toList_some, Option.toList_none, List.cons_append, List.nil_append, zI_lt, zI_le, zI_eq, zI_eq0, zI_lt0, zI_le0, zI_0lt, zI_0le, bZ_e0, Int.add_zero, Int.zero_add, up2_s, up2_n]
    rw [rnF]
    by_cases q : t 0 3 ≤ p
    · rw [if_pos q]
      simp (disch := first | omega | assumption) only [s_X8_isEnd_38, s_X8_isEnd_39, s_X8_isEnd_42, s_X8_isEnd_43, s_X8_isEnd_46, s_X8_isEnd_49, s_X8_isEnd_50, s_X8_isEnd_53, s_X8_isEnd_54_0, s_X8_isEnd_54_1, s_X8_isEnd_54_b, mH_obj ha, m_g0 ha, m_g1 ha, m_g2 ha, m_g3 ha, m_g4 ha, m_g5 ha, m_g6 ha, m_g7 ha, m_g8 ha, m_g9 ha, m_g10 ha, m_g11 ha, m_g12 ha, m_g13 ha, m_g14 ha, m_g15 ha, m_g16 ha, m_g17 ha, m_g18 ha, m_g19 ha, m_g20 ha, m_p3 ha, m_p7 ha, m_p8 ha, m_p9 ha, m_p12 ha, m_p16 ha, m_p17 ha, m_p18 ha, m_p19 ha, m_p20 ha, m_r1 ha, m_r2 ha, m_r3 ha, m_r4 ha, m_r5 ha, m_r6 ha, m_r7 ha, m_r8 ha, m_r9 ha, m_r10 ha, m_r11 ha, m_s1 ha, m_s2 ha, m_s3 ha, m_s4 ha, m_s5 ha, m_s6 ha, m_s7 ha, m_s8 ha, m_s9 ha, m_s10 ha, m_s11 ha, zI_add, zI_sub, zI_mul, zI_neg, zL_add, zL_sub, zL_mul, Option.bind_some, Option.toList_some, Option.toList_none, List.cons_append, List.nil_append, zI_lt, zI_le, zI_eq, zI_eq0, zI_lt0, zI_le0, zI_0lt, zI_0le, bZ_e0, Int.add_zero, Int.zero_add, up2_s, up2_n]
      rw [if_pos (by omega), if_neg (by omega), bZ_t (by omega)]
    · rw [if_neg q]
      have b1 := hb p.toNat
      simp (disch := first | omega | assumption) only [s_X8_isEnd_11, s_X8_isEnd_12, s_X8_isEnd_15, s_X8_isEnd_16, s_X8_isEnd_19, s_X8_isEnd_20, s_X8_isEnd_22, mH_obj ha, m_g0 ha, m_g1 ha, m_g2 ha, m_g3 ha, m_g4 ha, m_g5 ha, m_g6 ha, m_g7 ha, m_g8 ha, m_g9 ha, m_g10 ha, m_g11 ha, m_g12 ha, m_g13 ha, m_g14 ha, m_g15 ha, m_g16 ha, m_g17 ha, m_g18 ha, m_g19 ha, m_g20 ha, m_p3 ha, m_p7 ha, m_p8 ha, m_p9 ha, m_p12 ha, m_p16 ha, m_p17 ha, m_p18 ha, m_p19 ha, m_p20 ha, m_r1 ha, m_r2 ha, m_r3 ha, m_r4 ha, m_r5 ha, m_r6 ha, m_r7 ha, m_r8 ha, m_r9 ha, m_r10 ha, m_r11 ha, m_s1 ha, m_s2 ha, m_s3 ha, m_s4 ha, m_s5 ha, m_s6 ha, m_s7 ha, m_s8 ha, m_s9 ha, m_s10 ha, m_s11 ha, zI_add, zI_sub, zI_mul, zI_neg, zL_add, zL_sub, zL_mul, Option.bind_some, Option.toList_some, Option.toList_none, List.cons_append, List.nil_append, zI_lt, zI_le, zI_eq, zI_eq0, zI_lt0, zI_le0, zI_0lt, zI_0le, bZ_e0, Int.add_zero, Int.zero_add, up2_s, up2_n]
      by_cases q2 : t 3 p.toNat = 32
      · rw [if_pos q2, if_pos ⟨by omega, by unfold txX; omega, by unfold txX; omega⟩]
        simp (disch := first | omega | assumption) only [s_X8_isEnd_25, s_X8_isEnd_26, s_X8_isEnd_27, s_X8_isEnd_30, s_X8_isEnd_31, s_X8_isEnd_32, s_X8_isEnd_35, mH_obj ha, m_g0 ha, m_g1 ha, m_g2 ha, m_g3 ha, m_g4 ha, m_g5 ha, m_g6 ha, m_g7 ha, m_g8 ha, m_g9 ha, m_g10 ha, m_g11 ha, m_g12 ha, m_g13 ha, m_g14 ha, m_g15 ha, m_g16 ha, m_g17 ha, m_g18 ha, m_g19 ha, m_g20 ha, m_p3 ha, m_p7 ha, m_p8 ha, m_p9 ha, m_p12 ha, m_p16 ha, m_p17 ha, m_p18 ha, m_p19 ha, m_p20 ha, m_r1 ha, m_r2 ha, m_r3 ha, m_r4 ha, m_r5 ha, m_r6 ha, m_r7 ha, m_r8 ha, m_r9 ha, m_r10 ha, m_r11 ha, m_s1 ha, m_s2 ha, m_s3 ha, m_s4 ha, m_s5 ha, m_s6 ha, m_s7 ha, m_s8 ha, m_s9 ha, m_s10 ha, m_s11 ha, zI_add, zI_sub, zI_mul, zI_neg, zL_add, zL_sub, zL_mul, Option.bind_some, Option.toList_some, Option.toList_none, List.cons_append, List.nil_append, zI_lt, zI_le, zI_eq, zI_eq0, zI_lt0, zI_le0, zI_0lt, zI_0le, bZ_e0, Int.add_zero, Int.zero_add, up2_s, up2_n, up2_2]
        exact ih _ (by omega) (by omega) (by omega)
      · rw [if_neg q2, if_neg (by unfold txX; omega)]
        simp (disch := first | omega | assumption) only [s_X8_isEnd_38, s_X8_isEnd_39, s_X8_isEnd_42, s_X8_isEnd_43, s_X8_isEnd_46, s_X8_isEnd_49, s_X8_isEnd_50, s_X8_isEnd_53, s_X8_isEnd_54_0, s_X8_isEnd_54_1, s_X8_isEnd_54_b, mH_obj ha, m_g0 ha, m_g1 ha, m_g2 ha, m_g3 ha, m_g4 ha, m_g5 ha, m_g6 ha, m_g7 ha, m_g8 ha, m_g9 ha, m_g10 ha, m_g11 ha, m_g12 ha, m_g13 ha, m_g14 ha, m_g15 ha, m_g16 ha, m_g17 ha, m_g18 ha, m_g19 ha, m_g20 ha, m_p3 ha, m_p7 ha, m_p8 ha, m_p9 ha, m_p12 ha, m_p16 ha, m_p17 ha, m_p18 ha, m_p19 ha, m_p20 ha, m_r1 ha, m_r2 ha, m_r3 ha, m_r4 ha, m_r5 ha, m_r6 ha, m_r7 ha, m_r8 ha, m_r9 ha, m_r10 ha, m_r11 ha, m_s1 ha, m_s2 ha, m_s3 ha, m_s4 ha, m_s5 ha, m_s6 ha, m_s7 ha, m_s8 ha, m_s9 ha, m_s10 ha, m_s11 ha, zI_add, zI_sub, zI_mul, zI_neg, zL_add, zL_sub, zL_mul, Option.bind_some, Option.toList_some, Option.toList_none, List.cons_append, List.nil_append, zI_lt, zI_le, zI_eq, zI_eq0, zI_lt0, zI_le0, zI_0lt, zI_0le, bZ_e0, Int.add_zero, Int.zero_add, up2_s, up2_n]
        rw [if_neg (by omega), bZ_f (by omega)]
theorem up2_id {i j : Nat} : up2 t i j (t i j) = t := by
  funext r k
  by_cases q : r = i ∧ k = j
  · rw [q.1, q.2, up2_s]
  · rw [up2_n q]
theorem c_isEnd (ha : a + 12 ≤ h.1) (hx : txOk t) (h0 : 0 ≤ t 0 8) (h1 : t 0 8 ≤ t 0 3) : x_cl d n_X8_isEnd [.ref a] (mH h a t) = some (some (.int (zI (bZ (skP (txX t) (t 0 3) (t 0 8) = t 0 3)))), mH h a (up2 t 0 8 (skP (txX t) (t 0 3) (t 0 8)))) := by
  have := l_isEnd (d := d) (h := h) ha hx 200 (t 0 8) h0 h1 (by have := hx.1; omega)
  rw [up2_id] at this
  simp only [e_X8_isEnd]
  exact this
theorem lg_cmp_e {x y : Int64} : lg_cmp x y = 0 ↔ x = y := by
  unfold lg_cmp
  by_cases q : x > y
  · rw [if_pos q]
    refine ⟨fun z => absurd z (by decide), fun z => ?_⟩
    rw [z] at q
    exact (Int64.lt_irrefl q).elim
  · rw [if_neg q]
    by_cases q2 : x = y
    · rw [if_pos q2]; exact ⟨fun _ => q2, fun _ => rfl⟩
    · rw [if_neg q2]; exact ⟨fun z => absurd z (by decide), fun z => absurd z q2⟩
def wdO (l : Int) : Int := if l = 263564 then 0 else if l = 20190598 then 1 else if l = 609259698 then 2 else if l = 394672 then 3 else if l = 15660 then 4 else if l = 659105223 then 5 else -1
theorem c_wordOf {l : Int} (h1 : 0 ≤ l) (h2 : l < 34359738368) : x_cl d n_X8_wordOf [.long (zL l)] h = some (some (.int (zI (wdO l))), h) := by
  simp only [e_X8_wordOf, s_X8_wordOf_0, s_X8_wordOf_1, s_X8_wordOf_4, s_X8_wordOf_5, s_X8_wordOf_8, s_X8_wordOf_9, s_X8_wordOf_12, s_X8_wordOf_13, s_X8_wordOf_16, s_X8_wordOf_17, s_X8_wordOf_20, s_X8_wordOf_21, s_X8_wordOf_24, s_X8_wordOf_25, s_X8_wordOf_28, s_X8_wordOf_29, s_X8_wordOf_32, s_X8_wordOf_33, s_X8_wordOf_36, s_X8_wordOf_37, s_X8_wordOf_40, s_X8_wordOf_41, s_X8_wordOf_44, s_X8_wordOf_45, s_X8_wordOf_48, s_X8_wordOf_49, s_X8_wordOf_52, s_X8_wordOf_53, s_X8_wordOf_56, s_X8_wordOf_57, s_X8_wordOf_60, s_X8_wordOf_61, s_X8_wordOf_64, s_X8_wordOf_65, s_X8_wordOf_68, s_X8_wordOf_69, s_X8_wordOf_72, s_X8_wordOf_73, lg_cmp_e]
  simp (disch := omega) only [zL_eq]
  unfold wdO
  split
  · rfl
  split
  · rfl
  split
  · rfl
  split
  · rfl
  split
  · rfl
  split <;> rfl
def nmO (w : Int) : Int := if w = 0 ∨ w = 5 then 2 else if w = 2 then 4 else 1
theorem c_numbersOf {w : Int} (h1 : -1 ≤ w) (h2 : w ≤ 5) : x_cl d n_X8_numbersOf [.int (zI w)] h = some (some (.int (zI (nmO w))), h) := by
  simp (disch := omega) only [e_X8_numbersOf, s_X8_numbersOf_0, s_X8_numbersOf_1, s_X8_numbersOf_4, s_X8_numbersOf_5, s_X8_numbersOf_6, s_X8_numbersOf_9, s_X8_numbersOf_10, s_X8_numbersOf_13, s_X8_numbersOf_14, s_X8_numbersOf_15, s_X8_numbersOf_18, s_X8_numbersOf_19, s_X8_numbersOf_22, s_X8_numbersOf_23, zI_lt, zI_le, zI_eq, zI_eq0, zI_lt0, zI_le0, zI_0lt, zI_0le, bZ_e0]
  unfold nmO
  by_cases q : w = 0
  · rw [if_pos q, if_pos (Or.inl q)]
  · rw [if_neg q]
    by_cases q2 : w = 5
    · rw [if_pos q2, if_pos (Or.inr q2)]
    · have q3 : ¬ (w = 0 ∨ w = 5) := by omega
      rw [if_neg q2, if_neg q3]
      by_cases q4 : w = 2
      · rw [if_pos q4, if_pos q4]
      · rw [if_neg q4, if_neg q4]
/-- the figures' worth -/
def dgF (x : Int → Int) (n from' : Int) : Nat → Int → Int → Int
  | 0, _, v => v
  | k + 1, p, v => if p < n ∧ 48 ≤ x p ∧ x p ≤ 57 then dgF x n from' k (p + 1) (if p - from' < 2 then 10 * v + x p - 48 else v) else v
def fiP (x : Int → Int) (n p : Int) : Int := rnF 48 57 x n 200 p
theorem l_takeNumber {from' : Int} (ha : a + 12 ≤ h.1) (hx : txOk t) (hf : 0 ≤ from') : ∀ (k : Nat) (p v : Int), from' ≤ p → p ≤ t 0 3 → t 0 3 - p ≤ k →
    x_ev (d + 1, n_X8_takeNumber, 24, [.ref a, .int (zI from'), .int (zI v)], [], mH h a (up2 t 0 8 p)) = x_ev (d + 1, n_X8_takeNumber, 102, [.ref a, .int (zI from'), .int (zI (dgF (txX t) (t 0 3) from' k p v))], [], mH h a (up2 t 0 8 (rnF 48 57 (txX t) (t 0 3) k p))) := by
  obtain ⟨hn, hb⟩ := hx
  intro k
  induction k with
  | zero =>
    intro p v h0 h1 h2
    rw [s_X8_takeNumber_24]
    simp (disch := first | omega | assumption) only [s_X8_takeNumber_25, s_X8_takeNumber_28, s_X8_takeNumber_29, s_X8_takeNumber_32, mH_obj ha, m_g0 ha, m_g1 ha, m_g2 ha, m_g3 ha, m_g4 ha, m_g5 ha, m_g6 ha, m_g7 ha, m_g8 ha, m_g9 ha, m_g10 ha, m_g11 ha, m_g12 ha, m_g13 ha, m_g14 ha, m_g15 ha, m_g16 ha, m_g17 ha, m_g18 ha, m_g19 ha, m_g20 ha, m_p3 ha, m_p7 ha, m_p8 ha, m_p9 ha, m_p12 ha, m_p16 ha, m_p17 ha, m_p18 ha, m_p19 ha, m_p20 ha, m_r1 ha, m_r2 ha, m_r3 ha, m_r4 ha, m_r5 ha, m_r6 ha, m_r7 ha, m_r8 ha, m_r9 ha, m_r10 ha, m_r11 ha, m_s1 ha, m_s2 ha, m_s3 ha, m_s4 ha, m_s5 ha, m_s6 ha, m_s7 ha, m_s8 ha, m_s9 ha, m_s10 ha, m_s11 ha, zI_add, zI_sub, zI_mul, zI_neg, zL_add, zL_sub, zL_mul, Option.bind_some, Option.toList_some, Option.toList_none, List.cons_append, List.nil_append, zI_lt, zI_le, zI_eq, zI_eq0, zI_lt0, zI_le0, zI_0lt, zI_0le, bZ_e0, Int.add_zero, Int.zero_add, up2_s, up2_n]
    rw [if_pos (by omega)]
    rfl
  | succ k ih =>
    intro p v h0 h1 h2
    rw [s_X8_takeNumber_24]
    simp (disch := first | omega | assumption) only [s_X8_takeNumber_25, s_X8_takeNumber_28, s_X8_takeNumber_29, s_X8_takeNumber_32, mH_obj ha, m_g0 ha, m_g1 ha, m_g2 ha, m_g3 ha, m_g4 ha, m_g5 ha, m_g6 ha, m_g7 ha, m_g8 ha, m_g9 ha, m_g10 ha, m_g11 ha, m_g12 ha, m_g13 ha, m_g14 ha, m_g15 ha, m_g16 ha, m_g17 ha, m_g18 ha, m_g19 ha, m_g20 ha, m_p3 ha, m_p7 ha, m_p8 ha, m_p9 ha, m_p12 ha, m_p16 ha, m_p17 ha, m_p18 ha, m_p19 ha, m_p20 ha, m_r1 ha, m_r2 ha, m_r3 ha, m_r4 ha, m_r5 ha, m_r6 ha, m_r7 ha, m_r8 ha, m_r9 ha, m_r10 ha, m_r11 ha, m_s1 ha, m_s2 ha, m_s3 ha, m_s4 ha, m_s5 ha, m_s6 ha, m_s7 ha, m_s8 ha, m_s9 ha, m_s10 ha, m_s11 ha, zI_add, zI_sub, zI_mul, zI_neg, zL_add, zL_sub, zL_mul, Option.bind_some, Option.toList_some, Option.toList_none, List.cons_append, List.nil_append, zI_lt, zI_le, zI_eq, zI_eq0, zI_lt0, zI_le0, zI_0lt, zI_0le, bZ_e0, Int.add_zero, Int.zero_add, up2_s, up2_n]
    rw [rnF, dgF]
    by_cases q : t 0 3 ≤ p
    · rw [if_pos q, if_neg (by omega), if_neg (by omega)]
    · rw [if_neg q]
      have b1 := hb p.toNat
      simp (disch := first | omega | assumption) only [s_X8_takeNumber_35, s_X8_takeNumber_36, s_X8_takeNumber_39, s_X8_takeNumber_40, s_X8_takeNumber_43, s_X8_takeNumber_44, s_X8_takeNumber_45, s_X8_takeNumber_48, s_X8_takeNumber_51, s_X8_takeNumber_54, mH_obj ha, m_g0 ha, m_g1 ha, m_g2 ha, m_g3 ha, m_g4 ha, m_g5 ha, m_g6 ha, m_g7 ha, m_g8 ha, m_g9 ha, m_g10 ha, m_g11 ha, m_g12 ha, m_g13 ha, m_g14 ha, m_g15 ha, m_g16 ha, m_g17 ha, m_g18 ha, m_g19 ha, m_g20 ha, m_p3 ha, m_p7 ha, m_p8 ha, m_p9 ha, m_p12 ha, m_p16 ha, m_p17 ha, m_p18 ha, m_p19 ha, m_p20 ha, m_r1 ha, m_r2 ha, m_r3 ha, m_r4 ha, m_r5 ha, m_r6 ha, m_r7 ha, m_r8 ha, m_r9 ha, m_r10 ha, m_r11 ha, m_s1 ha, m_s2 ha, m_s3 ha, m_s4 ha, m_s5 ha, m_s6 ha, m_s7 ha, m_s8 ha, m_s9 ha, m_s10 ha, m_s11 ha, zI_add, zI_sub, zI_mul, zI_neg, zL_add, zL_sub, zL_mul, Option.bind_some, Option.toList_some, Option.toList_none, List.cons_append, List.nil_append, zI_lt, zI_le, zI_eq, zI_eq0, zI_lt0, zI_le0, zI_0lt, zI_0le, bZ_e0, Int.add_zero, Int.zero_add, up2_s, up2_n, zI_64, c_in]
      by_cases q2 : 48 ≤ t 3 p.toNat ∧ t 3 p.toNat ≤ 57
      · have c1 : p < t 0 3 ∧ 48 ≤ txX t p ∧ txX t p ≤ 57 := ⟨by omega, q2⟩
        rw [if_neg (fun z => z q2), if_pos c1, if_pos c1]
        simp (disch := first | omega | assumption) only [s_X8_takeNumber_57, s_X8_takeNumber_58, s_X8_takeNumber_61, s_X8_takeNumber_62, s_X8_takeNumber_63, s_X8_takeNumber_64, s_X8_takeNumber_67, s_X8_takeNumber_69, s_X8_takeNumber_70, s_X8_takeNumber_71, s_X8_takeNumber_72, s_X8_takeNumber_75, s_X8_takeNumber_76, s_X8_takeNumber_79, s_X8_takeNumber_80, s_X8_takeNumber_81, s_X8_takeNumber_83, s_X8_takeNumber_84, s_X8_takeNumber_87, mH_obj ha, m_g0 ha, m_g1 ha, m_g2 ha, m_g3 ha, m_g4 ha, m_g5 ha, m_g6 ha, m_g7 ha, m_g8 ha, m_g9 ha, m_g10 ha, m_g11 ha, m_g12 ha, m_g13 ha, m_g14 ha, m_g15 ha, m_g16 ha, m_g17 ha, m_g18 ha, m_g19 ha, m_g20 ha, m_p3 ha, m_p7 ha, m_p8 ha, m_p9 ha, m_p12 ha, m_p16 ha, m_p17 ha, m_p18 ha, m_p19 ha, m_p20 ha, m_r1 ha, m_r2 ha, m_r3 ha, m_r4 ha, m_r5 ha, m_r6 ha, m_r7 ha, m_r8 ha, m_r9 ha, m_r10 ha, m_r11 ha, m_s1 ha, m_s2 ha, m_s3 ha, m_s4 ha, m_s5 ha, m_s6 ha, m_s7 ha, m_s8 ha, m_s9 ha, m_s10 ha, m_s11 ha, zI_add, zI_sub, zI_mul, zI_neg, zL_add, zL_sub, zL_mul, Option.bind_some, Option.toList_some, Option.toList_none, List.cons_append, List.nil_append, zI_lt, zI_le, zI_eq, zI_eq0, zI_lt0, zI_le0, zI_0lt, zI_0le, bZ_e0, Int.add_zero, Int.zero_add, up2_s, up2_n]
        have e : (if 2 ≤ p - from' then x_ev (d + 1, n_X8_takeNumber, 88, [.ref a, .int (zI from'), .int (zI v)], [.int (zI v)], mH h a (up2 t 0 8 p)) else x_ev (d + 1, n_X8_takeNumber, 88, [.ref a, .int (zI from'), .int (zI v)], [.int (zI (10 * v + t 3 p.toNat - 48))], mH h a (up2 t 0 8 p))) = x_ev (d + 1, n_X8_takeNumber, 88, [.ref a, .int (zI from'), .int (zI v)], [.int (zI (if p - from' < 2 then 10 * v + t 3 p.toNat - 48 else v))], mH h a (up2 t 0 8 p)) := by
          by_cases z : 2 ≤ p - from'
          · rw [if_pos z, if_neg (by omega)]
          · rw [if_neg z, if_pos (by omega)]
        rw [e]
        simp (disch := first | omega | assumption) only [s_X8_takeNumber_88, s_X8_takeNumber_89, s_X8_takeNumber_90, s_X8_takeNumber_91, s_X8_takeNumber_94, s_X8_takeNumber_95, s_X8_takeNumber_96, s_X8_takeNumber_99, mH_obj ha, m_g0 ha, m_g1 ha, m_g2 ha, m_g3 ha, m_g4 ha, m_g5 ha, m_g6 ha, m_g7 ha, m_g8 ha, m_g9 ha, m_g10 ha, m_g11 ha, m_g12 ha, m_g13 ha, m_g14 ha, m_g15 ha, m_g16 ha, m_g17 ha, m_g18 ha, m_g19 ha, m_g20 ha, m_p3 ha, m_p7 ha, m_p8 ha, m_p9 ha, m_p12 ha, m_p16 ha, m_p17 ha, m_p18 ha, m_p19 ha, m_p20 ha, m_r1 ha, m_r2 ha, m_r3 ha, m_r4 ha, m_r5 ha, m_r6 ha, m_r7 ha, m_r8 ha, m_r9 ha, m_r10 ha, m_r11 ha, m_s1 ha, m_s2 ha, m_s3 ha, m_s4 ha, m_s5 ha, m_s6 ha, m_s7 ha, m_s8 ha, m_s9 ha, m_s10 ha, m_s11 ha, zI_add, zI_sub, zI_mul, zI_neg, zL_add, zL_sub, zL_mul, Option.bind_some, Option.toList_some, Option.toList_none, List.cons_append, List.nil_append, zI_lt, zI_le, zI_eq, zI_eq0, zI_lt0, zI_le0, zI_0lt, zI_0le, bZ_e0, Int.add_zero, Int.zero_add, up2_s, up2_n, up2_2]
        exact ih _ _ (by omega) (by omega) (by omega)
      · rw [if_pos q2, if_neg (fun z => q2 z.2), if_neg (fun z => q2 z.2)]
def tnQ (x : Int → Int) (n p : Int) : Int := skP x n p
def tnE (x : Int → Int) (n p : Int) : Int := fiP x n (skP x n p)
abbrev tnB (q e : Int) : Prop := e = q ∨ 2 < e - q
def tnV (x : Int → Int) (n p : Int) : Int := if skP x n p = n then -1 else dgF x n (skP x n p) 200 (skP x n p) 0
def tnT (t : Nat → Nat → Int) : Nat → Nat → Int := up2 (up2 t 0 8 (tnE (txX t) (t 0 3) (t 0 8))) 0 9 (if tnB (skP (txX t) (t 0 3) (t 0 8)) (tnE (txX t) (t 0 3) (t 0 8)) then skP (txX t) (t 0 3) (t 0 8) else t 0 9)
theorem c_takeNumber (ha : a + 12 ≤ h.1) (hx : txOk t) (h0 : 0 ≤ t 0 8) (h1 : t 0 8 ≤ t 0 3) : x_cl (d + 1) n_X8_takeNumber [.ref a] (mH h a t) = some (some (.int (zI (tnV (txX t) (t 0 3) (t 0 8)))), mH h a (tnT t)) := by
  have hs := skP_rg (x := txX t) h1
  have hn := hx.1
  simp (disch := first | omega | assumption) only [e_X8_takeNumber, s_X8_takeNumber_0, s_X8_takeNumber_1, s_X8_takeNumber_4, mH_obj ha, m_g0 ha, m_g1 ha, m_g2 ha, m_g3 ha, m_g4 ha, m_g5 ha, m_g6 ha, m_g7 ha, m_g8 ha, m_g9 ha, m_g10 ha, m_g11 ha, m_g12 ha, m_g13 ha, m_g14 ha, m_g15 ha, m_g16 ha, m_g17 ha, m_g18 ha, m_g19 ha, m_g20 ha, m_p3 ha, m_p7 ha, m_p8 ha, m_p9 ha, m_p12 ha, m_p16 ha, m_p17 ha, m_p18 ha, m_p19 ha, m_p20 ha, m_r1 ha, m_r2 ha, m_r3 ha, m_r4 ha, m_r5 ha, m_r6 ha, m_r7 ha, m_r8 ha, m_r9 ha, m_r10 ha, m_r11 ha, m_s1 ha, m_s2 ha, m_s3 ha, m_s4 ha, m_s5 ha, m_s6 ha, m_s7 ha, m_s8 ha, m_s9 ha, m_s10 ha, m_s11 ha, zI_add, zI_sub, zI_mul, zI_neg, zL_add, zL_sub, zL_mul, Option.bind_some, Option.toList_some, Option.toList_none, List.cons_append, List.nil_append, zI_lt, zI_le, zI_eq, zI_eq0, zI_lt0, zI_le0, zI_0lt, zI_0le, bZ_e0, Int.add_zero, Int.zero_add, c_isEnd ha hx]
  by_cases q : skP (txX t) (t 0 3) (t 0 8) = t 0 3
  · rw [if_neg (fun z => z q)]
    simp (disch := first | omega | assumption) only [s_X8_takeNumber_7, s_X8_takeNumber_8, s_X8_takeNumber_9, s_X8_takeNumber_12, s_X8_takeNumber_15, s_X8_takeNumber_16, mH_obj ha, m_g0 ha, m_g1 ha, m_g2 ha, m_g3 ha, m_g4 ha, m_g5 ha, m_g6 ha, m_g7 ha, m_g8 ha, m_g9 ha, m_g10 ha, m_g11 ha, m_g12 ha, m_g13 ha, m_g14 ha, m_g15 ha, m_g16 ha, m_g17 ha, m_g18 ha, m_g19 ha, m_g20 ha, m_p3 ha, m_p7 ha, m_p8 ha, m_p9 ha, m_p12 ha, m_p16 ha, m_p17 ha, m_p18 ha, m_p19 ha, m_p20 ha, m_r1 ha, m_r2 ha, m_r3 ha, m_r4 ha, m_r5 ha, m_r6 ha, m_r7 ha, m_r8 ha, m_r9 ha, m_r10 ha, m_r11 ha, m_s1 ha, m_s2 ha, m_s3 ha, m_s4 ha, m_s5 ha, m_s6 ha, m_s7 ha, m_s8 ha, m_s9 ha, m_s10 ha, m_s11 ha, zI_add, zI_sub, zI_mul, zI_neg, zL_add, zL_sub, zL_mul, Option.bind_some, Option.toList_some, Option.toList_none, List.cons_append, List.nil_append, zI_lt, zI_le, zI_eq, zI_eq0, zI_lt0, zI_le0, zI_0lt, zI_0le, bZ_e0, Int.add_zero, Int.zero_add, up2_s, up2_n]
    unfold tnV tnT
    have e1 : tnE (txX t) (t 0 3) (t 0 8) = t 0 3 := by
      unfold tnE fiP
      rw [q, rnF, if_neg (by omega)]
    rw [if_pos q, e1, q, if_pos (Or.inl rfl)]
  · rw [if_pos q]
    simp (disch := first | omega | assumption) only [s_X8_takeNumber_17, s_X8_takeNumber_18, s_X8_takeNumber_21, s_X8_takeNumber_22, s_X8_takeNumber_23, mH_obj ha, m_g0 ha, m_g1 ha, m_g2 ha, m_g3 ha, m_g4 ha, m_g5 ha, m_g6 ha, m_g7 ha, m_g8 ha, m_g9 ha, m_g10 ha, m_g11 ha, m_g12 ha, m_g13 ha, m_g14 ha, m_g15 ha, m_g16 ha, m_g17 ha, m_g18 ha, m_g19 ha, m_g20 ha, m_p3 ha, m_p7 ha, m_p8 ha, m_p9 ha, m_p12 ha, m_p16 ha, m_p17 ha, m_p18 ha, m_p19 ha, m_p20 ha, m_r1 ha, m_r2 ha, m_r3 ha, m_r4 ha, m_r5 ha, m_r6 ha, m_r7 ha, m_r8 ha, m_r9 ha, m_r10 ha, m_r11 ha, m_s1 ha, m_s2 ha, m_s3 ha, m_s4 ha, m_s5 ha, m_s6 ha, m_s7 ha, m_s8 ha, m_s9 ha, m_s10 ha, m_s11 ha, zI_add, zI_sub, zI_mul, zI_neg, zL_add, zL_sub, zL_mul, Option.bind_some, Option.toList_some, Option.toList_none, List.cons_append, List.nil_append, zI_lt, zI_le, zI_eq, zI_eq0, zI_lt0, zI_le0, zI_0lt, zI_0le, bZ_e0, Int.add_zero, Int.zero_add, up2_s, up2_n]
    rw [l_takeNumber ha hx (by omega) 200 _ 0 (by omega) (by omega) (by omega)]
    have hr := rnF_rg (lo := 48) (hi := 57) (x := txX t) 200 _ hs.2
    simp (disch := first | omega | assumption) only [s_X8_takeNumber_102, s_X8_takeNumber_103, s_X8_takeNumber_104, s_X8_takeNumber_107, s_X8_takeNumber_108, s_X8_takeNumber_111, s_X8_takeNumber_112, s_X8_takeNumber_115, s_X8_takeNumber_116, s_X8_takeNumber_117, s_X8_takeNumber_118, s_X8_takeNumber_121, s_X8_takeNumber_122, s_X8_takeNumber_125, s_X8_takeNumber_126, s_X8_takeNumber_129, s_X8_takeNumber_132, s_X8_takeNumber_133, mH_obj ha, m_g0 ha, m_g1 ha, m_g2 ha, m_g3 ha, m_g4 ha, m_g5 ha, m_g6 ha, m_g7 ha, m_g8 ha, m_g9 ha, m_g10 ha, m_g11 ha, m_g12 ha, m_g13 ha, m_g14 ha, m_g15 ha, m_g16 ha, m_g17 ha, m_g18 ha, m_g19 ha, m_g20 ha, m_p3 ha, m_p7 ha, m_p8 ha, m_p9 ha, m_p12 ha, m_p16 ha, m_p17 ha, m_p18 ha, m_p19 ha, m_p20 ha, m_r1 ha, m_r2 ha, m_r3 ha, m_r4 ha, m_r5 ha, m_r6 ha, m_r7 ha, m_r8 ha, m_r9 ha, m_r10 ha, m_r11 ha, m_s1 ha, m_s2 ha, m_s3 ha, m_s4 ha, m_s5 ha, m_s6 ha, m_s7 ha, m_s8 ha, m_s9 ha, m_s10 ha, m_s11 ha, zI_add, zI_sub, zI_mul, zI_neg, zL_add, zL_sub, zL_mul, Option.bind_some, Option.toList_some, Option.toList_none, List.cons_append, List.nil_append, zI_lt, zI_le, zI_eq, zI_eq0, zI_lt0, zI_le0, zI_0lt, zI_0le, bZ_e0, Int.add_zero, Int.zero_add, up2_s, up2_n]
    unfold tnV tnT
    rw [if_neg q]
    have e1 : tnE (txX t) (t 0 3) (t 0 8) = rnF 48 57 (txX t) (t 0 3) 200 (skP (txX t) (t 0 3) (t 0 8)) := rfl
    rw [e1]
    by_cases z1 : rnF 48 57 (txX t) (t 0 3) 200 (skP (txX t) (t 0 3) (t 0 8)) = skP (txX t) (t 0 3) (t 0 8)
    · rw [if_pos z1, if_pos (Or.inl z1)]
    · rw [if_neg z1]
      by_cases z2 : rnF 48 57 (txX t) (t 0 3) 200 (skP (txX t) (t 0 3) (t 0 8)) - skP (txX t) (t 0 3) (t 0 8) ≤ 2
      · rw [if_pos z2, if_neg (by unfold tnB; omega)]
      · rw [if_neg z2, if_pos (by unfold tnB; omega)]
end

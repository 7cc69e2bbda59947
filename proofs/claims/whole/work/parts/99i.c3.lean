/-! THE CARD: an item -/
section
variable {h : xH} {d : Nat} {t T : Nat → Nat → Int}
theorem s_num_1 {l0 : Value} : x_ev (d, n_X1_numbersOf, 1, [l0], [.int (zI 1)], h) = x_ev (d, n_X1_numbersOf, 40, [l0], [], h) := x_go_ev (x_nx xc_68 dX1_numbersOf_1 rfl)
theorem s_num_3 {l0 : Value} : x_ev (d, n_X1_numbersOf, 1, [l0], [.int (zI 3)], h) = x_ev (d, n_X1_numbersOf, 40, [l0], [], h) := x_go_ev (x_nx xc_68 dX1_numbersOf_1 rfl)
theorem s_num_4 {l0 : Value} : x_ev (d, n_X1_numbersOf, 1, [l0], [.int (zI 4)], h) = x_ev (d, n_X1_numbersOf, 40, [l0], [], h) := x_go_ev (x_nx xc_68 dX1_numbersOf_1 rfl)
theorem k_nums {w : Int} (h0 : 0 ≤ w) (h1 : w ≤ 5) : x_cl d n_X1_numbersOf [.int (zI w)] h = some (some (.int (zI (nmO w))), h) := by
  simp (disch := first | omega | assumption) only [e_X1_numbersOf, s_X1_numbersOf_0]
  rcases (show w = 0 ∨ w = 1 ∨ w = 2 ∨ w = 3 ∨ w = 4 ∨ w = 5 by omega) with e | e | e | e | e | e <;> subst e
  · rw [s_X1_numbersOf_1_c0]
    simp only [s_X1_numbersOf_38, s_X1_numbersOf_39]
    rfl
  · rw [s_num_1]
    simp only [s_X1_numbersOf_40, s_X1_numbersOf_41]
    rfl
  · rw [s_X1_numbersOf_1_c2]
    simp only [s_X1_numbersOf_36, s_X1_numbersOf_37]
    rfl
  · rw [s_num_3]
    simp only [s_X1_numbersOf_40, s_X1_numbersOf_41]
    rfl
  · rw [s_num_4]
    simp only [s_X1_numbersOf_40, s_X1_numbersOf_41]
    rfl
  · rw [s_X1_numbersOf_1_c5]
    simp only [s_X1_numbersOf_38, s_X1_numbersOf_39]
    rfl
theorem k_num {q e : Int} (hh : 91 ≤ h.1) (hx : txOk t) (hc : cdR T t) (h5 : T 33 5 = q) (h6 : T 33 6 = e) (hq : 0 ≤ q) (he : e ≤ t 0 3) (hqe : e = q + 1 ∨ e = q + 2) : x_cl d n_X1_numberOfToken [.ref 33] (cH h T) = some (some (.int (zI (tnG (txX t) q e))), cH h T) := by
  have hn := hx.1
  have x1 := cd_x (p := q) hc hq (by omega)
  have r1 := tx_rg (p := q) hx
  simp (disch := first | omega | assumption) only [e_X1_numberOfToken, s_X1_numberOfToken_0, s_X1_numberOfToken_1, s_X1_numberOfToken_2, s_X1_numberOfToken_3, s_X1_numberOfToken_6, c_oo hh, c_og0 hh, c_og1 hh, c_og2 hh, c_og3 hh, c_og4 hh, c_og5 hh, c_og6 hh, c_og7 hh, c_og8 hh, c_og9 hh, c_ko hh, c_kg0 hh, c_kg1 hh, c_kg2 hh, c_kg3 hh, c_kg4 hh, c_kg5 hh, c_kg6 hh, c_wo hh, c_wg0 hh, c_wg1 hh, c_wg2 hh, c_wg3 hh, c_wg4 hh, c_wg5 hh, c_wg6 hh, c_wg7 hh, c_wg8 hh, c_po hh, c_pg0 hh, c_pg1 hh, c_pg2 hh, c_pg3 hh, c_pg4 hh, c_pg5 hh, c_pg6 hh, c_pg7 hh, c_q31 hh, c_q39 hh, c_op7 hh, c_op8 hh, c_op9 hh, c_kp0 hh, c_kp1 hh, c_kp5 hh, c_kp6 hh, c_wp1 hh, c_wp2 hh, c_wp3 hh, c_wp7 hh, c_wp8 hh, c_pp0 hh, c_pp1 hh, c_pp2 hh, c_pp6 hh, c_pp7 hh, c_r32 hh, c_r34 hh, c_r35 hh, c_r36 hh, c_r38 hh, c_r40 hh, c_r41 hh, c_r57 hh, c_r58 hh, c_s32 hh, c_s34 hh, c_s35 hh, c_s36 hh, c_s38 hh, c_s40 hh, c_s41 hh, c_s57 hh, c_s58 hh, zI_add, zI_sub, zI_mul, zI_neg, zL_add, zL_sub, zL_mul, Option.bind_some, Option.toList_some, Option.toList_none, List.cons_append, List.nil_append, zI_lt, zI_le, zI_eq, zI_eq0, zI_lt0, zI_le0, zI_0lt, zI_0le, bZ_e0, h5]
  rw [s_X1_numberOfToken_7]
  simp (disch := first | omega | assumption) only [s_X1_numberOfToken_8, s_X1_numberOfToken_9, s_X1_numberOfToken_12, c_oo hh, c_og0 hh, c_og1 hh, c_og2 hh, c_og3 hh, c_og4 hh, c_og5 hh, c_og6 hh, c_og7 hh, c_og8 hh, c_og9 hh, c_ko hh, c_kg0 hh, c_kg1 hh, c_kg2 hh, c_kg3 hh, c_kg4 hh, c_kg5 hh, c_kg6 hh, c_wo hh, c_wg0 hh, c_wg1 hh, c_wg2 hh, c_wg3 hh, c_wg4 hh, c_wg5 hh, c_wg6 hh, c_wg7 hh, c_wg8 hh, c_po hh, c_pg0 hh, c_pg1 hh, c_pg2 hh, c_pg3 hh, c_pg4 hh, c_pg5 hh, c_pg6 hh, c_pg7 hh, c_q31 hh, c_q39 hh, c_op7 hh, c_op8 hh, c_op9 hh, c_kp0 hh, c_kp1 hh, c_kp5 hh, c_kp6 hh, c_wp1 hh, c_wp2 hh, c_wp3 hh, c_wp7 hh, c_wp8 hh, c_pp0 hh, c_pp1 hh, c_pp2 hh, c_pp6 hh, c_pp7 hh, c_r32 hh, c_r34 hh, c_r35 hh, c_r36 hh, c_r38 hh, c_r40 hh, c_r41 hh, c_r57 hh, c_r58 hh, c_s32 hh, c_s34 hh, c_s35 hh, c_s36 hh, c_s38 hh, c_s40 hh, c_s41 hh, c_s57 hh, c_s58 hh, zI_add, zI_sub, zI_mul, zI_neg, zL_add, zL_sub, zL_mul, Option.bind_some, Option.toList_some, Option.toList_none, List.cons_append, List.nil_append, zI_lt, zI_le, zI_eq, zI_eq0, zI_lt0, zI_le0, zI_0lt, zI_0le, bZ_e0, h6]
  rw [if_neg (by omega)]
  simp (disch := first | omega | assumption) only [s_X1_numberOfToken_15, s_X1_numberOfToken_17, s_X1_numberOfToken_18, s_X1_numberOfToken_19, s_X1_numberOfToken_20, s_X1_numberOfToken_23, s_X1_numberOfToken_24, s_X1_numberOfToken_25, s_X1_numberOfToken_26, s_X1_numberOfToken_28, s_X1_numberOfToken_29, s_X1_numberOfToken_30, s_X1_numberOfToken_33, c_oo hh, c_og0 hh, c_og1 hh, c_og2 hh, c_og3 hh, c_og4 hh, c_og5 hh, c_og6 hh, c_og7 hh, c_og8 hh, c_og9 hh, c_ko hh, c_kg0 hh, c_kg1 hh, c_kg2 hh, c_kg3 hh, c_kg4 hh, c_kg5 hh, c_kg6 hh, c_wo hh, c_wg0 hh, c_wg1 hh, c_wg2 hh, c_wg3 hh, c_wg4 hh, c_wg5 hh, c_wg6 hh, c_wg7 hh, c_wg8 hh, c_po hh, c_pg0 hh, c_pg1 hh, c_pg2 hh, c_pg3 hh, c_pg4 hh, c_pg5 hh, c_pg6 hh, c_pg7 hh, c_q31 hh, c_q39 hh, c_op7 hh, c_op8 hh, c_op9 hh, c_kp0 hh, c_kp1 hh, c_kp5 hh, c_kp6 hh, c_wp1 hh, c_wp2 hh, c_wp3 hh, c_wp7 hh, c_wp8 hh, c_pp0 hh, c_pp1 hh, c_pp2 hh, c_pp6 hh, c_pp7 hh, c_r32 hh, c_r34 hh, c_r35 hh, c_r36 hh, c_r38 hh, c_r40 hh, c_r41 hh, c_r57 hh, c_r58 hh, c_s32 hh, c_s34 hh, c_s35 hh, c_s36 hh, c_s38 hh, c_s40 hh, c_s41 hh, c_s57 hh, c_s58 hh, zI_add, zI_sub, zI_mul, zI_neg, zL_add, zL_sub, zL_mul, Option.bind_some, Option.toList_some, Option.toList_none, List.cons_append, List.nil_append, zI_lt, zI_le, zI_eq, zI_eq0, zI_lt0, zI_le0, zI_0lt, zI_0le, bZ_e0, x1]
  rw [s_X1_numberOfToken_7]
  simp (disch := first | omega | assumption) only [s_X1_numberOfToken_8, s_X1_numberOfToken_9, s_X1_numberOfToken_12, c_oo hh, c_og0 hh, c_og1 hh, c_og2 hh, c_og3 hh, c_og4 hh, c_og5 hh, c_og6 hh, c_og7 hh, c_og8 hh, c_og9 hh, c_ko hh, c_kg0 hh, c_kg1 hh, c_kg2 hh, c_kg3 hh, c_kg4 hh, c_kg5 hh, c_kg6 hh, c_wo hh, c_wg0 hh, c_wg1 hh, c_wg2 hh, c_wg3 hh, c_wg4 hh, c_wg5 hh, c_wg6 hh, c_wg7 hh, c_wg8 hh, c_po hh, c_pg0 hh, c_pg1 hh, c_pg2 hh, c_pg3 hh, c_pg4 hh, c_pg5 hh, c_pg6 hh, c_pg7 hh, c_q31 hh, c_q39 hh, c_op7 hh, c_op8 hh, c_op9 hh, c_kp0 hh, c_kp1 hh, c_kp5 hh, c_kp6 hh, c_wp1 hh, c_wp2 hh, c_wp3 hh, c_wp7 hh, c_wp8 hh, c_pp0 hh, c_pp1 hh, c_pp2 hh, c_pp6 hh, c_pp7 hh, c_r32 hh, c_r34 hh, c_r35 hh, c_r36 hh, c_r38 hh, c_r40 hh, c_r41 hh, c_r57 hh, c_r58 hh, c_s32 hh, c_s34 hh, c_s35 hh, c_s36 hh, c_s38 hh, c_s40 hh, c_s41 hh, c_s57 hh, c_s58 hh, zI_add, zI_sub, zI_mul, zI_neg, zL_add, zL_sub, zL_mul, Option.bind_some, Option.toList_some, Option.toList_none, List.cons_append, List.nil_append, zI_lt, zI_le, zI_eq, zI_eq0, zI_lt0, zI_le0, zI_0lt, zI_0le, bZ_e0, h6]
  unfold tnG
  by_cases z : e = q + 1
  · rw [if_pos (by omega), if_pos z]
    simp (disch := first | omega | assumption) only [s_X1_numberOfToken_36, s_X1_numberOfToken_37]
    rw [show 10 * 0 + txX t q - 48 = txX t q - 48 by omega]
  · have x2 := cd_x (p := q + 1) hc (by omega) (by omega)
    rw [if_neg (by omega), if_neg z]
    simp (disch := first | omega | assumption) only [s_X1_numberOfToken_15, s_X1_numberOfToken_17, s_X1_numberOfToken_18, s_X1_numberOfToken_19, s_X1_numberOfToken_20, s_X1_numberOfToken_23, s_X1_numberOfToken_24, s_X1_numberOfToken_25, s_X1_numberOfToken_26, s_X1_numberOfToken_28, s_X1_numberOfToken_29, s_X1_numberOfToken_30, s_X1_numberOfToken_33, c_oo hh, c_og0 hh, c_og1 hh, c_og2 hh, c_og3 hh, c_og4 hh, c_og5 hh, c_og6 hh, c_og7 hh, c_og8 hh, c_og9 hh, c_ko hh, c_kg0 hh, c_kg1 hh, c_kg2 hh, c_kg3 hh, c_kg4 hh, c_kg5 hh, c_kg6 hh, c_wo hh, c_wg0 hh, c_wg1 hh, c_wg2 hh, c_wg3 hh, c_wg4 hh, c_wg5 hh, c_wg6 hh, c_wg7 hh, c_wg8 hh, c_po hh, c_pg0 hh, c_pg1 hh, c_pg2 hh, c_pg3 hh, c_pg4 hh, c_pg5 hh, c_pg6 hh, c_pg7 hh, c_q31 hh, c_q39 hh, c_op7 hh, c_op8 hh, c_op9 hh, c_kp0 hh, c_kp1 hh, c_kp5 hh, c_kp6 hh, c_wp1 hh, c_wp2 hh, c_wp3 hh, c_wp7 hh, c_wp8 hh, c_pp0 hh, c_pp1 hh, c_pp2 hh, c_pp6 hh, c_pp7 hh, c_r32 hh, c_r34 hh, c_r35 hh, c_r36 hh, c_r38 hh, c_r40 hh, c_r41 hh, c_r57 hh, c_r58 hh, c_s32 hh, c_s34 hh, c_s35 hh, c_s36 hh, c_s38 hh, c_s40 hh, c_s41 hh, c_s57 hh, c_s58 hh, zI_add, zI_sub, zI_mul, zI_neg, zL_add, zL_sub, zL_mul, Option.bind_some, Option.toList_some, Option.toList_none, List.cons_append, List.nil_append, zI_lt, zI_le, zI_eq, zI_eq0, zI_lt0, zI_le0, zI_0lt, zI_0le, bZ_e0, x2]
    rw [s_X1_numberOfToken_7]
    simp (disch := first | omega | assumption) only [s_X1_numberOfToken_8, s_X1_numberOfToken_9, s_X1_numberOfToken_12, c_oo hh, c_og0 hh, c_og1 hh, c_og2 hh, c_og3 hh, c_og4 hh, c_og5 hh, c_og6 hh, c_og7 hh, c_og8 hh, c_og9 hh, c_ko hh, c_kg0 hh, c_kg1 hh, c_kg2 hh, c_kg3 hh, c_kg4 hh, c_kg5 hh, c_kg6 hh, c_wo hh, c_wg0 hh, c_wg1 hh, c_wg2 hh, c_wg3 hh, c_wg4 hh, c_wg5 hh, c_wg6 hh, c_wg7 hh, c_wg8 hh, c_po hh, c_pg0 hh, c_pg1 hh, c_pg2 hh, c_pg3 hh, c_pg4 hh, c_pg5 hh, c_pg6 hh, c_pg7 hh, c_q31 hh, c_q39 hh, c_op7 hh, c_op8 hh, c_op9 hh, c_kp0 hh, c_kp1 hh, c_kp5 hh, c_kp6 hh, c_wp1 hh, c_wp2 hh, c_wp3 hh, c_wp7 hh, c_wp8 hh, c_pp0 hh, c_pp1 hh, c_pp2 hh, c_pp6 hh, c_pp7 hh, c_r32 hh, c_r34 hh, c_r35 hh, c_r36 hh, c_r38 hh, c_r40 hh, c_r41 hh, c_r57 hh, c_r58 hh, c_s32 hh, c_s34 hh, c_s35 hh, c_s36 hh, c_s38 hh, c_s40 hh, c_s41 hh, c_s57 hh, c_s58 hh, zI_add, zI_sub, zI_mul, zI_neg, zL_add, zL_sub, zL_mul, Option.bind_some, Option.toList_some, Option.toList_none, List.cons_append, List.nil_append, zI_lt, zI_le, zI_eq, zI_eq0, zI_lt0, zI_le0, zI_0lt, zI_0le, bZ_e0, h6]
    rw [if_pos (by omega)]
    simp (disch := first | omega | assumption) only [s_X1_numberOfToken_36, s_X1_numberOfToken_37]
    rw [show 10 * (10 * 0 + txX t q - 48) + txX t (q + 1) - 48 = 10 * (txX t q - 48) + txX t (q + 1) - 48 by omega]
theorem rnF_0 {lo hi : Int} {x : Int → Int} {n p : Int} (hp : ¬ (p < n ∧ lo ≤ x p ∧ x p ≤ hi)) : rnF lo hi x n 200 p = p := by
  rw [show (200 : Nat) = 199 + 1 from rfl, rnF, if_neg hp]
theorem rnF_1 {lo hi : Int} {x : Int → Int} {n p : Int} (hp : p < n ∧ lo ≤ x p ∧ x p ≤ hi) : p + 1 ≤ rnF lo hi x n 200 p ∧ rnF lo hi x n 200 p ≤ n := by
  rw [show (200 : Nat) = 199 + 1 from rfl, rnF, if_pos hp]
  exact rnF_rg _ _ (by omega)
theorem tk_num {x : Int → Int} {n s : Int} : tkK x n s = 2 ↔ ¬ tnB s (fiP x n s) := by
  unfold tkK tnB
  by_cases a : n ≤ s
  · rw [if_pos a]
    have : fiP x n s = s := rnF_0 (by omega)
    rw [this]
    exact ⟨fun y => absurd y (by decide), fun y => absurd (Or.inl rfl) y⟩
  · rw [if_neg a]
    by_cases b : 97 ≤ x s ∧ x s ≤ 122
    · rw [if_pos b]
      have : fiP x n s = s := rnF_0 (by omega)
      rw [this]
      exact ⟨fun y => absurd y (by decide), fun y => absurd (Or.inl rfl) y⟩
    · rw [if_neg b]
      by_cases c : 48 ≤ x s ∧ x s ≤ 57
      · rw [if_pos c]
        have r : s + 1 ≤ fiP x n s ∧ fiP x n s ≤ n := rnF_1 (by omega)
        by_cases e : 2 < fiP x n s - s
        · rw [if_pos e]
          exact ⟨fun y => absurd y (by decide), fun y => absurd (Or.inr e) y⟩
        · rw [if_neg e]
          exact ⟨fun _ => by omega, fun _ => rfl⟩
      · rw [if_neg c]
        have : fiP x n s = s := rnF_0 (by omega)
        rw [this]
        refine ⟨fun y => ?_, fun y => absurd (Or.inl rfl) y⟩
        by_cases e : x s = 59
        · rw [if_pos e] at y; exact absurd y (by decide)
        · rw [if_neg e] at y; exact absurd y (by decide)
theorem tk_numE {x : Int → Int} {n s : Int} (hk : tkK x n s = 2) : tkE x n s = fiP x n s := by
  unfold tkK at hk
  unfold tkE
  by_cases a : n ≤ s
  · rw [if_pos a] at hk; exact absurd hk (by decide)
  · rw [if_neg a] at hk ⊢
    by_cases b : 97 ≤ x s ∧ x s ≤ 122
    · rw [if_pos b] at hk; exact absurd hk (by decide)
    · rw [if_neg b] at hk ⊢
      by_cases c : 48 ≤ x s ∧ x s ≤ 57
      · rw [if_pos c]
      · rw [if_neg c] at hk
        by_cases e : x s = 59
        · rw [if_pos e] at hk; exact absurd hk (by decide)
        · rw [if_neg e] at hk; exact absurd hk (by decide)
theorem tk_semi {x : Int → Int} {n s : Int} (hs : s ≤ n) : tkK x n s = 3 ↔ ¬ (s = n ∨ x s ≠ 59) := by
  unfold tkK
  by_cases a : n ≤ s
  · rw [if_pos a]
    exact ⟨fun y => absurd y (by decide), fun y => absurd (Or.inl (by omega)) y⟩
  · rw [if_neg a]
    by_cases b : 97 ≤ x s ∧ x s ≤ 122
    · rw [if_pos b]
      exact ⟨fun y => absurd y (by decide), fun y => absurd (Or.inr (by omega)) y⟩
    · rw [if_neg b]
      by_cases c : 48 ≤ x s ∧ x s ≤ 57
      · rw [if_pos c]
        refine ⟨fun y => ?_, fun y => absurd (Or.inr (by omega)) y⟩
        by_cases e : 2 < fiP x n s - s
        · rw [if_pos e] at y; exact absurd y (by decide)
        · rw [if_neg e] at y; exact absurd y (by decide)
      · rw [if_neg c]
        by_cases e : x s = 59
        · rw [if_pos e]
          exact ⟨fun _ => by omega, fun _ => rfl⟩
        · rw [if_neg e]
          exact ⟨fun y => absurd y (by decide), fun y => absurd (Or.inr e) y⟩
theorem tk_semiE {x : Int → Int} {n s : Int} (hs : s ≤ n) (hk : tkK x n s = 3) : tkE x n s = s + 1 := by
  have := tk_semi hs |>.mp hk
  unfold tkE
  rw [if_neg (by omega), if_neg (by omega), if_neg (by omega)]
theorem tk_rg {x : Int → Int} {n s : Int} : 0 ≤ tkK x n s ∧ tkK x n s ≤ 4 := by
  unfold tkK
  repeat (first | omega | split)
theorem tkE_rg {x : Int → Int} {n s : Int} (hs : s ≤ n) : s ≤ tkE x n s ∧ tkE x n s ≤ n := by
  unfold tkE
  by_cases a : n ≤ s
  · rw [if_pos a]; omega
  · rw [if_neg a]
    by_cases b : 97 ≤ x s ∧ x s ≤ 122
    · rw [if_pos b]
      exact rnF_rg _ _ hs
    · rw [if_neg b]
      by_cases c : 48 ≤ x s ∧ x s ≤ 57
      · rw [if_pos c]
        exact rnF_rg _ _ hs
      · rw [if_neg c]
        omega
def fnP (T' : Nat → Nat → Int) (m : Int) (i j : Nat) : Int ⊕ (List Int × Int) → Prop
  | .inl f => -1 < f
  | .inr (l, p) => T' 33 6 = p ∧ (0 ≤ p) ∧ l.length = j ∧ ∀ c : Nat, c < j → T' 36 (4 * m + (i : Int) + (c : Int)).toNat = l.getD c 0
noncomputable def fnE (d : Nat) (h : xH) (T' : Nat → Nat → Int) (w : Int) : Int ⊕ (List Int × Int) → Option xE
  | .inl f => some (some (.int (zI f)), cH h T')
  | .inr _ => x_ev (d + 2, n_X1_findItem, 108, [.ref 33, .int (zI w), .int (zI (nmO w))], [], cH h T')
theorem l_fnum {w m : Int} (hh : 91 ≤ h.1) (hx : txOk t) (hw : 0 ≤ w ∧ w ≤ 5) (h0 : 0 ≤ m) (h1 : m < 40) : ∀ (j i : Nat) (T : Nat → Nat → Int) (p : Int), (i : Int) + j = nmO w → cdR T t → T 33 1 = m → T 33 6 = p → 0 ≤ p → p ≤ t 0 3 →
    ∃ T', (∀ a b : Nat, ¬ (a = 33 ∧ (b = 5 ∨ b = 6)) → ¬ (a = 36 ∧ 4 * m + (i : Int) ≤ b ∧ (b : Int) < 4 * m + 4) → T' a b = T a b) ∧ fnP T' m i j (nuS (txX t) (t 0 3) j p) ∧ (T' 33 6 ≤ t 0 3 ∨ ∃ f, nuS (txX t) (t 0 3) j p = .inl f) ∧ x_ev (d + 2, n_X1_findItem, 64, [.ref 33, .int (zI w), .int (zI i)], [], cH h T) = fnE d h T' w (nuS (txX t) (t 0 3) j p) := by
  have hn := hx.1
  have hm := nmO_rg w
  intro j
  induction j with
  | zero =>
    intro i T p hi hc t1 t6 p0 p1
    refine ⟨T, fun _ _ _ _ => rfl, ⟨t6, p0, rfl, fun c hc => by omega⟩, Or.inl (by omega), ?_⟩
    rw [s_X1_findItem_64, nuS]
    simp (disch := first | omega | assumption) only [s_X1_findItem_65, s_X1_findItem_66, s_X1_findItem_69, c_oo hh, c_og0 hh, c_og1 hh, c_og2 hh, c_og3 hh, c_og4 hh, c_og5 hh, c_og6 hh, c_og7 hh, c_og8 hh, c_og9 hh, c_ko hh, c_kg0 hh, c_kg1 hh, c_kg2 hh, c_kg3 hh, c_kg4 hh, c_kg5 hh, c_kg6 hh, c_wo hh, c_wg0 hh, c_wg1 hh, c_wg2 hh, c_wg3 hh, c_wg4 hh, c_wg5 hh, c_wg6 hh, c_wg7 hh, c_wg8 hh, c_po hh, c_pg0 hh, c_pg1 hh, c_pg2 hh, c_pg3 hh, c_pg4 hh, c_pg5 hh, c_pg6 hh, c_pg7 hh, c_q31 hh, c_q39 hh, c_op7 hh, c_op8 hh, c_op9 hh, c_kp0 hh, c_kp1 hh, c_kp5 hh, c_kp6 hh, c_wp1 hh, c_wp2 hh, c_wp3 hh, c_wp7 hh, c_wp8 hh, c_pp0 hh, c_pp1 hh, c_pp2 hh, c_pp6 hh, c_pp7 hh, c_r32 hh, c_r34 hh, c_r35 hh, c_r36 hh, c_r38 hh, c_r40 hh, c_r41 hh, c_r57 hh, c_r58 hh, c_s32 hh, c_s34 hh, c_s35 hh, c_s36 hh, c_s38 hh, c_s40 hh, c_s41 hh, c_s57 hh, c_s58 hh, zI_add, zI_sub, zI_mul, zI_neg, zL_add, zL_sub, zL_mul, Option.bind_some, Option.toList_some, Option.toList_none, List.cons_append, List.nil_append, zI_lt, zI_le, zI_eq, zI_eq0, zI_lt0, zI_le0, zI_0lt, zI_0le, bZ_e0, k_nums]
    rw [if_pos (by omega), show (i : Int) = nmO w by omega]
    rfl
  | succ j ih =>
    intro i T p hi hc t1 t6 p0 p1
    have kn := k_next (d := d) (h := h) hh hx hc (by omega) (by omega)
    rw [t6] at kn
    have r := skP_rg (x := txX t) p1
    have kr := tk_rg (x := txX t) (n := t 0 3) (s := skP (txX t) (t 0 3) p)
    have e5 : ∀ e, ntT T (skP (txX t) (t 0 3) p) e 33 5 = skP (txX t) (t 0 3) p := fun e => by unfold ntT; rw [up2_n (by omega), up2_s]
    rw [s_X1_findItem_64, nuS]
    simp (disch := first | omega | assumption) only [s_X1_findItem_65, s_X1_findItem_66, s_X1_findItem_69, c_oo hh, c_og0 hh, c_og1 hh, c_og2 hh, c_og3 hh, c_og4 hh, c_og5 hh, c_og6 hh, c_og7 hh, c_og8 hh, c_og9 hh, c_ko hh, c_kg0 hh, c_kg1 hh, c_kg2 hh, c_kg3 hh, c_kg4 hh, c_kg5 hh, c_kg6 hh, c_wo hh, c_wg0 hh, c_wg1 hh, c_wg2 hh, c_wg3 hh, c_wg4 hh, c_wg5 hh, c_wg6 hh, c_wg7 hh, c_wg8 hh, c_po hh, c_pg0 hh, c_pg1 hh, c_pg2 hh, c_pg3 hh, c_pg4 hh, c_pg5 hh, c_pg6 hh, c_pg7 hh, c_q31 hh, c_q39 hh, c_op7 hh, c_op8 hh, c_op9 hh, c_kp0 hh, c_kp1 hh, c_kp5 hh, c_kp6 hh, c_wp1 hh, c_wp2 hh, c_wp3 hh, c_wp7 hh, c_wp8 hh, c_pp0 hh, c_pp1 hh, c_pp2 hh, c_pp6 hh, c_pp7 hh, c_r32 hh, c_r34 hh, c_r35 hh, c_r36 hh, c_r38 hh, c_r40 hh, c_r41 hh, c_r57 hh, c_r58 hh, c_s32 hh, c_s34 hh, c_s35 hh, c_s36 hh, c_s38 hh, c_s40 hh, c_s41 hh, c_s57 hh, c_s58 hh, zI_add, zI_sub, zI_mul, zI_neg, zL_add, zL_sub, zL_mul, Option.bind_some, Option.toList_some, Option.toList_none, List.cons_append, List.nil_append, zI_lt, zI_le, zI_eq, zI_eq0, zI_lt0, zI_le0, zI_0lt, zI_0le, bZ_e0, k_nums]
    rw [if_neg (show ¬ nmO w ≤ (i : Int) by omega)]
    simp (disch := first | omega | assumption) only [s_X1_findItem_72, s_X1_findItem_73, s_X1_findItem_76, s_X1_findItem_77, c_oo hh, c_og0 hh, c_og1 hh, c_og2 hh, c_og3 hh, c_og4 hh, c_og5 hh, c_og6 hh, c_og7 hh, c_og8 hh, c_og9 hh, c_ko hh, c_kg0 hh, c_kg1 hh, c_kg2 hh, c_kg3 hh, c_kg4 hh, c_kg5 hh, c_kg6 hh, c_wo hh, c_wg0 hh, c_wg1 hh, c_wg2 hh, c_wg3 hh, c_wg4 hh, c_wg5 hh, c_wg6 hh, c_wg7 hh, c_wg8 hh, c_po hh, c_pg0 hh, c_pg1 hh, c_pg2 hh, c_pg3 hh, c_pg4 hh, c_pg5 hh, c_pg6 hh, c_pg7 hh, c_q31 hh, c_q39 hh, c_op7 hh, c_op8 hh, c_op9 hh, c_kp0 hh, c_kp1 hh, c_kp5 hh, c_kp6 hh, c_wp1 hh, c_wp2 hh, c_wp3 hh, c_wp7 hh, c_wp8 hh, c_pp0 hh, c_pp1 hh, c_pp2 hh, c_pp6 hh, c_pp7 hh, c_r32 hh, c_r34 hh, c_r35 hh, c_r36 hh, c_r38 hh, c_r40 hh, c_r41 hh, c_r57 hh, c_r58 hh, c_s32 hh, c_s34 hh, c_s35 hh, c_s36 hh, c_s38 hh, c_s40 hh, c_s41 hh, c_s57 hh, c_s58 hh, zI_add, zI_sub, zI_mul, zI_neg, zL_add, zL_sub, zL_mul, Option.bind_some, Option.toList_some, Option.toList_none, List.cons_append, List.nil_append, zI_lt, zI_le, zI_eq, zI_eq0, zI_lt0, zI_le0, zI_0lt, zI_0le, bZ_e0, kn]
    by_cases z : tnB (skP (txX t) (t 0 3) p) (tnE (txX t) (t 0 3) p)
    · have nk : ¬ tkK (txX t) (t 0 3) (skP (txX t) (t 0 3) p) = 2 := fun y => tk_num.mp y z
      rw [if_pos z, if_neg nk]
      refine ⟨ntT T (skP (txX t) (t 0 3) p) (tkE (txX t) (t 0 3) (skP (txX t) (t 0 3) p)), fun a b c1 c2 => ?_, show (-1 : Int) < _ by omega, Or.inr ⟨_, rfl⟩, ?_⟩
      · unfold ntT
        rw [up2_n (by omega), up2_n (by omega)]
      · simp (disch := first | omega | assumption) only [s_X1_findItem_80, s_X1_findItem_81, s_X1_findItem_84, c_oo hh, c_og0 hh, c_og1 hh, c_og2 hh, c_og3 hh, c_og4 hh, c_og5 hh, c_og6 hh, c_og7 hh, c_og8 hh, c_og9 hh, c_ko hh, c_kg0 hh, c_kg1 hh, c_kg2 hh, c_kg3 hh, c_kg4 hh, c_kg5 hh, c_kg6 hh, c_wo hh, c_wg0 hh, c_wg1 hh, c_wg2 hh, c_wg3 hh, c_wg4 hh, c_wg5 hh, c_wg6 hh, c_wg7 hh, c_wg8 hh, c_po hh, c_pg0 hh, c_pg1 hh, c_pg2 hh, c_pg3 hh, c_pg4 hh, c_pg5 hh, c_pg6 hh, c_pg7 hh, c_q31 hh, c_q39 hh, c_op7 hh, c_op8 hh, c_op9 hh, c_kp0 hh, c_kp1 hh, c_kp5 hh, c_kp6 hh, c_wp1 hh, c_wp2 hh, c_wp3 hh, c_wp7 hh, c_wp8 hh, c_pp0 hh, c_pp1 hh, c_pp2 hh, c_pp6 hh, c_pp7 hh, c_r32 hh, c_r34 hh, c_r35 hh, c_r36 hh, c_r38 hh, c_r40 hh, c_r41 hh, c_r57 hh, c_r58 hh, c_s32 hh, c_s34 hh, c_s35 hh, c_s36 hh, c_s38 hh, c_s40 hh, c_s41 hh, c_s57 hh, c_s58 hh, zI_add, zI_sub, zI_mul, zI_neg, zL_add, zL_sub, zL_mul, Option.bind_some, Option.toList_some, Option.toList_none, List.cons_append, List.nil_append, zI_lt, zI_le, zI_eq, zI_eq0, zI_lt0, zI_le0, zI_0lt, zI_0le, bZ_e0, e5]
        rfl
    · have kk : tkK (txX t) (t 0 3) (skP (txX t) (t 0 3) p) = 2 := tk_num.mpr z
      have ke := tk_numE kk
      have er := tkE_rg (x := txX t) (n := t 0 3) (s := skP (txX t) (t 0 3) p) (by omega)
      rw [ke] at er
      rw [if_neg z, if_pos kk, ke]
      generalize hs : skP (txX t) (t 0 3) p = s at *
      have etn : tnE (txX t) (t 0 3) p = fiP (txX t) (t 0 3) s := by unfold tnE; rw [hs]
      have vg := tnV_g (x := txX t) (n := t 0 3) (p := p) (by rw [hs]; exact z)
      rw [hs, etn] at vg
      rw [etn] at z ⊢
      generalize hE : fiP (txX t) (t 0 3) s = e at *
      have hc1 : cdR (ntT T s e) t := cdR_u (cdR_u hc (by decide)) (by decide)
      have kv := k_num (d := d + 1) (h := h) (T := ntT T s e) (q := s) (e := e) hh hx hc1 (e5 e) up2_s (by omega) (by omega) (by unfold tnB at z; omega)
      rw [← vg.1] at kv
      have i1 : ntT T s e 33 1 = m := by unfold ntT; rw [up2_n (by omega), up2_n (by omega), t1]
      obtain ⟨T', u1, u2, u3, u4⟩ := ih (i + 1) (up2 (ntT T s e) 36 (m * 4 + (i : Int)).toNat (tnV (txX t) (t 0 3) p)) e (by omega) (hc1.go (up2_n (by omega)) fun b => up2_n (by omega)) ((up2_n (by omega)).trans i1) ((up2_n (by omega)).trans up2_s) (by omega) (by omega)
      have ei : (i : Int) + 1 = ((i + 1 : Nat) : Int) := by omega
      refine ⟨T', fun a b c1 c2 => ?_, ?_, ?_, ?_⟩
      · rw [u1 a b c1 (by omega), up2_n (by omega)]
        unfold ntT
        rw [up2_n (by omega), up2_n (by omega)]
      · cases hN : nuS (txX t) (t 0 3) j e with
        | inl f =>
          rw [hN] at u2
          exact u2
        | inr lp =>
          obtain ⟨l, p'⟩ := lp
          rw [hN] at u2
          obtain ⟨a1, a2, a3, a4⟩ := u2
          refine ⟨a1, a2, by rw [List.length_cons, a3], fun c hc => ?_⟩
          cases c with
          | zero =>
            show T' 36 (4 * m + (i : Int) + ((0 : Nat) : Int)).toNat = tnV (txX t) (t 0 3) p
            rw [u1 36 _ (by omega) (by omega), show (4 * m + (i : Int) + ((0 : Nat) : Int)).toNat = (m * 4 + (i : Int)).toNat by omega, up2_s]
          | succ c =>
            have := a4 c (by omega)
            rw [← show 4 * m + (i : Int) + ((c + 1 : Nat) : Int) = 4 * m + ((i + 1 : Nat) : Int) + (c : Int) by omega] at this
            exact this
      · cases hN : nuS (txX t) (t 0 3) j e with
        | inl f => exact Or.inr ⟨f, rfl⟩
        | inr lp =>
          rcases u3 with u | ⟨f, u⟩
          · exact Or.inl u
          · rw [hN] at u; cases u
      · simp (disch := first | omega | assumption) only [s_X1_findItem_85, s_X1_findItem_86, s_X1_findItem_89, s_X1_findItem_90, s_X1_findItem_93, s_X1_findItem_94, s_X1_findItem_95, s_X1_findItem_96, s_X1_findItem_97, s_X1_findItem_98, s_X1_findItem_101, s_X1_findItem_102, s_X1_findItem_105, c_oo hh, c_og0 hh, c_og1 hh, c_og2 hh, c_og3 hh, c_og4 hh, c_og5 hh, c_og6 hh, c_og7 hh, c_og8 hh, c_og9 hh, c_ko hh, c_kg0 hh, c_kg1 hh, c_kg2 hh, c_kg3 hh, c_kg4 hh, c_kg5 hh, c_kg6 hh, c_wo hh, c_wg0 hh, c_wg1 hh, c_wg2 hh, c_wg3 hh, c_wg4 hh, c_wg5 hh, c_wg6 hh, c_wg7 hh, c_wg8 hh, c_po hh, c_pg0 hh, c_pg1 hh, c_pg2 hh, c_pg3 hh, c_pg4 hh, c_pg5 hh, c_pg6 hh, c_pg7 hh, c_q31 hh, c_q39 hh, c_op7 hh, c_op8 hh, c_op9 hh, c_kp0 hh, c_kp1 hh, c_kp5 hh, c_kp6 hh, c_wp1 hh, c_wp2 hh, c_wp3 hh, c_wp7 hh, c_wp8 hh, c_pp0 hh, c_pp1 hh, c_pp2 hh, c_pp6 hh, c_pp7 hh, c_r32 hh, c_r34 hh, c_r35 hh, c_r36 hh, c_r38 hh, c_r40 hh, c_r41 hh, c_r57 hh, c_r58 hh, c_s32 hh, c_s34 hh, c_s35 hh, c_s36 hh, c_s38 hh, c_s40 hh, c_s41 hh, c_s57 hh, c_s58 hh, zI_add, zI_sub, zI_mul, zI_neg, zL_add, zL_sub, zL_mul, Option.bind_some, Option.toList_some, Option.toList_none, List.cons_append, List.nil_append, zI_lt, zI_le, zI_eq, zI_eq0, zI_lt0, zI_le0, zI_0lt, zI_0le, bZ_e0, i1, kv]
        rw [ei]
        refine Eq.trans u4 ?_
        cases hN : nuS (txX t) (t 0 3) j e with
        | inl f => rfl
        | inr lp => rfl
end

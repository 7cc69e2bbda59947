/-! THE CARD: words and numbers -/
section
variable {h : xH} {d : Nat} {t T : Nat → Nat → Int}
def nmA : List (List Int) := [[104, 97, 108, 108], [115, 104, 101, 108, 102], [114, 101, 97, 100, 101, 114], [108, 97, 109, 112], [111, 105, 108], [115, 116, 114, 105, 110, 103]]
def nmW (w : Nat) : List Int := nmA.getD w []
theorem tx_all : ∀ w : Fin 6, x_tx[w.val]? = some ((nmW w.val).map zI) := by decide +kernel
theorem tx_len : ∀ w : Fin 6, nI ((nmW w.val).map zI).length = zI (((nmW w.val).length : Nat) : Int) := by decide +kernel
theorem tx_ch : ∀ (w : Fin 6) (i : Fin 6), i.val < (nmW w.val).length → x_ch w.val (zI (i.val : Int)) = some (zI ((nmW w.val).getD i.val 0)) := by decide +kernel
theorem nm_len : ∀ w : Fin 6, 3 ≤ (nmW w.val).length ∧ (nmW w.val).length ≤ 6 := by decide +kernel
theorem nm_rg : ∀ (w : Fin 6) (i : Fin 6), 0 ≤ (nmW w.val).getD i.val 0 ∧ (nmW w.val).getD i.val 0 ≤ 122 := by decide +kernel
def tkB (x : Int → Int) (s : Int) (w : Nat) : Nat → Nat → Bool
  | 0, _ => true
  | c + 1, i => decide (x (s + (i : Int)) = (nmW w).getD i 0) && tkB x s w c (i + 1)
theorem l_isTok {s e : Int} {w : Nat} (hh : 91 ≤ h.1) (hx : txOk t) (hc : cdR T t) (hw : w < 6) (h5 : T 33 5 = s) (h6 : T 33 6 = e) (hs : 0 ≤ s) (he : e ≤ t 0 3) (hl : e - s = ((nmW w).length : Nat)) : ∀ (c i : Nat), i + c = (nmW w).length → x_ev (d + 1, n_X1_isToken, 20, [.ref 33, .retAddr w, .int (zI i)], [], cH h T) = some (some (.int (zI (bZ (tkB (txX t) s w c i = true)))), cH h T) := by
  have hn := hx.1
  have ea := tx_all ⟨w, hw⟩
  have el := tx_len ⟨w, hw⟩
  have nl := nm_len ⟨w, hw⟩
  dsimp only at ea el nl
  intro c
  induction c with
  | zero =>
    intro i hi
    rw [s_X1_isToken_20, tkB]
    simp (disch := first | omega | assumption) only [s_X1_isToken_21, s_X1_isToken_22, s_X1_isToken_25, c_oo hh, c_og0 hh, c_og1 hh, c_og2 hh, c_og3 hh, c_og4 hh, c_og5 hh, c_og6 hh, c_og7 hh, c_og8 hh, c_og9 hh, c_ko hh, c_kg0 hh, c_kg1 hh, c_kg2 hh, c_kg3 hh, c_kg4 hh, c_kg5 hh, c_kg6 hh, c_wo hh, c_wg0 hh, c_wg1 hh, c_wg2 hh, c_wg3 hh, c_wg4 hh, c_wg5 hh, c_wg6 hh, c_wg7 hh, c_wg8 hh, c_po hh, c_pg0 hh, c_pg1 hh, c_pg2 hh, c_pg3 hh, c_pg4 hh, c_pg5 hh, c_pg6 hh, c_pg7 hh, c_q31 hh, c_q39 hh, c_op7 hh, c_op8 hh, c_op9 hh, c_kp0 hh, c_kp1 hh, c_kp5 hh, c_kp6 hh, c_wp1 hh, c_wp2 hh, c_wp3 hh, c_wp7 hh, c_wp8 hh, c_pp0 hh, c_pp1 hh, c_pp2 hh, c_pp6 hh, c_pp7 hh, c_r32 hh, c_r34 hh, c_r35 hh, c_r36 hh, c_r38 hh, c_r40 hh, c_r41 hh, c_r57 hh, c_r58 hh, c_s32 hh, c_s34 hh, c_s35 hh, c_s36 hh, c_s38 hh, c_s40 hh, c_s41 hh, c_s57 hh, c_s58 hh, zI_add, zI_sub, zI_mul, zI_neg, zL_add, zL_sub, zL_mul, Option.bind_some, Option.toList_some, Option.toList_none, List.cons_append, List.nil_append, zI_lt, zI_le, zI_eq, zI_eq0, zI_lt0, zI_le0, zI_0lt, zI_0le, bZ_e0, ea, el]
    rw [if_pos (by omega), bZ_t trivial]
    simp (disch := first | omega | assumption) only [s_X1_isToken_55, s_X1_isToken_56_0, s_X1_isToken_56_1, s_X1_isToken_56_b]
  | succ c ih =>
    intro i hi
    have ec := tx_ch ⟨w, hw⟩ ⟨i, by omega⟩ (by dsimp only; omega)
    have rg := nm_rg ⟨w, hw⟩ ⟨i, by omega⟩
    dsimp only at ec rg
    have ex := cd_x (p := s + (i : Int)) hc (by omega) (by omega)
    have hr := tx_rg (p := s + (i : Int)) hx
    rw [s_X1_isToken_20, tkB]
    simp (disch := first | omega | assumption) only [s_X1_isToken_21, s_X1_isToken_22, s_X1_isToken_25, c_oo hh, c_og0 hh, c_og1 hh, c_og2 hh, c_og3 hh, c_og4 hh, c_og5 hh, c_og6 hh, c_og7 hh, c_og8 hh, c_og9 hh, c_ko hh, c_kg0 hh, c_kg1 hh, c_kg2 hh, c_kg3 hh, c_kg4 hh, c_kg5 hh, c_kg6 hh, c_wo hh, c_wg0 hh, c_wg1 hh, c_wg2 hh, c_wg3 hh, c_wg4 hh, c_wg5 hh, c_wg6 hh, c_wg7 hh, c_wg8 hh, c_po hh, c_pg0 hh, c_pg1 hh, c_pg2 hh, c_pg3 hh, c_pg4 hh, c_pg5 hh, c_pg6 hh, c_pg7 hh, c_q31 hh, c_q39 hh, c_op7 hh, c_op8 hh, c_op9 hh, c_kp0 hh, c_kp1 hh, c_kp5 hh, c_kp6 hh, c_wp1 hh, c_wp2 hh, c_wp3 hh, c_wp7 hh, c_wp8 hh, c_pp0 hh, c_pp1 hh, c_pp2 hh, c_pp6 hh, c_pp7 hh, c_r32 hh, c_r34 hh, c_r35 hh, c_r36 hh, c_r38 hh, c_r40 hh, c_r41 hh, c_r57 hh, c_r58 hh, c_s32 hh, c_s34 hh, c_s35 hh, c_s36 hh, c_s38 hh, c_s40 hh, c_s41 hh, c_s57 hh, c_s58 hh, zI_add, zI_sub, zI_mul, zI_neg, zL_add, zL_sub, zL_mul, Option.bind_some, Option.toList_some, Option.toList_none, List.cons_append, List.nil_append, zI_lt, zI_le, zI_eq, zI_eq0, zI_lt0, zI_le0, zI_0lt, zI_0le, bZ_e0, ea, el]
    rw [if_neg (by omega)]
    simp (disch := first | omega | assumption) only [s_X1_isToken_28, s_X1_isToken_29, s_X1_isToken_32, s_X1_isToken_33, s_X1_isToken_36, s_X1_isToken_37, s_X1_isToken_38, s_X1_isToken_39, s_X1_isToken_40, s_X1_isToken_41, s_X1_isToken_44, c_oo hh, c_og0 hh, c_og1 hh, c_og2 hh, c_og3 hh, c_og4 hh, c_og5 hh, c_og6 hh, c_og7 hh, c_og8 hh, c_og9 hh, c_ko hh, c_kg0 hh, c_kg1 hh, c_kg2 hh, c_kg3 hh, c_kg4 hh, c_kg5 hh, c_kg6 hh, c_wo hh, c_wg0 hh, c_wg1 hh, c_wg2 hh, c_wg3 hh, c_wg4 hh, c_wg5 hh, c_wg6 hh, c_wg7 hh, c_wg8 hh, c_po hh, c_pg0 hh, c_pg1 hh, c_pg2 hh, c_pg3 hh, c_pg4 hh, c_pg5 hh, c_pg6 hh, c_pg7 hh, c_q31 hh, c_q39 hh, c_op7 hh, c_op8 hh, c_op9 hh, c_kp0 hh, c_kp1 hh, c_kp5 hh, c_kp6 hh, c_wp1 hh, c_wp2 hh, c_wp3 hh, c_wp7 hh, c_wp8 hh, c_pp0 hh, c_pp1 hh, c_pp2 hh, c_pp6 hh, c_pp7 hh, c_r32 hh, c_r34 hh, c_r35 hh, c_r36 hh, c_r38 hh, c_r40 hh, c_r41 hh, c_r57 hh, c_r58 hh, c_s32 hh, c_s34 hh, c_s35 hh, c_s36 hh, c_s38 hh, c_s40 hh, c_s41 hh, c_s57 hh, c_s58 hh, zI_add, zI_sub, zI_mul, zI_neg, zL_add, zL_sub, zL_mul, Option.bind_some, Option.toList_some, Option.toList_none, List.cons_append, List.nil_append, zI_lt, zI_le, zI_eq, zI_eq0, zI_lt0, zI_le0, zI_0lt, zI_0le, bZ_e0, h5, ex, ec]
    by_cases z : txX t (s + (i : Int)) = (nmW w).getD i 0
    · rw [if_pos z, decide_eq_true z, Bool.true_and]
      simp (disch := first | omega | assumption) only [s_X1_isToken_49, s_X1_isToken_52, c_oo hh, c_og0 hh, c_og1 hh, c_og2 hh, c_og3 hh, c_og4 hh, c_og5 hh, c_og6 hh, c_og7 hh, c_og8 hh, c_og9 hh, c_ko hh, c_kg0 hh, c_kg1 hh, c_kg2 hh, c_kg3 hh, c_kg4 hh, c_kg5 hh, c_kg6 hh, c_wo hh, c_wg0 hh, c_wg1 hh, c_wg2 hh, c_wg3 hh, c_wg4 hh, c_wg5 hh, c_wg6 hh, c_wg7 hh, c_wg8 hh, c_po hh, c_pg0 hh, c_pg1 hh, c_pg2 hh, c_pg3 hh, c_pg4 hh, c_pg5 hh, c_pg6 hh, c_pg7 hh, c_q31 hh, c_q39 hh, c_op7 hh, c_op8 hh, c_op9 hh, c_kp0 hh, c_kp1 hh, c_kp5 hh, c_kp6 hh, c_wp1 hh, c_wp2 hh, c_wp3 hh, c_wp7 hh, c_wp8 hh, c_pp0 hh, c_pp1 hh, c_pp2 hh, c_pp6 hh, c_pp7 hh, c_r32 hh, c_r34 hh, c_r35 hh, c_r36 hh, c_r38 hh, c_r40 hh, c_r41 hh, c_r57 hh, c_r58 hh, c_s32 hh, c_s34 hh, c_s35 hh, c_s36 hh, c_s38 hh, c_s40 hh, c_s41 hh, c_s57 hh, c_s58 hh, zI_add, zI_sub, zI_mul, zI_neg, zL_add, zL_sub, zL_mul, Option.bind_some, Option.toList_some, Option.toList_none, List.cons_append, List.nil_append, zI_lt, zI_le, zI_eq, zI_eq0, zI_lt0, zI_le0, zI_0lt, zI_0le, bZ_e0]
      rw [show (i : Int) + 1 = ((i + 1 : Nat) : Int) by omega]
      exact ih (i + 1) (by omega)
    · rw [if_neg z, decide_eq_false z, Bool.false_and, bZ_f (by decide)]
      simp (disch := first | omega | assumption) only [s_X1_isToken_47, s_X1_isToken_48_0, s_X1_isToken_48_1, s_X1_isToken_48_b]
def tkV (x : Int → Int) (s : Int) (c w : Nat) : Bool := decide (c = (nmW w).length) && tkB x s w (nmW w).length 0
theorem k_isTok {s e : Int} {c w : Nat} (hh : 91 ≤ h.1) (hx : txOk t) (hc : cdR T t) (hw : w < 6) (h5 : T 33 5 = s) (h6 : T 33 6 = e) (hs : 0 ≤ s) (he : e ≤ t 0 3) (hl : e - s = (c : Nat)) : x_cl (d + 1) n_X1_isToken [.ref 33, .retAddr w] (cH h T) = some (some (.int (zI (bZ (tkV (txX t) s c w = true)))), cH h T) := by
  have hn := hx.1
  have ea := tx_all ⟨w, hw⟩
  have el := tx_len ⟨w, hw⟩
  have nl := nm_len ⟨w, hw⟩
  dsimp only at ea el nl
  unfold tkV
  simp (disch := first | omega | assumption) only [e_X1_isToken, s_X1_isToken_0, s_X1_isToken_1, s_X1_isToken_4, s_X1_isToken_5, s_X1_isToken_8, s_X1_isToken_9, s_X1_isToken_12, s_X1_isToken_13, c_oo hh, c_og0 hh, c_og1 hh, c_og2 hh, c_og3 hh, c_og4 hh, c_og5 hh, c_og6 hh, c_og7 hh, c_og8 hh, c_og9 hh, c_ko hh, c_kg0 hh, c_kg1 hh, c_kg2 hh, c_kg3 hh, c_kg4 hh, c_kg5 hh, c_kg6 hh, c_wo hh, c_wg0 hh, c_wg1 hh, c_wg2 hh, c_wg3 hh, c_wg4 hh, c_wg5 hh, c_wg6 hh, c_wg7 hh, c_wg8 hh, c_po hh, c_pg0 hh, c_pg1 hh, c_pg2 hh, c_pg3 hh, c_pg4 hh, c_pg5 hh, c_pg6 hh, c_pg7 hh, c_q31 hh, c_q39 hh, c_op7 hh, c_op8 hh, c_op9 hh, c_kp0 hh, c_kp1 hh, c_kp5 hh, c_kp6 hh, c_wp1 hh, c_wp2 hh, c_wp3 hh, c_wp7 hh, c_wp8 hh, c_pp0 hh, c_pp1 hh, c_pp2 hh, c_pp6 hh, c_pp7 hh, c_r32 hh, c_r34 hh, c_r35 hh, c_r36 hh, c_r38 hh, c_r40 hh, c_r41 hh, c_r57 hh, c_r58 hh, c_s32 hh, c_s34 hh, c_s35 hh, c_s36 hh, c_s38 hh, c_s40 hh, c_s41 hh, c_s57 hh, c_s58 hh, zI_add, zI_sub, zI_mul, zI_neg, zL_add, zL_sub, zL_mul, Option.bind_some, Option.toList_some, Option.toList_none, List.cons_append, List.nil_append, zI_lt, zI_le, zI_eq, zI_eq0, zI_lt0, zI_le0, zI_0lt, zI_0le, bZ_e0, ea, el, h5, h6]
  by_cases z : c = (nmW w).length
  · rw [if_pos (by omega), decide_eq_true z, Bool.true_and]
    simp (disch := first | omega | assumption) only [s_X1_isToken_18, s_X1_isToken_19]
    exact l_isTok hh hx hc hw h5 h6 hs he (by omega) _ 0 (by omega)
  · rw [if_neg (by omega), decide_eq_false z, Bool.false_and, bZ_f (by decide)]
    simp (disch := first | omega | assumption) only [s_X1_isToken_16, s_X1_isToken_17_0, s_X1_isToken_17_1, s_X1_isToken_17_b]
theorem k_name {w : Nat} (hw : w < 6) : x_cl d n_X1_nameOf [.int (zI w)] h = some (some (.retAddr w), h) := by
  simp (disch := first | omega | assumption) only [e_X1_nameOf, s_X1_nameOf_0]
  rcases (show w = 0 ∨ w = 1 ∨ w = 2 ∨ w = 3 ∨ w = 4 ∨ w = 5 by omega) with e | e | e | e | e | e <;> subst e
  · refine Eq.trans s_X1_nameOf_1_c0 ?_
    simp only [s_X1_nameOf_36, s_X1_nameOf_38]
  · refine Eq.trans s_X1_nameOf_1_c1 ?_
    simp only [s_X1_nameOf_39, s_X1_nameOf_41]
  · refine Eq.trans s_X1_nameOf_1_c2 ?_
    simp only [s_X1_nameOf_42, s_X1_nameOf_44]
  · refine Eq.trans s_X1_nameOf_1_c3 ?_
    simp only [s_X1_nameOf_45, s_X1_nameOf_47]
  · refine Eq.trans s_X1_nameOf_1_c4 ?_
    simp only [s_X1_nameOf_48, s_X1_nameOf_50]
  · rw [s_X1_nameOf_1_d (by decide)]
    simp only [s_X1_nameOf_51, s_X1_nameOf_53]
def wkF (x : Int → Int) (s : Int) (c : Nat) : Nat → Nat → Int
  | 0, _ => -1
  | k + 1, w => if tkV x s c w = true then (w : Int) else wkF x s c k (w + 1)
theorem l_word {s e : Int} {c : Nat} (hh : 91 ≤ h.1) (hx : txOk t) (hc : cdR T t) (h5 : T 33 5 = s) (h6 : T 33 6 = e) (hs : 0 ≤ s) (he : e ≤ t 0 3) (hl : e - s = (c : Nat)) : ∀ (k w : Nat), w + k = 6 → x_ev (d + 2, n_X1_wordOfToken, 2, [.ref 33, .int (zI w)], [], cH h T) = some (some (.int (zI (wkF (txX t) s c k w))), cH h T) := by
  intro k
  induction k with
  | zero =>
    intro w hw
    rw [s_X1_wordOfToken_2, wkF]
    simp (disch := first | omega | assumption) only [s_X1_wordOfToken_3, s_X1_wordOfToken_5, c_oo hh, c_og0 hh, c_og1 hh, c_og2 hh, c_og3 hh, c_og4 hh, c_og5 hh, c_og6 hh, c_og7 hh, c_og8 hh, c_og9 hh, c_ko hh, c_kg0 hh, c_kg1 hh, c_kg2 hh, c_kg3 hh, c_kg4 hh, c_kg5 hh, c_kg6 hh, c_wo hh, c_wg0 hh, c_wg1 hh, c_wg2 hh, c_wg3 hh, c_wg4 hh, c_wg5 hh, c_wg6 hh, c_wg7 hh, c_wg8 hh, c_po hh, c_pg0 hh, c_pg1 hh, c_pg2 hh, c_pg3 hh, c_pg4 hh, c_pg5 hh, c_pg6 hh, c_pg7 hh, c_q31 hh, c_q39 hh, c_op7 hh, c_op8 hh, c_op9 hh, c_kp0 hh, c_kp1 hh, c_kp5 hh, c_kp6 hh, c_wp1 hh, c_wp2 hh, c_wp3 hh, c_wp7 hh, c_wp8 hh, c_pp0 hh, c_pp1 hh, c_pp2 hh, c_pp6 hh, c_pp7 hh, c_r32 hh, c_r34 hh, c_r35 hh, c_r36 hh, c_r38 hh, c_r40 hh, c_r41 hh, c_r57 hh, c_r58 hh, c_s32 hh, c_s34 hh, c_s35 hh, c_s36 hh, c_s38 hh, c_s40 hh, c_s41 hh, c_s57 hh, c_s58 hh, zI_add, zI_sub, zI_mul, zI_neg, zL_add, zL_sub, zL_mul, Option.bind_some, Option.toList_some, Option.toList_none, List.cons_append, List.nil_append, zI_lt, zI_le, zI_eq, zI_eq0, zI_lt0, zI_le0, zI_0lt, zI_0le, bZ_e0]
    rw [if_pos (by omega)]
    simp (disch := first | omega | assumption) only [s_X1_wordOfToken_27, s_X1_wordOfToken_28]
  | succ k ih =>
    intro w hw
    have kt := k_isTok (d := d) (h := h) (w := w) hh hx hc (by omega) h5 h6 hs he hl
    rw [s_X1_wordOfToken_2, wkF]
    simp (disch := first | omega | assumption) only [s_X1_wordOfToken_3, s_X1_wordOfToken_5, c_oo hh, c_og0 hh, c_og1 hh, c_og2 hh, c_og3 hh, c_og4 hh, c_og5 hh, c_og6 hh, c_og7 hh, c_og8 hh, c_og9 hh, c_ko hh, c_kg0 hh, c_kg1 hh, c_kg2 hh, c_kg3 hh, c_kg4 hh, c_kg5 hh, c_kg6 hh, c_wo hh, c_wg0 hh, c_wg1 hh, c_wg2 hh, c_wg3 hh, c_wg4 hh, c_wg5 hh, c_wg6 hh, c_wg7 hh, c_wg8 hh, c_po hh, c_pg0 hh, c_pg1 hh, c_pg2 hh, c_pg3 hh, c_pg4 hh, c_pg5 hh, c_pg6 hh, c_pg7 hh, c_q31 hh, c_q39 hh, c_op7 hh, c_op8 hh, c_op9 hh, c_kp0 hh, c_kp1 hh, c_kp5 hh, c_kp6 hh, c_wp1 hh, c_wp2 hh, c_wp3 hh, c_wp7 hh, c_wp8 hh, c_pp0 hh, c_pp1 hh, c_pp2 hh, c_pp6 hh, c_pp7 hh, c_r32 hh, c_r34 hh, c_r35 hh, c_r36 hh, c_r38 hh, c_r40 hh, c_r41 hh, c_r57 hh, c_r58 hh, c_s32 hh, c_s34 hh, c_s35 hh, c_s36 hh, c_s38 hh, c_s40 hh, c_s41 hh, c_s57 hh, c_s58 hh, zI_add, zI_sub, zI_mul, zI_neg, zL_add, zL_sub, zL_mul, Option.bind_some, Option.toList_some, Option.toList_none, List.cons_append, List.nil_append, zI_lt, zI_le, zI_eq, zI_eq0, zI_lt0, zI_le0, zI_0lt, zI_0le, bZ_e0]
    rw [if_neg (by omega)]
    simp (disch := first | omega | assumption) only [s_X1_wordOfToken_8, s_X1_wordOfToken_9, s_X1_wordOfToken_10, s_X1_wordOfToken_13, s_X1_wordOfToken_16, c_oo hh, c_og0 hh, c_og1 hh, c_og2 hh, c_og3 hh, c_og4 hh, c_og5 hh, c_og6 hh, c_og7 hh, c_og8 hh, c_og9 hh, c_ko hh, c_kg0 hh, c_kg1 hh, c_kg2 hh, c_kg3 hh, c_kg4 hh, c_kg5 hh, c_kg6 hh, c_wo hh, c_wg0 hh, c_wg1 hh, c_wg2 hh, c_wg3 hh, c_wg4 hh, c_wg5 hh, c_wg6 hh, c_wg7 hh, c_wg8 hh, c_po hh, c_pg0 hh, c_pg1 hh, c_pg2 hh, c_pg3 hh, c_pg4 hh, c_pg5 hh, c_pg6 hh, c_pg7 hh, c_q31 hh, c_q39 hh, c_op7 hh, c_op8 hh, c_op9 hh, c_kp0 hh, c_kp1 hh, c_kp5 hh, c_kp6 hh, c_wp1 hh, c_wp2 hh, c_wp3 hh, c_wp7 hh, c_wp8 hh, c_pp0 hh, c_pp1 hh, c_pp2 hh, c_pp6 hh, c_pp7 hh, c_r32 hh, c_r34 hh, c_r35 hh, c_r36 hh, c_r38 hh, c_r40 hh, c_r41 hh, c_r57 hh, c_r58 hh, c_s32 hh, c_s34 hh, c_s35 hh, c_s36 hh, c_s38 hh, c_s40 hh, c_s41 hh, c_s57 hh, c_s58 hh, zI_add, zI_sub, zI_mul, zI_neg, zL_add, zL_sub, zL_mul, Option.bind_some, Option.toList_some, Option.toList_none, List.cons_append, List.nil_append, zI_lt, zI_le, zI_eq, zI_eq0, zI_lt0, zI_le0, zI_0lt, zI_0le, bZ_e0, k_name, kt]
    by_cases z : tkV (txX t) s c w = true
    · rw [if_neg (fun y => y z), if_pos z]
      simp (disch := first | omega | assumption) only [s_X1_wordOfToken_19, s_X1_wordOfToken_20]
    · rw [if_pos z, if_neg z]
      simp (disch := first | omega | assumption) only [s_X1_wordOfToken_21, s_X1_wordOfToken_24, zI_add, zI_sub, zI_mul, zI_neg, zL_add, zL_sub, zL_mul]
      rw [show (w : Int) + 1 = ((w + 1 : Nat) : Int) by omega]
      exact ih (w + 1) (by omega)
/-- letters by number, letters one by one -/
def cdW : List Int := [263564, 20190598, 609259698, 394672, 15660, 659105223]
theorem tkV_i {x : Int → Int} {s : Int} {c w : Nat} (hw : w < 6) (hl : ∀ j : Nat, j < c → 97 ≤ x (s + (j : Int)) ∧ x (s + (j : Int)) ≤ 122) : tkV x s c w = true ↔ ltN x s c = cdW.getD w 0 := by
  by_cases c7 : 7 ≤ c
  · rw [ltN_7 c c7]
    have y0 := hl 0 (by omega)
    have y1 := hl 1 (by omega)
    have y2 := hl 2 (by omega)
    have y3 := hl 3 (by omega)
    have y4 := hl 4 (by omega)
    have y5 := hl 5 (by omega)
    have y6 := hl 6 (by omega)
    have e : ltN x s 7 = 32 * (32 * (32 * (32 * (32 * (32 * (32 * 0 + x (s + ((0 : Nat) : Int)) - 96) + x (s + ((1 : Nat) : Int)) - 96) + x (s + ((2 : Nat) : Int)) - 96) + x (s + ((3 : Nat) : Int)) - 96) + x (s + ((4 : Nat) : Int)) - 96) + x (s + ((5 : Nat) : Int)) - 96) + x (s + ((6 : Nat) : Int)) - 96 := rfl
    have nl := nm_len ⟨w, hw⟩
    dsimp only at nl
    unfold tkV
    rw [decide_eq_false (show ¬ c = (nmW w).length by omega), Bool.false_and, e]
    refine ⟨fun y => absurd y (by decide), fun y => ?_⟩
    have : cdW.getD w 0 ≤ 659105223 := by
      rcases (show w = 0 ∨ w = 1 ∨ w = 2 ∨ w = 3 ∨ w = 4 ∨ w = 5 by omega) with e | e | e | e | e | e <;> subst e <;> decide
    omega
  · have hc : c = 0 ∨ c = 1 ∨ c = 2 ∨ c = 3 ∨ c = 4 ∨ c = 5 ∨ c = 6 := by omega
    have hw' : w = 0 ∨ w = 1 ∨ w = 2 ∨ w = 3 ∨ w = 4 ∨ w = 5 := by omega
    have y0 := hl 0
    have y1 := hl 1
    have y2 := hl 2
    have y3 := hl 3
    have y4 := hl 4
    have y5 := hl 5
    clear hl hw c7
    generalize e0 : x (s + ((0 : Nat) : Int)) = a0 at *
    generalize e1 : x (s + ((1 : Nat) : Int)) = a1 at *
    generalize e2 : x (s + ((2 : Nat) : Int)) = a2 at *
    generalize e3 : x (s + ((3 : Nat) : Int)) = a3 at *
    generalize e4 : x (s + ((4 : Nat) : Int)) = a4 at *
    generalize e5 : x (s + ((5 : Nat) : Int)) = a5 at *
    have l0 : ltN x s 0 = 0 := rfl
    have l1 : ltN x s 1 = 32 * 0 + a0 - 96 := by rw [← e0]; rfl
    have l2 : ltN x s 2 = 32 * (32 * 0 + a0 - 96) + a1 - 96 := by rw [← e0, ← e1]; rfl
    have l3 : ltN x s 3 = 32 * (32 * (32 * 0 + a0 - 96) + a1 - 96) + a2 - 96 := by rw [← e0, ← e1, ← e2]; rfl
    have l4 : ltN x s 4 = 32 * (32 * (32 * (32 * 0 + a0 - 96) + a1 - 96) + a2 - 96) + a3 - 96 := by rw [← e0, ← e1, ← e2, ← e3]; rfl
    have l5 : ltN x s 5 = 32 * (32 * (32 * (32 * (32 * 0 + a0 - 96) + a1 - 96) + a2 - 96) + a3 - 96) + a4 - 96 := by rw [← e0, ← e1, ← e2, ← e3, ← e4]; rfl
    have l6 : ltN x s 6 = 32 * (32 * (32 * (32 * (32 * (32 * 0 + a0 - 96) + a1 - 96) + a2 - 96) + a3 - 96) + a4 - 96) + a5 - 96 := by rw [← e0, ← e1, ← e2, ← e3, ← e4, ← e5]; rfl
    have b0 : tkB x s 0 4 0 = (decide (a0 = 104) && (decide (a1 = 97) && (decide (a2 = 108) && (decide (a3 = 108) && true)))) := by rw [← e0, ← e1, ← e2, ← e3]; rfl
    have b1 : tkB x s 1 5 0 = (decide (a0 = 115) && (decide (a1 = 104) && (decide (a2 = 101) && (decide (a3 = 108) && (decide (a4 = 102) && true))))) := by rw [← e0, ← e1, ← e2, ← e3, ← e4]; rfl
    have b2 : tkB x s 2 6 0 = (decide (a0 = 114) && (decide (a1 = 101) && (decide (a2 = 97) && (decide (a3 = 100) && (decide (a4 = 101) && (decide (a5 = 114) && true)))))) := by rw [← e0, ← e1, ← e2, ← e3, ← e4, ← e5]; rfl
    have b3 : tkB x s 3 4 0 = (decide (a0 = 108) && (decide (a1 = 97) && (decide (a2 = 109) && (decide (a3 = 112) && true)))) := by rw [← e0, ← e1, ← e2, ← e3]; rfl
    have b4 : tkB x s 4 3 0 = (decide (a0 = 111) && (decide (a1 = 105) && (decide (a2 = 108) && true))) := by rw [← e0, ← e1, ← e2]; rfl
    have b5 : tkB x s 5 6 0 = (decide (a0 = 115) && (decide (a1 = 116) && (decide (a2 = 114) && (decide (a3 = 105) && (decide (a4 = 110) && (decide (a5 = 103) && true)))))) := by rw [← e0, ← e1, ← e2, ← e3, ← e4, ← e5]; rfl
    clear e0 e1 e2 e3 e4 e5
    have v0 : ∀ c, tkV x s c 0 = (decide (c = 4) && tkB x s 0 4 0) := fun _ => rfl
    have v1 : ∀ c, tkV x s c 1 = (decide (c = 5) && tkB x s 1 5 0) := fun _ => rfl
    have v2 : ∀ c, tkV x s c 2 = (decide (c = 6) && tkB x s 2 6 0) := fun _ => rfl
    have v3 : ∀ c, tkV x s c 3 = (decide (c = 4) && tkB x s 3 4 0) := fun _ => rfl
    have v4 : ∀ c, tkV x s c 4 = (decide (c = 3) && tkB x s 4 3 0) := fun _ => rfl
    have v5 : ∀ c, tkV x s c 5 = (decide (c = 6) && tkB x s 5 6 0) := fun _ => rfl
    have g0 : cdW.getD 0 0 = 263564 := rfl
    have g1 : cdW.getD 1 0 = 20190598 := rfl
    have g2 : cdW.getD 2 0 = 609259698 := rfl
    have g3 : cdW.getD 3 0 = 394672 := rfl
    have g4 : cdW.getD 4 0 = 15660 := rfl
    have g5 : cdW.getD 5 0 = 659105223 := rfl
    rcases hw' with rfl | rfl | rfl | rfl | rfl | rfl
    · rw [v0, b0, g0]
      simp only [Bool.and_eq_true, decide_eq_true_eq, and_true]
      rcases hc with rfl | rfl | rfl | rfl | rfl | rfl | rfl <;> simp only [l0, l1, l2, l3, l4, l5, l6] <;> clear b1 b2 b3 b4 b5 b0 l0 l1 l2 l3 l4 l5 l6 v0 v1 v2 v3 v4 v5 g0 g1 g2 g3 g4 g5 <;> first | omega | ((first | have z0 := y0 (by decide) | skip); (first | have z1 := y1 (by decide) | skip); (first | have z2 := y2 (by decide) | skip); (first | have z3 := y3 (by decide) | skip); (first | have z4 := y4 (by decide) | skip); (first | have z5 := y5 (by decide) | skip); clear y0 y1 y2 y3 y4 y5; refine ⟨fun hP => ?_, fun hE => ?_⟩ <;> first | omega | (and_intros <;> first | trivial | omega))
    · rw [v1, b1, g1]
      simp only [Bool.and_eq_true, decide_eq_true_eq, and_true]
      rcases hc with rfl | rfl | rfl | rfl | rfl | rfl | rfl <;> simp only [l0, l1, l2, l3, l4, l5, l6] <;> clear b1 b2 b3 b4 b5 b0 l0 l1 l2 l3 l4 l5 l6 v0 v1 v2 v3 v4 v5 g0 g1 g2 g3 g4 g5 <;> first | omega | ((first | have z0 := y0 (by decide) | skip); (first | have z1 := y1 (by decide) | skip); (first | have z2 := y2 (by decide) | skip); (first | have z3 := y3 (by decide) | skip); (first | have z4 := y4 (by decide) | skip); (first | have z5 := y5 (by decide) | skip); clear y0 y1 y2 y3 y4 y5; refine ⟨fun hP => ?_, fun hE => ?_⟩ <;> first | omega | (and_intros <;> first | trivial | omega))
    · rw [v2, b2, g2]
      simp only [Bool.and_eq_true, decide_eq_true_eq, and_true]
      rcases hc with rfl | rfl | rfl | rfl | rfl | rfl | rfl <;> simp only [l0, l1, l2, l3, l4, l5, l6] <;> clear b1 b2 b3 b4 b5 b0 l0 l1 l2 l3 l4 l5 l6 v0 v1 v2 v3 v4 v5 g0 g1 g2 g3 g4 g5 <;> first | omega | ((first | have z0 := y0 (by decide) | skip); (first | have z1 := y1 (by decide) | skip); (first | have z2 := y2 (by decide) | skip); (first | have z3 := y3 (by decide) | skip); (first | have z4 := y4 (by decide) | skip); (first | have z5 := y5 (by decide) | skip); clear y0 y1 y2 y3 y4 y5; refine ⟨fun hP => ?_, fun hE => ?_⟩ <;> first | omega | (and_intros <;> first | trivial | omega))
    · rw [v3, b3, g3]
      simp only [Bool.and_eq_true, decide_eq_true_eq, and_true]
      rcases hc with rfl | rfl | rfl | rfl | rfl | rfl | rfl <;> simp only [l0, l1, l2, l3, l4, l5, l6] <;> clear b1 b2 b3 b4 b5 b0 l0 l1 l2 l3 l4 l5 l6 v0 v1 v2 v3 v4 v5 g0 g1 g2 g3 g4 g5 <;> first | omega | ((first | have z0 := y0 (by decide) | skip); (first | have z1 := y1 (by decide) | skip); (first | have z2 := y2 (by decide) | skip); (first | have z3 := y3 (by decide) | skip); (first | have z4 := y4 (by decide) | skip); (first | have z5 := y5 (by decide) | skip); clear y0 y1 y2 y3 y4 y5; refine ⟨fun hP => ?_, fun hE => ?_⟩ <;> first | omega | (and_intros <;> first | trivial | omega))
    · rw [v4, b4, g4]
      simp only [Bool.and_eq_true, decide_eq_true_eq, and_true]
      rcases hc with rfl | rfl | rfl | rfl | rfl | rfl | rfl <;> simp only [l0, l1, l2, l3, l4, l5, l6] <;> clear b1 b2 b3 b4 b5 b0 l0 l1 l2 l3 l4 l5 l6 v0 v1 v2 v3 v4 v5 g0 g1 g2 g3 g4 g5 <;> first | omega | ((first | have z0 := y0 (by decide) | skip); (first | have z1 := y1 (by decide) | skip); (first | have z2 := y2 (by decide) | skip); (first | have z3 := y3 (by decide) | skip); (first | have z4 := y4 (by decide) | skip); (first | have z5 := y5 (by decide) | skip); clear y0 y1 y2 y3 y4 y5; refine ⟨fun hP => ?_, fun hE => ?_⟩ <;> first | omega | (and_intros <;> first | trivial | omega))
    · rw [v5, b5, g5]
      simp only [Bool.and_eq_true, decide_eq_true_eq, and_true]
      rcases hc with rfl | rfl | rfl | rfl | rfl | rfl | rfl <;> simp only [l0, l1, l2, l3, l4, l5, l6] <;> clear b1 b2 b3 b4 b5 b0 l0 l1 l2 l3 l4 l5 l6 v0 v1 v2 v3 v4 v5 g0 g1 g2 g3 g4 g5 <;> first | omega | ((first | have z0 := y0 (by decide) | skip); (first | have z1 := y1 (by decide) | skip); (first | have z2 := y2 (by decide) | skip); (first | have z3 := y3 (by decide) | skip); (first | have z4 := y4 (by decide) | skip); (first | have z5 := y5 (by decide) | skip); clear y0 y1 y2 y3 y4 y5; refine ⟨fun hP => ?_, fun hE => ?_⟩ <;> first | omega | (and_intros <;> first | trivial | omega))
theorem wk_wd {x : Int → Int} {s : Int} {c : Nat} (hl : ∀ j : Nat, j < c → 97 ≤ x (s + (j : Int)) ∧ x (s + (j : Int)) ≤ 122) : wkF x s c 6 0 = wdO (ltN x s c) := by
  have i0 := tkV_i (w := 0) (by decide) hl
  have i1 := tkV_i (w := 1) (by decide) hl
  have i2 := tkV_i (w := 2) (by decide) hl
  have i3 := tkV_i (w := 3) (by decide) hl
  have i4 := tkV_i (w := 4) (by decide) hl
  have i5 := tkV_i (w := 5) (by decide) hl
  rw [show cdW.getD 0 0 = 263564 from rfl] at i0
  rw [show cdW.getD 1 0 = 20190598 from rfl] at i1
  rw [show cdW.getD 2 0 = 609259698 from rfl] at i2
  rw [show cdW.getD 3 0 = 394672 from rfl] at i3
  rw [show cdW.getD 4 0 = 15660 from rfl] at i4
  rw [show cdW.getD 5 0 = 659105223 from rfl] at i5
  unfold wdO
  simp only [wkF, Nat.reduceAdd, i0, i1, i2, i3, i4, i5]
  rfl
end

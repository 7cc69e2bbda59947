/-! THE CARD: items found -/
section
variable {h : xH} {d : Nat} {t T : Nat → Nat → Int}
theorem tk_word {x : Int → Int} {n s : Int} : tkK x n s = 1 ↔ (s < n ∧ 97 ≤ x s ∧ x s ≤ 122) := by
  unfold tkK
  by_cases a : n ≤ s
  · rw [if_pos a]
    exact ⟨fun y => absurd y (by decide), fun y => by omega⟩
  · rw [if_neg a]
    by_cases b : 97 ≤ x s ∧ x s ≤ 122
    · rw [if_pos b]
      exact ⟨fun _ => ⟨by omega, b⟩, fun _ => rfl⟩
    · rw [if_neg b]
      refine ⟨fun y => ?_, fun y => absurd y.2 b⟩
      by_cases c : 48 ≤ x s ∧ x s ≤ 57
      · rw [if_pos c] at y
        by_cases e : 2 < fiP x n s - s
        · rw [if_pos e] at y; exact absurd y (by decide)
        · rw [if_neg e] at y; exact absurd y (by decide)
      · rw [if_neg c] at y
        by_cases e : x s = 59
        · rw [if_pos e] at y; exact absurd y (by decide)
        · rw [if_neg e] at y; exact absurd y (by decide)
theorem tk_wordE {x : Int → Int} {n s : Int} (hk : tkK x n s = 1) : tkE x n s = leP x n s := by
  have := tk_word.mp hk
  unfold tkE
  rw [if_neg (by omega), if_pos this.2]
theorem k_word {s e : Int} {c : Nat} (hh : 91 ≤ h.1) (hx : txOk t) (hc : cdR T t) (h5 : T 33 5 = s) (h6 : T 33 6 = e) (hs : 0 ≤ s) (he : e ≤ t 0 3) (hl : e - s = (c : Nat)) : x_cl (d + 2) n_X1_wordOfToken [.ref 33] (cH h T) = some (some (.int (zI (wkF (txX t) s c 6 0))), cH h T) := by
  simp (disch := first | omega | assumption) only [e_X1_wordOfToken, s_X1_wordOfToken_0, s_X1_wordOfToken_1]
  exact l_word hh hx hc h5 h6 hs he hl 6 0 (by decide)
def icP (T' : Nat → Nat → Int) (n m q : Int) : Int ⊕ (Int × List Int × Int) → Prop
  | .inl f => -1 < f ∧ f ≤ n
  | .inr (w, l, p) => T' 33 1 = m + 1 ∧ T' 33 6 = p ∧ (0 ≤ p ∧ p ≤ n) ∧ T' 35 m.toNat = w ∧ (0 ≤ w ∧ w ≤ 5) ∧ (w = 0 ↔ m = 0) ∧ (l.length : Int) = nmO w ∧ ∀ i : Nat, (i : Int) < nmO w → T' 36 (4 * m + i).toNat = l.getD i 0
def icA : Int ⊕ (Int × List Int × Int) → Int
  | .inl f => f
  | .inr _ => -1
theorem nuS_rg2 {x : Int → Int} {n : Int} : ∀ (j : Nat) (p f : Int), p ≤ n → nuS x n j p = .inl f → f ≤ n := by
  intro j
  induction j with
  | zero => intro p f hp hf; rw [nuS] at hf; cases hf
  | succ j ih =>
    intro p f hp hf
    have r := skP_rg (x := x) hp
    rw [nuS] at hf
    by_cases z : tnB (skP x n p) (tnE x n p)
    · rw [if_pos z] at hf
      cases hf
      exact r.2
    · rw [if_neg z] at hf
      have r2 : tnE x n p ≤ n := (fiP_rg (x := x) r.2).2
      cases hN : nuS x n j (tnE x n p) with
      | inl g =>
        rw [hN] at hf
        cases hf
        exact ih _ _ r2 hN
      | inr lp => rw [hN] at hf; cases hf
theorem k_item {m p : Int} (hh : 91 ≤ h.1) (hx : txOk t) (hc : cdR T t) (h1 : T 33 1 = m) (h6 : T 33 6 = p) (hm : 0 ≤ m ∧ m < 40) (hp : 0 ≤ p ∧ p ≤ t 0 3) :
    ∃ T', (∀ a b : Nat, ¬ (a = 33 ∧ (b = 1 ∨ b = 5 ∨ b = 6)) → ¬ (a = 35 ∧ (b : Int) = m) → ¬ (a = 36 ∧ 4 * m ≤ b ∧ (b : Int) < 4 * m + 4) → T' a b = T a b) ∧ icP T' (t 0 3) m (skP (txX t) (t 0 3) p) (itS (txX t) (t 0 3) m (skP (txX t) (t 0 3) p)) ∧ x_cl (d + 3) n_X1_findItem [.ref 33] (cH h T) = some (some (.int (zI (icA (itS (txX t) (t 0 3) m (skP (txX t) (t 0 3) p))))), cH h T') := by
  have hn := hx.1
  have kn := k_next (d := d + 1) (h := h) hh hx hc (by omega) (by omega)
  rw [h6] at kn
  have r := skP_rg (x := txX t) hp.2
  have kr := tk_rg (x := txX t) (n := t 0 3) (s := skP (txX t) (t 0 3) p)
  generalize hs : skP (txX t) (t 0 3) p = s at *
  have e5 : ∀ e, ntT T s e 33 5 = s := fun e => by unfold ntT; rw [up2_n (by omega), up2_s]
  have lo : ∀ (e : Int) (a b : Nat), ¬ (a = 33 ∧ (b = 5 ∨ b = 6)) → ntT T s e a b = T a b := fun e a b c1 => by unfold ntT; rw [up2_n (by omega), up2_n (by omega)]
  by_cases kw : tkK (txX t) (t 0 3) s = 1
  · have ke := tk_wordE kw
    have kx := tk_word.mp kw
    have er : s + 1 ≤ leP (txX t) (t 0 3) s ∧ leP (txX t) (t 0 3) s ≤ t 0 3 := rnF_1 (by omega)
    have hal : ∀ j : Nat, j < (leP (txX t) (t 0 3) s - s).toNat → 97 ≤ txX t (s + (j : Int)) ∧ txX t (s + (j : Int)) ≤ 122 := fun j hj => (rnF_all (lo := 97) (hi := 122) 200 s (s + (j : Int)) (by omega) (show s + (j : Int) < leP (txX t) (t 0 3) s by omega)).2
    have ew := wk_wd hal
    unfold itS
    generalize hE : leP (txX t) (t 0 3) s = e at *
    have hc1 : cdR (ntT T s e) t := cdR_u (cdR_u hc (by decide)) (by decide)
    have i1 : ntT T s e 33 1 = m := (lo e 33 1 (by omega)).trans h1
    have kword := k_word (d := d) (h := h) (T := ntT T s e) (c := (e - s).toNat) hh hx hc1 (e5 e) up2_s (by omega) (by omega) (by omega)
    rw [ew] at kword
    have wr := wdO_rg (ltN (txX t) s (e - s).toNat)
    generalize wdO (ltN (txX t) s (e - s).toNat) = w at *
    rw [ke] at kn
    have fault : x_ev (d + 3, n_X1_findItem, 47, [.ref 33, .int (zI w), .null], [], cH h (ntT T s e)) = some (some (.int (zI s)), cH h (ntT T s e)) := by
      simp (disch := first | omega | assumption) only [s_X1_findItem_47, s_X1_findItem_48, s_X1_findItem_51, c_oo hh, c_og0 hh, c_og1 hh, c_og2 hh, c_og3 hh, c_og4 hh, c_og5 hh, c_og6 hh, c_og7 hh, c_og8 hh, c_og9 hh, c_ko hh, c_kg0 hh, c_kg1 hh, c_kg2 hh, c_kg3 hh, c_kg4 hh, c_kg5 hh, c_kg6 hh, c_wo hh, c_wg0 hh, c_wg1 hh, c_wg2 hh, c_wg3 hh, c_wg4 hh, c_wg5 hh, c_wg6 hh, c_wg7 hh, c_wg8 hh, c_po hh, c_pg0 hh, c_pg1 hh, c_pg2 hh, c_pg3 hh, c_pg4 hh, c_pg5 hh, c_pg6 hh, c_pg7 hh, c_q31 hh, c_q39 hh, c_op7 hh, c_op8 hh, c_op9 hh, c_kp0 hh, c_kp1 hh, c_kp5 hh, c_kp6 hh, c_wp1 hh, c_wp2 hh, c_wp3 hh, c_wp7 hh, c_wp8 hh, c_pp0 hh, c_pp1 hh, c_pp2 hh, c_pp6 hh, c_pp7 hh, c_r32 hh, c_r34 hh, c_r35 hh, c_r36 hh, c_r38 hh, c_r40 hh, c_r41 hh, c_r57 hh, c_r58 hh, c_s32 hh, c_s34 hh, c_s35 hh, c_s36 hh, c_s38 hh, c_s40 hh, c_s41 hh, c_s57 hh, c_s58 hh, zI_add, zI_sub, zI_mul, zI_neg, zL_add, zL_sub, zL_mul, Option.bind_some, Option.toList_some, Option.toList_none, List.cons_append, List.nil_append, zI_lt, zI_le, zI_eq, zI_eq0, zI_lt0, zI_le0, zI_0lt, zI_0le, bZ_e0, e5]
    have step : x_cl (d + 3) n_X1_findItem [.ref 33] (cH h T) = if wdB w m then some (some (.int (zI s)), cH h (ntT T s e)) else x_ev (d + 3, n_X1_findItem, 52, [.ref 33, .int (zI w), .null], [], cH h (ntT T s e)) := by
      simp (disch := first | omega | assumption) only [e_X1_findItem, s_X1_findItem_0, s_X1_findItem_1, s_X1_findItem_4, s_X1_findItem_5, c_oo hh, c_og0 hh, c_og1 hh, c_og2 hh, c_og3 hh, c_og4 hh, c_og5 hh, c_og6 hh, c_og7 hh, c_og8 hh, c_og9 hh, c_ko hh, c_kg0 hh, c_kg1 hh, c_kg2 hh, c_kg3 hh, c_kg4 hh, c_kg5 hh, c_kg6 hh, c_wo hh, c_wg0 hh, c_wg1 hh, c_wg2 hh, c_wg3 hh, c_wg4 hh, c_wg5 hh, c_wg6 hh, c_wg7 hh, c_wg8 hh, c_po hh, c_pg0 hh, c_pg1 hh, c_pg2 hh, c_pg3 hh, c_pg4 hh, c_pg5 hh, c_pg6 hh, c_pg7 hh, c_q31 hh, c_q39 hh, c_op7 hh, c_op8 hh, c_op9 hh, c_kp0 hh, c_kp1 hh, c_kp5 hh, c_kp6 hh, c_wp1 hh, c_wp2 hh, c_wp3 hh, c_wp7 hh, c_wp8 hh, c_pp0 hh, c_pp1 hh, c_pp2 hh, c_pp6 hh, c_pp7 hh, c_r32 hh, c_r34 hh, c_r35 hh, c_r36 hh, c_r38 hh, c_r40 hh, c_r41 hh, c_r57 hh, c_r58 hh, c_s32 hh, c_s34 hh, c_s35 hh, c_s36 hh, c_s38 hh, c_s40 hh, c_s41 hh, c_s57 hh, c_s58 hh, zI_add, zI_sub, zI_mul, zI_neg, zL_add, zL_sub, zL_mul, Option.bind_some, Option.toList_some, Option.toList_none, List.cons_append, List.nil_append, zI_lt, zI_le, zI_eq, zI_eq0, zI_lt0, zI_le0, zI_0lt, zI_0le, bZ_e0, kn]
      rw [if_pos kw]
      simp (disch := first | omega | assumption) only [s_X1_findItem_13, s_X1_findItem_14, s_X1_findItem_17, s_X1_findItem_18, s_X1_findItem_19, s_X1_findItem_20, s_X1_findItem_23, s_X1_findItem_24, c_oo hh, c_og0 hh, c_og1 hh, c_og2 hh, c_og3 hh, c_og4 hh, c_og5 hh, c_og6 hh, c_og7 hh, c_og8 hh, c_og9 hh, c_ko hh, c_kg0 hh, c_kg1 hh, c_kg2 hh, c_kg3 hh, c_kg4 hh, c_kg5 hh, c_kg6 hh, c_wo hh, c_wg0 hh, c_wg1 hh, c_wg2 hh, c_wg3 hh, c_wg4 hh, c_wg5 hh, c_wg6 hh, c_wg7 hh, c_wg8 hh, c_po hh, c_pg0 hh, c_pg1 hh, c_pg2 hh, c_pg3 hh, c_pg4 hh, c_pg5 hh, c_pg6 hh, c_pg7 hh, c_q31 hh, c_q39 hh, c_op7 hh, c_op8 hh, c_op9 hh, c_kp0 hh, c_kp1 hh, c_kp5 hh, c_kp6 hh, c_wp1 hh, c_wp2 hh, c_wp3 hh, c_wp7 hh, c_wp8 hh, c_pp0 hh, c_pp1 hh, c_pp2 hh, c_pp6 hh, c_pp7 hh, c_r32 hh, c_r34 hh, c_r35 hh, c_r36 hh, c_r38 hh, c_r40 hh, c_r41 hh, c_r57 hh, c_r58 hh, c_s32 hh, c_s34 hh, c_s35 hh, c_s36 hh, c_s38 hh, c_s40 hh, c_s41 hh, c_s57 hh, c_s58 hh, zI_add, zI_sub, zI_mul, zI_neg, zL_add, zL_sub, zL_mul, Option.bind_some, Option.toList_some, Option.toList_none, List.cons_append, List.nil_append, zI_lt, zI_le, zI_eq, zI_eq0, zI_lt0, zI_le0, zI_0lt, zI_0le, bZ_e0, kword]
      by_cases c1 : w = -1
      · rw [if_pos c1, if_pos (Or.inl c1)]
        exact fault
      · rw [if_neg c1]
        by_cases c2 : w = 0
        · rw [if_pos c2]
          simp (disch := first | omega | assumption) only [s_X1_findItem_27, s_X1_findItem_28, s_X1_findItem_31, s_X1_findItem_32, s_X1_findItem_33, s_X1_findItem_36, c_oo hh, c_og0 hh, c_og1 hh, c_og2 hh, c_og3 hh, c_og4 hh, c_og5 hh, c_og6 hh, c_og7 hh, c_og8 hh, c_og9 hh, c_ko hh, c_kg0 hh, c_kg1 hh, c_kg2 hh, c_kg3 hh, c_kg4 hh, c_kg5 hh, c_kg6 hh, c_wo hh, c_wg0 hh, c_wg1 hh, c_wg2 hh, c_wg3 hh, c_wg4 hh, c_wg5 hh, c_wg6 hh, c_wg7 hh, c_wg8 hh, c_po hh, c_pg0 hh, c_pg1 hh, c_pg2 hh, c_pg3 hh, c_pg4 hh, c_pg5 hh, c_pg6 hh, c_pg7 hh, c_q31 hh, c_q39 hh, c_op7 hh, c_op8 hh, c_op9 hh, c_kp0 hh, c_kp1 hh, c_kp5 hh, c_kp6 hh, c_wp1 hh, c_wp2 hh, c_wp3 hh, c_wp7 hh, c_wp8 hh, c_pp0 hh, c_pp1 hh, c_pp2 hh, c_pp6 hh, c_pp7 hh, c_r32 hh, c_r34 hh, c_r35 hh, c_r36 hh, c_r38 hh, c_r40 hh, c_r41 hh, c_r57 hh, c_r58 hh, c_s32 hh, c_s34 hh, c_s35 hh, c_s36 hh, c_s38 hh, c_s40 hh, c_s41 hh, c_s57 hh, c_s58 hh, zI_add, zI_sub, zI_mul, zI_neg, zL_add, zL_sub, zL_mul, Option.bind_some, Option.toList_some, Option.toList_none, List.cons_append, List.nil_append, zI_lt, zI_le, zI_eq, zI_eq0, zI_lt0, zI_le0, zI_0lt, zI_0le, bZ_e0, i1]
          by_cases c3 : m = 0
          · rw [if_pos c3, if_neg (show ¬ wdB w m from fun y => by unfold wdB at y; omega)]
            simp (disch := first | omega | assumption) only [s_X1_findItem_39, s_X1_findItem_40, s_X1_findItem_43, s_X1_findItem_44, c_oo hh, c_og0 hh, c_og1 hh, c_og2 hh, c_og3 hh, c_og4 hh, c_og5 hh, c_og6 hh, c_og7 hh, c_og8 hh, c_og9 hh, c_ko hh, c_kg0 hh, c_kg1 hh, c_kg2 hh, c_kg3 hh, c_kg4 hh, c_kg5 hh, c_kg6 hh, c_wo hh, c_wg0 hh, c_wg1 hh, c_wg2 hh, c_wg3 hh, c_wg4 hh, c_wg5 hh, c_wg6 hh, c_wg7 hh, c_wg8 hh, c_po hh, c_pg0 hh, c_pg1 hh, c_pg2 hh, c_pg3 hh, c_pg4 hh, c_pg5 hh, c_pg6 hh, c_pg7 hh, c_q31 hh, c_q39 hh, c_op7 hh, c_op8 hh, c_op9 hh, c_kp0 hh, c_kp1 hh, c_kp5 hh, c_kp6 hh, c_wp1 hh, c_wp2 hh, c_wp3 hh, c_wp7 hh, c_wp8 hh, c_pp0 hh, c_pp1 hh, c_pp2 hh, c_pp6 hh, c_pp7 hh, c_r32 hh, c_r34 hh, c_r35 hh, c_r36 hh, c_r38 hh, c_r40 hh, c_r41 hh, c_r57 hh, c_r58 hh, c_s32 hh, c_s34 hh, c_s35 hh, c_s36 hh, c_s38 hh, c_s40 hh, c_s41 hh, c_s57 hh, c_s58 hh, zI_add, zI_sub, zI_mul, zI_neg, zL_add, zL_sub, zL_mul, Option.bind_some, Option.toList_some, Option.toList_none, List.cons_append, List.nil_append, zI_lt, zI_le, zI_eq, zI_eq0, zI_lt0, zI_le0, zI_0lt, zI_0le, bZ_e0, if_true]
          · rw [if_neg c3, if_pos (show wdB w m from Or.inr (by omega))]
            simp (disch := first | omega | assumption) only [s_X1_findItem_43, s_X1_findItem_44, c_oo hh, c_og0 hh, c_og1 hh, c_og2 hh, c_og3 hh, c_og4 hh, c_og5 hh, c_og6 hh, c_og7 hh, c_og8 hh, c_og9 hh, c_ko hh, c_kg0 hh, c_kg1 hh, c_kg2 hh, c_kg3 hh, c_kg4 hh, c_kg5 hh, c_kg6 hh, c_wo hh, c_wg0 hh, c_wg1 hh, c_wg2 hh, c_wg3 hh, c_wg4 hh, c_wg5 hh, c_wg6 hh, c_wg7 hh, c_wg8 hh, c_po hh, c_pg0 hh, c_pg1 hh, c_pg2 hh, c_pg3 hh, c_pg4 hh, c_pg5 hh, c_pg6 hh, c_pg7 hh, c_q31 hh, c_q39 hh, c_op7 hh, c_op8 hh, c_op9 hh, c_kp0 hh, c_kp1 hh, c_kp5 hh, c_kp6 hh, c_wp1 hh, c_wp2 hh, c_wp3 hh, c_wp7 hh, c_wp8 hh, c_pp0 hh, c_pp1 hh, c_pp2 hh, c_pp6 hh, c_pp7 hh, c_r32 hh, c_r34 hh, c_r35 hh, c_r36 hh, c_r38 hh, c_r40 hh, c_r41 hh, c_r57 hh, c_r58 hh, c_s32 hh, c_s34 hh, c_s35 hh, c_s36 hh, c_s38 hh, c_s40 hh, c_s41 hh, c_s57 hh, c_s58 hh, zI_add, zI_sub, zI_mul, zI_neg, zL_add, zL_sub, zL_mul, Option.bind_some, Option.toList_some, Option.toList_none, List.cons_append, List.nil_append, zI_lt, zI_le, zI_eq, zI_eq0, zI_lt0, zI_le0, zI_0lt, zI_0le, bZ_e0]
            rw [if_neg (by decide)]
            exact fault
        · rw [if_neg c2]
          simp (disch := first | omega | assumption) only [s_X1_findItem_31, s_X1_findItem_32, s_X1_findItem_33, s_X1_findItem_36, c_oo hh, c_og0 hh, c_og1 hh, c_og2 hh, c_og3 hh, c_og4 hh, c_og5 hh, c_og6 hh, c_og7 hh, c_og8 hh, c_og9 hh, c_ko hh, c_kg0 hh, c_kg1 hh, c_kg2 hh, c_kg3 hh, c_kg4 hh, c_kg5 hh, c_kg6 hh, c_wo hh, c_wg0 hh, c_wg1 hh, c_wg2 hh, c_wg3 hh, c_wg4 hh, c_wg5 hh, c_wg6 hh, c_wg7 hh, c_wg8 hh, c_po hh, c_pg0 hh, c_pg1 hh, c_pg2 hh, c_pg3 hh, c_pg4 hh, c_pg5 hh, c_pg6 hh, c_pg7 hh, c_q31 hh, c_q39 hh, c_op7 hh, c_op8 hh, c_op9 hh, c_kp0 hh, c_kp1 hh, c_kp5 hh, c_kp6 hh, c_wp1 hh, c_wp2 hh, c_wp3 hh, c_wp7 hh, c_wp8 hh, c_pp0 hh, c_pp1 hh, c_pp2 hh, c_pp6 hh, c_pp7 hh, c_r32 hh, c_r34 hh, c_r35 hh, c_r36 hh, c_r38 hh, c_r40 hh, c_r41 hh, c_r57 hh, c_r58 hh, c_s32 hh, c_s34 hh, c_s35 hh, c_s36 hh, c_s38 hh, c_s40 hh, c_s41 hh, c_s57 hh, c_s58 hh, zI_add, zI_sub, zI_mul, zI_neg, zL_add, zL_sub, zL_mul, Option.bind_some, Option.toList_some, Option.toList_none, List.cons_append, List.nil_append, zI_lt, zI_le, zI_eq, zI_eq0, zI_lt0, zI_le0, zI_0lt, zI_0le, bZ_e0, i1]
          by_cases c3 : m = 0
          · rw [if_pos c3, if_pos (show wdB w m from Or.inr (by omega))]
            simp (disch := first | omega | assumption) only [s_X1_findItem_39, s_X1_findItem_40, s_X1_findItem_43, s_X1_findItem_44, c_oo hh, c_og0 hh, c_og1 hh, c_og2 hh, c_og3 hh, c_og4 hh, c_og5 hh, c_og6 hh, c_og7 hh, c_og8 hh, c_og9 hh, c_ko hh, c_kg0 hh, c_kg1 hh, c_kg2 hh, c_kg3 hh, c_kg4 hh, c_kg5 hh, c_kg6 hh, c_wo hh, c_wg0 hh, c_wg1 hh, c_wg2 hh, c_wg3 hh, c_wg4 hh, c_wg5 hh, c_wg6 hh, c_wg7 hh, c_wg8 hh, c_po hh, c_pg0 hh, c_pg1 hh, c_pg2 hh, c_pg3 hh, c_pg4 hh, c_pg5 hh, c_pg6 hh, c_pg7 hh, c_q31 hh, c_q39 hh, c_op7 hh, c_op8 hh, c_op9 hh, c_kp0 hh, c_kp1 hh, c_kp5 hh, c_kp6 hh, c_wp1 hh, c_wp2 hh, c_wp3 hh, c_wp7 hh, c_wp8 hh, c_pp0 hh, c_pp1 hh, c_pp2 hh, c_pp6 hh, c_pp7 hh, c_r32 hh, c_r34 hh, c_r35 hh, c_r36 hh, c_r38 hh, c_r40 hh, c_r41 hh, c_r57 hh, c_r58 hh, c_s32 hh, c_s34 hh, c_s35 hh, c_s36 hh, c_s38 hh, c_s40 hh, c_s41 hh, c_s57 hh, c_s58 hh, zI_add, zI_sub, zI_mul, zI_neg, zL_add, zL_sub, zL_mul, Option.bind_some, Option.toList_some, Option.toList_none, List.cons_append, List.nil_append, zI_lt, zI_le, zI_eq, zI_eq0, zI_lt0, zI_le0, zI_0lt, zI_0le, bZ_e0]
            rw [if_neg (by decide)]
            exact fault
          · rw [if_neg c3, if_neg (show ¬ wdB w m from fun y => by unfold wdB at y; omega)]
            simp (disch := first | omega | assumption) only [s_X1_findItem_43, s_X1_findItem_44, c_oo hh, c_og0 hh, c_og1 hh, c_og2 hh, c_og3 hh, c_og4 hh, c_og5 hh, c_og6 hh, c_og7 hh, c_og8 hh, c_og9 hh, c_ko hh, c_kg0 hh, c_kg1 hh, c_kg2 hh, c_kg3 hh, c_kg4 hh, c_kg5 hh, c_kg6 hh, c_wo hh, c_wg0 hh, c_wg1 hh, c_wg2 hh, c_wg3 hh, c_wg4 hh, c_wg5 hh, c_wg6 hh, c_wg7 hh, c_wg8 hh, c_po hh, c_pg0 hh, c_pg1 hh, c_pg2 hh, c_pg3 hh, c_pg4 hh, c_pg5 hh, c_pg6 hh, c_pg7 hh, c_q31 hh, c_q39 hh, c_op7 hh, c_op8 hh, c_op9 hh, c_kp0 hh, c_kp1 hh, c_kp5 hh, c_kp6 hh, c_wp1 hh, c_wp2 hh, c_wp3 hh, c_wp7 hh, c_wp8 hh, c_pp0 hh, c_pp1 hh, c_pp2 hh, c_pp6 hh, c_pp7 hh, c_r32 hh, c_r34 hh, c_r35 hh, c_r36 hh, c_r38 hh, c_r40 hh, c_r41 hh, c_r57 hh, c_r58 hh, c_s32 hh, c_s34 hh, c_s35 hh, c_s36 hh, c_s38 hh, c_s40 hh, c_s41 hh, c_s57 hh, c_s58 hh, zI_add, zI_sub, zI_mul, zI_neg, zL_add, zL_sub, zL_mul, Option.bind_some, Option.toList_some, Option.toList_none, List.cons_append, List.nil_append, zI_lt, zI_le, zI_eq, zI_eq0, zI_lt0, zI_le0, zI_0lt, zI_0le, bZ_e0, if_true]
    rw [step]
    by_cases z : wdB w m
    · rw [if_pos z, if_pos z]
      exact ⟨ntT T s e, fun a b c1 c2 c3 => lo e a b (by omega), show -1 < s ∧ s ≤ t 0 3 by omega, rfl⟩
    · rw [if_neg z, if_neg z]
      have w0 : 0 ≤ w := by unfold wdB at z; omega
      have nr := nmO_rg w
      obtain ⟨T3, u1, u2, u3, u4⟩ := l_fnum (d := d + 1) (h := h) (w := w) (m := m) hh hx ⟨w0, wr.2⟩ hm.1 hm.2 (nmO w).toNat 0 (up2 (ntT T s e) 35 m.toNat w) e (by omega) (hc1.go (up2_n (by omega)) fun b => up2_n (by omega)) ((up2_n (by omega)).trans i1) ((up2_n (by omega)).trans up2_s) (by omega) (by omega)
      have pre : x_ev (d + 3, n_X1_findItem, 52, [.ref 33, .int (zI w), .null], [], cH h (ntT T s e)) = x_ev (d + 3, n_X1_findItem, 64, [.ref 33, .int (zI w), .int (zI ((0 : Nat) : Int))], [], cH h (up2 (ntT T s e) 35 m.toNat w)) := by
        simp (disch := first | omega | assumption) only [s_X1_findItem_52, s_X1_findItem_53, s_X1_findItem_56, s_X1_findItem_57, s_X1_findItem_60, s_X1_findItem_61, s_X1_findItem_62, s_X1_findItem_63, c_oo hh, c_og0 hh, c_og1 hh, c_og2 hh, c_og3 hh, c_og4 hh, c_og5 hh, c_og6 hh, c_og7 hh, c_og8 hh, c_og9 hh, c_ko hh, c_kg0 hh, c_kg1 hh, c_kg2 hh, c_kg3 hh, c_kg4 hh, c_kg5 hh, c_kg6 hh, c_wo hh, c_wg0 hh, c_wg1 hh, c_wg2 hh, c_wg3 hh, c_wg4 hh, c_wg5 hh, c_wg6 hh, c_wg7 hh, c_wg8 hh, c_po hh, c_pg0 hh, c_pg1 hh, c_pg2 hh, c_pg3 hh, c_pg4 hh, c_pg5 hh, c_pg6 hh, c_pg7 hh, c_q31 hh, c_q39 hh, c_op7 hh, c_op8 hh, c_op9 hh, c_kp0 hh, c_kp1 hh, c_kp5 hh, c_kp6 hh, c_wp1 hh, c_wp2 hh, c_wp3 hh, c_wp7 hh, c_wp8 hh, c_pp0 hh, c_pp1 hh, c_pp2 hh, c_pp6 hh, c_pp7 hh, c_r32 hh, c_r34 hh, c_r35 hh, c_r36 hh, c_r38 hh, c_r40 hh, c_r41 hh, c_r57 hh, c_r58 hh, c_s32 hh, c_s34 hh, c_s35 hh, c_s36 hh, c_s38 hh, c_s40 hh, c_s41 hh, c_s57 hh, c_s58 hh, zI_add, zI_sub, zI_mul, zI_neg, zL_add, zL_sub, zL_mul, Option.bind_some, Option.toList_some, Option.toList_none, List.cons_append, List.nil_append, zI_lt, zI_le, zI_eq, zI_eq0, zI_lt0, zI_le0, zI_0lt, zI_0le, bZ_e0, i1]
        rfl
      rw [pre, u4]
      have f3 : ∀ a b : Nat, ¬ (a = 33 ∧ (b = 5 ∨ b = 6)) → ¬ (a = 35 ∧ (b : Int) = m) → ¬ (a = 36 ∧ 4 * m ≤ b ∧ (b : Int) < 4 * m + 4) → T3 a b = T a b := fun a b c1 c2 c3 => by
        rw [u1 a b c1 (by omega), up2_n (by omega), lo e a b c1]
      cases hN : nuS (txX t) (t 0 3) (nmO w).toNat e with
      | inl f =>
        rw [hN] at u2
        have := nuS_rg2 _ _ _ (by omega) hN
        exact ⟨T3, fun a b c1 c2 c3 => f3 a b (by omega) c2 c3, ⟨u2, this⟩, rfl⟩
      | inr lp =>
        obtain ⟨l, p2⟩ := lp
        rw [hN] at u2 u3
        obtain ⟨a1, a2, a3, a4⟩ := u2
        have p2r : p2 ≤ t 0 3 := by
          rcases u3 with u | ⟨f, u⟩
          · omega
          · cases u
        have hc3 : cdR T3 t := hc.go (f3 33 0 (by omega) (by omega) (by omega)) fun b => f3 34 b (by omega) (by omega) (by omega)
        have kn3 := k_next (d := d + 1) (h := h) hh hx hc3 (by omega) (by omega)
        rw [a1] at kn3
        have r2 := skP_rg (x := txX t) p2r
        have kr2 := tk_rg (x := txX t) (n := t 0 3) (s := skP (txX t) (t 0 3) p2)
        dsimp only
        generalize skP (txX t) (t 0 3) p2 = s2 at *
        have e52 : ∀ e, ntT T3 s2 e 33 5 = s2 := fun e => by unfold ntT; rw [up2_n (by omega), up2_s]
        have lo2 : ∀ (e : Int) (a b : Nat), ¬ (a = 33 ∧ (b = 5 ∨ b = 6)) → ntT T3 s2 e a b = T3 a b := fun e a b c1 => by unfold ntT; rw [up2_n (by omega), up2_n (by omega)]
        have tail : fnE (d + 1) h T3 w (.inr (l, p2)) = if tkK (txX t) (t 0 3) s2 = 3 then x_ev (d + 3, n_X1_findItem, 121, [.ref 33, .int (zI w), .int (zI (nmO w))], [], cH h (ntT T3 s2 (tkE (txX t) (t 0 3) s2))) else some (some (.int (zI s2)), cH h (ntT T3 s2 (tkE (txX t) (t 0 3) s2))) := by
          show x_ev (d + 1 + 2, n_X1_findItem, 108, [.ref 33, .int (zI w), .int (zI (nmO w))], [], cH h T3) = _
          simp (disch := first | omega | assumption) only [s_X1_findItem_108, s_X1_findItem_109, s_X1_findItem_112, s_X1_findItem_113, s_X1_findItem_116, s_X1_findItem_117, s_X1_findItem_120, c_oo hh, c_og0 hh, c_og1 hh, c_og2 hh, c_og3 hh, c_og4 hh, c_og5 hh, c_og6 hh, c_og7 hh, c_og8 hh, c_og9 hh, c_ko hh, c_kg0 hh, c_kg1 hh, c_kg2 hh, c_kg3 hh, c_kg4 hh, c_kg5 hh, c_kg6 hh, c_wo hh, c_wg0 hh, c_wg1 hh, c_wg2 hh, c_wg3 hh, c_wg4 hh, c_wg5 hh, c_wg6 hh, c_wg7 hh, c_wg8 hh, c_po hh, c_pg0 hh, c_pg1 hh, c_pg2 hh, c_pg3 hh, c_pg4 hh, c_pg5 hh, c_pg6 hh, c_pg7 hh, c_q31 hh, c_q39 hh, c_op7 hh, c_op8 hh, c_op9 hh, c_kp0 hh, c_kp1 hh, c_kp5 hh, c_kp6 hh, c_wp1 hh, c_wp2 hh, c_wp3 hh, c_wp7 hh, c_wp8 hh, c_pp0 hh, c_pp1 hh, c_pp2 hh, c_pp6 hh, c_pp7 hh, c_r32 hh, c_r34 hh, c_r35 hh, c_r36 hh, c_r38 hh, c_r40 hh, c_r41 hh, c_r57 hh, c_r58 hh, c_s32 hh, c_s34 hh, c_s35 hh, c_s36 hh, c_s38 hh, c_s40 hh, c_s41 hh, c_s57 hh, c_s58 hh, zI_add, zI_sub, zI_mul, zI_neg, zL_add, zL_sub, zL_mul, Option.bind_some, Option.toList_some, Option.toList_none, List.cons_append, List.nil_append, zI_lt, zI_le, zI_eq, zI_eq0, zI_lt0, zI_le0, zI_0lt, zI_0le, bZ_e0, kn3, e52]
        rw [tail]
        by_cases y : s2 = t 0 3 ∨ txX t s2 ≠ 59
        · rw [if_pos y, if_neg (fun v => (tk_semi r2.2).mp v y)]
          exact ⟨_, fun a b c1 c2 c3 => (lo2 _ a b (by omega)).trans (f3 a b (by omega) c2 c3), show -1 < s2 ∧ s2 ≤ t 0 3 by omega, rfl⟩
        · have k3 := (tk_semi r2.2).mpr y
          rw [if_neg y, if_pos k3, tk_semiE r2.2 k3]
          have j1 : ntT T3 s2 (s2 + 1) 33 1 = m := (lo2 _ 33 1 (by omega)).trans ((f3 33 1 (by omega) (by omega) (by omega)).trans h1)
          refine ⟨up2 (ntT T3 s2 (s2 + 1)) 33 1 (m + 1), fun a b c1 c2 c3 => ?_, ⟨up2_s, ?_, ⟨by omega, by omega⟩, ?_, ⟨w0, wr.2⟩, ?_, ?_, fun i hi => ?_⟩, ?_⟩
          · rw [up2_n (by omega), lo2 _ a b (by omega), f3 a b (by omega) c2 c3]
          · rw [up2_n (by omega)]
            exact up2_s
          · rw [up2_n (by omega), lo2 _ 35 _ (by omega), u1 35 _ (by omega) (by omega), up2_s]
          · unfold wdB at z
            omega
          · rw [a3]
            omega
          · have := a4 i (by omega)
            rw [show 4 * m + ((0 : Nat) : Int) + (i : Int) = 4 * m + (i : Int) by omega] at this
            rw [up2_n (by omega), lo2 _ 36 _ (by omega), this]
          · simp (disch := first | omega | assumption) only [s_X1_findItem_121, s_X1_findItem_122, s_X1_findItem_123, s_X1_findItem_126, s_X1_findItem_127, s_X1_findItem_128, s_X1_findItem_131, s_X1_findItem_132, c_oo hh, c_og0 hh, c_og1 hh, c_og2 hh, c_og3 hh, c_og4 hh, c_og5 hh, c_og6 hh, c_og7 hh, c_og8 hh, c_og9 hh, c_ko hh, c_kg0 hh, c_kg1 hh, c_kg2 hh, c_kg3 hh, c_kg4 hh, c_kg5 hh, c_kg6 hh, c_wo hh, c_wg0 hh, c_wg1 hh, c_wg2 hh, c_wg3 hh, c_wg4 hh, c_wg5 hh, c_wg6 hh, c_wg7 hh, c_wg8 hh, c_po hh, c_pg0 hh, c_pg1 hh, c_pg2 hh, c_pg3 hh, c_pg4 hh, c_pg5 hh, c_pg6 hh, c_pg7 hh, c_q31 hh, c_q39 hh, c_op7 hh, c_op8 hh, c_op9 hh, c_kp0 hh, c_kp1 hh, c_kp5 hh, c_kp6 hh, c_wp1 hh, c_wp2 hh, c_wp3 hh, c_wp7 hh, c_wp8 hh, c_pp0 hh, c_pp1 hh, c_pp2 hh, c_pp6 hh, c_pp7 hh, c_r32 hh, c_r34 hh, c_r35 hh, c_r36 hh, c_r38 hh, c_r40 hh, c_r41 hh, c_r57 hh, c_r58 hh, c_s32 hh, c_s34 hh, c_s35 hh, c_s36 hh, c_s38 hh, c_s40 hh, c_s41 hh, c_s57 hh, c_s58 hh, zI_add, zI_sub, zI_mul, zI_neg, zL_add, zL_sub, zL_mul, Option.bind_some, Option.toList_some, Option.toList_none, List.cons_append, List.nil_append, zI_lt, zI_le, zI_eq, zI_eq0, zI_lt0, zI_le0, zI_0lt, zI_0le, bZ_e0, j1]
            rfl
  · have el : leP (txX t) (t 0 3) s = s := rnF_0 (fun y => kw (tk_word.mpr y))
    have ei : itS (txX t) (t 0 3) m s = .inl s := by
      unfold itS
      rw [el, show (s - s).toNat = 0 by omega]
      exact if_pos (Or.inl rfl)
    rw [ei]
    refine ⟨ntT T s (tkE (txX t) (t 0 3) s), fun a b c1 c2 c3 => lo _ a b (by omega), show -1 < s ∧ s ≤ t 0 3 by omega, ?_⟩
    simp (disch := first | omega | assumption) only [e_X1_findItem, s_X1_findItem_0, s_X1_findItem_1, s_X1_findItem_4, s_X1_findItem_5, c_oo hh, c_og0 hh, c_og1 hh, c_og2 hh, c_og3 hh, c_og4 hh, c_og5 hh, c_og6 hh, c_og7 hh, c_og8 hh, c_og9 hh, c_ko hh, c_kg0 hh, c_kg1 hh, c_kg2 hh, c_kg3 hh, c_kg4 hh, c_kg5 hh, c_kg6 hh, c_wo hh, c_wg0 hh, c_wg1 hh, c_wg2 hh, c_wg3 hh, c_wg4 hh, c_wg5 hh, c_wg6 hh, c_wg7 hh, c_wg8 hh, c_po hh, c_pg0 hh, c_pg1 hh, c_pg2 hh, c_pg3 hh, c_pg4 hh, c_pg5 hh, c_pg6 hh, c_pg7 hh, c_q31 hh, c_q39 hh, c_op7 hh, c_op8 hh, c_op9 hh, c_kp0 hh, c_kp1 hh, c_kp5 hh, c_kp6 hh, c_wp1 hh, c_wp2 hh, c_wp3 hh, c_wp7 hh, c_wp8 hh, c_pp0 hh, c_pp1 hh, c_pp2 hh, c_pp6 hh, c_pp7 hh, c_r32 hh, c_r34 hh, c_r35 hh, c_r36 hh, c_r38 hh, c_r40 hh, c_r41 hh, c_r57 hh, c_r58 hh, c_s32 hh, c_s34 hh, c_s35 hh, c_s36 hh, c_s38 hh, c_s40 hh, c_s41 hh, c_s57 hh, c_s58 hh, zI_add, zI_sub, zI_mul, zI_neg, zL_add, zL_sub, zL_mul, Option.bind_some, Option.toList_some, Option.toList_none, List.cons_append, List.nil_append, zI_lt, zI_le, zI_eq, zI_eq0, zI_lt0, zI_le0, zI_0lt, zI_0le, bZ_e0, kn]
    rw [if_neg kw]
    simp (disch := first | omega | assumption) only [s_X1_findItem_8, s_X1_findItem_9, s_X1_findItem_12, c_oo hh, c_og0 hh, c_og1 hh, c_og2 hh, c_og3 hh, c_og4 hh, c_og5 hh, c_og6 hh, c_og7 hh, c_og8 hh, c_og9 hh, c_ko hh, c_kg0 hh, c_kg1 hh, c_kg2 hh, c_kg3 hh, c_kg4 hh, c_kg5 hh, c_kg6 hh, c_wo hh, c_wg0 hh, c_wg1 hh, c_wg2 hh, c_wg3 hh, c_wg4 hh, c_wg5 hh, c_wg6 hh, c_wg7 hh, c_wg8 hh, c_po hh, c_pg0 hh, c_pg1 hh, c_pg2 hh, c_pg3 hh, c_pg4 hh, c_pg5 hh, c_pg6 hh, c_pg7 hh, c_q31 hh, c_q39 hh, c_op7 hh, c_op8 hh, c_op9 hh, c_kp0 hh, c_kp1 hh, c_kp5 hh, c_kp6 hh, c_wp1 hh, c_wp2 hh, c_wp3 hh, c_wp7 hh, c_wp8 hh, c_pp0 hh, c_pp1 hh, c_pp2 hh, c_pp6 hh, c_pp7 hh, c_r32 hh, c_r34 hh, c_r35 hh, c_r36 hh, c_r38 hh, c_r40 hh, c_r41 hh, c_r57 hh, c_r58 hh, c_s32 hh, c_s34 hh, c_s35 hh, c_s36 hh, c_s38 hh, c_s40 hh, c_s41 hh, c_s57 hh, c_s58 hh, zI_add, zI_sub, zI_mul, zI_neg, zL_add, zL_sub, zL_mul, Option.bind_some, Option.toList_some, Option.toList_none, List.cons_append, List.nil_append, zI_lt, zI_le, zI_eq, zI_eq0, zI_lt0, zI_le0, zI_0lt, zI_0le, bZ_e0, e5]
    rfl
end

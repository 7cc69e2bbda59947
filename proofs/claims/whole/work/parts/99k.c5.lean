/-! THE CARD: all items found -/
section
variable {h : xH} {d : Nat} {t T : Nat → Nat → Int}
theorem it_rg {m q w p : Int} {l : List Int} (hx : txOk t) (hm : 0 ≤ m ∧ m < 50) (hq : 0 ≤ q ∧ q ≤ t 0 3) (e : itS (txX t) (t 0 3) m q = .inr (w, l, p)) : q + 5 ≤ p ∧ p ≤ t 0 3 := by
  have ex : txX (up2 (up2 (up2 t 0 9 (-1)) 0 7 m) 0 8 q) = txX t := funext fun j => by
    unfold txX
    rw [up2_n (by omega), up2_n (by omega), up2_n (by omega)]
  have e3 : up2 (up2 (up2 t 0 9 (-1)) 0 7 m) 0 8 q 0 3 = t 0 3 := by rw [up2_n (by omega), up2_n (by omega), up2_n (by omega)]
  obtain ⟨T', -, -, -, x4, -⟩ := c_takeItem (d := 0) (h := (12, 0, fun _ => .inr (0, []))) (a := 0) (t := up2 (up2 (up2 t 0 9 (-1)) 0 7 m) 0 8 q) (m := m) (q := q) (by decide) ⟨by rw [e3]; exact hx.1, fun j => by rw [up2_n (by omega), up2_n (by omega), up2_n (by omega)]; exact hx.2 j⟩ (by rw [up2_n (by omega), up2_n (by omega), up2_s]) (by rw [up2_n (by omega), up2_s]) up2_s hm.1 hm.2 hq.1 (by rw [e3]; exact hq.2)
  rw [ex, e3, e] at x4
  obtain ⟨-, -, y1, y2, -⟩ := x4
  rw [e3] at y2
  exact ⟨y1, y2⟩
def cdT (T : Nat → Nat → Int) : Nat → Nat → Int := fun i j => T (30 + i) j
def alC (T' : Nat → Nat → Int) (n m : Int) : Int ⊕ List (Int × List Int) → Prop
  | .inl f => -1 < f ∧ f ≤ n
  | .inr L => T' 33 1 = m + L.length ∧ 5 * (m + L.length) ≤ n ∧ 1 ≤ m + L.length ∧ alH (cdT T') m L
def alA : Int ⊕ List (Int × List Int) → Int
  | .inl f => f
  | .inr _ => -1
theorem l_itemsK (hh : 91 ≤ h.1) (hx : txOk t) : ∀ (k : Nat) (T : Nat → Nat → Int) (m p : Int) (l2 : Value), cdR T t → T 33 1 = m → T 33 6 = p → 0 ≤ m → 5 * m ≤ p → p ≤ t 0 3 → t 0 3 - p < k →
    ∃ T', (∀ a b : Nat, ¬ (a = 33 ∧ (b = 1 ∨ b = 5 ∨ b = 6)) → ¬ (a = 35 ∧ m ≤ b) → ¬ (a = 36 ∧ 4 * m ≤ b) → T' a b = T a b) ∧ alC T' (t 0 3) m (alS (txX t) (t 0 3) k m p) ∧ x_ev (d + 4, n_X1_findItems, 12, [.ref 33, .int (zI m), l2], [], cH h T) = some (some (.int (zI (alA (alS (txX t) (t 0 3) k m p)))), cH h T') := by
  have hn := hx.1
  intro k
  induction k with
  | zero => intro T m p l2 hc t1 t6 m0 m5 p1 hk; omega
  | succ k ih =>
    intro T m p l2 hc t1 t6 m0 m5 p1 hk
    have r := skP_rg (x := txX t) p1
    have stop : ∀ l2' : Value, x_ev (d + 4, n_X1_findItems, 50, [.ref 33, .int (zI m), l2'], [], cH h T) = some (some (.int (zI (-1))), cH h T) := fun l2' => by
      simp (disch := first | omega | assumption) only [s_X1_findItems_50, s_X1_findItems_51, c_oo hh, c_og0 hh, c_og1 hh, c_og2 hh, c_og3 hh, c_og4 hh, c_og5 hh, c_og6 hh, c_og7 hh, c_og8 hh, c_og9 hh, c_ko hh, c_kg0 hh, c_kg1 hh, c_kg2 hh, c_kg3 hh, c_kg4 hh, c_kg5 hh, c_kg6 hh, c_wo hh, c_wg0 hh, c_wg1 hh, c_wg2 hh, c_wg3 hh, c_wg4 hh, c_wg5 hh, c_wg6 hh, c_wg7 hh, c_wg8 hh, c_po hh, c_pg0 hh, c_pg1 hh, c_pg2 hh, c_pg3 hh, c_pg4 hh, c_pg5 hh, c_pg6 hh, c_pg7 hh, c_q31 hh, c_q39 hh, c_op7 hh, c_op8 hh, c_op9 hh, c_kp0 hh, c_kp1 hh, c_kp5 hh, c_kp6 hh, c_wp1 hh, c_wp2 hh, c_wp3 hh, c_wp7 hh, c_wp8 hh, c_pp0 hh, c_pp1 hh, c_pp2 hh, c_pp6 hh, c_pp7 hh, c_r32 hh, c_r34 hh, c_r35 hh, c_r36 hh, c_r38 hh, c_r40 hh, c_r41 hh, c_r57 hh, c_r58 hh, c_s32 hh, c_s34 hh, c_s35 hh, c_s36 hh, c_s38 hh, c_s40 hh, c_s41 hh, c_s57 hh, c_s58 hh, zI_add, zI_sub, zI_mul, zI_neg, zL_add, zL_sub, zL_mul, Option.bind_some, Option.toList_some, Option.toList_none, List.cons_append, List.nil_append, zI_lt, zI_le, zI_eq, zI_eq0, zI_lt0, zI_le0, zI_0lt, zI_0le, bZ_e0]
    rw [alS]
    by_cases m40 : 40 ≤ m
    · rw [if_pos (by omega), if_neg (by omega)]
      refine ⟨T, fun _ _ _ _ _ => rfl, ⟨by rw [t1]; simp, by simp; omega, by simp; omega, trivial⟩, ?_⟩
      rw [s_X1_findItems_12]
      simp (disch := first | omega | assumption) only [s_X1_findItems_13, s_X1_findItems_15, c_oo hh, c_og0 hh, c_og1 hh, c_og2 hh, c_og3 hh, c_og4 hh, c_og5 hh, c_og6 hh, c_og7 hh, c_og8 hh, c_og9 hh, c_ko hh, c_kg0 hh, c_kg1 hh, c_kg2 hh, c_kg3 hh, c_kg4 hh, c_kg5 hh, c_kg6 hh, c_wo hh, c_wg0 hh, c_wg1 hh, c_wg2 hh, c_wg3 hh, c_wg4 hh, c_wg5 hh, c_wg6 hh, c_wg7 hh, c_wg8 hh, c_po hh, c_pg0 hh, c_pg1 hh, c_pg2 hh, c_pg3 hh, c_pg4 hh, c_pg5 hh, c_pg6 hh, c_pg7 hh, c_q31 hh, c_q39 hh, c_op7 hh, c_op8 hh, c_op9 hh, c_kp0 hh, c_kp1 hh, c_kp5 hh, c_kp6 hh, c_wp1 hh, c_wp2 hh, c_wp3 hh, c_wp7 hh, c_wp8 hh, c_pp0 hh, c_pp1 hh, c_pp2 hh, c_pp6 hh, c_pp7 hh, c_r32 hh, c_r34 hh, c_r35 hh, c_r36 hh, c_r38 hh, c_r40 hh, c_r41 hh, c_r57 hh, c_r58 hh, c_s32 hh, c_s34 hh, c_s35 hh, c_s36 hh, c_s38 hh, c_s40 hh, c_s41 hh, c_s57 hh, c_s58 hh, zI_add, zI_sub, zI_mul, zI_neg, zL_add, zL_sub, zL_mul, Option.bind_some, Option.toList_some, Option.toList_none, List.cons_append, List.nil_append, zI_lt, zI_le, zI_eq, zI_eq0, zI_lt0, zI_le0, zI_0lt, zI_0le, bZ_e0]
      rw [if_pos m40]
      exact stop _
    · have hgo : x_ev (d + 4, n_X1_findItems, 12, [.ref 33, .int (zI m), l2], [], cH h T) = if 0 < m ∧ skP (txX t) (t 0 3) p = t 0 3 then some (some (.int (zI (-1))), cH h T) else x_ev (d + 4, n_X1_findItems, 32, [.ref 33, .int (zI m), l2], [], cH h T) := by
        rw [s_X1_findItems_12]
        simp (disch := first | omega | assumption) only [s_X1_findItems_13, s_X1_findItems_15, c_oo hh, c_og0 hh, c_og1 hh, c_og2 hh, c_og3 hh, c_og4 hh, c_og5 hh, c_og6 hh, c_og7 hh, c_og8 hh, c_og9 hh, c_ko hh, c_kg0 hh, c_kg1 hh, c_kg2 hh, c_kg3 hh, c_kg4 hh, c_kg5 hh, c_kg6 hh, c_wo hh, c_wg0 hh, c_wg1 hh, c_wg2 hh, c_wg3 hh, c_wg4 hh, c_wg5 hh, c_wg6 hh, c_wg7 hh, c_wg8 hh, c_po hh, c_pg0 hh, c_pg1 hh, c_pg2 hh, c_pg3 hh, c_pg4 hh, c_pg5 hh, c_pg6 hh, c_pg7 hh, c_q31 hh, c_q39 hh, c_op7 hh, c_op8 hh, c_op9 hh, c_kp0 hh, c_kp1 hh, c_kp5 hh, c_kp6 hh, c_wp1 hh, c_wp2 hh, c_wp3 hh, c_wp7 hh, c_wp8 hh, c_pp0 hh, c_pp1 hh, c_pp2 hh, c_pp6 hh, c_pp7 hh, c_r32 hh, c_r34 hh, c_r35 hh, c_r36 hh, c_r38 hh, c_r40 hh, c_r41 hh, c_r57 hh, c_r58 hh, c_s32 hh, c_s34 hh, c_s35 hh, c_s36 hh, c_s38 hh, c_s40 hh, c_s41 hh, c_s57 hh, c_s58 hh, zI_add, zI_sub, zI_mul, zI_neg, zL_add, zL_sub, zL_mul, Option.bind_some, Option.toList_some, Option.toList_none, List.cons_append, List.nil_append, zI_lt, zI_le, zI_eq, zI_eq0, zI_lt0, zI_le0, zI_0lt, zI_0le, bZ_e0]
        rw [if_neg m40]
        have ka := k_atEnd (d := d + 2) (h := h) hh hx hc (by omega) (by omega)
        rw [t6] at ka
        simp (disch := first | omega | assumption) only [s_X1_findItems_18, s_X1_findItems_19, s_X1_findItems_22, s_X1_findItems_25, s_X1_findItems_26, s_X1_findItems_29, c_oo hh, c_og0 hh, c_og1 hh, c_og2 hh, c_og3 hh, c_og4 hh, c_og5 hh, c_og6 hh, c_og7 hh, c_og8 hh, c_og9 hh, c_ko hh, c_kg0 hh, c_kg1 hh, c_kg2 hh, c_kg3 hh, c_kg4 hh, c_kg5 hh, c_kg6 hh, c_wo hh, c_wg0 hh, c_wg1 hh, c_wg2 hh, c_wg3 hh, c_wg4 hh, c_wg5 hh, c_wg6 hh, c_wg7 hh, c_wg8 hh, c_po hh, c_pg0 hh, c_pg1 hh, c_pg2 hh, c_pg3 hh, c_pg4 hh, c_pg5 hh, c_pg6 hh, c_pg7 hh, c_q31 hh, c_q39 hh, c_op7 hh, c_op8 hh, c_op9 hh, c_kp0 hh, c_kp1 hh, c_kp5 hh, c_kp6 hh, c_wp1 hh, c_wp2 hh, c_wp3 hh, c_wp7 hh, c_wp8 hh, c_pp0 hh, c_pp1 hh, c_pp2 hh, c_pp6 hh, c_pp7 hh, c_r32 hh, c_r34 hh, c_r35 hh, c_r36 hh, c_r38 hh, c_r40 hh, c_r41 hh, c_r57 hh, c_r58 hh, c_s32 hh, c_s34 hh, c_s35 hh, c_s36 hh, c_s38 hh, c_s40 hh, c_s41 hh, c_s57 hh, c_s58 hh, zI_add, zI_sub, zI_mul, zI_neg, zL_add, zL_sub, zL_mul, Option.bind_some, Option.toList_some, Option.toList_none, List.cons_append, List.nil_append, zI_lt, zI_le, zI_eq, zI_eq0, zI_lt0, zI_le0, zI_0lt, zI_0le, bZ_e0, t1, ka]
        by_cases c1 : m ≤ 0
        · rw [if_pos c1, if_neg (by omega)]
        · rw [if_neg c1]
          by_cases c2 : skP (txX t) (t 0 3) p = t 0 3
          · rw [if_neg (fun y => y c2), if_pos ⟨by omega, c2⟩]
            exact stop _
          · rw [if_pos c2, if_neg (fun y => c2 y.2)]
      rw [hgo]
      obtain ⟨T1, u1, u2, u3⟩ := k_item (d := d) (h := h) (m := m) (p := p) hh hx hc t1 t6 (by omega) (by omega)
      by_cases c2 : skP (txX t) (t 0 3) p = t 0 3
      · rw [if_pos c2]
        by_cases c1 : m = 0
        · have ei : itS (txX t) (t 0 3) m (skP (txX t) (t 0 3) p) = .inl (t 0 3) := by
            unfold itS
            have el : leP (txX t) (t 0 3) (skP (txX t) (t 0 3) p) = skP (txX t) (t 0 3) p := rnF_0 (by omega)
            rw [el, show (skP (txX t) (t 0 3) p - skP (txX t) (t 0 3) p).toNat = 0 by omega]
            exact (if_pos (Or.inl rfl)).trans (by rw [c2])
          rw [if_pos c1, if_neg (show ¬ (0 < m ∧ skP (txX t) (t 0 3) p = t 0 3) by omega)]
          rw [ei] at u3
          have u3' : x_cl (d + 3) n_X1_findItem [.ref 33] (cH h T) = some (some (.int (zI (t 0 3))), cH h T1) := u3
          refine ⟨T1, fun a b c3 c4 c5 => u1 a b c3 (by omega) (by omega), show -1 < t 0 3 ∧ t 0 3 ≤ t 0 3 by omega, ?_⟩
          simp (disch := first | omega | assumption) only [s_X1_findItems_32, s_X1_findItems_33, s_X1_findItems_36, s_X1_findItems_37, s_X1_findItems_38, s_X1_findItems_39, c_oo hh, c_og0 hh, c_og1 hh, c_og2 hh, c_og3 hh, c_og4 hh, c_og5 hh, c_og6 hh, c_og7 hh, c_og8 hh, c_og9 hh, c_ko hh, c_kg0 hh, c_kg1 hh, c_kg2 hh, c_kg3 hh, c_kg4 hh, c_kg5 hh, c_kg6 hh, c_wo hh, c_wg0 hh, c_wg1 hh, c_wg2 hh, c_wg3 hh, c_wg4 hh, c_wg5 hh, c_wg6 hh, c_wg7 hh, c_wg8 hh, c_po hh, c_pg0 hh, c_pg1 hh, c_pg2 hh, c_pg3 hh, c_pg4 hh, c_pg5 hh, c_pg6 hh, c_pg7 hh, c_q31 hh, c_q39 hh, c_op7 hh, c_op8 hh, c_op9 hh, c_kp0 hh, c_kp1 hh, c_kp5 hh, c_kp6 hh, c_wp1 hh, c_wp2 hh, c_wp3 hh, c_wp7 hh, c_wp8 hh, c_pp0 hh, c_pp1 hh, c_pp2 hh, c_pp6 hh, c_pp7 hh, c_r32 hh, c_r34 hh, c_r35 hh, c_r36 hh, c_r38 hh, c_r40 hh, c_r41 hh, c_r57 hh, c_r58 hh, c_s32 hh, c_s34 hh, c_s35 hh, c_s36 hh, c_s38 hh, c_s40 hh, c_s41 hh, c_s57 hh, c_s58 hh, zI_add, zI_sub, zI_mul, zI_neg, zL_add, zL_sub, zL_mul, Option.bind_some, Option.toList_some, Option.toList_none, List.cons_append, List.nil_append, zI_lt, zI_le, zI_eq, zI_eq0, zI_lt0, zI_le0, zI_0lt, zI_0le, bZ_e0, u3']
          rw [if_neg (by omega)]
          simp (disch := first | omega | assumption) only [s_X1_findItems_42, s_X1_findItems_43, c_oo hh, c_og0 hh, c_og1 hh, c_og2 hh, c_og3 hh, c_og4 hh, c_og5 hh, c_og6 hh, c_og7 hh, c_og8 hh, c_og9 hh, c_ko hh, c_kg0 hh, c_kg1 hh, c_kg2 hh, c_kg3 hh, c_kg4 hh, c_kg5 hh, c_kg6 hh, c_wo hh, c_wg0 hh, c_wg1 hh, c_wg2 hh, c_wg3 hh, c_wg4 hh, c_wg5 hh, c_wg6 hh, c_wg7 hh, c_wg8 hh, c_po hh, c_pg0 hh, c_pg1 hh, c_pg2 hh, c_pg3 hh, c_pg4 hh, c_pg5 hh, c_pg6 hh, c_pg7 hh, c_q31 hh, c_q39 hh, c_op7 hh, c_op8 hh, c_op9 hh, c_kp0 hh, c_kp1 hh, c_kp5 hh, c_kp6 hh, c_wp1 hh, c_wp2 hh, c_wp3 hh, c_wp7 hh, c_wp8 hh, c_pp0 hh, c_pp1 hh, c_pp2 hh, c_pp6 hh, c_pp7 hh, c_r32 hh, c_r34 hh, c_r35 hh, c_r36 hh, c_r38 hh, c_r40 hh, c_r41 hh, c_r57 hh, c_r58 hh, c_s32 hh, c_s34 hh, c_s35 hh, c_s36 hh, c_s38 hh, c_s40 hh, c_s41 hh, c_s57 hh, c_s58 hh, zI_add, zI_sub, zI_mul, zI_neg, zL_add, zL_sub, zL_mul, Option.bind_some, Option.toList_some, Option.toList_none, List.cons_append, List.nil_append, zI_lt, zI_le, zI_eq, zI_eq0, zI_lt0, zI_le0, zI_0lt, zI_0le, bZ_e0]
          rfl
        · rw [if_neg c1, if_pos (show 0 < m ∧ skP (txX t) (t 0 3) p = t 0 3 by omega)]
          exact ⟨T, fun _ _ _ _ _ => rfl, ⟨by rw [t1]; simp, by simp; omega, by simp; omega, trivial⟩, rfl⟩
      · rw [if_neg c2, if_neg (fun y => c2 y.2)]
        cases hI : itS (txX t) (t 0 3) m (skP (txX t) (t 0 3) p) with
        | inl f =>
          rw [hI] at u2 u3
          have u2' : -1 < f ∧ f ≤ t 0 3 := u2
          have u3' : x_cl (d + 3) n_X1_findItem [.ref 33] (cH h T) = some (some (.int (zI f)), cH h T1) := u3
          refine ⟨T1, fun a b c3 c4 c5 => u1 a b c3 (by omega) (by omega), u2, ?_⟩
          simp (disch := first | omega | assumption) only [s_X1_findItems_32, s_X1_findItems_33, s_X1_findItems_36, s_X1_findItems_37, s_X1_findItems_38, s_X1_findItems_39, c_oo hh, c_og0 hh, c_og1 hh, c_og2 hh, c_og3 hh, c_og4 hh, c_og5 hh, c_og6 hh, c_og7 hh, c_og8 hh, c_og9 hh, c_ko hh, c_kg0 hh, c_kg1 hh, c_kg2 hh, c_kg3 hh, c_kg4 hh, c_kg5 hh, c_kg6 hh, c_wo hh, c_wg0 hh, c_wg1 hh, c_wg2 hh, c_wg3 hh, c_wg4 hh, c_wg5 hh, c_wg6 hh, c_wg7 hh, c_wg8 hh, c_po hh, c_pg0 hh, c_pg1 hh, c_pg2 hh, c_pg3 hh, c_pg4 hh, c_pg5 hh, c_pg6 hh, c_pg7 hh, c_q31 hh, c_q39 hh, c_op7 hh, c_op8 hh, c_op9 hh, c_kp0 hh, c_kp1 hh, c_kp5 hh, c_kp6 hh, c_wp1 hh, c_wp2 hh, c_wp3 hh, c_wp7 hh, c_wp8 hh, c_pp0 hh, c_pp1 hh, c_pp2 hh, c_pp6 hh, c_pp7 hh, c_r32 hh, c_r34 hh, c_r35 hh, c_r36 hh, c_r38 hh, c_r40 hh, c_r41 hh, c_r57 hh, c_r58 hh, c_s32 hh, c_s34 hh, c_s35 hh, c_s36 hh, c_s38 hh, c_s40 hh, c_s41 hh, c_s57 hh, c_s58 hh, zI_add, zI_sub, zI_mul, zI_neg, zL_add, zL_sub, zL_mul, Option.bind_some, Option.toList_some, Option.toList_none, List.cons_append, List.nil_append, zI_lt, zI_le, zI_eq, zI_eq0, zI_lt0, zI_le0, zI_0lt, zI_0le, bZ_e0, u3']
          rw [if_neg (by omega)]
          simp (disch := first | omega | assumption) only [s_X1_findItems_42, s_X1_findItems_43, c_oo hh, c_og0 hh, c_og1 hh, c_og2 hh, c_og3 hh, c_og4 hh, c_og5 hh, c_og6 hh, c_og7 hh, c_og8 hh, c_og9 hh, c_ko hh, c_kg0 hh, c_kg1 hh, c_kg2 hh, c_kg3 hh, c_kg4 hh, c_kg5 hh, c_kg6 hh, c_wo hh, c_wg0 hh, c_wg1 hh, c_wg2 hh, c_wg3 hh, c_wg4 hh, c_wg5 hh, c_wg6 hh, c_wg7 hh, c_wg8 hh, c_po hh, c_pg0 hh, c_pg1 hh, c_pg2 hh, c_pg3 hh, c_pg4 hh, c_pg5 hh, c_pg6 hh, c_pg7 hh, c_q31 hh, c_q39 hh, c_op7 hh, c_op8 hh, c_op9 hh, c_kp0 hh, c_kp1 hh, c_kp5 hh, c_kp6 hh, c_wp1 hh, c_wp2 hh, c_wp3 hh, c_wp7 hh, c_wp8 hh, c_pp0 hh, c_pp1 hh, c_pp2 hh, c_pp6 hh, c_pp7 hh, c_r32 hh, c_r34 hh, c_r35 hh, c_r36 hh, c_r38 hh, c_r40 hh, c_r41 hh, c_r57 hh, c_r58 hh, c_s32 hh, c_s34 hh, c_s35 hh, c_s36 hh, c_s38 hh, c_s40 hh, c_s41 hh, c_s57 hh, c_s58 hh, zI_add, zI_sub, zI_mul, zI_neg, zL_add, zL_sub, zL_mul, Option.bind_some, Option.toList_some, Option.toList_none, List.cons_append, List.nil_append, zI_lt, zI_le, zI_eq, zI_eq0, zI_lt0, zI_le0, zI_0lt, zI_0le, bZ_e0]
          rfl
        | inr wlp =>
          obtain ⟨w, l, p'⟩ := wlp
          rw [hI] at u2 u3
          obtain ⟨a1, a2, a3, a4, a5, a6, a7, a8⟩ := u2
          have u3' : x_cl (d + 3) n_X1_findItem [.ref 33] (cH h T) = some (some (.int (zI (-1))), cH h T1) := u3
          have pr := it_rg hx (by omega) (by omega) hI
          have hc1 : cdR T1 t := hc.go (u1 33 0 (by omega) (by omega) (by omega)) fun b => u1 34 b (by omega) (by omega) (by omega)
          obtain ⟨T', v1, v2, v3⟩ := ih T1 (m + 1) p' (.int (zI (-1))) hc1 a1 a2 (by omega) (by omega) (by omega) (by omega)
          refine ⟨T', fun a b c3 c4 c5 => ?_, ?_, ?_⟩
          · rw [v1 a b c3 (by omega) (by omega), u1 a b c3 (by omega) (by omega)]
          · dsimp only
            cases hA : alS (txX t) (t 0 3) k (m + 1) p' with
            | inl f =>
              rw [hA] at v2
              exact v2
            | inr L =>
              rw [hA] at v2
              obtain ⟨b1, b2, b3, b4⟩ := v2
              show T' 33 1 = m + ((w, l) :: L).length ∧ 5 * (m + ((w, l) :: L).length) ≤ t 0 3 ∧ 1 ≤ m + ((w, l) :: L).length ∧ alH (cdT T') m ((w, l) :: L)
              rw [List.length_cons]
              refine ⟨by rw [b1]; omega, by omega, by omega, ?_, a5, a6, a7, fun i hi => ?_, b4⟩
              · show T' 35 m.toNat = w
                rw [v1 35 _ (by omega) (by omega) (by omega), a4]
              · show T' 36 (4 * m + (i : Int)).toNat = l.getD i 0
                have := nmO_rg w
                rw [v1 36 _ (by omega) (by omega) (by omega), a8 i hi]
          · simp (disch := first | omega | assumption) only [s_X1_findItems_32, s_X1_findItems_33, s_X1_findItems_36, s_X1_findItems_37, s_X1_findItems_38, s_X1_findItems_39, c_oo hh, c_og0 hh, c_og1 hh, c_og2 hh, c_og3 hh, c_og4 hh, c_og5 hh, c_og6 hh, c_og7 hh, c_og8 hh, c_og9 hh, c_ko hh, c_kg0 hh, c_kg1 hh, c_kg2 hh, c_kg3 hh, c_kg4 hh, c_kg5 hh, c_kg6 hh, c_wo hh, c_wg0 hh, c_wg1 hh, c_wg2 hh, c_wg3 hh, c_wg4 hh, c_wg5 hh, c_wg6 hh, c_wg7 hh, c_wg8 hh, c_po hh, c_pg0 hh, c_pg1 hh, c_pg2 hh, c_pg3 hh, c_pg4 hh, c_pg5 hh, c_pg6 hh, c_pg7 hh, c_q31 hh, c_q39 hh, c_op7 hh, c_op8 hh, c_op9 hh, c_kp0 hh, c_kp1 hh, c_kp5 hh, c_kp6 hh, c_wp1 hh, c_wp2 hh, c_wp3 hh, c_wp7 hh, c_wp8 hh, c_pp0 hh, c_pp1 hh, c_pp2 hh, c_pp6 hh, c_pp7 hh, c_r32 hh, c_r34 hh, c_r35 hh, c_r36 hh, c_r38 hh, c_r40 hh, c_r41 hh, c_r57 hh, c_r58 hh, c_s32 hh, c_s34 hh, c_s35 hh, c_s36 hh, c_s38 hh, c_s40 hh, c_s41 hh, c_s57 hh, c_s58 hh, zI_add, zI_sub, zI_mul, zI_neg, zL_add, zL_sub, zL_mul, Option.bind_some, Option.toList_some, Option.toList_none, List.cons_append, List.nil_append, zI_lt, zI_le, zI_eq, zI_eq0, zI_lt0, zI_le0, zI_0lt, zI_0le, bZ_e0, u3', if_true]
            simp (disch := first | omega | assumption) only [s_X1_findItems_44, s_X1_findItems_47, c_oo hh, c_og0 hh, c_og1 hh, c_og2 hh, c_og3 hh, c_og4 hh, c_og5 hh, c_og6 hh, c_og7 hh, c_og8 hh, c_og9 hh, c_ko hh, c_kg0 hh, c_kg1 hh, c_kg2 hh, c_kg3 hh, c_kg4 hh, c_kg5 hh, c_kg6 hh, c_wo hh, c_wg0 hh, c_wg1 hh, c_wg2 hh, c_wg3 hh, c_wg4 hh, c_wg5 hh, c_wg6 hh, c_wg7 hh, c_wg8 hh, c_po hh, c_pg0 hh, c_pg1 hh, c_pg2 hh, c_pg3 hh, c_pg4 hh, c_pg5 hh, c_pg6 hh, c_pg7 hh, c_q31 hh, c_q39 hh, c_op7 hh, c_op8 hh, c_op9 hh, c_kp0 hh, c_kp1 hh, c_kp5 hh, c_kp6 hh, c_wp1 hh, c_wp2 hh, c_wp3 hh, c_wp7 hh, c_wp8 hh, c_pp0 hh, c_pp1 hh, c_pp2 hh, c_pp6 hh, c_pp7 hh, c_r32 hh, c_r34 hh, c_r35 hh, c_r36 hh, c_r38 hh, c_r40 hh, c_r41 hh, c_r57 hh, c_r58 hh, c_s32 hh, c_s34 hh, c_s35 hh, c_s36 hh, c_s38 hh, c_s40 hh, c_s41 hh, c_s57 hh, c_s58 hh, zI_add, zI_sub, zI_mul, zI_neg, zL_add, zL_sub, zL_mul, Option.bind_some, Option.toList_some, Option.toList_none, List.cons_append, List.nil_append, zI_lt, zI_le, zI_eq, zI_eq0, zI_lt0, zI_le0, zI_0lt, zI_0le, bZ_e0]
            refine Eq.trans v3 ?_
            cases hA : alS (txX t) (t 0 3) k (m + 1) p' with
            | inl f => rfl
            | inr L => rfl
theorem k_items (hh : 91 ≤ h.1) (hx : txOk t) (hc : cdR T t) : ∃ T', (∀ a b : Nat, ¬ (a = 33 ∧ (b = 1 ∨ b = 5 ∨ b = 6)) → a ≠ 35 → a ≠ 36 → T' a b = T a b) ∧ alC T' (t 0 3) 0 (alS (txX t) (t 0 3) 201 0 0) ∧ x_cl (d + 4) n_X1_findItems [.ref 33] (cH h T) = some (some (.int (zI (alA (alS (txX t) (t 0 3) 201 0 0)))), cH h T') := by
  have hn := hx.1
  have hc1 : cdR (up2 (up2 T 33 1 0) 33 6 0) t := cdR_u (cdR_u hc (by decide)) (by decide)
  obtain ⟨T', u1, u2, u3⟩ := l_itemsK (d := d) (h := h) hh hx 201 (up2 (up2 T 33 1 0) 33 6 0) 0 0 .null hc1 ((up2_n (by omega)).trans up2_s) up2_s (by omega) (by omega) (by omega) (by omega)
  refine ⟨T', fun a b c1 c2 c3 => ?_, u2, ?_⟩
  · rw [u1 a b c1 (by omega) (by omega), up2_n (by omega), up2_n (by omega)]
  · simp (disch := first | omega | assumption) only [e_X1_findItems, s_X1_findItems_0, s_X1_findItems_1, s_X1_findItems_2, s_X1_findItems_5, s_X1_findItems_6, s_X1_findItems_7, s_X1_findItems_10, s_X1_findItems_11, c_oo hh, c_og0 hh, c_og1 hh, c_og2 hh, c_og3 hh, c_og4 hh, c_og5 hh, c_og6 hh, c_og7 hh, c_og8 hh, c_og9 hh, c_ko hh, c_kg0 hh, c_kg1 hh, c_kg2 hh, c_kg3 hh, c_kg4 hh, c_kg5 hh, c_kg6 hh, c_wo hh, c_wg0 hh, c_wg1 hh, c_wg2 hh, c_wg3 hh, c_wg4 hh, c_wg5 hh, c_wg6 hh, c_wg7 hh, c_wg8 hh, c_po hh, c_pg0 hh, c_pg1 hh, c_pg2 hh, c_pg3 hh, c_pg4 hh, c_pg5 hh, c_pg6 hh, c_pg7 hh, c_q31 hh, c_q39 hh, c_op7 hh, c_op8 hh, c_op9 hh, c_kp0 hh, c_kp1 hh, c_kp5 hh, c_kp6 hh, c_wp1 hh, c_wp2 hh, c_wp3 hh, c_wp7 hh, c_wp8 hh, c_pp0 hh, c_pp1 hh, c_pp2 hh, c_pp6 hh, c_pp7 hh, c_r32 hh, c_r34 hh, c_r35 hh, c_r36 hh, c_r38 hh, c_r40 hh, c_r41 hh, c_r57 hh, c_r58 hh, c_s32 hh, c_s34 hh, c_s35 hh, c_s36 hh, c_s38 hh, c_s40 hh, c_s41 hh, c_s57 hh, c_s58 hh, zI_add, zI_sub, zI_mul, zI_neg, zL_add, zL_sub, zL_mul, Option.bind_some, Option.toList_some, Option.toList_none, List.cons_append, List.nil_append, zI_lt, zI_le, zI_eq, zI_eq0, zI_lt0, zI_le0, zI_0lt, zI_0le, bZ_e0]
    exact u3
end

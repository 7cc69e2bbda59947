/-! STAND, TWO: the component's calls -/
section
variable {h : xH} {d : Nat} {g : Nat → Int} {G t : Nat → Nat → Int}
def lkE (F : Int × Int → Int × Int) : Prop := ∀ s s', s.1 = s'.1 → (F s).1 = (F s').1 ∧ ((F s).2 = (F s').2 ∨ (F s = s ∧ F s' = s'))
theorem scG_2 {f c : Int → Int} {ok : Int → Bool} : ∀ (n : Nat) (q : Int), lkE (scG f c ok n q) := by
  intro n
  induction n with
  | zero => intro q s s' hs; exact ⟨hs, Or.inr ⟨rfl, rfl⟩⟩
  | succ n ih =>
    intro q s s' hs
    rw [scG, scG]
    by_cases z : ok q = true ∧ s.1 < f q
    · rw [if_pos z, if_pos (by rw [← hs]; exact z)]
      exact ⟨rfl, Or.inl rfl⟩
    · rw [if_neg z, if_neg (by rw [← hs]; exact z)]
      exact ih (q + 1) s s' hs
theorem itO_2 {F : Int → Int × Int → Int × Int} (hF : ∀ x, lkE (F x)) : ∀ (n : Nat) (x : Int), lkE (itO F n x) := by
  intro n
  induction n with
  | zero => intro q s s' hs; exact ⟨hs, Or.inr ⟨rfl, rfl⟩⟩
  | succ n ih =>
    intro x s s' hs
    rw [itO, itO]
    obtain ⟨a, b⟩ := hF x s s' hs
    rcases b with b | b
    · rw [show F x s = F x s' from Prod.ext a b]
      exact ⟨rfl, Or.inl rfl⟩
    · rw [b.1, b.2]
      exact ih (x + 1) s s' hs
theorem scG_mo {f c : Int → Int} {ok : Int → Bool} : ∀ (n : Nat) (q : Int) (s : Int × Int), s.1 ≤ (scG f c ok n q s).1 := by
  intro n
  induction n with
  | zero => intro q s; exact Int.le_refl _
  | succ n ih =>
    intro q s
    rw [scG]
    refine Int.le_trans ?_ (ih (q + 1) _)
    split
    next z => exact Int.le_of_lt z.2
    · exact Int.le_refl _
theorem scG_ge {f c : Int → Int} {ok : Int → Bool} {k : Int} : ∀ (n : Nat) (q : Int) (s : Int × Int), q ≤ k → k < q + n → ok k = true → f k ≤ (scG f c ok n q s).1 := by
  intro n
  induction n with
  | zero => intro q s h1 h2; omega
  | succ n ih =>
    intro q s h1 h2 h3
    rw [scG]
    by_cases e : k = q
    · subst e
      refine Int.le_trans ?_ (scG_mo n (k + 1) _)
      split
      · exact Int.le_refl _
      next z => exact Int.not_lt.mp fun y => z ⟨h3, y⟩
    · exact ih (q + 1) _ (by omega) (by omega) h3
theorem scG_no {f c : Int → Int} {ok : Int → Bool} : ∀ (n : Nat) (q : Int) (s : Int × Int), (∀ k, q ≤ k → k < q + n → ok k = false) → scG f c ok n q s = s := by
  intro n
  induction n with
  | zero => intro q s hk; rfl
  | succ n ih =>
    intro q s hk
    rw [scG, if_neg (fun y => by rw [hk q (by omega) (by omega)] at y; exact absurd y.1 (by decide))]
    exact ih (q + 1) s fun k h1 h2 => hk k (by omega) (by omega)
theorem itO_mo {F : Int → Int × Int → Int × Int} (hF : ∀ x s, s.1 ≤ (F x s).1) : ∀ (n : Nat) (x : Int) (s : Int × Int), s.1 ≤ (itO F n x s).1 := by
  intro n
  induction n with
  | zero => intro q s; exact Int.le_refl _
  | succ n ih => intro x s; rw [itO]; exact Int.le_trans (hF x s) (ih (x + 1) _)
theorem itO_ge {F : Int → Int × Int → Int × Int} {B k : Int} (hF : ∀ x s, s.1 ≤ (F x s).1) (hk : ∀ s, B ≤ (F k s).1) : ∀ (n : Nat) (x : Int) (s : Int × Int), x ≤ k → k < x + n → B ≤ (itO F n x s).1 := by
  intro n
  induction n with
  | zero => intro x s h1 h2; omega
  | succ n ih =>
    intro x s h1 h2
    rw [itO]
    by_cases e : k = x
    · subst e
      exact Int.le_trans (hk s) (itO_mo hF n _ _)
    · exact ih (x + 1) _ (by omega) (by omega)
theorem itO_no {F : Int → Int × Int → Int × Int} : ∀ (n : Nat) (x : Int) (s : Int × Int), (∀ k s, x ≤ k → k < x + n → F k s = s) → itO F n x s = s := by
  intro n
  induction n with
  | zero => intro x s hk; rfl
  | succ n ih =>
    intro x s hk
    rw [itO, hk x s (by omega) (by omega)]
    exact ih (x + 1) s fun k s h1 h2 => hk k s (by omega) (by omega)
theorem stG_2 {x y : Int} (hv : vI g) : (stG g (-1, x)).2 = (stG g (-1, y)).2 := by
  have hl := hv.2.2.1
  have hb := hv.2.2.2.2.2.1
  rcases (scG_2 (f := stW g) (c := id) (ok := fun q => !hasB (g 4) q) (g 0 * g 1).toNat 0 (-1, x) (-1, y) rfl).2 with e | e
  · exact e
  · have a := scG_ge (f := stW g) (c := id) (ok := fun q => !hasB (g 4) q) (k := g 2) (g 0 * g 1).toNat 0 (-1, x) hl.1 (by omega) (by rw [hb]; rfl)
    rw [e.1] at a
    have b := wtG_rg (L := lqG g (g 2)) hv
    have b2 : stW g (g 2) = wtG g (lqG g (g 2)) := rfl
    dsimp only at a
    omega
theorem aSt_g {w : Int} (hv : vI (rg t 0)) : aStand t w = if w = 0 then (stG (rg t 0) (-1, -1)).2 else stA (rg t 0) := by
  have h5 := hv.2.2.2.2.2.2.1
  have e5 : bgT t 0 1 5 = rg t 0 5 := by rw [bg_1, rg_0 (by decide)]
  unfold aStand
  rw [stS_u bgC_bg (by rw [e5]; exact h5.2), stB_u bgC_bg (by rw [e5]; exact h5.2), rg_bg, stG_2 (y := -1) hv]
theorem o_stand {w : Int} (hh : 91 ≤ h.1) (hr : hR G 1 (rg t 0)) (hv : vI (rg t 0)) (h1 : -2147483648 ≤ w) (h2 : w < 2147483648) : (0 ≤ w ∧ w ≤ 1 → ∃ G', (∀ i j, ¬ (56 ≤ i ∧ i ≤ 60) → G' i j = G i j) ∧ x_cl (d + 5) n_X7_stand [.ref 0, .int (zI w)] (cH h G) = some (some (.int (zI (aStand t w))), cH h G')) ∧ (¬ (0 ≤ w ∧ w ≤ 1) → x_cl (d + 5) n_X7_stand [.ref 0, .int (zI w)] (cH h G) = some (some (.int (zI (-2))), cH h (ctT G (-2)))) := by
  have hO := isH_1
  simp (disch := first | omega | assumption) only [e_X7_stand, s_X7_stand_0, s_X7_stand_1, s_X7_stand_4, s_X7_stand_7, s_X7_stand_8, s_X7_stand_10, s_X7_stand_13, c_oo hh, c_og0 hh, c_og1 hh, c_og2 hh, c_og3 hh, c_og4 hh, c_og5 hh, c_og6 hh, c_og7 hh, c_og8 hh, c_og9 hh, c_ko hh, c_kg0 hh, c_kg1 hh, c_kg2 hh, c_kg3 hh, c_kg4 hh, c_kg5 hh, c_kg6 hh, c_wo hh, c_wg0 hh, c_wg1 hh, c_wg2 hh, c_wg3 hh, c_wg4 hh, c_wg5 hh, c_wg6 hh, c_wg7 hh, c_wg8 hh, c_po hh, c_pg0 hh, c_pg1 hh, c_pg2 hh, c_pg3 hh, c_pg4 hh, c_pg5 hh, c_pg6 hh, c_pg7 hh, c_q31 hh, c_q39 hh, c_op7 hh, c_op8 hh, c_op9 hh, c_kp0 hh, c_kp1 hh, c_kp5 hh, c_kp6 hh, c_wp1 hh, c_wp2 hh, c_wp3 hh, c_wp7 hh, c_wp8 hh, c_pp0 hh, c_pp1 hh, c_pp2 hh, c_pp6 hh, c_pp7 hh, c_r32 hh, c_r34 hh, c_r35 hh, c_r36 hh, c_r38 hh, c_r40 hh, c_r41 hh, c_r57 hh, c_r58 hh, c_s32 hh, c_s34 hh, c_s35 hh, c_s36 hh, c_s38 hh, c_s40 hh, c_s41 hh, c_s57 hh, c_s58 hh, c_ho hh hO, c_hg0 hh hO, c_hg1 hh hO, c_hg2 hh hO, c_hg3 hh hO, c_hg4 hh hO, c_hg5 hh hO, c_hg6 hh hO, c_hg7 hh hO, c_hg8 hh hO, c_hg9 hh hO, c_hg10 hh hO, c_hq hh hO, c_hbg0 hh hO, c_hbg1 hh hO, c_hbo hh hO, c_hno hh hO, c_hng0 hh hO, c_hng1 hh hO, c_hng2 hh hO, c_hng3 hh hO, c_hng4 hh hO, c_hdo hh hO, c_hdg0 hh hO, c_hdg1 hh hO, c_hdg2 hh hO, c_hdg3 hh hO, c_hdg4 hh hO, c_hdg5 hh hO, c_hp4 hh hO, c_hp5 hh hO, c_hp6 hh hO, c_hp7 hh hO, c_hp8 hh hO, c_hp9 hh hO, c_hp10 hh hO, c_hbp hh hO, c_hnp hh hO, c_hdp0 hh hO, c_hdp1 hh hO, c_hdp2 hh hO, c_hdp3 hh hO, c_hdp4 hh hO, c_hdp5 hh hO, c_hr3 hh hO, c_hr5 hh hO, c_hr6 hh hO, c_hr7 hh hO, c_hr8 hh hO, c_hr9 hh hO, c_hs3 hh hO, c_hs5 hh hO, c_hs6 hh hO, c_hs7 hh hO, c_hs8 hh hO, c_hs9 hh hO, zI_add, zI_sub, zI_mul, zI_neg, zL_add, zL_sub, zL_mul, Option.bind_some, Option.toList_some, Option.toList_none, List.cons_append, List.nil_append, zI_lt, zI_le, zI_eq, zI_eq0, zI_lt0, zI_le0, zI_0lt, zI_0le, bZ_e0, Int.add_zero, Int.zero_add, k_01, k_counted hh]
  constructor
  · intro q
    obtain ⟨F, f1, f2, f3, f4⟩ := k_stand (d := d) hh hO hr hv (by decide)
    refine ⟨F, fun i j hi => f1 i j (by omega) (by omega) (by omega) (by omega), ?_⟩
    rw [if_neg (fun z => z q), aSt_g hv]
    simp (disch := first | omega | assumption) only [s_X7_stand_14, s_X7_stand_15, s_X7_stand_18, s_X7_stand_19, s_X7_stand_22, s_X7_stand_25, s_X7_stand_26, c_oo hh, c_og0 hh, c_og1 hh, c_og2 hh, c_og3 hh, c_og4 hh, c_og5 hh, c_og6 hh, c_og7 hh, c_og8 hh, c_og9 hh, c_ko hh, c_kg0 hh, c_kg1 hh, c_kg2 hh, c_kg3 hh, c_kg4 hh, c_kg5 hh, c_kg6 hh, c_wo hh, c_wg0 hh, c_wg1 hh, c_wg2 hh, c_wg3 hh, c_wg4 hh, c_wg5 hh, c_wg6 hh, c_wg7 hh, c_wg8 hh, c_po hh, c_pg0 hh, c_pg1 hh, c_pg2 hh, c_pg3 hh, c_pg4 hh, c_pg5 hh, c_pg6 hh, c_pg7 hh, c_q31 hh, c_q39 hh, c_op7 hh, c_op8 hh, c_op9 hh, c_kp0 hh, c_kp1 hh, c_kp5 hh, c_kp6 hh, c_wp1 hh, c_wp2 hh, c_wp3 hh, c_wp7 hh, c_wp8 hh, c_pp0 hh, c_pp1 hh, c_pp2 hh, c_pp6 hh, c_pp7 hh, c_r32 hh, c_r34 hh, c_r35 hh, c_r36 hh, c_r38 hh, c_r40 hh, c_r41 hh, c_r57 hh, c_r58 hh, c_s32 hh, c_s34 hh, c_s35 hh, c_s36 hh, c_s38 hh, c_s40 hh, c_s41 hh, c_s57 hh, c_s58 hh, c_ho hh hO, c_hg0 hh hO, c_hg1 hh hO, c_hg2 hh hO, c_hg3 hh hO, c_hg4 hh hO, c_hg5 hh hO, c_hg6 hh hO, c_hg7 hh hO, c_hg8 hh hO, c_hg9 hh hO, c_hg10 hh hO, c_hq hh hO, c_hbg0 hh hO, c_hbg1 hh hO, c_hbo hh hO, c_hno hh hO, c_hng0 hh hO, c_hng1 hh hO, c_hng2 hh hO, c_hng3 hh hO, c_hng4 hh hO, c_hdo hh hO, c_hdg0 hh hO, c_hdg1 hh hO, c_hdg2 hh hO, c_hdg3 hh hO, c_hdg4 hh hO, c_hdg5 hh hO, c_hp4 hh hO, c_hp5 hh hO, c_hp6 hh hO, c_hp7 hh hO, c_hp8 hh hO, c_hp9 hh hO, c_hp10 hh hO, c_hbp hh hO, c_hnp hh hO, c_hdp0 hh hO, c_hdp1 hh hO, c_hdp2 hh hO, c_hdp3 hh hO, c_hdp4 hh hO, c_hdp5 hh hO, c_hr3 hh hO, c_hr5 hh hO, c_hr6 hh hO, c_hr7 hh hO, c_hr8 hh hO, c_hr9 hh hO, c_hs3 hh hO, c_hs5 hh hO, c_hs6 hh hO, c_hs7 hh hO, c_hs8 hh hO, c_hs9 hh hO, zI_add, zI_sub, zI_mul, zI_neg, zL_add, zL_sub, zL_mul, Option.bind_some, Option.toList_some, Option.toList_none, List.cons_append, List.nil_append, zI_lt, zI_le, zI_eq, zI_eq0, zI_lt0, zI_le0, zI_0lt, zI_0le, bZ_e0, Int.add_zero, Int.zero_add, f4]
    by_cases z : w = 0
    · rw [if_pos z, if_pos z]
      simp (disch := first | omega | assumption) only [s_X7_stand_29, s_X7_stand_30, s_X7_stand_33, s_X7_stand_36, s_X7_stand_39, s_X7_stand_40, s_X7_stand_43, s_X7_stand_46, c_oo hh, c_og0 hh, c_og1 hh, c_og2 hh, c_og3 hh, c_og4 hh, c_og5 hh, c_og6 hh, c_og7 hh, c_og8 hh, c_og9 hh, c_ko hh, c_kg0 hh, c_kg1 hh, c_kg2 hh, c_kg3 hh, c_kg4 hh, c_kg5 hh, c_kg6 hh, c_wo hh, c_wg0 hh, c_wg1 hh, c_wg2 hh, c_wg3 hh, c_wg4 hh, c_wg5 hh, c_wg6 hh, c_wg7 hh, c_wg8 hh, c_po hh, c_pg0 hh, c_pg1 hh, c_pg2 hh, c_pg3 hh, c_pg4 hh, c_pg5 hh, c_pg6 hh, c_pg7 hh, c_q31 hh, c_q39 hh, c_op7 hh, c_op8 hh, c_op9 hh, c_kp0 hh, c_kp1 hh, c_kp5 hh, c_kp6 hh, c_wp1 hh, c_wp2 hh, c_wp3 hh, c_wp7 hh, c_wp8 hh, c_pp0 hh, c_pp1 hh, c_pp2 hh, c_pp6 hh, c_pp7 hh, c_r32 hh, c_r34 hh, c_r35 hh, c_r36 hh, c_r38 hh, c_r40 hh, c_r41 hh, c_r57 hh, c_r58 hh, c_s32 hh, c_s34 hh, c_s35 hh, c_s36 hh, c_s38 hh, c_s40 hh, c_s41 hh, c_s57 hh, c_s58 hh, c_ho hh hO, c_hg0 hh hO, c_hg1 hh hO, c_hg2 hh hO, c_hg3 hh hO, c_hg4 hh hO, c_hg5 hh hO, c_hg6 hh hO, c_hg7 hh hO, c_hg8 hh hO, c_hg9 hh hO, c_hg10 hh hO, c_hq hh hO, c_hbg0 hh hO, c_hbg1 hh hO, c_hbo hh hO, c_hno hh hO, c_hng0 hh hO, c_hng1 hh hO, c_hng2 hh hO, c_hng3 hh hO, c_hng4 hh hO, c_hdo hh hO, c_hdg0 hh hO, c_hdg1 hh hO, c_hdg2 hh hO, c_hdg3 hh hO, c_hdg4 hh hO, c_hdg5 hh hO, c_hp4 hh hO, c_hp5 hh hO, c_hp6 hh hO, c_hp7 hh hO, c_hp8 hh hO, c_hp9 hh hO, c_hp10 hh hO, c_hbp hh hO, c_hnp hh hO, c_hdp0 hh hO, c_hdp1 hh hO, c_hdp2 hh hO, c_hdp3 hh hO, c_hdp4 hh hO, c_hdp5 hh hO, c_hr3 hh hO, c_hr5 hh hO, c_hr6 hh hO, c_hr7 hh hO, c_hr8 hh hO, c_hr9 hh hO, c_hs3 hh hO, c_hs5 hh hO, c_hs6 hh hO, c_hs7 hh hO, c_hs8 hh hO, c_hs9 hh hO, zI_add, zI_sub, zI_mul, zI_neg, zL_add, zL_sub, zL_mul, Option.bind_some, Option.toList_some, Option.toList_none, List.cons_append, List.nil_append, zI_lt, zI_le, zI_eq, zI_eq0, zI_lt0, zI_le0, zI_0lt, zI_0le, bZ_e0, Int.add_zero, Int.zero_add, f3]
    · rw [if_neg z, if_neg z]
      simp (disch := first | omega | assumption) only [s_X7_stand_39, s_X7_stand_40, s_X7_stand_43, s_X7_stand_46, c_oo hh, c_og0 hh, c_og1 hh, c_og2 hh, c_og3 hh, c_og4 hh, c_og5 hh, c_og6 hh, c_og7 hh, c_og8 hh, c_og9 hh, c_ko hh, c_kg0 hh, c_kg1 hh, c_kg2 hh, c_kg3 hh, c_kg4 hh, c_kg5 hh, c_kg6 hh, c_wo hh, c_wg0 hh, c_wg1 hh, c_wg2 hh, c_wg3 hh, c_wg4 hh, c_wg5 hh, c_wg6 hh, c_wg7 hh, c_wg8 hh, c_po hh, c_pg0 hh, c_pg1 hh, c_pg2 hh, c_pg3 hh, c_pg4 hh, c_pg5 hh, c_pg6 hh, c_pg7 hh, c_q31 hh, c_q39 hh, c_op7 hh, c_op8 hh, c_op9 hh, c_kp0 hh, c_kp1 hh, c_kp5 hh, c_kp6 hh, c_wp1 hh, c_wp2 hh, c_wp3 hh, c_wp7 hh, c_wp8 hh, c_pp0 hh, c_pp1 hh, c_pp2 hh, c_pp6 hh, c_pp7 hh, c_r32 hh, c_r34 hh, c_r35 hh, c_r36 hh, c_r38 hh, c_r40 hh, c_r41 hh, c_r57 hh, c_r58 hh, c_s32 hh, c_s34 hh, c_s35 hh, c_s36 hh, c_s38 hh, c_s40 hh, c_s41 hh, c_s57 hh, c_s58 hh, c_ho hh hO, c_hg0 hh hO, c_hg1 hh hO, c_hg2 hh hO, c_hg3 hh hO, c_hg4 hh hO, c_hg5 hh hO, c_hg6 hh hO, c_hg7 hh hO, c_hg8 hh hO, c_hg9 hh hO, c_hg10 hh hO, c_hq hh hO, c_hbg0 hh hO, c_hbg1 hh hO, c_hbo hh hO, c_hno hh hO, c_hng0 hh hO, c_hng1 hh hO, c_hng2 hh hO, c_hng3 hh hO, c_hng4 hh hO, c_hdo hh hO, c_hdg0 hh hO, c_hdg1 hh hO, c_hdg2 hh hO, c_hdg3 hh hO, c_hdg4 hh hO, c_hdg5 hh hO, c_hp4 hh hO, c_hp5 hh hO, c_hp6 hh hO, c_hp7 hh hO, c_hp8 hh hO, c_hp9 hh hO, c_hp10 hh hO, c_hbp hh hO, c_hnp hh hO, c_hdp0 hh hO, c_hdp1 hh hO, c_hdp2 hh hO, c_hdp3 hh hO, c_hdp4 hh hO, c_hdp5 hh hO, c_hr3 hh hO, c_hr5 hh hO, c_hr6 hh hO, c_hr7 hh hO, c_hr8 hh hO, c_hr9 hh hO, c_hs3 hh hO, c_hs5 hh hO, c_hs6 hh hO, c_hs7 hh hO, c_hs8 hh hO, c_hs9 hh hO, zI_add, zI_sub, zI_mul, zI_neg, zL_add, zL_sub, zL_mul, Option.bind_some, Option.toList_some, Option.toList_none, List.cons_append, List.nil_append, zI_lt, zI_le, zI_eq, zI_eq0, zI_lt0, zI_le0, zI_0lt, zI_0le, bZ_e0, Int.add_zero, Int.zero_add, f2]
      rfl
  · intro q
    rw [if_pos q]
/-- open squares, counted -/
theorem cntB_1 {S : Int} : ∀ (n : Nat) (q c : Int), cntB S (n + 1) q c = cntB S n q c + bZ (hasB S (q + n) = true) := by
  intro n
  induction n with
  | zero =>
    intro q c
    rw [cntB, cntB, cntB]
    simp
  | succ n ih =>
    intro q c
    rw [cntB, ih, cntB, show q + 1 + (n : Int) = q + ((n + 1 : Nat) : Int) by omega]
theorem cnt_1 {S : Int} (n : Nat) : cntB S (n + 1) 0 0 = cntB S n 0 0 + bZ (hasB S (n : Int) = true) := by
  have := cntB_1 (S := S) n 0 0
  rw [Int.zero_add] at this
  exact this
theorem cnt_up {S : Int} {k : Nat} (hz : ∀ q : Nat, k ≤ q → q < 32 → hasB S q = false) : ∀ n : Nat, k + n ≤ 25 → cntB S (k + n) 0 0 = cntB S k 0 0 := by
  intro n
  induction n with
  | zero => intro _; rfl
  | succ n ih =>
    intro hn
    rw [show k + (n + 1) = k + n + 1 from rfl, cnt_1, ih (by omega), hz (k + n) (by omega) (by omega), bZ_f (by decide)]
    omega
theorem cnt_a {S : Int} : ∀ n : Nat, (1 ≤ (n : Int) - cntB S n 0 0 ↔ ∃ k : Nat, k < n ∧ hasB S k = false) ∧ 0 ≤ (n : Int) - cntB S n 0 0 := by
  intro n
  induction n with
  | zero =>
    refine ⟨⟨fun y => ?_, fun ⟨k, y, _⟩ => by omega⟩, ?_⟩ <;> rw [cntB] at * <;> omega
  | succ n ih =>
    rw [cnt_1]
    have := bZ_01 (hasB S (n : Int) = true)
    refine ⟨⟨fun y => ?_, fun ⟨k, y, y2⟩ => ?_⟩, by omega⟩
    · by_cases z : hasB S (n : Int) = true
      · rw [bZ_t z] at y
        obtain ⟨k, k1, k2⟩ := ih.1.mp (by omega)
        exact ⟨k, by omega, k2⟩
      · exact ⟨n, by omega, Bool.eq_false_iff.mpr z⟩
    · by_cases z : hasB S (n : Int) = true
      · have hk : k ≠ n := fun e => by rw [e, z] at y2; cases y2
        have := ih.1.mpr ⟨k, by omega, y2⟩
        rw [bZ_t z]
        omega
      · rw [bZ_f z]
        omega
theorem cnt_b {S : Int} : ∀ n : Nat, 2 ≤ (n : Int) - cntB S n 0 0 ↔ ∃ x y : Nat, x < y ∧ y < n ∧ hasB S x = false ∧ hasB S y = false := by
  intro n
  induction n with
  | zero =>
    refine ⟨fun y => ?_, fun ⟨k, y, _⟩ => by omega⟩
    rw [cntB] at y
    omega
  | succ n ih =>
    rw [cnt_1]
    have := bZ_01 (hasB S (n : Int) = true)
    have ha := cnt_a (S := S) n
    refine ⟨fun y => ?_, fun ⟨k, l, y1, y2, y3, y4⟩ => ?_⟩
    · by_cases z : hasB S (n : Int) = true
      · rw [bZ_t z] at y
        obtain ⟨k, l, k1, k2, k3⟩ := ih.mp (by omega)
        exact ⟨k, l, k1, by omega, k3⟩
      · rw [bZ_f z] at y
        obtain ⟨k, k1, k2⟩ := ha.1.mp (by omega)
        exact ⟨k, n, k1, by omega, k2, Bool.eq_false_iff.mpr z⟩
    · by_cases z : hasB S (n : Int) = true
      · have hl : l ≠ n := fun e => by rw [e, z] at y4; cases y4
        have := ih.mpr ⟨k, l, y1, by omega, y3, y4⟩
        rw [bZ_t z]
        omega
      · rw [bZ_f z]
        by_cases e : l = n
        · have := ha.1.mpr ⟨k, by omega, y3⟩
          omega
        · have := ih.mpr ⟨k, l, y1, by omega, y3, y4⟩
          omega
theorem tw_n {x : Int} (hv : vI g) : (twG g (-1, x)).1 < 0 ↔ g 0 * g 1 - cntB (g 4) 25 0 0 < 2 := by
  have hsq := vI_sq hv
  have hu := cnt_up (S := g 4) (k := (g 0 * g 1).toNat) (fun q h1 h2 => hv.2.2.2.2.1 q (by omega) h2) (25 - (g 0 * g 1).toNat) (by omega)
  rw [show (g 0 * g 1).toNat + (25 - (g 0 * g 1).toNat) = 25 by omega] at hu
  have hb := cnt_b (S := g 4) (g 0 * g 1).toNat
  rw [hu]
  by_cases z : ∃ k l : Nat, k < l ∧ l < (g 0 * g 1).toNat ∧ hasB (g 4) k = false ∧ hasB (g 4) l = false
  · have e := hb.mpr z
    obtain ⟨k, l, y1, y2, y3, y4⟩ := z
    have : 0 ≤ (twG g (-1, x)).1 := by
      refine itO_ge (k := (k : Int)) (fun a s => scG_mo _ _ _) (fun s => ?_) _ _ _ (by omega) (by omega)
      refine Int.le_trans (twW_rg (x := (k : Int)) (y := (l : Int)) hv).1 ?_
      exact scG_ge (k := (l : Int)) _ _ _ (by omega) (by omega) (by rw [y3, y4]; rfl)
    omega
  · have e : ¬ 2 ≤ (((g 0 * g 1).toNat : Nat) : Int) - cntB (g 4) (g 0 * g 1).toNat 0 0 := fun y => z (hb.mp y)
    have : twG g (-1, x) = (-1, x) := by
      refine itO_no _ _ _ fun k s h1 h2 => scG_no _ _ _ fun l h3 h4 => ?_
      cases c1 : hasB (g 4) k with
      | true => rfl
      | false =>
        cases c2 : hasB (g 4) l with
        | true => rfl
        | false =>
          refine absurd ⟨k.toNat, l.toNat, by omega, by omega, ?_, ?_⟩ z
          · rw [show ((k.toNat : Nat) : Int) = k by omega]; exact c1
          · rw [show ((l.toNat : Nat) : Int) = l by omega]; exact c2
    rw [this]
    refine ⟨fun _ => ?_, fun _ => show (-1 : Int) < 0 by decide⟩
    clear this z
    omega
theorem aTw_g {w : Int} (hv : vI (rg t 0)) : aTwo t w = if (twG (rg t 0) (-1, -101)).1 < 0 then -20 else if w = 0 then (twG (rg t 0) (-1, -101)).2 else (twG (rg t 0) (-1, -101)).1 := by
  have h5 := hv.2.2.2.2.2.2.1
  have e5 : bgT t 0 1 5 = rg t 0 5 := by rw [bg_1, rg_0 (by decide)]
  unfold aTwo
  rw [twS_u bgC_bg (by rw [e5]; exact h5.2), rg_bg]
  obtain ⟨a, b⟩ := itO_2 (F := twJ (rg t 0)) (fun x => scG_2 _ _) (rg t 0 0 * rg t 0 1).toNat 0 (-1, 0) (-1, -101) rfl
  have a' : (twG (rg t 0) (-1, 0)).1 = (twG (rg t 0) (-1, -101)).1 := a
  rw [a']
  by_cases z : (twG (rg t 0) (-1, -101)).1 < 0
  · rw [if_pos z, if_pos z]
  · rw [if_neg z, if_neg z]
    rcases b with b | b
    · have b' : (twG (rg t 0) (-1, 0)).2 = (twG (rg t 0) (-1, -101)).2 := b
      rw [b']
    · have b' : twG (rg t 0) (-1, -101) = (-1, -101) := b.2
      rw [b'] at z
      exact absurd z (by decide)
theorem o_two {w : Int} (hh : 91 ≤ h.1) (hr : hR G 1 (rg t 0)) (hv : vI (rg t 0)) (h1 : -2147483648 ≤ w) (h2 : w < 2147483648) : (0 ≤ w ∧ w ≤ 1 → if (twS (bgT t 0)).1 < 0 then x_cl (d + 5) n_X7_two [.ref 0, .int (zI w)] (cH h G) = some (some (.int (zI (aTwo t w))), cH h (ctT G (-3))) else ∃ G', (∀ i j, ¬ (56 ≤ i ∧ i ≤ 60) → G' i j = G i j) ∧ x_cl (d + 5) n_X7_two [.ref 0, .int (zI w)] (cH h G) = some (some (.int (zI (aTwo t w))), cH h G')) ∧ (¬ (0 ≤ w ∧ w ≤ 1) → x_cl (d + 5) n_X7_two [.ref 0, .int (zI w)] (cH h G) = some (some (.int (zI (-2))), cH h (ctT G (-2)))) := by
  have hO := isH_1
  have h5 := hv.2.2.2.2.2.2.1
  have hsq := vI_sq hv
  have e5 : bgT t 0 1 5 = rg t 0 5 := by rw [bg_1, rg_0 (by decide)]
  have e6 := hr.2.2.1
  have e10 := hr.2.2.2.2.2.2.1
  have hc := cntB_rg (rg t 0 4) 25 0 0
  simp (disch := first | omega | assumption) only [e_X7_two, s_X7_two_0, s_X7_two_1, s_X7_two_4, s_X7_two_7, s_X7_two_8, s_X7_two_10, s_X7_two_13, c_oo hh, c_og0 hh, c_og1 hh, c_og2 hh, c_og3 hh, c_og4 hh, c_og5 hh, c_og6 hh, c_og7 hh, c_og8 hh, c_og9 hh, c_ko hh, c_kg0 hh, c_kg1 hh, c_kg2 hh, c_kg3 hh, c_kg4 hh, c_kg5 hh, c_kg6 hh, c_wo hh, c_wg0 hh, c_wg1 hh, c_wg2 hh, c_wg3 hh, c_wg4 hh, c_wg5 hh, c_wg6 hh, c_wg7 hh, c_wg8 hh, c_po hh, c_pg0 hh, c_pg1 hh, c_pg2 hh, c_pg3 hh, c_pg4 hh, c_pg5 hh, c_pg6 hh, c_pg7 hh, c_q31 hh, c_q39 hh, c_op7 hh, c_op8 hh, c_op9 hh, c_kp0 hh, c_kp1 hh, c_kp5 hh, c_kp6 hh, c_wp1 hh, c_wp2 hh, c_wp3 hh, c_wp7 hh, c_wp8 hh, c_pp0 hh, c_pp1 hh, c_pp2 hh, c_pp6 hh, c_pp7 hh, c_r32 hh, c_r34 hh, c_r35 hh, c_r36 hh, c_r38 hh, c_r40 hh, c_r41 hh, c_r57 hh, c_r58 hh, c_s32 hh, c_s34 hh, c_s35 hh, c_s36 hh, c_s38 hh, c_s40 hh, c_s41 hh, c_s57 hh, c_s58 hh, c_ho hh hO, c_hg0 hh hO, c_hg1 hh hO, c_hg2 hh hO, c_hg3 hh hO, c_hg4 hh hO, c_hg5 hh hO, c_hg6 hh hO, c_hg7 hh hO, c_hg8 hh hO, c_hg9 hh hO, c_hg10 hh hO, c_hq hh hO, c_hbg0 hh hO, c_hbg1 hh hO, c_hbo hh hO, c_hno hh hO, c_hng0 hh hO, c_hng1 hh hO, c_hng2 hh hO, c_hng3 hh hO, c_hng4 hh hO, c_hdo hh hO, c_hdg0 hh hO, c_hdg1 hh hO, c_hdg2 hh hO, c_hdg3 hh hO, c_hdg4 hh hO, c_hdg5 hh hO, c_hp4 hh hO, c_hp5 hh hO, c_hp6 hh hO, c_hp7 hh hO, c_hp8 hh hO, c_hp9 hh hO, c_hp10 hh hO, c_hbp hh hO, c_hnp hh hO, c_hdp0 hh hO, c_hdp1 hh hO, c_hdp2 hh hO, c_hdp3 hh hO, c_hdp4 hh hO, c_hdp5 hh hO, c_hr3 hh hO, c_hr5 hh hO, c_hr6 hh hO, c_hr7 hh hO, c_hr8 hh hO, c_hr9 hh hO, c_hs3 hh hO, c_hs5 hh hO, c_hs6 hh hO, c_hs7 hh hO, c_hs8 hh hO, c_hs9 hh hO, zI_add, zI_sub, zI_mul, zI_neg, zL_add, zL_sub, zL_mul, Option.bind_some, Option.toList_some, Option.toList_none, List.cons_append, List.nil_append, zI_lt, zI_le, zI_eq, zI_eq0, zI_lt0, zI_le0, zI_0lt, zI_0le, bZ_e0, Int.add_zero, Int.zero_add, k_01, k_counted hh]
  constructor
  · intro q
    have et : (twS (bgT t 0)).1 = (twG (rg t 0) (-1, 0)).1 := by rw [twS_u bgC_bg (by rw [e5]; exact h5.2), rg_bg]
    have n0 := tw_n (x := 0) hv
    have n1 := tw_n (x := -101) hv
    rw [et, if_neg (show ¬ ¬ (0 ≤ w ∧ w ≤ 1) from fun z => z q), aTw_g hv]
    simp (disch := first | omega | assumption) only [s_X7_two_14, s_X7_two_15, s_X7_two_18, s_X7_two_21, s_X7_two_22, s_X7_two_25, s_X7_two_28, s_X7_two_31, s_X7_two_32, s_X7_two_33, c_oo hh, c_og0 hh, c_og1 hh, c_og2 hh, c_og3 hh, c_og4 hh, c_og5 hh, c_og6 hh, c_og7 hh, c_og8 hh, c_og9 hh, c_ko hh, c_kg0 hh, c_kg1 hh, c_kg2 hh, c_kg3 hh, c_kg4 hh, c_kg5 hh, c_kg6 hh, c_wo hh, c_wg0 hh, c_wg1 hh, c_wg2 hh, c_wg3 hh, c_wg4 hh, c_wg5 hh, c_wg6 hh, c_wg7 hh, c_wg8 hh, c_po hh, c_pg0 hh, c_pg1 hh, c_pg2 hh, c_pg3 hh, c_pg4 hh, c_pg5 hh, c_pg6 hh, c_pg7 hh, c_q31 hh, c_q39 hh, c_op7 hh, c_op8 hh, c_op9 hh, c_kp0 hh, c_kp1 hh, c_kp5 hh, c_kp6 hh, c_wp1 hh, c_wp2 hh, c_wp3 hh, c_wp7 hh, c_wp8 hh, c_pp0 hh, c_pp1 hh, c_pp2 hh, c_pp6 hh, c_pp7 hh, c_r32 hh, c_r34 hh, c_r35 hh, c_r36 hh, c_r38 hh, c_r40 hh, c_r41 hh, c_r57 hh, c_r58 hh, c_s32 hh, c_s34 hh, c_s35 hh, c_s36 hh, c_s38 hh, c_s40 hh, c_s41 hh, c_s57 hh, c_s58 hh, c_ho hh hO, c_hg0 hh hO, c_hg1 hh hO, c_hg2 hh hO, c_hg3 hh hO, c_hg4 hh hO, c_hg5 hh hO, c_hg6 hh hO, c_hg7 hh hO, c_hg8 hh hO, c_hg9 hh hO, c_hg10 hh hO, c_hq hh hO, c_hbg0 hh hO, c_hbg1 hh hO, c_hbo hh hO, c_hno hh hO, c_hng0 hh hO, c_hng1 hh hO, c_hng2 hh hO, c_hng3 hh hO, c_hng4 hh hO, c_hdo hh hO, c_hdg0 hh hO, c_hdg1 hh hO, c_hdg2 hh hO, c_hdg3 hh hO, c_hdg4 hh hO, c_hdg5 hh hO, c_hp4 hh hO, c_hp5 hh hO, c_hp6 hh hO, c_hp7 hh hO, c_hp8 hh hO, c_hp9 hh hO, c_hp10 hh hO, c_hbp hh hO, c_hnp hh hO, c_hdp0 hh hO, c_hdp1 hh hO, c_hdp2 hh hO, c_hdp3 hh hO, c_hdp4 hh hO, c_hdp5 hh hO, c_hr3 hh hO, c_hr5 hh hO, c_hr6 hh hO, c_hr7 hh hO, c_hr8 hh hO, c_hr9 hh hO, c_hs3 hh hO, c_hs5 hh hO, c_hs6 hh hO, c_hs7 hh hO, c_hs8 hh hO, c_hs9 hh hO, zI_add, zI_sub, zI_mul, zI_neg, zL_add, zL_sub, zL_mul, Option.bind_some, Option.toList_some, Option.toList_none, List.cons_append, List.nil_append, zI_lt, zI_le, zI_eq, zI_eq0, zI_lt0, zI_le0, zI_0lt, zI_0le, bZ_e0, Int.add_zero, Int.zero_add, e6, e10, k_bitC (vI_z hv)]
    by_cases z : (twG (rg t 0) (-1, 0)).1 < 0
    · rw [if_pos z, if_pos (n1.mpr (n0.mp z)), if_neg (show ¬ 2 ≤ rg t 0 0 * rg t 0 1 - cntB (rg t 0 4) 25 0 0 by have := n0.mp z; omega)]
      simp (disch := first | omega | assumption) only [s_X7_two_36, s_X7_two_37, s_X7_two_39, s_X7_two_42, s_X7_two_45, c_oo hh, c_og0 hh, c_og1 hh, c_og2 hh, c_og3 hh, c_og4 hh, c_og5 hh, c_og6 hh, c_og7 hh, c_og8 hh, c_og9 hh, c_ko hh, c_kg0 hh, c_kg1 hh, c_kg2 hh, c_kg3 hh, c_kg4 hh, c_kg5 hh, c_kg6 hh, c_wo hh, c_wg0 hh, c_wg1 hh, c_wg2 hh, c_wg3 hh, c_wg4 hh, c_wg5 hh, c_wg6 hh, c_wg7 hh, c_wg8 hh, c_po hh, c_pg0 hh, c_pg1 hh, c_pg2 hh, c_pg3 hh, c_pg4 hh, c_pg5 hh, c_pg6 hh, c_pg7 hh, c_q31 hh, c_q39 hh, c_op7 hh, c_op8 hh, c_op9 hh, c_kp0 hh, c_kp1 hh, c_kp5 hh, c_kp6 hh, c_wp1 hh, c_wp2 hh, c_wp3 hh, c_wp7 hh, c_wp8 hh, c_pp0 hh, c_pp1 hh, c_pp2 hh, c_pp6 hh, c_pp7 hh, c_r32 hh, c_r34 hh, c_r35 hh, c_r36 hh, c_r38 hh, c_r40 hh, c_r41 hh, c_r57 hh, c_r58 hh, c_s32 hh, c_s34 hh, c_s35 hh, c_s36 hh, c_s38 hh, c_s40 hh, c_s41 hh, c_s57 hh, c_s58 hh, c_ho hh hO, c_hg0 hh hO, c_hg1 hh hO, c_hg2 hh hO, c_hg3 hh hO, c_hg4 hh hO, c_hg5 hh hO, c_hg6 hh hO, c_hg7 hh hO, c_hg8 hh hO, c_hg9 hh hO, c_hg10 hh hO, c_hq hh hO, c_hbg0 hh hO, c_hbg1 hh hO, c_hbo hh hO, c_hno hh hO, c_hng0 hh hO, c_hng1 hh hO, c_hng2 hh hO, c_hng3 hh hO, c_hng4 hh hO, c_hdo hh hO, c_hdg0 hh hO, c_hdg1 hh hO, c_hdg2 hh hO, c_hdg3 hh hO, c_hdg4 hh hO, c_hdg5 hh hO, c_hp4 hh hO, c_hp5 hh hO, c_hp6 hh hO, c_hp7 hh hO, c_hp8 hh hO, c_hp9 hh hO, c_hp10 hh hO, c_hbp hh hO, c_hnp hh hO, c_hdp0 hh hO, c_hdp1 hh hO, c_hdp2 hh hO, c_hdp3 hh hO, c_hdp4 hh hO, c_hdp5 hh hO, c_hr3 hh hO, c_hr5 hh hO, c_hr6 hh hO, c_hr7 hh hO, c_hr8 hh hO, c_hr9 hh hO, c_hs3 hh hO, c_hs5 hh hO, c_hs6 hh hO, c_hs7 hh hO, c_hs8 hh hO, c_hs9 hh hO, zI_add, zI_sub, zI_mul, zI_neg, zL_add, zL_sub, zL_mul, Option.bind_some, Option.toList_some, Option.toList_none, List.cons_append, List.nil_append, zI_lt, zI_le, zI_eq, zI_eq0, zI_lt0, zI_le0, zI_0lt, zI_0le, bZ_e0, Int.add_zero, Int.zero_add, k_counted hh, k_asTens]
      rfl
    · obtain ⟨F, f1, f2, f3, f4⟩ := k_two (d := d) hh hO hr hv (by decide)
      rw [if_neg z, if_neg (fun y => z (n0.mpr (n1.mp y)))]
      refine ⟨F, fun i j hi => f1 i j (by omega) (by omega) (by omega) (by omega) (by omega), ?_⟩
      rw [if_pos (show 2 ≤ rg t 0 0 * rg t 0 1 - cntB (rg t 0 4) 25 0 0 from Int.not_lt.mp fun y => z (n0.mpr y))]
      simp (disch := first | omega | assumption) only [s_X7_two_46, s_X7_two_47, s_X7_two_50, s_X7_two_51, s_X7_two_54, s_X7_two_57, s_X7_two_58, c_oo hh, c_og0 hh, c_og1 hh, c_og2 hh, c_og3 hh, c_og4 hh, c_og5 hh, c_og6 hh, c_og7 hh, c_og8 hh, c_og9 hh, c_ko hh, c_kg0 hh, c_kg1 hh, c_kg2 hh, c_kg3 hh, c_kg4 hh, c_kg5 hh, c_kg6 hh, c_wo hh, c_wg0 hh, c_wg1 hh, c_wg2 hh, c_wg3 hh, c_wg4 hh, c_wg5 hh, c_wg6 hh, c_wg7 hh, c_wg8 hh, c_po hh, c_pg0 hh, c_pg1 hh, c_pg2 hh, c_pg3 hh, c_pg4 hh, c_pg5 hh, c_pg6 hh, c_pg7 hh, c_q31 hh, c_q39 hh, c_op7 hh, c_op8 hh, c_op9 hh, c_kp0 hh, c_kp1 hh, c_kp5 hh, c_kp6 hh, c_wp1 hh, c_wp2 hh, c_wp3 hh, c_wp7 hh, c_wp8 hh, c_pp0 hh, c_pp1 hh, c_pp2 hh, c_pp6 hh, c_pp7 hh, c_r32 hh, c_r34 hh, c_r35 hh, c_r36 hh, c_r38 hh, c_r40 hh, c_r41 hh, c_r57 hh, c_r58 hh, c_s32 hh, c_s34 hh, c_s35 hh, c_s36 hh, c_s38 hh, c_s40 hh, c_s41 hh, c_s57 hh, c_s58 hh, c_ho hh hO, c_hg0 hh hO, c_hg1 hh hO, c_hg2 hh hO, c_hg3 hh hO, c_hg4 hh hO, c_hg5 hh hO, c_hg6 hh hO, c_hg7 hh hO, c_hg8 hh hO, c_hg9 hh hO, c_hg10 hh hO, c_hq hh hO, c_hbg0 hh hO, c_hbg1 hh hO, c_hbo hh hO, c_hno hh hO, c_hng0 hh hO, c_hng1 hh hO, c_hng2 hh hO, c_hng3 hh hO, c_hng4 hh hO, c_hdo hh hO, c_hdg0 hh hO, c_hdg1 hh hO, c_hdg2 hh hO, c_hdg3 hh hO, c_hdg4 hh hO, c_hdg5 hh hO, c_hp4 hh hO, c_hp5 hh hO, c_hp6 hh hO, c_hp7 hh hO, c_hp8 hh hO, c_hp9 hh hO, c_hp10 hh hO, c_hbp hh hO, c_hnp hh hO, c_hdp0 hh hO, c_hdp1 hh hO, c_hdp2 hh hO, c_hdp3 hh hO, c_hdp4 hh hO, c_hdp5 hh hO, c_hr3 hh hO, c_hr5 hh hO, c_hr6 hh hO, c_hr7 hh hO, c_hr8 hh hO, c_hr9 hh hO, c_hs3 hh hO, c_hs5 hh hO, c_hs6 hh hO, c_hs7 hh hO, c_hs8 hh hO, c_hs9 hh hO, zI_add, zI_sub, zI_mul, zI_neg, zL_add, zL_sub, zL_mul, Option.bind_some, Option.toList_some, Option.toList_none, List.cons_append, List.nil_append, zI_lt, zI_le, zI_eq, zI_eq0, zI_lt0, zI_le0, zI_0lt, zI_0le, bZ_e0, Int.add_zero, Int.zero_add, f4]
      by_cases y : w = 0
      · rw [if_pos y, if_pos y]
        simp (disch := first | omega | assumption) only [s_X7_two_61, s_X7_two_63, s_X7_two_64, s_X7_two_67, s_X7_two_70, s_X7_two_71, s_X7_two_72, s_X7_two_75, s_X7_two_78, s_X7_two_79, s_X7_two_82, s_X7_two_83, s_X7_two_86, s_X7_two_89, c_oo hh, c_og0 hh, c_og1 hh, c_og2 hh, c_og3 hh, c_og4 hh, c_og5 hh, c_og6 hh, c_og7 hh, c_og8 hh, c_og9 hh, c_ko hh, c_kg0 hh, c_kg1 hh, c_kg2 hh, c_kg3 hh, c_kg4 hh, c_kg5 hh, c_kg6 hh, c_wo hh, c_wg0 hh, c_wg1 hh, c_wg2 hh, c_wg3 hh, c_wg4 hh, c_wg5 hh, c_wg6 hh, c_wg7 hh, c_wg8 hh, c_po hh, c_pg0 hh, c_pg1 hh, c_pg2 hh, c_pg3 hh, c_pg4 hh, c_pg5 hh, c_pg6 hh, c_pg7 hh, c_q31 hh, c_q39 hh, c_op7 hh, c_op8 hh, c_op9 hh, c_kp0 hh, c_kp1 hh, c_kp5 hh, c_kp6 hh, c_wp1 hh, c_wp2 hh, c_wp3 hh, c_wp7 hh, c_wp8 hh, c_pp0 hh, c_pp1 hh, c_pp2 hh, c_pp6 hh, c_pp7 hh, c_r32 hh, c_r34 hh, c_r35 hh, c_r36 hh, c_r38 hh, c_r40 hh, c_r41 hh, c_r57 hh, c_r58 hh, c_s32 hh, c_s34 hh, c_s35 hh, c_s36 hh, c_s38 hh, c_s40 hh, c_s41 hh, c_s57 hh, c_s58 hh, c_ho hh hO, c_hg0 hh hO, c_hg1 hh hO, c_hg2 hh hO, c_hg3 hh hO, c_hg4 hh hO, c_hg5 hh hO, c_hg6 hh hO, c_hg7 hh hO, c_hg8 hh hO, c_hg9 hh hO, c_hg10 hh hO, c_hq hh hO, c_hbg0 hh hO, c_hbg1 hh hO, c_hbo hh hO, c_hno hh hO, c_hng0 hh hO, c_hng1 hh hO, c_hng2 hh hO, c_hng3 hh hO, c_hng4 hh hO, c_hdo hh hO, c_hdg0 hh hO, c_hdg1 hh hO, c_hdg2 hh hO, c_hdg3 hh hO, c_hdg4 hh hO, c_hdg5 hh hO, c_hp4 hh hO, c_hp5 hh hO, c_hp6 hh hO, c_hp7 hh hO, c_hp8 hh hO, c_hp9 hh hO, c_hp10 hh hO, c_hbp hh hO, c_hnp hh hO, c_hdp0 hh hO, c_hdp1 hh hO, c_hdp2 hh hO, c_hdp3 hh hO, c_hdp4 hh hO, c_hdp5 hh hO, c_hr3 hh hO, c_hr5 hh hO, c_hr6 hh hO, c_hr7 hh hO, c_hr8 hh hO, c_hr9 hh hO, c_hs3 hh hO, c_hs5 hh hO, c_hs6 hh hO, c_hs7 hh hO, c_hs8 hh hO, c_hs9 hh hO, zI_add, zI_sub, zI_mul, zI_neg, zL_add, zL_sub, zL_mul, Option.bind_some, Option.toList_some, Option.toList_none, List.cons_append, List.nil_append, zI_lt, zI_le, zI_eq, zI_eq0, zI_lt0, zI_le0, zI_0lt, zI_0le, bZ_e0, Int.add_zero, Int.zero_add, f3]
      · rw [if_neg y, if_neg y]
        simp (disch := first | omega | assumption) only [s_X7_two_82, s_X7_two_83, s_X7_two_86, s_X7_two_89, c_oo hh, c_og0 hh, c_og1 hh, c_og2 hh, c_og3 hh, c_og4 hh, c_og5 hh, c_og6 hh, c_og7 hh, c_og8 hh, c_og9 hh, c_ko hh, c_kg0 hh, c_kg1 hh, c_kg2 hh, c_kg3 hh, c_kg4 hh, c_kg5 hh, c_kg6 hh, c_wo hh, c_wg0 hh, c_wg1 hh, c_wg2 hh, c_wg3 hh, c_wg4 hh, c_wg5 hh, c_wg6 hh, c_wg7 hh, c_wg8 hh, c_po hh, c_pg0 hh, c_pg1 hh, c_pg2 hh, c_pg3 hh, c_pg4 hh, c_pg5 hh, c_pg6 hh, c_pg7 hh, c_q31 hh, c_q39 hh, c_op7 hh, c_op8 hh, c_op9 hh, c_kp0 hh, c_kp1 hh, c_kp5 hh, c_kp6 hh, c_wp1 hh, c_wp2 hh, c_wp3 hh, c_wp7 hh, c_wp8 hh, c_pp0 hh, c_pp1 hh, c_pp2 hh, c_pp6 hh, c_pp7 hh, c_r32 hh, c_r34 hh, c_r35 hh, c_r36 hh, c_r38 hh, c_r40 hh, c_r41 hh, c_r57 hh, c_r58 hh, c_s32 hh, c_s34 hh, c_s35 hh, c_s36 hh, c_s38 hh, c_s40 hh, c_s41 hh, c_s57 hh, c_s58 hh, c_ho hh hO, c_hg0 hh hO, c_hg1 hh hO, c_hg2 hh hO, c_hg3 hh hO, c_hg4 hh hO, c_hg5 hh hO, c_hg6 hh hO, c_hg7 hh hO, c_hg8 hh hO, c_hg9 hh hO, c_hg10 hh hO, c_hq hh hO, c_hbg0 hh hO, c_hbg1 hh hO, c_hbo hh hO, c_hno hh hO, c_hng0 hh hO, c_hng1 hh hO, c_hng2 hh hO, c_hng3 hh hO, c_hng4 hh hO, c_hdo hh hO, c_hdg0 hh hO, c_hdg1 hh hO, c_hdg2 hh hO, c_hdg3 hh hO, c_hdg4 hh hO, c_hdg5 hh hO, c_hp4 hh hO, c_hp5 hh hO, c_hp6 hh hO, c_hp7 hh hO, c_hp8 hh hO, c_hp9 hh hO, c_hp10 hh hO, c_hbp hh hO, c_hnp hh hO, c_hdp0 hh hO, c_hdp1 hh hO, c_hdp2 hh hO, c_hdp3 hh hO, c_hdp4 hh hO, c_hdp5 hh hO, c_hr3 hh hO, c_hr5 hh hO, c_hr6 hh hO, c_hr7 hh hO, c_hr8 hh hO, c_hr9 hh hO, c_hs3 hh hO, c_hs5 hh hO, c_hs6 hh hO, c_hs7 hh hO, c_hs8 hh hO, c_hs9 hh hO, zI_add, zI_sub, zI_mul, zI_neg, zL_add, zL_sub, zL_mul, Option.bind_some, Option.toList_some, Option.toList_none, List.cons_append, List.nil_append, zI_lt, zI_le, zI_eq, zI_eq0, zI_lt0, zI_le0, zI_0lt, zI_0le, bZ_e0, Int.add_zero, Int.zero_add, f2]
  · intro q
    rw [if_pos q]
end

/-! WAYS: the component's small methods -/
section
variable {h : xH} {e : Nat} {t T : Nat → Nat → Int}
/-- books of a level: what is left, who was lit -/
def nR (T t : Nat → Nat → Int) (k : Nat) (lf lt : Int → Int) : Prop := ∀ p : Nat, (p : Int) < t 1 5 → T (43 + 2 * k) p = lf p ∧ bZ (hasB (T (42 + 2 * k) 1) p = true) = lt p
def ltW (T : Nat → Nat → Int) (g : Nat → Int) : Prop := ∀ r : Nat, (r : Int) < g 0 * g 1 → hasB (g 4) r = false → ∀ p : Nat, (p : Int) < g 5 → T 40 (5 * r + p) = lgt (g 0) (g 4) (g (6 + p)) r
theorem g_1 {j : Nat} {x : Int} (hj : x = j) (hj2 : j < 200) : t 1 x.toNat = rg t 0 j := by
  rw [rg_0 hj2, hj, Int.toNat_natCast]
theorem k_ptc {n k i : Nat} {lf lt : Int → Int} (hh : 91 ≤ h.1) (hr : hR T 1 (rg t 0)) (hv : vI (rg t 0)) (hm : T 37 7 = ((k + n : Nat) : Int)) (hk : k + n ≤ 6) (hi : (i : Int) < t 1 5) (hn : nR T t k lf lt) (hb : bkOk t lf lt) : x_cl (e + 1) n_X6_pagesToCome [.ref 37, .ref 1, .int (zI k), .int (zI i)] (cH h T) = some (some (.int (zI (min ((n : Int) * cap t i) (lf i)))), cH h T) := by
  have hO := isH_1
  have h5 := hv.2.2.2.2.2.2.1
  rw [rg_0 (by decide)] at h5
  have hB := isB_w (i := k) (by omega)
  have ek := (hr.2.2.2.2.2.2.2.1 i (by omega) (by rw [rg_0 (by decide)]; exact hi)).2.1
  have gk := (hv.2.2.2.2.2.2.2.1 i (by omega) (by rw [rg_0 (by decide)]; exact hi)).2.1
  have ec : cap t i = pgL (rg t 0 (11 + i)) 12 := by unfold cap; rw [g_1 (t := t) (j := 11 + i) (x := 11 + (i : Int)) (by omega) (by omega)]
  have el : T (42 + 2 * k + 1) i = lf i := by rw [show 42 + 2 * k + 1 = 43 + 2 * k by omega]; exact (hn i hi).1
  have hl := (hb i (by omega) hi).1
  have hc := cap_rg (t := t) (p := i)
  have hN : 0 ≤ (n : Int) * cap t i ∧ (n : Int) * cap t i ≤ 144 := ⟨Int.mul_nonneg (by omega) hc.1, Int.le_trans (Int.mul_le_mul (show (n : Int) ≤ 6 by omega) hc.2 hc.1 (by omega)) (by omega)⟩
  have em : ((k + n : Nat) : Int) - (k : Int) = n := by omega
  simp (disch := first | omega | assumption) only [e_X6_pagesToCome, s_X6_pagesToCome_0, s_X6_pagesToCome_1, s_X6_pagesToCome_4, s_X6_pagesToCome_5, s_X6_pagesToCome_6, s_X6_pagesToCome_7, s_X6_pagesToCome_10, s_X6_pagesToCome_11, s_X6_pagesToCome_12, s_X6_pagesToCome_15, s_X6_pagesToCome_17, s_X6_pagesToCome_20, s_X6_pagesToCome_21, c_oo hh, c_og0 hh, c_og1 hh, c_og2 hh, c_og3 hh, c_og4 hh, c_og5 hh, c_og6 hh, c_og7 hh, c_og8 hh, c_og9 hh, c_ko hh, c_kg0 hh, c_kg1 hh, c_kg2 hh, c_kg3 hh, c_kg4 hh, c_kg5 hh, c_kg6 hh, c_wo hh, c_wg0 hh, c_wg1 hh, c_wg2 hh, c_wg3 hh, c_wg4 hh, c_wg5 hh, c_wg6 hh, c_wg7 hh, c_wg8 hh, c_po hh, c_pg0 hh, c_pg1 hh, c_pg2 hh, c_pg3 hh, c_pg4 hh, c_pg5 hh, c_pg6 hh, c_pg7 hh, c_q31 hh, c_q39 hh, c_op7 hh, c_op8 hh, c_op9 hh, c_kp0 hh, c_kp1 hh, c_kp5 hh, c_kp6 hh, c_wp1 hh, c_wp2 hh, c_wp3 hh, c_wp7 hh, c_wp8 hh, c_pp0 hh, c_pp1 hh, c_pp2 hh, c_pp6 hh, c_pp7 hh, c_r32 hh, c_r34 hh, c_r35 hh, c_r36 hh, c_r38 hh, c_r40 hh, c_r41 hh, c_r57 hh, c_r58 hh, c_s32 hh, c_s34 hh, c_s35 hh, c_s36 hh, c_s38 hh, c_s40 hh, c_s41 hh, c_s57 hh, c_s58 hh, c_ho hh hO, c_hg0 hh hO, c_hg1 hh hO, c_hg2 hh hO, c_hg3 hh hO, c_hg4 hh hO, c_hg5 hh hO, c_hg6 hh hO, c_hg7 hh hO, c_hg8 hh hO, c_hg9 hh hO, c_hg10 hh hO, c_hq hh hO, c_hbg0 hh hO, c_hbg1 hh hO, c_hbo hh hO, c_hno hh hO, c_hng0 hh hO, c_hng1 hh hO, c_hng2 hh hO, c_hng3 hh hO, c_hng4 hh hO, c_hdo hh hO, c_hdg0 hh hO, c_hdg1 hh hO, c_hdg2 hh hO, c_hdg3 hh hO, c_hdg4 hh hO, c_hdg5 hh hO, c_hp4 hh hO, c_hp5 hh hO, c_hp6 hh hO, c_hp7 hh hO, c_hp8 hh hO, c_hp9 hh hO, c_hp10 hh hO, c_hbp hh hO, c_hnp hh hO, c_hdp0 hh hO, c_hdp1 hh hO, c_hdp2 hh hO, c_hdp3 hh hO, c_hdp4 hh hO, c_hdp5 hh hO, c_hr3 hh hO, c_hr5 hh hO, c_hr6 hh hO, c_hr7 hh hO, c_hr8 hh hO, c_hr9 hh hO, c_hs3 hh hO, c_hs5 hh hO, c_hs6 hh hO, c_hs7 hh hO, c_hs8 hh hO, c_hs9 hh hO, zI_add, zI_sub, zI_mul, zI_neg, zL_add, zL_sub, zL_mul, Option.bind_some, Option.toList_some, Option.toList_none, List.cons_append, List.nil_append, zI_lt, zI_le, zI_eq, zI_eq0, zI_lt0, zI_le0, zI_0lt, zI_0le, bZ_e0, Int.add_zero, Int.zero_add, Int.toNat_natCast, hm, em, ek, k_pages gk (show (0 : Int) ≤ 12 ∧ (12 : Int) ≤ 24 by decide), ← ec]
  simp (disch := first | omega | assumption) only [s_X6_pagesToCome_23, s_X6_pagesToCome_25, s_X6_pagesToCome_26, s_X6_pagesToCome_29, s_X6_pagesToCome_30, s_X6_pagesToCome_31, s_X6_pagesToCome_34, s_X6_pagesToCome_35, s_X6_pagesToCome_36, c_oo hh, c_og0 hh, c_og1 hh, c_og2 hh, c_og3 hh, c_og4 hh, c_og5 hh, c_og6 hh, c_og7 hh, c_og8 hh, c_og9 hh, c_ko hh, c_kg0 hh, c_kg1 hh, c_kg2 hh, c_kg3 hh, c_kg4 hh, c_kg5 hh, c_kg6 hh, c_wo hh, c_wg0 hh, c_wg1 hh, c_wg2 hh, c_wg3 hh, c_wg4 hh, c_wg5 hh, c_wg6 hh, c_wg7 hh, c_wg8 hh, c_po hh, c_pg0 hh, c_pg1 hh, c_pg2 hh, c_pg3 hh, c_pg4 hh, c_pg5 hh, c_pg6 hh, c_pg7 hh, c_q31 hh, c_q39 hh, c_op7 hh, c_op8 hh, c_op9 hh, c_kp0 hh, c_kp1 hh, c_kp5 hh, c_kp6 hh, c_wp1 hh, c_wp2 hh, c_wp3 hh, c_wp7 hh, c_wp8 hh, c_pp0 hh, c_pp1 hh, c_pp2 hh, c_pp6 hh, c_pp7 hh, c_r32 hh, c_r34 hh, c_r35 hh, c_r36 hh, c_r38 hh, c_r40 hh, c_r41 hh, c_r57 hh, c_r58 hh, c_s32 hh, c_s34 hh, c_s35 hh, c_s36 hh, c_s38 hh, c_s40 hh, c_s41 hh, c_s57 hh, c_s58 hh, c_ho hh hO, c_hg0 hh hO, c_hg1 hh hO, c_hg2 hh hO, c_hg3 hh hO, c_hg4 hh hO, c_hg5 hh hO, c_hg6 hh hO, c_hg7 hh hO, c_hg8 hh hO, c_hg9 hh hO, c_hg10 hh hO, c_hq hh hO, c_hbg0 hh hO, c_hbg1 hh hO, c_hbo hh hO, c_hno hh hO, c_hng0 hh hO, c_hng1 hh hO, c_hng2 hh hO, c_hng3 hh hO, c_hng4 hh hO, c_hdo hh hO, c_hdg0 hh hO, c_hdg1 hh hO, c_hdg2 hh hO, c_hdg3 hh hO, c_hdg4 hh hO, c_hdg5 hh hO, c_hp4 hh hO, c_hp5 hh hO, c_hp6 hh hO, c_hp7 hh hO, c_hp8 hh hO, c_hp9 hh hO, c_hp10 hh hO, c_hbp hh hO, c_hnp hh hO, c_hdp0 hh hO, c_hdp1 hh hO, c_hdp2 hh hO, c_hdp3 hh hO, c_hdp4 hh hO, c_hdp5 hh hO, c_hr3 hh hO, c_hr5 hh hO, c_hr6 hh hO, c_hr7 hh hO, c_hr8 hh hO, c_hr9 hh hO, c_hs3 hh hO, c_hs5 hh hO, c_hs6 hh hO, c_hs7 hh hO, c_hs8 hh hO, c_hs9 hh hO, zI_add, zI_sub, zI_mul, zI_neg, zL_add, zL_sub, zL_mul, Option.bind_some, Option.toList_some, Option.toList_none, List.cons_append, List.nil_append, zI_lt, zI_le, zI_eq, zI_eq0, zI_lt0, zI_le0, zI_0lt, zI_0le, bZ_e0, Int.add_zero, Int.zero_add, Int.toNat_natCast, c_bg0 hh hB, c_br hh hB, el, zI_min]
  simp (disch := first | omega | assumption) only [s_X6_pagesToCome_39]
def mbF (t : Nat → Nat → Int) (who : Int) (n : Nat) (lf : Int → Int) (most : Int) : Nat → Int → Int → Bool
  | 0, _, acc => decide (most < acc)
  | c + 1, i, acc => if hasB who i = true ∧ min ((n : Int) * cap t i) (lf i) < lf i then false else mbF t who n lf most c (i + 1) (acc + min ((n : Int) * cap t i) (lf i) * t 1 (21 + i).toNat)
theorem mb_spec {who most sum : Int} {n : Nat} {lf : Int → Int} : ∀ (c i : Nat), mbF t who n lf most c i (sum + sumF (fun p => min ((n : Int) * cap t p) (lf p) * t 1 (21 + p).toNat) i) = true ↔ (∀ p : Nat, i ≤ p → p < i + c → ¬ (hasB who p = true ∧ min ((n : Int) * cap t p) (lf p) < lf p)) ∧ most < sum + sumF (fun p => min ((n : Int) * cap t p) (lf p) * t 1 (21 + p).toNat) (i + c) := by
  intro c
  induction c with
  | zero =>
    intro i
    rw [mbF]
    exact ⟨fun y => ⟨fun p h1 h2 => by omega, of_decide_eq_true y⟩, fun y => decide_eq_true y.2⟩
  | succ c ih =>
    intro i
    rw [mbF]
    by_cases z : hasB who i = true ∧ min ((n : Int) * cap t i) (lf i) < lf i
    · rw [if_pos z]
      exact ⟨fun y => absurd y (by decide), fun y => absurd z (y.1 i (by omega) (by omega))⟩
    · have e2 := ih (i + 1)
      rw [sumF] at e2
      rw [if_neg z, show (i : Int) + 1 = ((i + 1 : Nat) : Int) by omega, Int.add_assoc, e2, show i + (c + 1) = i + 1 + c by omega]
      refine ⟨fun y => ⟨fun p h1 h2 => ?_, y.2⟩, fun y => ⟨fun p h1 h2 => y.1 p (by omega) h2, y.2⟩⟩
      by_cases w : p = i
      · rw [w]; exact z
      · exact y.1 p (by omega) h2
theorem l_mbK {n k : Nat} {who most sum : Int} {lf lt : Int → Int} (hh : 91 ≤ h.1) (hr : hR T 1 (rg t 0)) (hv : vI (rg t 0)) (hm : T 37 7 = ((k + n : Nat) : Int)) (hk : k + n ≤ 6) (hn : nR T t k lf lt) (hb : bkOk t lf lt) (hw : T 37 8 = who) (ho : T 37 1 = most) (hor : -1 ≤ most ∧ most ≤ 100000) : ∀ (c i : Nat) (acc : Int) (l6 : Value), (i : Int) + c = t 1 5 → 0 ≤ acc → acc ≤ 50000 + 200 * i →
    x_ev (e + 2, n_X6_mayBeBest, 6, [.ref 37, .ref 1, .int (zI k), .int (zI sum), .int (zI acc), .int (zI i), l6], [], cH h T) = some (some (.int (zI (bZ (mbF t who n lf most c i acc = true)))), cH h T) := by
  have hO := isH_1
  have h5 := hv.2.2.2.2.2.2.1
  rw [rg_0 (by decide)] at h5
  have e9 : T 1 9 = t 1 5 := hr.2.2.2.2.2.1.trans (rg_0 (by decide))
  have hB := isB_w (i := k) (by omega)
  intro c
  induction c with
  | zero =>
    intro i acc l6 hi h0 h1
    rw [s_X6_mayBeBest_6]
    simp (disch := first | omega | assumption) only [s_X6_mayBeBest_8, s_X6_mayBeBest_9, s_X6_mayBeBest_12, c_oo hh, c_og0 hh, c_og1 hh, c_og2 hh, c_og3 hh, c_og4 hh, c_og5 hh, c_og6 hh, c_og7 hh, c_og8 hh, c_og9 hh, c_ko hh, c_kg0 hh, c_kg1 hh, c_kg2 hh, c_kg3 hh, c_kg4 hh, c_kg5 hh, c_kg6 hh, c_wo hh, c_wg0 hh, c_wg1 hh, c_wg2 hh, c_wg3 hh, c_wg4 hh, c_wg5 hh, c_wg6 hh, c_wg7 hh, c_wg8 hh, c_po hh, c_pg0 hh, c_pg1 hh, c_pg2 hh, c_pg3 hh, c_pg4 hh, c_pg5 hh, c_pg6 hh, c_pg7 hh, c_q31 hh, c_q39 hh, c_op7 hh, c_op8 hh, c_op9 hh, c_kp0 hh, c_kp1 hh, c_kp5 hh, c_kp6 hh, c_wp1 hh, c_wp2 hh, c_wp3 hh, c_wp7 hh, c_wp8 hh, c_pp0 hh, c_pp1 hh, c_pp2 hh, c_pp6 hh, c_pp7 hh, c_r32 hh, c_r34 hh, c_r35 hh, c_r36 hh, c_r38 hh, c_r40 hh, c_r41 hh, c_r57 hh, c_r58 hh, c_s32 hh, c_s34 hh, c_s35 hh, c_s36 hh, c_s38 hh, c_s40 hh, c_s41 hh, c_s57 hh, c_s58 hh, c_ho hh hO, c_hg0 hh hO, c_hg1 hh hO, c_hg2 hh hO, c_hg3 hh hO, c_hg4 hh hO, c_hg5 hh hO, c_hg6 hh hO, c_hg7 hh hO, c_hg8 hh hO, c_hg9 hh hO, c_hg10 hh hO, c_hq hh hO, c_hbg0 hh hO, c_hbg1 hh hO, c_hbo hh hO, c_hno hh hO, c_hng0 hh hO, c_hng1 hh hO, c_hng2 hh hO, c_hng3 hh hO, c_hng4 hh hO, c_hdo hh hO, c_hdg0 hh hO, c_hdg1 hh hO, c_hdg2 hh hO, c_hdg3 hh hO, c_hdg4 hh hO, c_hdg5 hh hO, c_hp4 hh hO, c_hp5 hh hO, c_hp6 hh hO, c_hp7 hh hO, c_hp8 hh hO, c_hp9 hh hO, c_hp10 hh hO, c_hbp hh hO, c_hnp hh hO, c_hdp0 hh hO, c_hdp1 hh hO, c_hdp2 hh hO, c_hdp3 hh hO, c_hdp4 hh hO, c_hdp5 hh hO, c_hr3 hh hO, c_hr5 hh hO, c_hr6 hh hO, c_hr7 hh hO, c_hr8 hh hO, c_hr9 hh hO, c_hs3 hh hO, c_hs5 hh hO, c_hs6 hh hO, c_hs7 hh hO, c_hs8 hh hO, c_hs9 hh hO, zI_add, zI_sub, zI_mul, zI_neg, zL_add, zL_sub, zL_mul, Option.bind_some, Option.toList_some, Option.toList_none, List.cons_append, List.nil_append, zI_lt, zI_le, zI_eq, zI_eq0, zI_lt0, zI_le0, zI_0lt, zI_0le, bZ_e0, Int.add_zero, Int.zero_add, e9]
    rw [if_pos (by omega), mbF]
    simp (disch := first | omega | assumption) only [s_X6_mayBeBest_81, s_X6_mayBeBest_83, s_X6_mayBeBest_84, s_X6_mayBeBest_87, s_X6_mayBeBest_90, s_X6_mayBeBest_91, s_X6_mayBeBest_94, s_X6_mayBeBest_95_0, s_X6_mayBeBest_95_1, s_X6_mayBeBest_95_b, c_oo hh, c_og0 hh, c_og1 hh, c_og2 hh, c_og3 hh, c_og4 hh, c_og5 hh, c_og6 hh, c_og7 hh, c_og8 hh, c_og9 hh, c_ko hh, c_kg0 hh, c_kg1 hh, c_kg2 hh, c_kg3 hh, c_kg4 hh, c_kg5 hh, c_kg6 hh, c_wo hh, c_wg0 hh, c_wg1 hh, c_wg2 hh, c_wg3 hh, c_wg4 hh, c_wg5 hh, c_wg6 hh, c_wg7 hh, c_wg8 hh, c_po hh, c_pg0 hh, c_pg1 hh, c_pg2 hh, c_pg3 hh, c_pg4 hh, c_pg5 hh, c_pg6 hh, c_pg7 hh, c_q31 hh, c_q39 hh, c_op7 hh, c_op8 hh, c_op9 hh, c_kp0 hh, c_kp1 hh, c_kp5 hh, c_kp6 hh, c_wp1 hh, c_wp2 hh, c_wp3 hh, c_wp7 hh, c_wp8 hh, c_pp0 hh, c_pp1 hh, c_pp2 hh, c_pp6 hh, c_pp7 hh, c_r32 hh, c_r34 hh, c_r35 hh, c_r36 hh, c_r38 hh, c_r40 hh, c_r41 hh, c_r57 hh, c_r58 hh, c_s32 hh, c_s34 hh, c_s35 hh, c_s36 hh, c_s38 hh, c_s40 hh, c_s41 hh, c_s57 hh, c_s58 hh, c_ho hh hO, c_hg0 hh hO, c_hg1 hh hO, c_hg2 hh hO, c_hg3 hh hO, c_hg4 hh hO, c_hg5 hh hO, c_hg6 hh hO, c_hg7 hh hO, c_hg8 hh hO, c_hg9 hh hO, c_hg10 hh hO, c_hq hh hO, c_hbg0 hh hO, c_hbg1 hh hO, c_hbo hh hO, c_hno hh hO, c_hng0 hh hO, c_hng1 hh hO, c_hng2 hh hO, c_hng3 hh hO, c_hng4 hh hO, c_hdo hh hO, c_hdg0 hh hO, c_hdg1 hh hO, c_hdg2 hh hO, c_hdg3 hh hO, c_hdg4 hh hO, c_hdg5 hh hO, c_hp4 hh hO, c_hp5 hh hO, c_hp6 hh hO, c_hp7 hh hO, c_hp8 hh hO, c_hp9 hh hO, c_hp10 hh hO, c_hbp hh hO, c_hnp hh hO, c_hdp0 hh hO, c_hdp1 hh hO, c_hdp2 hh hO, c_hdp3 hh hO, c_hdp4 hh hO, c_hdp5 hh hO, c_hr3 hh hO, c_hr5 hh hO, c_hr6 hh hO, c_hr7 hh hO, c_hr8 hh hO, c_hr9 hh hO, c_hs3 hh hO, c_hs5 hh hO, c_hs6 hh hO, c_hs7 hh hO, c_hs8 hh hO, c_hs9 hh hO, zI_add, zI_sub, zI_mul, zI_neg, zL_add, zL_sub, zL_mul, Option.bind_some, Option.toList_some, Option.toList_none, List.cons_append, List.nil_append, zI_lt, zI_le, zI_eq, zI_eq0, zI_lt0, zI_le0, zI_0lt, zI_0le, bZ_e0, Int.add_zero, Int.zero_add, ho]
    by_cases z : most < acc
    · rw [if_neg (by omega), bZ_t (decide_eq_true z)]
    · rw [if_pos (by omega), bZ_f (fun y => z (of_decide_eq_true y))]
  | succ c ih =>
    intro i acc l6 hi h0 h1
    have el : T (42 + 2 * k + 1) i = lf i := by rw [show 42 + 2 * k + 1 = 43 + 2 * k by omega]; exact (hn i (by omega)).1
    have hl := (hb i (by omega) (by omega)).1
    have ew := (hr.2.2.2.2.2.2.2.1 i (by omega) (by rw [rg_0 (by decide)]; omega)).2.2.2.1
    have gw := (hv.2.2.2.2.2.2.2.1 i (by omega) (by rw [rg_0 (by decide)]; omega)).2.2.2.1
    have ec : t 1 (21 + (i : Int)).toNat = rg t 0 (21 + i) := g_1 (j := 21 + i) (by omega) (by omega)
    have hc := cap_rg (t := t) (p := i)
    have hN : 0 ≤ (n : Int) * cap t i ∧ (n : Int) * cap t i ≤ 144 := ⟨Int.mul_nonneg (by omega) hc.1, Int.le_trans (Int.mul_le_mul (show (n : Int) ≤ 6 by omega) hc.2 hc.1 (by omega)) (by omega)⟩
    have kp := k_ptc (e := e) (h := h) (T := T) (i := i) hh hr hv hm hk (by omega) hn hb
    rw [s_X6_mayBeBest_6]
    simp (disch := first | omega | assumption) only [s_X6_mayBeBest_8, s_X6_mayBeBest_9, s_X6_mayBeBest_12, c_oo hh, c_og0 hh, c_og1 hh, c_og2 hh, c_og3 hh, c_og4 hh, c_og5 hh, c_og6 hh, c_og7 hh, c_og8 hh, c_og9 hh, c_ko hh, c_kg0 hh, c_kg1 hh, c_kg2 hh, c_kg3 hh, c_kg4 hh, c_kg5 hh, c_kg6 hh, c_wo hh, c_wg0 hh, c_wg1 hh, c_wg2 hh, c_wg3 hh, c_wg4 hh, c_wg5 hh, c_wg6 hh, c_wg7 hh, c_wg8 hh, c_po hh, c_pg0 hh, c_pg1 hh, c_pg2 hh, c_pg3 hh, c_pg4 hh, c_pg5 hh, c_pg6 hh, c_pg7 hh, c_q31 hh, c_q39 hh, c_op7 hh, c_op8 hh, c_op9 hh, c_kp0 hh, c_kp1 hh, c_kp5 hh, c_kp6 hh, c_wp1 hh, c_wp2 hh, c_wp3 hh, c_wp7 hh, c_wp8 hh, c_pp0 hh, c_pp1 hh, c_pp2 hh, c_pp6 hh, c_pp7 hh, c_r32 hh, c_r34 hh, c_r35 hh, c_r36 hh, c_r38 hh, c_r40 hh, c_r41 hh, c_r57 hh, c_r58 hh, c_s32 hh, c_s34 hh, c_s35 hh, c_s36 hh, c_s38 hh, c_s40 hh, c_s41 hh, c_s57 hh, c_s58 hh, c_ho hh hO, c_hg0 hh hO, c_hg1 hh hO, c_hg2 hh hO, c_hg3 hh hO, c_hg4 hh hO, c_hg5 hh hO, c_hg6 hh hO, c_hg7 hh hO, c_hg8 hh hO, c_hg9 hh hO, c_hg10 hh hO, c_hq hh hO, c_hbg0 hh hO, c_hbg1 hh hO, c_hbo hh hO, c_hno hh hO, c_hng0 hh hO, c_hng1 hh hO, c_hng2 hh hO, c_hng3 hh hO, c_hng4 hh hO, c_hdo hh hO, c_hdg0 hh hO, c_hdg1 hh hO, c_hdg2 hh hO, c_hdg3 hh hO, c_hdg4 hh hO, c_hdg5 hh hO, c_hp4 hh hO, c_hp5 hh hO, c_hp6 hh hO, c_hp7 hh hO, c_hp8 hh hO, c_hp9 hh hO, c_hp10 hh hO, c_hbp hh hO, c_hnp hh hO, c_hdp0 hh hO, c_hdp1 hh hO, c_hdp2 hh hO, c_hdp3 hh hO, c_hdp4 hh hO, c_hdp5 hh hO, c_hr3 hh hO, c_hr5 hh hO, c_hr6 hh hO, c_hr7 hh hO, c_hr8 hh hO, c_hr9 hh hO, c_hs3 hh hO, c_hs5 hh hO, c_hs6 hh hO, c_hs7 hh hO, c_hs8 hh hO, c_hs9 hh hO, zI_add, zI_sub, zI_mul, zI_neg, zL_add, zL_sub, zL_mul, Option.bind_some, Option.toList_some, Option.toList_none, List.cons_append, List.nil_append, zI_lt, zI_le, zI_eq, zI_eq0, zI_lt0, zI_le0, zI_0lt, zI_0le, bZ_e0, Int.add_zero, Int.zero_add, e9]
    rw [if_neg (by omega), mbF, ec]
    generalize (n : Int) * cap t i = N at *
    have hM : 0 ≤ min N (lf i) ∧ min N (lf i) ≤ 20 := by omega
    have hP : 0 ≤ min N (lf i) * rg t 0 (21 + i) ∧ min N (lf i) * rg t 0 (21 + i) ≤ 180 := ⟨Int.mul_nonneg hM.1 gw.1, Int.le_trans (Int.mul_le_mul hM.2 gw.2 gw.1 (by omega)) (by omega)⟩
    simp (disch := first | omega | assumption) only [s_X6_mayBeBest_15, s_X6_mayBeBest_16, s_X6_mayBeBest_17, s_X6_mayBeBest_18, s_X6_mayBeBest_20, s_X6_mayBeBest_23, s_X6_mayBeBest_25, s_X6_mayBeBest_26, s_X6_mayBeBest_29, s_X6_mayBeBest_31, s_X6_mayBeBest_32, s_X6_mayBeBest_33, s_X6_mayBeBest_34, s_X6_mayBeBest_35, c_oo hh, c_og0 hh, c_og1 hh, c_og2 hh, c_og3 hh, c_og4 hh, c_og5 hh, c_og6 hh, c_og7 hh, c_og8 hh, c_og9 hh, c_ko hh, c_kg0 hh, c_kg1 hh, c_kg2 hh, c_kg3 hh, c_kg4 hh, c_kg5 hh, c_kg6 hh, c_wo hh, c_wg0 hh, c_wg1 hh, c_wg2 hh, c_wg3 hh, c_wg4 hh, c_wg5 hh, c_wg6 hh, c_wg7 hh, c_wg8 hh, c_po hh, c_pg0 hh, c_pg1 hh, c_pg2 hh, c_pg3 hh, c_pg4 hh, c_pg5 hh, c_pg6 hh, c_pg7 hh, c_q31 hh, c_q39 hh, c_op7 hh, c_op8 hh, c_op9 hh, c_kp0 hh, c_kp1 hh, c_kp5 hh, c_kp6 hh, c_wp1 hh, c_wp2 hh, c_wp3 hh, c_wp7 hh, c_wp8 hh, c_pp0 hh, c_pp1 hh, c_pp2 hh, c_pp6 hh, c_pp7 hh, c_r32 hh, c_r34 hh, c_r35 hh, c_r36 hh, c_r38 hh, c_r40 hh, c_r41 hh, c_r57 hh, c_r58 hh, c_s32 hh, c_s34 hh, c_s35 hh, c_s36 hh, c_s38 hh, c_s40 hh, c_s41 hh, c_s57 hh, c_s58 hh, c_ho hh hO, c_hg0 hh hO, c_hg1 hh hO, c_hg2 hh hO, c_hg3 hh hO, c_hg4 hh hO, c_hg5 hh hO, c_hg6 hh hO, c_hg7 hh hO, c_hg8 hh hO, c_hg9 hh hO, c_hg10 hh hO, c_hq hh hO, c_hbg0 hh hO, c_hbg1 hh hO, c_hbo hh hO, c_hno hh hO, c_hng0 hh hO, c_hng1 hh hO, c_hng2 hh hO, c_hng3 hh hO, c_hng4 hh hO, c_hdo hh hO, c_hdg0 hh hO, c_hdg1 hh hO, c_hdg2 hh hO, c_hdg3 hh hO, c_hdg4 hh hO, c_hdg5 hh hO, c_hp4 hh hO, c_hp5 hh hO, c_hp6 hh hO, c_hp7 hh hO, c_hp8 hh hO, c_hp9 hh hO, c_hp10 hh hO, c_hbp hh hO, c_hnp hh hO, c_hdp0 hh hO, c_hdp1 hh hO, c_hdp2 hh hO, c_hdp3 hh hO, c_hdp4 hh hO, c_hdp5 hh hO, c_hr3 hh hO, c_hr5 hh hO, c_hr6 hh hO, c_hr7 hh hO, c_hr8 hh hO, c_hr9 hh hO, c_hs3 hh hO, c_hs5 hh hO, c_hs6 hh hO, c_hs7 hh hO, c_hs8 hh hO, c_hs9 hh hO, zI_add, zI_sub, zI_mul, zI_neg, zL_add, zL_sub, zL_mul, Option.bind_some, Option.toList_some, Option.toList_none, List.cons_append, List.nil_append, zI_lt, zI_le, zI_eq, zI_eq0, zI_lt0, zI_le0, zI_0lt, zI_0le, bZ_e0, Int.add_zero, Int.zero_add, kp, hw]
    have tail : x_ev (e + 2, n_X6_mayBeBest, 57, [.ref 37, .ref 1, .int (zI k), .int (zI sum), .int (zI acc), .int (zI i), .int (zI (min N (lf i)))], [], cH h T) = some (some (.int (zI (bZ (mbF t who n lf most c (i + 1) (acc + min N (lf i) * rg t 0 (21 + i)) = true)))), cH h T) := by
      simp (disch := first | omega | assumption) only [s_X6_mayBeBest_57, s_X6_mayBeBest_59, s_X6_mayBeBest_61, s_X6_mayBeBest_62, s_X6_mayBeBest_65, s_X6_mayBeBest_67, s_X6_mayBeBest_68, s_X6_mayBeBest_71, s_X6_mayBeBest_72, s_X6_mayBeBest_73, s_X6_mayBeBest_75, s_X6_mayBeBest_78, c_oo hh, c_og0 hh, c_og1 hh, c_og2 hh, c_og3 hh, c_og4 hh, c_og5 hh, c_og6 hh, c_og7 hh, c_og8 hh, c_og9 hh, c_ko hh, c_kg0 hh, c_kg1 hh, c_kg2 hh, c_kg3 hh, c_kg4 hh, c_kg5 hh, c_kg6 hh, c_wo hh, c_wg0 hh, c_wg1 hh, c_wg2 hh, c_wg3 hh, c_wg4 hh, c_wg5 hh, c_wg6 hh, c_wg7 hh, c_wg8 hh, c_po hh, c_pg0 hh, c_pg1 hh, c_pg2 hh, c_pg3 hh, c_pg4 hh, c_pg5 hh, c_pg6 hh, c_pg7 hh, c_q31 hh, c_q39 hh, c_op7 hh, c_op8 hh, c_op9 hh, c_kp0 hh, c_kp1 hh, c_kp5 hh, c_kp6 hh, c_wp1 hh, c_wp2 hh, c_wp3 hh, c_wp7 hh, c_wp8 hh, c_pp0 hh, c_pp1 hh, c_pp2 hh, c_pp6 hh, c_pp7 hh, c_r32 hh, c_r34 hh, c_r35 hh, c_r36 hh, c_r38 hh, c_r40 hh, c_r41 hh, c_r57 hh, c_r58 hh, c_s32 hh, c_s34 hh, c_s35 hh, c_s36 hh, c_s38 hh, c_s40 hh, c_s41 hh, c_s57 hh, c_s58 hh, c_ho hh hO, c_hg0 hh hO, c_hg1 hh hO, c_hg2 hh hO, c_hg3 hh hO, c_hg4 hh hO, c_hg5 hh hO, c_hg6 hh hO, c_hg7 hh hO, c_hg8 hh hO, c_hg9 hh hO, c_hg10 hh hO, c_hq hh hO, c_hbg0 hh hO, c_hbg1 hh hO, c_hbo hh hO, c_hno hh hO, c_hng0 hh hO, c_hng1 hh hO, c_hng2 hh hO, c_hng3 hh hO, c_hng4 hh hO, c_hdo hh hO, c_hdg0 hh hO, c_hdg1 hh hO, c_hdg2 hh hO, c_hdg3 hh hO, c_hdg4 hh hO, c_hdg5 hh hO, c_hp4 hh hO, c_hp5 hh hO, c_hp6 hh hO, c_hp7 hh hO, c_hp8 hh hO, c_hp9 hh hO, c_hp10 hh hO, c_hbp hh hO, c_hnp hh hO, c_hdp0 hh hO, c_hdp1 hh hO, c_hdp2 hh hO, c_hdp3 hh hO, c_hdp4 hh hO, c_hdp5 hh hO, c_hr3 hh hO, c_hr5 hh hO, c_hr6 hh hO, c_hr7 hh hO, c_hr8 hh hO, c_hr9 hh hO, c_hs3 hh hO, c_hs5 hh hO, c_hs6 hh hO, c_hs7 hh hO, c_hs8 hh hO, c_hs9 hh hO, zI_add, zI_sub, zI_mul, zI_neg, zL_add, zL_sub, zL_mul, Option.bind_some, Option.toList_some, Option.toList_none, List.cons_append, List.nil_append, zI_lt, zI_le, zI_eq, zI_eq0, zI_lt0, zI_le0, zI_0lt, zI_0le, bZ_e0, Int.add_zero, Int.zero_add, Int.toNat_natCast, ew]
      have := ih (i + 1) (acc + min N (lf i) * rg t 0 (21 + i)) (.int (zI (min N (lf i)))) (by omega) (by omega) (by omega)
      rw [← show (i : Int) + 1 = ((i + 1 : Nat) : Int) by omega] at this
      exact this
    by_cases z : hasB who i = true
    · rw [if_pos (show (zI who >>> (zI (i : Int) &&& 31)) &&& zI 1 = zI 1 from of_decide_eq_true z)]
      simp (disch := first | omega | assumption) only [s_X6_mayBeBest_38, s_X6_mayBeBest_40, s_X6_mayBeBest_41, s_X6_mayBeBest_44, s_X6_mayBeBest_45, s_X6_mayBeBest_46, s_X6_mayBeBest_49, s_X6_mayBeBest_51, s_X6_mayBeBest_52, s_X6_mayBeBest_55, s_X6_mayBeBest_56_0, s_X6_mayBeBest_56_1, s_X6_mayBeBest_56_b, c_oo hh, c_og0 hh, c_og1 hh, c_og2 hh, c_og3 hh, c_og4 hh, c_og5 hh, c_og6 hh, c_og7 hh, c_og8 hh, c_og9 hh, c_ko hh, c_kg0 hh, c_kg1 hh, c_kg2 hh, c_kg3 hh, c_kg4 hh, c_kg5 hh, c_kg6 hh, c_wo hh, c_wg0 hh, c_wg1 hh, c_wg2 hh, c_wg3 hh, c_wg4 hh, c_wg5 hh, c_wg6 hh, c_wg7 hh, c_wg8 hh, c_po hh, c_pg0 hh, c_pg1 hh, c_pg2 hh, c_pg3 hh, c_pg4 hh, c_pg5 hh, c_pg6 hh, c_pg7 hh, c_q31 hh, c_q39 hh, c_op7 hh, c_op8 hh, c_op9 hh, c_kp0 hh, c_kp1 hh, c_kp5 hh, c_kp6 hh, c_wp1 hh, c_wp2 hh, c_wp3 hh, c_wp7 hh, c_wp8 hh, c_pp0 hh, c_pp1 hh, c_pp2 hh, c_pp6 hh, c_pp7 hh, c_r32 hh, c_r34 hh, c_r35 hh, c_r36 hh, c_r38 hh, c_r40 hh, c_r41 hh, c_r57 hh, c_r58 hh, c_s32 hh, c_s34 hh, c_s35 hh, c_s36 hh, c_s38 hh, c_s40 hh, c_s41 hh, c_s57 hh, c_s58 hh, c_ho hh hO, c_hg0 hh hO, c_hg1 hh hO, c_hg2 hh hO, c_hg3 hh hO, c_hg4 hh hO, c_hg5 hh hO, c_hg6 hh hO, c_hg7 hh hO, c_hg8 hh hO, c_hg9 hh hO, c_hg10 hh hO, c_hq hh hO, c_hbg0 hh hO, c_hbg1 hh hO, c_hbo hh hO, c_hno hh hO, c_hng0 hh hO, c_hng1 hh hO, c_hng2 hh hO, c_hng3 hh hO, c_hng4 hh hO, c_hdo hh hO, c_hdg0 hh hO, c_hdg1 hh hO, c_hdg2 hh hO, c_hdg3 hh hO, c_hdg4 hh hO, c_hdg5 hh hO, c_hp4 hh hO, c_hp5 hh hO, c_hp6 hh hO, c_hp7 hh hO, c_hp8 hh hO, c_hp9 hh hO, c_hp10 hh hO, c_hbp hh hO, c_hnp hh hO, c_hdp0 hh hO, c_hdp1 hh hO, c_hdp2 hh hO, c_hdp3 hh hO, c_hdp4 hh hO, c_hdp5 hh hO, c_hr3 hh hO, c_hr5 hh hO, c_hr6 hh hO, c_hr7 hh hO, c_hr8 hh hO, c_hr9 hh hO, c_hs3 hh hO, c_hs5 hh hO, c_hs6 hh hO, c_hs7 hh hO, c_hs8 hh hO, c_hs9 hh hO, zI_add, zI_sub, zI_mul, zI_neg, zL_add, zL_sub, zL_mul, Option.bind_some, Option.toList_some, Option.toList_none, List.cons_append, List.nil_append, zI_lt, zI_le, zI_eq, zI_eq0, zI_lt0, zI_le0, zI_0lt, zI_0le, bZ_e0, Int.add_zero, Int.zero_add, Int.toNat_natCast, c_bg0 hh hB, c_br hh hB, el]
      by_cases y : min N (lf i) < lf i
      · rw [if_neg (by omega), if_pos ⟨z, y⟩, bZ_f (by decide)]
      · rw [if_pos (by omega), if_neg (fun x => y x.2)]
        exact tail
    · rw [if_neg (show ¬ (zI who >>> (zI (i : Int) &&& 31)) &&& zI 1 = zI 1 from fun x => z (decide_eq_true x)), if_neg (fun x => z x.1)]
      exact tail
theorem k_mb {n k : Nat} {who most sum : Int} {lf lt : Int → Int} (hh : 91 ≤ h.1) (hr : hR T 1 (rg t 0)) (hv : vI (rg t 0)) (hm : T 37 7 = ((k + n : Nat) : Int)) (hk : k + n ≤ 6) (hn : nR T t k lf lt) (hb : bkOk t lf lt) (hw : T 37 8 = who) (ho : T 37 1 = most) (hor : -1 ≤ most ∧ most ≤ 100000) (hs : 0 ≤ sum ∧ sum ≤ 50000) : ∃ b : Bool, (b = true ↔ (∀ p : Nat, (p : Int) < t 1 5 → ¬ (hasB who p = true ∧ min ((n : Int) * cap t p) (lf p) < lf p)) ∧ most < sum + toC t n lf) ∧ x_cl (e + 2) n_X6_mayBeBest [.ref 37, .ref 1, .int (zI k), .int (zI sum)] (cH h T) = some (some (.int (zI (bZ (b = true)))), cH h T) := by
  have h5 := hv.2.2.2.2.2.2.1
  rw [rg_0 (by decide)] at h5
  have sp := mb_spec (t := t) (who := who) (most := most) (sum := sum) (n := n) (lf := lf) (t 1 5).toNat 0
  rw [sumF, Int.add_zero, Nat.zero_add] at sp
  refine ⟨_, ⟨fun y => ⟨fun p hp => (sp.mp y).1 p (by omega) (by omega), (sp.mp y).2⟩, fun y => sp.mpr ⟨fun p h1 h2 => y.1 p (by omega), y.2⟩⟩, ?_⟩
  simp (disch := first | omega | assumption) only [e_X6_mayBeBest, s_X6_mayBeBest_0, s_X6_mayBeBest_1, s_X6_mayBeBest_3, s_X6_mayBeBest_4]
  exact l_mbK hh hr hv hm hk hn hb hw ho hor (t 1 5).toNat 0 sum .null (by omega) hs.1 (by omega)
theorem isA_40 : isA 40 125 := ⟨by decide, by decide, fun _ => rfl⟩
theorem k_goM {k : Nat} {b : Int} {lf lt : Int → Int} (hh : 91 ≤ h.1) (hr : hR T 1 (rg t 0)) (hv : vI (rg t 0)) (hl : ltW T (rg t 0)) (hk : k < 6) (hn : nR T t k lf lt) (hb : bkOk t lf lt) (h0 : 0 ≤ b) (h1 : b < sqN t 0) (ho : hasB (t 1 4) b = false) :
    ∃ T', (∀ i j, ¬ (i = 41 ∧ j = k) → i ≠ 44 + 2 * k → i ≠ 45 + 2 * k → T' i j = T i j) ∧ T' 41 k = b ∧ nR T' t (k + 1) (nlf t b lf lt) (nlt t b lf lt) ∧ x_cl (e + 3) n_X6_goMinute [.ref 37, .ref 1, .int (zI k), .int (zI b)] (cH h T) = some (none, cH h T') := by
  have hO := isH_1
  have hsq := vI_sq hv
  have h5 := hv.2.2.2.2.2.2.1
  have e4 : rg t 0 4 = t 1 4 := rg_0 (by decide)
  have e5 : rg t 0 5 = t 1 5 := rg_0 (by decide)
  rw [sq_v] at h1
  have hB := isB_w (i := k) (by omega)
  have hC := isB_w (i := k + 1) (by omega)
  obtain ⟨c, hc⟩ : ∃ c : Nat, b = c := ⟨b.toNat, by omega⟩
  have hrU : hR (up2 T 41 k b) 1 (rg t 0) := hR_k (fun i j a1 a2 => up2_n (by omega)) hr
  have eL : ∀ p : Nat, (p : Int) < rg t 0 5 → liK (up2 T 41 k b) 40 (b * 5) p = lgL t b (-1) p := fun p hp => by
    unfold liK
    rw [up2_n (by omega), show (b * 5 + (p : Int)).toNat = 5 * c + p by omega, hl c (by omega) (by rw [e4, ← hc]; exact ho) p hp, lq_u h0 (by omega) (by omega)]
    unfold lqG
    rw [Int.toNat_natCast, hc]
  have eR : ∀ p : Nat, (p : Int) < rg t 0 5 → rdK (rg t 0) (liK (up2 T 41 k b) 40 (b * 5)) (lfK (up2 T 41 k b) (42 + 2 * k)) (ltK (up2 T 41 k b) (42 + 2 * k)) p = nrd t b lf lt p := fun p hp => by
    unfold rdK nrd
    rw [eL p hp, Int.toNat_natCast, g_1 (t := t) (j := 11 + p) (x := 11 + (p : Int)) (by omega) (by omega)]
    refine rdS_congr (by omega) (fun i i0 i1 => ?_) ?_
    · show up2 T 41 k b (42 + 2 * k + 1) i.toNat = lf i
      have := (hn i.toNat (by omega)).1
      rw [up2_n (by omega), show 42 + 2 * k + 1 = 43 + 2 * k by omega, this, show ((i.toNat : Nat) : Int) = i by omega]
    · show bZ (hasB (up2 T 41 k b (42 + 2 * k) 1) (p : Int) = true) = lt p
      rw [up2_n (by omega)]
      exact (hn p (by omega)).2
  have hmi : miK (up2 T 41 k b) 1 (rg t 0) 40 125 (b * 5) (42 + 2 * k) (42 + 2 * (k + 1)) := by
    refine ⟨isA_40, hB, hC, by omega, by omega, by omega, by omega, by omega, by omega, fun p hp => ⟨?_, ?_⟩⟩
    · rw [eL p hp]
      have := lgL_rg t b (-1) p
      omega
    · have a := (hn p (by omega)).1
      have e : lfK (up2 T 41 k b) (42 + 2 * k) p = lf p := by
        unfold lfK
        rw [up2_n (by omega), Int.toNat_natCast, show 42 + 2 * k + 1 = 43 + 2 * k by omega, a]
      rw [e]
      exact (hb p (by omega) (by omega)).1
  have km := k_minute (d := e) hh hO hrU hv hmi
  refine ⟨mnK (up2 T 41 k b) (rg t 0) 40 (b * 5) (42 + 2 * k) (42 + 2 * (k + 1)), fun i j a1 a2 a3 => ?_, ?_, fun p hp => ⟨?_, ?_⟩, ?_⟩
  · unfold mnK
    rw [up2_n (by omega), rmN_n (by omega), up2_n (by omega)]
  · unfold mnK
    rw [up2_n (by omega), rmN_n (by omega), up2_s]
  · unfold mnK
    rw [up2_n (by omega)]
    unfold rmN
    rw [if_pos ⟨by omega, by omega⟩, eR p (by omega)]
    unfold nlf
    congr 1
    unfold lfK
    rw [Int.toNat_natCast, up2_n (by omega), show 42 + 2 * k + 1 = 43 + 2 * k by omega, (hn p hp).1]
  · unfold mnK
    rw [up2_s, lvF_b (by omega) _ (by omega), decide_eq_true (show p < (rg t 0 5).toNat by omega), Bool.true_and]
    unfold lbK nlt
    rw [eR p (by omega), eL p (by omega)]
    by_cases y : 0 < lgL t b (-1) p ∧ 0 < nrd t b lf lt p
    · rw [if_pos y, bZ_t (decide_eq_true ⟨y.2, y.1⟩)]
    · rw [if_neg y, bZ_f (fun x => y ⟨(of_decide_eq_true x).2, (of_decide_eq_true x).1⟩)]
  · have eK : ((k : Int) + 1).toNat = k + 1 := by omega
    simp (disch := first | omega | assumption) only [e_X6_goMinute, s_X6_goMinute_0, s_X6_goMinute_1, s_X6_goMinute_4, s_X6_goMinute_5, s_X6_goMinute_6, s_X6_goMinute_7, s_X6_goMinute_8, s_X6_goMinute_9, s_X6_goMinute_12, s_X6_goMinute_13, s_X6_goMinute_14, s_X6_goMinute_15, s_X6_goMinute_16, s_X6_goMinute_19, s_X6_goMinute_20, s_X6_goMinute_21, s_X6_goMinute_22, s_X6_goMinute_25, s_X6_goMinute_26, s_X6_goMinute_27, s_X6_goMinute_28, s_X6_goMinute_29, s_X6_goMinute_32, s_X6_goMinute_33, c_oo hh, c_og0 hh, c_og1 hh, c_og2 hh, c_og3 hh, c_og4 hh, c_og5 hh, c_og6 hh, c_og7 hh, c_og8 hh, c_og9 hh, c_ko hh, c_kg0 hh, c_kg1 hh, c_kg2 hh, c_kg3 hh, c_kg4 hh, c_kg5 hh, c_kg6 hh, c_wo hh, c_wg0 hh, c_wg1 hh, c_wg2 hh, c_wg3 hh, c_wg4 hh, c_wg5 hh, c_wg6 hh, c_wg7 hh, c_wg8 hh, c_po hh, c_pg0 hh, c_pg1 hh, c_pg2 hh, c_pg3 hh, c_pg4 hh, c_pg5 hh, c_pg6 hh, c_pg7 hh, c_q31 hh, c_q39 hh, c_op7 hh, c_op8 hh, c_op9 hh, c_kp0 hh, c_kp1 hh, c_kp5 hh, c_kp6 hh, c_wp1 hh, c_wp2 hh, c_wp3 hh, c_wp7 hh, c_wp8 hh, c_pp0 hh, c_pp1 hh, c_pp2 hh, c_pp6 hh, c_pp7 hh, c_r32 hh, c_r34 hh, c_r35 hh, c_r36 hh, c_r38 hh, c_r40 hh, c_r41 hh, c_r57 hh, c_r58 hh, c_s32 hh, c_s34 hh, c_s35 hh, c_s36 hh, c_s38 hh, c_s40 hh, c_s41 hh, c_s57 hh, c_s58 hh, c_ho hh hO, c_hg0 hh hO, c_hg1 hh hO, c_hg2 hh hO, c_hg3 hh hO, c_hg4 hh hO, c_hg5 hh hO, c_hg6 hh hO, c_hg7 hh hO, c_hg8 hh hO, c_hg9 hh hO, c_hg10 hh hO, c_hq hh hO, c_hbg0 hh hO, c_hbg1 hh hO, c_hbo hh hO, c_hno hh hO, c_hng0 hh hO, c_hng1 hh hO, c_hng2 hh hO, c_hng3 hh hO, c_hng4 hh hO, c_hdo hh hO, c_hdg0 hh hO, c_hdg1 hh hO, c_hdg2 hh hO, c_hdg3 hh hO, c_hdg4 hh hO, c_hdg5 hh hO, c_hp4 hh hO, c_hp5 hh hO, c_hp6 hh hO, c_hp7 hh hO, c_hp8 hh hO, c_hp9 hh hO, c_hp10 hh hO, c_hbp hh hO, c_hnp hh hO, c_hdp0 hh hO, c_hdp1 hh hO, c_hdp2 hh hO, c_hdp3 hh hO, c_hdp4 hh hO, c_hdp5 hh hO, c_hr3 hh hO, c_hr5 hh hO, c_hr6 hh hO, c_hr7 hh hO, c_hr8 hh hO, c_hr9 hh hO, c_hs3 hh hO, c_hs5 hh hO, c_hs6 hh hO, c_hs7 hh hO, c_hs8 hh hO, c_hs9 hh hO, zI_add, zI_sub, zI_mul, zI_neg, zL_add, zL_sub, zL_mul, Option.bind_some, Option.toList_some, Option.toList_none, List.cons_append, List.nil_append, zI_lt, zI_le, zI_eq, zI_eq0, zI_lt0, zI_le0, zI_0lt, zI_0le, bZ_e0, Int.add_zero, Int.zero_add, Int.toNat_natCast, eK, km]
end

/-! SEATS CHANGED: the component -/
section
variable {h : xH} {d o : Nat} {g : Nat → Int} {G : Nat → Nat → Int}
theorem up1_2 {j : Nat} {x y : Int} : up1 (up1 g j x) j y = up1 g j y := by
  funext k
  unfold up1
  split <;> rfl
theorem up1_i {j : Nat} {x : Int} (hx : x = g j) : up1 g j x = g := by
  funext k
  unfold up1
  split
  next e => rw [e, hx]
  · rfl
theorem up1_c {i j : Nat} {x y : Int} (hij : i ≠ j) : up1 (up1 g i x) j y = up1 (up1 g j y) i x := by
  funext k
  by_cases z : k = j
  · rw [z, up1_s, up1_n (Ne.symm hij), up1_s]
  · rw [up1_n z]
    by_cases w : k = i
    · rw [w, up1_s, up1_s]
    · rw [up1_n w, up1_n w, up1_n z]
theorem vI_seat {a : Nat} {q : Int} (hv : vI g) (ha : a < 5) (ha2 : (a : Int) < g 5) (hq : 0 ≤ q ∧ q < g 0 * g 1) (hb : hasB (g 4) q = false) : vI (up1 g (6 + a) q) := by
  obtain ⟨v1, v2, v3, v4, v5, v6, v7, v8, v9, v10⟩ := hv
  unfold vI mnI at *
  simp (disch := omega) only [up1_n]
  refine ⟨v1, v2, v3, v4, v5, v6, v7, fun p p1 p2 => ?_, v9, v10⟩
  have e := v8 p p1 p2
  unfold rdI at *
  by_cases z : p = a
  · subst z
    rw [up1_s]
    simp (disch := omega) only [up1_n]
    exact ⟨hq, e.2.1, e.2.2.1, e.2.2.2.1, e.2.2.2.2.1, e.2.2.2.2.2.1, e.2.2.2.2.2.2.1, e.2.2.2.2.2.2.2.1, hb⟩
  · simp (disch := omega) only [up1_n]
    exact e
theorem vI_sw {a b : Nat} (hv : vI g) (ha : a < 5) (ha2 : (a : Int) < g 5) (hb : b < 5) (hb2 : (b : Int) < g 5) : vI (swG g a b) := by
  have ea := hv.2.2.2.2.2.2.2.1 a ha ha2
  have eb := hv.2.2.2.2.2.2.2.1 b hb hb2
  unfold rdI at ea eb
  have v1 := vI_seat hv ha ha2 eb.1 eb.2.2.2.2.2.2.2.2
  unfold swG
  rw [Int.toNat_natCast, Int.toNat_natCast]
  refine vI_seat v1 hb ?_ ?_ ?_
  · rw [up1_n (by omega)]; exact hb2
  · rw [up1_n (by omega), up1_n (by omega)]; exact ea.1
  · rw [up1_n (by omega)]; exact ea.2.2.2.2.2.2.2.2
theorem hR_seat {a : Nat} {q : Int} {T : Nat → Nat → Int} (hr : hR T o g) (ha : a < 5) : hR (up2 T (o + 10 + a) 0 q) o (up1 g (6 + a) q) := by
  obtain ⟨e4, e5, e6, e7, e8, e9, e10, er, el, ek, em⟩ := hr
  unfold hR mnR at *
  simp (disch := omega) only [up2_n, up1_n]
  refine ⟨e4, e5, e6, e7, e8, e9, e10, fun p p1 p2 => ?_, el, ek, fun m m1 m2 => ?_⟩
  · have e := er p p1 p2
    unfold rdR' at *
    by_cases z : p = a
    · subst z
      rw [up2_s, up1_s]
      simp (disch := omega) only [up2_n, up1_n]
      exact ⟨trivial, e.2⟩
    · simp (disch := omega) only [up2_n, up1_n]
      exact e
  · exact em m m1 m2
theorem stA_rg (hv : vI g) : -1 ≤ stA g ∧ stA g ≤ 900 := scG_rg2 _ _ _ (fun k _ _ => (wtG_rg hv).2) (by decide) (by decide)
theorem k_weighC {f : Nat → Int} {v : Int} (hh : 91 ≤ h.1) (hr : hR G 16 f) (hv : vI f) (hm : -1 ≤ G 56 6 ∧ G 56 6 ≤ 900) : ∃ G', (∀ i j, ¬ (56 ≤ i ∧ i ≤ 60) → G' i j = G i j) ∧ G' 56 6 = (if G 56 6 < stA f then stA f else G 56 6) ∧ G' 56 7 = (if G 56 6 < stA f then v else G 56 7) ∧ x_cl (d + 5) n_X4_weighChange [.ref 56, .ref 16, .int (zI v)] (cH h G) = some (none, cH h G') := by
  have hO := isH_16
  obtain ⟨F, f1, f2, f3, f4⟩ := k_stand (d := d) hh hO hr hv (by decide)
  have hs := stA_rg hv
  have e6 : F 56 6 = G 56 6 := f1 _ _ (by decide) (by decide) (by decide) (by decide)
  have e7 : F 56 7 = G 56 7 := f1 _ _ (by decide) (by decide) (by decide) (by decide)
  have e2 : F 56 2 = stA f := f2
  simp (disch := first | omega | assumption) only [e_X4_weighChange, s_X4_weighChange_0, s_X4_weighChange_1, s_X4_weighChange_2, s_X4_weighChange_5, s_X4_weighChange_6, s_X4_weighChange_9, s_X4_weighChange_10, s_X4_weighChange_13, c_oo hh, c_og0 hh, c_og1 hh, c_og2 hh, c_og3 hh, c_og4 hh, c_og5 hh, c_og6 hh, c_og7 hh, c_og8 hh, c_og9 hh, c_ko hh, c_kg0 hh, c_kg1 hh, c_kg2 hh, c_kg3 hh, c_kg4 hh, c_kg5 hh, c_kg6 hh, c_wo hh, c_wg0 hh, c_wg1 hh, c_wg2 hh, c_wg3 hh, c_wg4 hh, c_wg5 hh, c_wg6 hh, c_wg7 hh, c_wg8 hh, c_po hh, c_pg0 hh, c_pg1 hh, c_pg2 hh, c_pg3 hh, c_pg4 hh, c_pg5 hh, c_pg6 hh, c_pg7 hh, c_q31 hh, c_q39 hh, c_op7 hh, c_op8 hh, c_op9 hh, c_kp0 hh, c_kp1 hh, c_kp5 hh, c_kp6 hh, c_wp1 hh, c_wp2 hh, c_wp3 hh, c_wp7 hh, c_wp8 hh, c_pp0 hh, c_pp1 hh, c_pp2 hh, c_pp6 hh, c_pp7 hh, c_r32 hh, c_r34 hh, c_r35 hh, c_r36 hh, c_r38 hh, c_r40 hh, c_r41 hh, c_r57 hh, c_r58 hh, c_s32 hh, c_s34 hh, c_s35 hh, c_s36 hh, c_s38 hh, c_s40 hh, c_s41 hh, c_s57 hh, c_s58 hh, c_ho hh hO, c_hg0 hh hO, c_hg1 hh hO, c_hg2 hh hO, c_hg3 hh hO, c_hg4 hh hO, c_hg5 hh hO, c_hg6 hh hO, c_hg7 hh hO, c_hg8 hh hO, c_hg9 hh hO, c_hg10 hh hO, c_hq hh hO, c_hbg0 hh hO, c_hbg1 hh hO, c_hbo hh hO, c_hno hh hO, c_hng0 hh hO, c_hng1 hh hO, c_hng2 hh hO, c_hng3 hh hO, c_hng4 hh hO, c_hdo hh hO, c_hdg0 hh hO, c_hdg1 hh hO, c_hdg2 hh hO, c_hdg3 hh hO, c_hdg4 hh hO, c_hdg5 hh hO, c_hp4 hh hO, c_hp5 hh hO, c_hp6 hh hO, c_hp7 hh hO, c_hp8 hh hO, c_hp9 hh hO, c_hp10 hh hO, c_hbp hh hO, c_hnp hh hO, c_hdp0 hh hO, c_hdp1 hh hO, c_hdp2 hh hO, c_hdp3 hh hO, c_hdp4 hh hO, c_hdp5 hh hO, c_hr3 hh hO, c_hr5 hh hO, c_hr6 hh hO, c_hr7 hh hO, c_hr8 hh hO, c_hr9 hh hO, c_hs3 hh hO, c_hs5 hh hO, c_hs6 hh hO, c_hs7 hh hO, c_hs8 hh hO, c_hs9 hh hO, zI_add, zI_sub, zI_mul, zI_neg, zL_add, zL_sub, zL_mul, Option.bind_some, Option.toList_some, Option.toList_none, List.cons_append, List.nil_append, zI_lt, zI_le, zI_eq, zI_eq0, zI_lt0, zI_le0, zI_0lt, zI_0le, bZ_e0, Int.add_zero, Int.zero_add, f4, e2, e6]
  by_cases z : stA f ≤ G 56 6
  · rw [if_pos z, if_neg (by omega), if_neg (by omega)]
    simp (disch := first | omega | assumption) only [s_X4_weighChange_29]
    exact ⟨F, fun i j hi => f1 i j (by omega) (by omega) (by omega) (by omega), e6, e7, rfl⟩
  · rw [if_neg z, if_pos (by omega), if_pos (by omega)]
    simp (disch := first | omega | assumption) only [s_X4_weighChange_16, s_X4_weighChange_17, s_X4_weighChange_18, s_X4_weighChange_21, s_X4_weighChange_24, s_X4_weighChange_25, s_X4_weighChange_26, s_X4_weighChange_29, c_oo hh, c_og0 hh, c_og1 hh, c_og2 hh, c_og3 hh, c_og4 hh, c_og5 hh, c_og6 hh, c_og7 hh, c_og8 hh, c_og9 hh, c_ko hh, c_kg0 hh, c_kg1 hh, c_kg2 hh, c_kg3 hh, c_kg4 hh, c_kg5 hh, c_kg6 hh, c_wo hh, c_wg0 hh, c_wg1 hh, c_wg2 hh, c_wg3 hh, c_wg4 hh, c_wg5 hh, c_wg6 hh, c_wg7 hh, c_wg8 hh, c_po hh, c_pg0 hh, c_pg1 hh, c_pg2 hh, c_pg3 hh, c_pg4 hh, c_pg5 hh, c_pg6 hh, c_pg7 hh, c_q31 hh, c_q39 hh, c_op7 hh, c_op8 hh, c_op9 hh, c_kp0 hh, c_kp1 hh, c_kp5 hh, c_kp6 hh, c_wp1 hh, c_wp2 hh, c_wp3 hh, c_wp7 hh, c_wp8 hh, c_pp0 hh, c_pp1 hh, c_pp2 hh, c_pp6 hh, c_pp7 hh, c_r32 hh, c_r34 hh, c_r35 hh, c_r36 hh, c_r38 hh, c_r40 hh, c_r41 hh, c_r57 hh, c_r58 hh, c_s32 hh, c_s34 hh, c_s35 hh, c_s36 hh, c_s38 hh, c_s40 hh, c_s41 hh, c_s57 hh, c_s58 hh, c_ho hh hO, c_hg0 hh hO, c_hg1 hh hO, c_hg2 hh hO, c_hg3 hh hO, c_hg4 hh hO, c_hg5 hh hO, c_hg6 hh hO, c_hg7 hh hO, c_hg8 hh hO, c_hg9 hh hO, c_hg10 hh hO, c_hq hh hO, c_hbg0 hh hO, c_hbg1 hh hO, c_hbo hh hO, c_hno hh hO, c_hng0 hh hO, c_hng1 hh hO, c_hng2 hh hO, c_hng3 hh hO, c_hng4 hh hO, c_hdo hh hO, c_hdg0 hh hO, c_hdg1 hh hO, c_hdg2 hh hO, c_hdg3 hh hO, c_hdg4 hh hO, c_hdg5 hh hO, c_hp4 hh hO, c_hp5 hh hO, c_hp6 hh hO, c_hp7 hh hO, c_hp8 hh hO, c_hp9 hh hO, c_hp10 hh hO, c_hbp hh hO, c_hnp hh hO, c_hdp0 hh hO, c_hdp1 hh hO, c_hdp2 hh hO, c_hdp3 hh hO, c_hdp4 hh hO, c_hdp5 hh hO, c_hr3 hh hO, c_hr5 hh hO, c_hr6 hh hO, c_hr7 hh hO, c_hr8 hh hO, c_hr9 hh hO, c_hs3 hh hO, c_hs5 hh hO, c_hs6 hh hO, c_hs7 hh hO, c_hs8 hh hO, c_hs9 hh hO, zI_add, zI_sub, zI_mul, zI_neg, zL_add, zL_sub, zL_mul, Option.bind_some, Option.toList_some, Option.toList_none, List.cons_append, List.nil_append, zI_lt, zI_le, zI_eq, zI_eq0, zI_lt0, zI_le0, zI_0lt, zI_0le, bZ_e0, Int.add_zero, Int.zero_add, e2]
    refine ⟨_, fun i j hi => ?_, ?_, ?_, rfl⟩
    · rw [up2_n (by omega), up2_n (by omega), f1 i j (by omega) (by omega) (by omega) (by omega)]
    · rw [up2_n (by omega), up2_s]
    · rw [up2_s]
theorem k_beginC (hh : 91 ≤ h.1) (hr : hR G 1 g) (hv : vI g) : ∃ G', (∀ i j, ¬ (16 ≤ i ∧ i < 31) → ¬ (56 ≤ i ∧ i ≤ 60) → G' i j = G i j) ∧ hR G' 16 g ∧ G' 56 6 = stA g ∧ G' 56 7 = -1 ∧ x_cl (d + 5) n_X4_beginChanges [.ref 56, .ref 1, .ref 16] (cH h G) = some (none, cH h G') := by
  have hO := isH_16
  have hP := isH_1
  obtain ⟨F, f1, f2, f3⟩ := k_become (d := d + 2) hh hO hP (Or.inr (by decide)) hr hv.2.2.2.2.2.2.1.2
  have hr1 : hR F 1 g := hR_k (fun i j a1 a2 => f1 i j (by omega)) hr
  obtain ⟨E, e1, e2, e3, e4⟩ := k_stand (d := d) hh hP hr1 hv (by decide)
  have e2' : E 56 2 = stA g := e2
  refine ⟨up2 (up2 E 56 6 (stA g)) 56 7 (-1), fun i j a1 a2 => ?_, hR_k (fun i j a1 a2 => ?_) f2, ?_, ?_, ?_⟩
  · rw [up2_n (by omega), up2_n (by omega), e1 i j (by omega) (by omega) (by omega) (by omega), f1 i j (by omega)]
  · rw [up2_n (by omega), up2_n (by omega), e1 i j (by omega) (by omega) (by omega) (by omega)]
  · rw [up2_n (by omega), up2_s]
  · rw [up2_s]
  · simp (disch := first | omega | assumption) only [e_X4_beginChanges, s_X4_beginChanges_0, s_X4_beginChanges_1, s_X4_beginChanges_2, s_X4_beginChanges_5, s_X4_beginChanges_6, s_X4_beginChanges_7, s_X4_beginChanges_10, s_X4_beginChanges_11, s_X4_beginChanges_12, s_X4_beginChanges_15, s_X4_beginChanges_18, s_X4_beginChanges_19, s_X4_beginChanges_20, s_X4_beginChanges_23, c_oo hh, c_og0 hh, c_og1 hh, c_og2 hh, c_og3 hh, c_og4 hh, c_og5 hh, c_og6 hh, c_og7 hh, c_og8 hh, c_og9 hh, c_ko hh, c_kg0 hh, c_kg1 hh, c_kg2 hh, c_kg3 hh, c_kg4 hh, c_kg5 hh, c_kg6 hh, c_wo hh, c_wg0 hh, c_wg1 hh, c_wg2 hh, c_wg3 hh, c_wg4 hh, c_wg5 hh, c_wg6 hh, c_wg7 hh, c_wg8 hh, c_po hh, c_pg0 hh, c_pg1 hh, c_pg2 hh, c_pg3 hh, c_pg4 hh, c_pg5 hh, c_pg6 hh, c_pg7 hh, c_q31 hh, c_q39 hh, c_op7 hh, c_op8 hh, c_op9 hh, c_kp0 hh, c_kp1 hh, c_kp5 hh, c_kp6 hh, c_wp1 hh, c_wp2 hh, c_wp3 hh, c_wp7 hh, c_wp8 hh, c_pp0 hh, c_pp1 hh, c_pp2 hh, c_pp6 hh, c_pp7 hh, c_r32 hh, c_r34 hh, c_r35 hh, c_r36 hh, c_r38 hh, c_r40 hh, c_r41 hh, c_r57 hh, c_r58 hh, c_s32 hh, c_s34 hh, c_s35 hh, c_s36 hh, c_s38 hh, c_s40 hh, c_s41 hh, c_s57 hh, c_s58 hh, c_ho hh hO, c_hg0 hh hO, c_hg1 hh hO, c_hg2 hh hO, c_hg3 hh hO, c_hg4 hh hO, c_hg5 hh hO, c_hg6 hh hO, c_hg7 hh hO, c_hg8 hh hO, c_hg9 hh hO, c_hg10 hh hO, c_hq hh hO, c_hbg0 hh hO, c_hbg1 hh hO, c_hbo hh hO, c_hno hh hO, c_hng0 hh hO, c_hng1 hh hO, c_hng2 hh hO, c_hng3 hh hO, c_hng4 hh hO, c_hdo hh hO, c_hdg0 hh hO, c_hdg1 hh hO, c_hdg2 hh hO, c_hdg3 hh hO, c_hdg4 hh hO, c_hdg5 hh hO, c_hp4 hh hO, c_hp5 hh hO, c_hp6 hh hO, c_hp7 hh hO, c_hp8 hh hO, c_hp9 hh hO, c_hp10 hh hO, c_hbp hh hO, c_hnp hh hO, c_hdp0 hh hO, c_hdp1 hh hO, c_hdp2 hh hO, c_hdp3 hh hO, c_hdp4 hh hO, c_hdp5 hh hO, c_hr3 hh hO, c_hr5 hh hO, c_hr6 hh hO, c_hr7 hh hO, c_hr8 hh hO, c_hr9 hh hO, c_hs3 hh hO, c_hs5 hh hO, c_hs6 hh hO, c_hs7 hh hO, c_hs8 hh hO, c_hs9 hh hO, zI_add, zI_sub, zI_mul, zI_neg, zL_add, zL_sub, zL_mul, Option.bind_some, Option.toList_some, Option.toList_none, List.cons_append, List.nil_append, zI_lt, zI_le, zI_eq, zI_eq0, zI_lt0, zI_le0, zI_0lt, zI_0le, bZ_e0, Int.add_zero, Int.zero_add, c_ho hh hP, c_hg0 hh hP, c_hg1 hh hP, c_hg2 hh hP, c_hg3 hh hP, c_hg4 hh hP, c_hg5 hh hP, c_hg6 hh hP, c_hg7 hh hP, c_hg8 hh hP, c_hg9 hh hP, c_hg10 hh hP, c_hq hh hP, c_hbg0 hh hP, c_hbg1 hh hP, c_hbo hh hP, c_hno hh hP, c_hng0 hh hP, c_hng1 hh hP, c_hng2 hh hP, c_hng3 hh hP, c_hng4 hh hP, c_hdo hh hP, c_hdg0 hh hP, c_hdg1 hh hP, c_hdg2 hh hP, c_hdg3 hh hP, c_hdg4 hh hP, c_hdg5 hh hP, c_hp4 hh hP, c_hp5 hh hP, c_hp6 hh hP, c_hp7 hh hP, c_hp8 hh hP, c_hp9 hh hP, c_hp10 hh hP, c_hbp hh hP, c_hnp hh hP, c_hdp0 hh hP, c_hdp1 hh hP, c_hdp2 hh hP, c_hdp3 hh hP, c_hdp4 hh hP, c_hdp5 hh hP, c_hr3 hh hP, c_hr5 hh hP, c_hr6 hh hP, c_hr7 hh hP, c_hr8 hh hP, c_hr9 hh hP, c_hs3 hh hP, c_hs5 hh hP, c_hs6 hh hP, c_hs7 hh hP, c_hs8 hh hP, c_hs9 hh hP, f3, e4, e2']
theorem l_sw2K {a : Nat} (hh : 91 ≤ h.1) (hv : vI g) (ha : (a : Int) < g 5) : ∀ (c b : Nat) (T : Nat → Nat → Int) (s : Int × Int) (z : Int), (b : Int) + c = g 5 → a < b → hR T 1 g → hR T 16 (up1 g (6 + a) z) → T 56 6 = s.1 → T 56 7 = s.2 → -1 ≤ s.1 → s.1 ≤ 900 →
    ∃ T' z', (∀ i j, ¬ (16 ≤ i ∧ i < 31) → ¬ (56 ≤ i ∧ i ≤ 60) → T' i j = T i j) ∧ hR T' 16 (up1 g (6 + a) z') ∧ T' 56 6 = (scG (fun y => stA (swG g a y)) (fun y => 100 * (a : Int) + y) (fun _ => true) c b s).1 ∧ T' 56 7 = (scG (fun y => stA (swG g a y)) (fun y => 100 * (a : Int) + y) (fun _ => true) c b s).2 ∧
      x_ev (d + 6, n_X4_bestSeats, 21, [.ref 56, .ref 1, .ref 16, .int (zI a), .int (zI b)], [], cH h T) = x_ev (d + 6, n_X4_bestSeats, 106, [.ref 56, .ref 1, .ref 16, .int (zI a), .int (zI (g 5))], [], cH h T') := by
  have h5 := hv.2.2.2.2.2.2.1
  have hO := isH_16
  have hP := isH_1
  intro c
  induction c with
  | zero =>
    intro b T s z hb hab hr hr2 s1 s2 b1 b2
    have e9 := hr.2.2.2.2.2.1
    refine ⟨T, z, fun _ _ _ _ => rfl, hr2, s1, s2, ?_⟩
    rw [s_X4_bestSeats_21]
    simp (disch := first | omega | assumption) only [s_X4_bestSeats_23, s_X4_bestSeats_24, s_X4_bestSeats_27, c_oo hh, c_og0 hh, c_og1 hh, c_og2 hh, c_og3 hh, c_og4 hh, c_og5 hh, c_og6 hh, c_og7 hh, c_og8 hh, c_og9 hh, c_ko hh, c_kg0 hh, c_kg1 hh, c_kg2 hh, c_kg3 hh, c_kg4 hh, c_kg5 hh, c_kg6 hh, c_wo hh, c_wg0 hh, c_wg1 hh, c_wg2 hh, c_wg3 hh, c_wg4 hh, c_wg5 hh, c_wg6 hh, c_wg7 hh, c_wg8 hh, c_po hh, c_pg0 hh, c_pg1 hh, c_pg2 hh, c_pg3 hh, c_pg4 hh, c_pg5 hh, c_pg6 hh, c_pg7 hh, c_q31 hh, c_q39 hh, c_op7 hh, c_op8 hh, c_op9 hh, c_kp0 hh, c_kp1 hh, c_kp5 hh, c_kp6 hh, c_wp1 hh, c_wp2 hh, c_wp3 hh, c_wp7 hh, c_wp8 hh, c_pp0 hh, c_pp1 hh, c_pp2 hh, c_pp6 hh, c_pp7 hh, c_r32 hh, c_r34 hh, c_r35 hh, c_r36 hh, c_r38 hh, c_r40 hh, c_r41 hh, c_r57 hh, c_r58 hh, c_s32 hh, c_s34 hh, c_s35 hh, c_s36 hh, c_s38 hh, c_s40 hh, c_s41 hh, c_s57 hh, c_s58 hh, c_ho hh hO, c_hg0 hh hO, c_hg1 hh hO, c_hg2 hh hO, c_hg3 hh hO, c_hg4 hh hO, c_hg5 hh hO, c_hg6 hh hO, c_hg7 hh hO, c_hg8 hh hO, c_hg9 hh hO, c_hg10 hh hO, c_hq hh hO, c_hbg0 hh hO, c_hbg1 hh hO, c_hbo hh hO, c_hno hh hO, c_hng0 hh hO, c_hng1 hh hO, c_hng2 hh hO, c_hng3 hh hO, c_hng4 hh hO, c_hdo hh hO, c_hdg0 hh hO, c_hdg1 hh hO, c_hdg2 hh hO, c_hdg3 hh hO, c_hdg4 hh hO, c_hdg5 hh hO, c_hp4 hh hO, c_hp5 hh hO, c_hp6 hh hO, c_hp7 hh hO, c_hp8 hh hO, c_hp9 hh hO, c_hp10 hh hO, c_hbp hh hO, c_hnp hh hO, c_hdp0 hh hO, c_hdp1 hh hO, c_hdp2 hh hO, c_hdp3 hh hO, c_hdp4 hh hO, c_hdp5 hh hO, c_hr3 hh hO, c_hr5 hh hO, c_hr6 hh hO, c_hr7 hh hO, c_hr8 hh hO, c_hr9 hh hO, c_hs3 hh hO, c_hs5 hh hO, c_hs6 hh hO, c_hs7 hh hO, c_hs8 hh hO, c_hs9 hh hO, zI_add, zI_sub, zI_mul, zI_neg, zL_add, zL_sub, zL_mul, Option.bind_some, Option.toList_some, Option.toList_none, List.cons_append, List.nil_append, zI_lt, zI_le, zI_eq, zI_eq0, zI_lt0, zI_le0, zI_0lt, zI_0le, bZ_e0, Int.add_zero, Int.zero_add, c_ho hh hP, c_hg0 hh hP, c_hg1 hh hP, c_hg2 hh hP, c_hg3 hh hP, c_hg4 hh hP, c_hg5 hh hP, c_hg6 hh hP, c_hg7 hh hP, c_hg8 hh hP, c_hg9 hh hP, c_hg10 hh hP, c_hq hh hP, c_hbg0 hh hP, c_hbg1 hh hP, c_hbo hh hP, c_hno hh hP, c_hng0 hh hP, c_hng1 hh hP, c_hng2 hh hP, c_hng3 hh hP, c_hng4 hh hP, c_hdo hh hP, c_hdg0 hh hP, c_hdg1 hh hP, c_hdg2 hh hP, c_hdg3 hh hP, c_hdg4 hh hP, c_hdg5 hh hP, c_hp4 hh hP, c_hp5 hh hP, c_hp6 hh hP, c_hp7 hh hP, c_hp8 hh hP, c_hp9 hh hP, c_hp10 hh hP, c_hbp hh hP, c_hnp hh hP, c_hdp0 hh hP, c_hdp1 hh hP, c_hdp2 hh hP, c_hdp3 hh hP, c_hdp4 hh hP, c_hdp5 hh hP, c_hr3 hh hP, c_hr5 hh hP, c_hr6 hh hP, c_hr7 hh hP, c_hr8 hh hP, c_hr9 hh hP, c_hs3 hh hP, c_hs5 hh hP, c_hs6 hh hP, c_hs7 hh hP, c_hs8 hh hP, c_hs9 hh hP, e9]
    rw [if_pos (by omega), show (b : Int) = g 5 by omega]
  | succ c ih =>
    intro b T s z hb hab hr hr2 s1 s2 b1 b2
    have e9 := hr.2.2.2.2.2.1
    have ey : (b : Int) + 1 = ((b + 1 : Nat) : Int) := by omega
    have qa := (hr.2.2.2.2.2.2.2.1 a (by omega) ha).1
    have qb := (hr.2.2.2.2.2.2.2.1 b (by omega) (by omega)).1
    have r1 := hR_seat (a := a) (q := g (6 + b)) hr2 (by omega)
    rw [up1_2] at r1
    have r2 := hR_seat (a := b) (q := g (6 + a)) r1 (by omega)
    have hsw : up1 (up1 g (6 + a) (g (6 + b))) (6 + b) (g (6 + a)) = swG g a b := by
      unfold swG
      rw [Int.toNat_natCast, Int.toNat_natCast]
    rw [hsw] at r2
    have vs := vI_sw (a := a) (b := b) hv (by omega) ha (by omega) (by omega)
    obtain ⟨W, w1, w2, w3, w4⟩ := k_weighC (d := d) (h := h) (v := 100 * (a : Int) + (b : Int)) hh r2 vs (by rw [up2_n (by omega), up2_n (by omega)]; omega)
    rw [up2_n (by omega), up2_n (by omega), s1] at w2 w3
    rw [up2_n (by omega), up2_n (by omega), s2] at w3
    have r3 : hR W 16 (swG g a b) := hR_k (fun i j a1 a2 => w1 i j (by omega)) r2
    have r4 := hR_seat (a := b) (q := g (6 + b)) r3 (by omega)
    have hbk : up1 (swG g a b) (6 + b) (g (6 + b)) = up1 g (6 + a) (g (6 + b)) := by
      rw [← hsw, up1_2]
      exact up1_i (by rw [up1_n (by omega)])
    rw [hbk] at r4
    have st := stA_rg vs
    have hr1 : hR (up2 W (16 + 10 + b) 0 (g (6 + b))) 1 g := hR_k (fun i j a1 a2 => by rw [up2_n (by omega), w1 i j (by omega), up2_n (by omega), up2_n (by omega)]) hr
    obtain ⟨T', z', t1, t2, t3, t4, t5⟩ := ih (b + 1) (up2 W (16 + 10 + b) 0 (g (6 + b))) (if True ∧ s.1 < stA (swG g a b) then (stA (swG g a b), 100 * (a : Int) + (b : Int)) else s) (g (6 + b)) (by omega) (by omega) hr1 r4 (by
      rw [up2_n (by omega), w2]
      by_cases w : s.1 < stA (swG g a b)
      · rw [if_pos w, if_pos ⟨trivial, w⟩]
      · rw [if_neg w, if_neg (fun v => w v.2)]) (by
      rw [up2_n (by omega), w3]
      by_cases w : s.1 < stA (swG g a b)
      · rw [if_pos w, if_pos ⟨trivial, w⟩]
      · rw [if_neg w, if_neg (fun v => w v.2)]) (by split <;> (try dsimp only) <;> omega) (by split <;> (try dsimp only) <;> omega)
    have esc : scG (fun y => stA (swG g a y)) (fun y => 100 * (a : Int) + y) (fun _ => true) (c + 1) b s = scG (fun y => stA (swG g a y)) (fun y => 100 * (a : Int) + y) (fun _ => true) c ((b + 1 : Nat) : Int) (if True ∧ s.1 < stA (swG g a b) then (stA (swG g a b), 100 * (a : Int) + (b : Int)) else s) := by
      rw [scG, ey]
      congr 1
      simp only [true_and]
    rw [esc]
    refine ⟨T', z', fun i j a1 a2 => ?_, t2, t3, t4, ?_⟩
    · rw [t1 i j a1 a2, up2_n (by omega), w1 i j a2, up2_n (by omega), up2_n (by omega)]
    · rw [s_X4_bestSeats_21]
      simp (disch := first | omega | assumption) only [s_X4_bestSeats_23, s_X4_bestSeats_24, s_X4_bestSeats_27, c_oo hh, c_og0 hh, c_og1 hh, c_og2 hh, c_og3 hh, c_og4 hh, c_og5 hh, c_og6 hh, c_og7 hh, c_og8 hh, c_og9 hh, c_ko hh, c_kg0 hh, c_kg1 hh, c_kg2 hh, c_kg3 hh, c_kg4 hh, c_kg5 hh, c_kg6 hh, c_wo hh, c_wg0 hh, c_wg1 hh, c_wg2 hh, c_wg3 hh, c_wg4 hh, c_wg5 hh, c_wg6 hh, c_wg7 hh, c_wg8 hh, c_po hh, c_pg0 hh, c_pg1 hh, c_pg2 hh, c_pg3 hh, c_pg4 hh, c_pg5 hh, c_pg6 hh, c_pg7 hh, c_q31 hh, c_q39 hh, c_op7 hh, c_op8 hh, c_op9 hh, c_kp0 hh, c_kp1 hh, c_kp5 hh, c_kp6 hh, c_wp1 hh, c_wp2 hh, c_wp3 hh, c_wp7 hh, c_wp8 hh, c_pp0 hh, c_pp1 hh, c_pp2 hh, c_pp6 hh, c_pp7 hh, c_r32 hh, c_r34 hh, c_r35 hh, c_r36 hh, c_r38 hh, c_r40 hh, c_r41 hh, c_r57 hh, c_r58 hh, c_s32 hh, c_s34 hh, c_s35 hh, c_s36 hh, c_s38 hh, c_s40 hh, c_s41 hh, c_s57 hh, c_s58 hh, c_ho hh hO, c_hg0 hh hO, c_hg1 hh hO, c_hg2 hh hO, c_hg3 hh hO, c_hg4 hh hO, c_hg5 hh hO, c_hg6 hh hO, c_hg7 hh hO, c_hg8 hh hO, c_hg9 hh hO, c_hg10 hh hO, c_hq hh hO, c_hbg0 hh hO, c_hbg1 hh hO, c_hbo hh hO, c_hno hh hO, c_hng0 hh hO, c_hng1 hh hO, c_hng2 hh hO, c_hng3 hh hO, c_hng4 hh hO, c_hdo hh hO, c_hdg0 hh hO, c_hdg1 hh hO, c_hdg2 hh hO, c_hdg3 hh hO, c_hdg4 hh hO, c_hdg5 hh hO, c_hp4 hh hO, c_hp5 hh hO, c_hp6 hh hO, c_hp7 hh hO, c_hp8 hh hO, c_hp9 hh hO, c_hp10 hh hO, c_hbp hh hO, c_hnp hh hO, c_hdp0 hh hO, c_hdp1 hh hO, c_hdp2 hh hO, c_hdp3 hh hO, c_hdp4 hh hO, c_hdp5 hh hO, c_hr3 hh hO, c_hr5 hh hO, c_hr6 hh hO, c_hr7 hh hO, c_hr8 hh hO, c_hr9 hh hO, c_hs3 hh hO, c_hs5 hh hO, c_hs6 hh hO, c_hs7 hh hO, c_hs8 hh hO, c_hs9 hh hO, zI_add, zI_sub, zI_mul, zI_neg, zL_add, zL_sub, zL_mul, Option.bind_some, Option.toList_some, Option.toList_none, List.cons_append, List.nil_append, zI_lt, zI_le, zI_eq, zI_eq0, zI_lt0, zI_le0, zI_0lt, zI_0le, bZ_e0, Int.add_zero, Int.zero_add, c_ho hh hP, c_hg0 hh hP, c_hg1 hh hP, c_hg2 hh hP, c_hg3 hh hP, c_hg4 hh hP, c_hg5 hh hP, c_hg6 hh hP, c_hg7 hh hP, c_hg8 hh hP, c_hg9 hh hP, c_hg10 hh hP, c_hq hh hP, c_hbg0 hh hP, c_hbg1 hh hP, c_hbo hh hP, c_hno hh hP, c_hng0 hh hP, c_hng1 hh hP, c_hng2 hh hP, c_hng3 hh hP, c_hng4 hh hP, c_hdo hh hP, c_hdg0 hh hP, c_hdg1 hh hP, c_hdg2 hh hP, c_hdg3 hh hP, c_hdg4 hh hP, c_hdg5 hh hP, c_hp4 hh hP, c_hp5 hh hP, c_hp6 hh hP, c_hp7 hh hP, c_hp8 hh hP, c_hp9 hh hP, c_hp10 hh hP, c_hbp hh hP, c_hnp hh hP, c_hdp0 hh hP, c_hdp1 hh hP, c_hdp2 hh hP, c_hdp3 hh hP, c_hdp4 hh hP, c_hdp5 hh hP, c_hr3 hh hP, c_hr5 hh hP, c_hr6 hh hP, c_hr7 hh hP, c_hr8 hh hP, c_hr9 hh hP, c_hs3 hh hP, c_hs5 hh hP, c_hs6 hh hP, c_hs7 hh hP, c_hs8 hh hP, c_hs9 hh hP, e9]
      rw [if_neg (by omega)]
      have qa' : up2 T (16 + 10 + a) 0 (g (6 + b)) (1 + 10 + a) 0 = g (6 + a) := (up2_n (by omega)).trans qa
      have qb' : W (1 + 10 + b) 0 = g (6 + b) := (w1 _ _ (by omega)).trans ((up2_n (by omega)).trans ((up2_n (by omega)).trans qb))
      simp (disch := first | omega | assumption) only [s_X4_bestSeats_30, s_X4_bestSeats_31, s_X4_bestSeats_34, s_X4_bestSeats_35, s_X4_bestSeats_36, s_X4_bestSeats_37, s_X4_bestSeats_40, s_X4_bestSeats_42, s_X4_bestSeats_43, s_X4_bestSeats_46, s_X4_bestSeats_49, s_X4_bestSeats_50, s_X4_bestSeats_53, s_X4_bestSeats_55, s_X4_bestSeats_56, s_X4_bestSeats_57, s_X4_bestSeats_60, s_X4_bestSeats_61, s_X4_bestSeats_62, s_X4_bestSeats_65, s_X4_bestSeats_68, s_X4_bestSeats_69, s_X4_bestSeats_70, s_X4_bestSeats_72, s_X4_bestSeats_73, s_X4_bestSeats_74, s_X4_bestSeats_76, s_X4_bestSeats_77, s_X4_bestSeats_80, s_X4_bestSeats_81, s_X4_bestSeats_84, s_X4_bestSeats_86, s_X4_bestSeats_87, s_X4_bestSeats_88, s_X4_bestSeats_91, s_X4_bestSeats_93, s_X4_bestSeats_94, s_X4_bestSeats_97, s_X4_bestSeats_100, s_X4_bestSeats_103, c_oo hh, c_og0 hh, c_og1 hh, c_og2 hh, c_og3 hh, c_og4 hh, c_og5 hh, c_og6 hh, c_og7 hh, c_og8 hh, c_og9 hh, c_ko hh, c_kg0 hh, c_kg1 hh, c_kg2 hh, c_kg3 hh, c_kg4 hh, c_kg5 hh, c_kg6 hh, c_wo hh, c_wg0 hh, c_wg1 hh, c_wg2 hh, c_wg3 hh, c_wg4 hh, c_wg5 hh, c_wg6 hh, c_wg7 hh, c_wg8 hh, c_po hh, c_pg0 hh, c_pg1 hh, c_pg2 hh, c_pg3 hh, c_pg4 hh, c_pg5 hh, c_pg6 hh, c_pg7 hh, c_q31 hh, c_q39 hh, c_op7 hh, c_op8 hh, c_op9 hh, c_kp0 hh, c_kp1 hh, c_kp5 hh, c_kp6 hh, c_wp1 hh, c_wp2 hh, c_wp3 hh, c_wp7 hh, c_wp8 hh, c_pp0 hh, c_pp1 hh, c_pp2 hh, c_pp6 hh, c_pp7 hh, c_r32 hh, c_r34 hh, c_r35 hh, c_r36 hh, c_r38 hh, c_r40 hh, c_r41 hh, c_r57 hh, c_r58 hh, c_s32 hh, c_s34 hh, c_s35 hh, c_s36 hh, c_s38 hh, c_s40 hh, c_s41 hh, c_s57 hh, c_s58 hh, c_ho hh hO, c_hg0 hh hO, c_hg1 hh hO, c_hg2 hh hO, c_hg3 hh hO, c_hg4 hh hO, c_hg5 hh hO, c_hg6 hh hO, c_hg7 hh hO, c_hg8 hh hO, c_hg9 hh hO, c_hg10 hh hO, c_hq hh hO, c_hbg0 hh hO, c_hbg1 hh hO, c_hbo hh hO, c_hno hh hO, c_hng0 hh hO, c_hng1 hh hO, c_hng2 hh hO, c_hng3 hh hO, c_hng4 hh hO, c_hdo hh hO, c_hdg0 hh hO, c_hdg1 hh hO, c_hdg2 hh hO, c_hdg3 hh hO, c_hdg4 hh hO, c_hdg5 hh hO, c_hp4 hh hO, c_hp5 hh hO, c_hp6 hh hO, c_hp7 hh hO, c_hp8 hh hO, c_hp9 hh hO, c_hp10 hh hO, c_hbp hh hO, c_hnp hh hO, c_hdp0 hh hO, c_hdp1 hh hO, c_hdp2 hh hO, c_hdp3 hh hO, c_hdp4 hh hO, c_hdp5 hh hO, c_hr3 hh hO, c_hr5 hh hO, c_hr6 hh hO, c_hr7 hh hO, c_hr8 hh hO, c_hr9 hh hO, c_hs3 hh hO, c_hs5 hh hO, c_hs6 hh hO, c_hs7 hh hO, c_hs8 hh hO, c_hs9 hh hO, zI_add, zI_sub, zI_mul, zI_neg, zL_add, zL_sub, zL_mul, Option.bind_some, Option.toList_some, Option.toList_none, List.cons_append, List.nil_append, zI_lt, zI_le, zI_eq, zI_eq0, zI_lt0, zI_le0, zI_0lt, zI_0le, bZ_e0, Int.add_zero, Int.zero_add, c_ho hh hP, c_hg0 hh hP, c_hg1 hh hP, c_hg2 hh hP, c_hg3 hh hP, c_hg4 hh hP, c_hg5 hh hP, c_hg6 hh hP, c_hg7 hh hP, c_hg8 hh hP, c_hg9 hh hP, c_hg10 hh hP, c_hq hh hP, c_hbg0 hh hP, c_hbg1 hh hP, c_hbo hh hP, c_hno hh hP, c_hng0 hh hP, c_hng1 hh hP, c_hng2 hh hP, c_hng3 hh hP, c_hng4 hh hP, c_hdo hh hP, c_hdg0 hh hP, c_hdg1 hh hP, c_hdg2 hh hP, c_hdg3 hh hP, c_hdg4 hh hP, c_hdg5 hh hP, c_hp4 hh hP, c_hp5 hh hP, c_hp6 hh hP, c_hp7 hh hP, c_hp8 hh hP, c_hp9 hh hP, c_hp10 hh hP, c_hbp hh hP, c_hnp hh hP, c_hdp0 hh hP, c_hdp1 hh hP, c_hdp2 hh hP, c_hdp3 hh hP, c_hdp4 hh hP, c_hdp5 hh hP, c_hr3 hh hP, c_hr5 hh hP, c_hr6 hh hP, c_hr7 hh hP, c_hr8 hh hP, c_hr9 hh hP, c_hs3 hh hP, c_hs5 hh hP, c_hs6 hh hP, c_hs7 hh hP, c_hs8 hh hP, c_hs9 hh hP, Int.toNat_natCast, qa', qb, qb', w4]
      rw [ey]
      exact t5
end

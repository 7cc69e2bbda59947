/-! THE COMPONENT, part 10: the table of lights -/
section
variable {h : xH} {G : Nat → Nat → Int} {d o : Nat} {g : Nat → Int}
/-- a hall stays, if its cells stay -/
theorem hR_k {T : Nat → Nat → Int} (he : ∀ i j, o ≤ i → i < o + 15 → T i j = G i j) (hr : hR G o g) : hR T o g := by
  obtain ⟨e4, e5, e6, e7, e8, e9, e10, er, el, ek, em⟩ := hr
  unfold hR
  rw [he o 4 (by omega) (by omega), he o 5 (by omega) (by omega), he o 6 (by omega) (by omega), he o 7 (by omega) (by omega), he o 8 (by omega) (by omega), he o 9 (by omega) (by omega), he o 10 (by omega) (by omega), he (o + 2) 1 (by omega) (by omega), he (o + 4) 4 (by omega) (by omega)]
  refine ⟨e4, e5, e6, e7, e8, e9, e10, fun p p1 p2 => ?_, el, ek, fun m m1 m2 => ?_⟩
  · have := er p p1 p2
    unfold rdR' at *
    rw [he (o + 10 + p) 0 (by omega) (by omega), he (o + 10 + p) 1 (by omega) (by omega), he (o + 10 + p) 2 (by omega) (by omega), he (o + 10 + p) 3 (by omega) (by omega), he (o + 10 + p) 4 (by omega) (by omega), he (o + 10 + p) 5 (by omega) (by omega), he (o + 3) p (by omega) (by omega)]
    exact this
  · have := em m m1 m2
    unfold mnR at *
    rw [he (o + 5) m (by omega) (by omega), he (o + 6) m (by omega) (by omega), he (o + 7) m (by omega) (by omega)]
    refine ⟨this.1, this.2.1, this.2.2.1, fun p p1 p2 => ?_⟩
    rw [he (o + 8) (5 * m + p) (by omega) (by omega)]
    exact this.2.2.2 p p1 p2
theorem l_fill1 {La q : Nat} (hh : 91 ≤ h.1) (hO : isH o) (hv : vI g) (hA : isA La 125) (hL : La < o ∨ o + 15 ≤ La) (hq : (q : Int) < g 0 * g 1) : ∀ (c k : Nat) (T : Nat → Nat → Int), (k : Int) + c = g 5 → hR T o g →
    ∃ T' l4', (∀ i j, ¬ (i = La ∧ 5 * q + k ≤ j ∧ j < 5 * q + 5) → T' i j = T i j) ∧ (∀ p : Nat, k ≤ p → (p : Int) < g 5 → T' La (5 * q + p) = lgt (g 0) (g 4) (g (6 + p)) q) ∧
      x_ev (d + 3, n_X2_fillLights, 39, [.ref o, .ref La, .int (zI q), .int (zI (5 * q : Nat)), .int (zI k)], [], cH h T) = x_ev (d + 3, n_X2_fillLights, 75, [.ref o, .ref La, .int (zI q), .int (zI (5 * q : Nat)), l4'], [], cH h T') := by
  have h5 := hv.2.2.2.2.2.2.1
  have hsq := vI_sq hv
  intro c
  induction c with
  | zero =>
    intro k T hk hr
    have e9 := hr.2.2.2.2.2.1
    refine ⟨T, .int (zI k), fun _ _ _ => rfl, fun p p1 p2 => by omega, ?_⟩
    rw [s_X2_fillLights_39]
    simp (disch := first | omega | assumption) only [s_X2_fillLights_41, s_X2_fillLights_42, s_X2_fillLights_45, c_ho hh hO, c_hg0 hh hO, c_hg1 hh hO, c_hg2 hh hO, c_hg3 hh hO, c_hg4 hh hO, c_hg5 hh hO, c_hg6 hh hO, c_hg7 hh hO, c_hg8 hh hO, c_hg9 hh hO, c_hg10 hh hO, c_hq hh hO, c_hbg0 hh hO, c_hbg1 hh hO, c_hbo hh hO, c_hno hh hO, c_hng0 hh hO, c_hng1 hh hO, c_hng2 hh hO, c_hng3 hh hO, c_hng4 hh hO, c_hdo hh hO, c_hdg0 hh hO, c_hdg1 hh hO, c_hdg2 hh hO, c_hdg3 hh hO, c_hdg4 hh hO, c_hdg5 hh hO, c_hp4 hh hO, c_hp5 hh hO, c_hp6 hh hO, c_hp7 hh hO, c_hp8 hh hO, c_hp9 hh hO, c_hp10 hh hO, c_hbp hh hO, c_hnp hh hO, c_hdp0 hh hO, c_hdp1 hh hO, c_hdp2 hh hO, c_hdp3 hh hO, c_hdp4 hh hO, c_hdp5 hh hO, c_hr3 hh hO, c_hr5 hh hO, c_hr6 hh hO, c_hr7 hh hO, c_hr8 hh hO, c_hr9 hh hO, c_hs3 hh hO, c_hs5 hh hO, c_hs6 hh hO, c_hs7 hh hO, c_hs8 hh hO, c_hs9 hh hO, zI_add, zI_sub, zI_mul, zI_neg, zL_add, zL_sub, zL_mul, Option.bind_some, Option.toList_some, Option.toList_none, List.cons_append, List.nil_append, zI_lt, zI_le, zI_eq, zI_eq0, zI_lt0, zI_le0, zI_0lt, zI_0le, bZ_e0, Int.add_zero, Int.zero_add, e9]
    rw [if_pos (by omega)]
  | succ c ih =>
    intro k T hk hr
    have e9 := hr.2.2.2.2.2.1
    have e := (hr.2.2.2.2.2.2.2.1 k (by omega) (by omega)).1
    have eg := (hv.2.2.2.2.2.2.2.1 k (by omega) (by omega)).1
    obtain ⟨T', l4', r1, r2, r3⟩ := ih (k + 1) (up2 T La (5 * q + k) (lgt (g 0) (g 4) (g (6 + k)) q)) (by omega) (hR_k (fun i j h1 h2 => up2_n (by omega)) hr)
    refine ⟨T', l4', fun i j hij => (r1 i j (by omega)).trans (up2_n (by omega)), fun p p1 p2 => ?_, ?_⟩
    · by_cases z : p = k
      · rw [z, r1 _ _ (by omega), up2_s]
      · exact r2 p (by omega) p2
    · rw [s_X2_fillLights_39]
      simp (disch := first | omega | assumption) only [s_X2_fillLights_41, s_X2_fillLights_42, s_X2_fillLights_45, c_ho hh hO, c_hg0 hh hO, c_hg1 hh hO, c_hg2 hh hO, c_hg3 hh hO, c_hg4 hh hO, c_hg5 hh hO, c_hg6 hh hO, c_hg7 hh hO, c_hg8 hh hO, c_hg9 hh hO, c_hg10 hh hO, c_hq hh hO, c_hbg0 hh hO, c_hbg1 hh hO, c_hbo hh hO, c_hno hh hO, c_hng0 hh hO, c_hng1 hh hO, c_hng2 hh hO, c_hng3 hh hO, c_hng4 hh hO, c_hdo hh hO, c_hdg0 hh hO, c_hdg1 hh hO, c_hdg2 hh hO, c_hdg3 hh hO, c_hdg4 hh hO, c_hdg5 hh hO, c_hp4 hh hO, c_hp5 hh hO, c_hp6 hh hO, c_hp7 hh hO, c_hp8 hh hO, c_hp9 hh hO, c_hp10 hh hO, c_hbp hh hO, c_hnp hh hO, c_hdp0 hh hO, c_hdp1 hh hO, c_hdp2 hh hO, c_hdp3 hh hO, c_hdp4 hh hO, c_hdp5 hh hO, c_hr3 hh hO, c_hr5 hh hO, c_hr6 hh hO, c_hr7 hh hO, c_hr8 hh hO, c_hr9 hh hO, c_hs3 hh hO, c_hs5 hh hO, c_hs6 hh hO, c_hs7 hh hO, c_hs8 hh hO, c_hs9 hh hO, zI_add, zI_sub, zI_mul, zI_neg, zL_add, zL_sub, zL_mul, Option.bind_some, Option.toList_some, Option.toList_none, List.cons_append, List.nil_append, zI_lt, zI_le, zI_eq, zI_eq0, zI_lt0, zI_le0, zI_0lt, zI_0le, bZ_e0, Int.add_zero, Int.zero_add, e9]
      rw [if_neg (by omega)]
      simp (disch := first | omega | assumption) only [s_X2_fillLights_48, s_X2_fillLights_49, s_X2_fillLights_50, s_X2_fillLights_52, s_X2_fillLights_53, s_X2_fillLights_54, s_X2_fillLights_55, s_X2_fillLights_58, s_X2_fillLights_60, s_X2_fillLights_61, s_X2_fillLights_64, s_X2_fillLights_65, s_X2_fillLights_68, s_X2_fillLights_69, s_X2_fillLights_72, c_ho hh hO, c_hg0 hh hO, c_hg1 hh hO, c_hg2 hh hO, c_hg3 hh hO, c_hg4 hh hO, c_hg5 hh hO, c_hg6 hh hO, c_hg7 hh hO, c_hg8 hh hO, c_hg9 hh hO, c_hg10 hh hO, c_hq hh hO, c_hbg0 hh hO, c_hbg1 hh hO, c_hbo hh hO, c_hno hh hO, c_hng0 hh hO, c_hng1 hh hO, c_hng2 hh hO, c_hng3 hh hO, c_hng4 hh hO, c_hdo hh hO, c_hdg0 hh hO, c_hdg1 hh hO, c_hdg2 hh hO, c_hdg3 hh hO, c_hdg4 hh hO, c_hdg5 hh hO, c_hp4 hh hO, c_hp5 hh hO, c_hp6 hh hO, c_hp7 hh hO, c_hp8 hh hO, c_hp9 hh hO, c_hp10 hh hO, c_hbp hh hO, c_hnp hh hO, c_hdp0 hh hO, c_hdp1 hh hO, c_hdp2 hh hO, c_hdp3 hh hO, c_hdp4 hh hO, c_hdp5 hh hO, c_hr3 hh hO, c_hr5 hh hO, c_hr6 hh hO, c_hr7 hh hO, c_hr8 hh hO, c_hr9 hh hO, c_hs3 hh hO, c_hs5 hh hO, c_hs6 hh hO, c_hs7 hh hO, c_hs8 hh hO, c_hs9 hh hO, zI_add, zI_sub, zI_mul, zI_neg, zL_add, zL_sub, zL_mul, Option.bind_some, Option.toList_some, Option.toList_none, List.cons_append, List.nil_append, zI_lt, zI_le, zI_eq, zI_eq0, zI_lt0, zI_le0, zI_0lt, zI_0le, bZ_e0, Int.add_zero, Int.zero_add, Int.toNat_natCast, e, k_light hh hO hr hv, a_s hh hA]
      rw [show (((5 * q : Nat) : Int) + (k : Int)).toNat = 5 * q + k by omega, show (k : Int) + 1 = ((k + 1 : Nat) : Int) by omega]
      exact r3
theorem l_fill {La : Nat} (hh : 91 ≤ h.1) (hO : isH o) (hv : vI g) (hA : isA La 125) (hL : La < o ∨ o + 15 ≤ La) : ∀ (c q : Nat) (T : Nat → Nat → Int) (l3 l4 : Value), (q : Int) + c = g 0 * g 1 → hR T o g →
    ∃ T', (∀ i j, ¬ (i = La ∧ 5 * q ≤ j) → T' i j = T i j) ∧ (∀ r : Nat, q ≤ r → (r : Int) < g 0 * g 1 → hasB (g 4) r = false → ∀ p : Nat, (p : Int) < g 5 → T' La (5 * r + p) = lgt (g 0) (g 4) (g (6 + p)) r) ∧
      x_ev (d + 3, n_X2_fillLights, 2, [.ref o, .ref La, .int (zI q), l3, l4], [], cH h T) = some (none, cH h T') := by
  have h5 := hv.2.2.2.2.2.2.1
  have hsq := vI_sq hv
  intro c
  induction c with
  | zero =>
    intro q T l3 l4 hq hr
    have e6 := hr.2.2.1
    refine ⟨T, fun _ _ _ => rfl, fun r r1 r2 => by omega, ?_⟩
    rw [s_X2_fillLights_2]
    simp (disch := first | omega | assumption) only [s_X2_fillLights_3, s_X2_fillLights_4, s_X2_fillLights_7, c_ho hh hO, c_hg0 hh hO, c_hg1 hh hO, c_hg2 hh hO, c_hg3 hh hO, c_hg4 hh hO, c_hg5 hh hO, c_hg6 hh hO, c_hg7 hh hO, c_hg8 hh hO, c_hg9 hh hO, c_hg10 hh hO, c_hq hh hO, c_hbg0 hh hO, c_hbg1 hh hO, c_hbo hh hO, c_hno hh hO, c_hng0 hh hO, c_hng1 hh hO, c_hng2 hh hO, c_hng3 hh hO, c_hng4 hh hO, c_hdo hh hO, c_hdg0 hh hO, c_hdg1 hh hO, c_hdg2 hh hO, c_hdg3 hh hO, c_hdg4 hh hO, c_hdg5 hh hO, c_hp4 hh hO, c_hp5 hh hO, c_hp6 hh hO, c_hp7 hh hO, c_hp8 hh hO, c_hp9 hh hO, c_hp10 hh hO, c_hbp hh hO, c_hnp hh hO, c_hdp0 hh hO, c_hdp1 hh hO, c_hdp2 hh hO, c_hdp3 hh hO, c_hdp4 hh hO, c_hdp5 hh hO, c_hr3 hh hO, c_hr5 hh hO, c_hr6 hh hO, c_hr7 hh hO, c_hr8 hh hO, c_hr9 hh hO, c_hs3 hh hO, c_hs5 hh hO, c_hs6 hh hO, c_hs7 hh hO, c_hs8 hh hO, c_hs9 hh hO, zI_add, zI_sub, zI_mul, zI_neg, zL_add, zL_sub, zL_mul, Option.bind_some, Option.toList_some, Option.toList_none, List.cons_append, List.nil_append, zI_lt, zI_le, zI_eq, zI_eq0, zI_lt0, zI_le0, zI_0lt, zI_0le, bZ_e0, Int.add_zero, Int.zero_add, e6]
    rw [if_pos (by omega)]
    simp (disch := first | omega | assumption) only [s_X2_fillLights_81]
  | succ c ih =>
    intro q T l3 l4 hq hr
    have e6 := hr.2.2.1
    have e9 := hr.2.2.2.2.2.1
    have hstep : x_ev (d + 3, n_X2_fillLights, 2, [.ref o, .ref La, .int (zI q), l3, l4], [], cH h T) = if hasB (g 4) q = true then x_ev (d + 3, n_X2_fillLights, 75, [.ref o, .ref La, .int (zI q), .int (zI (5 * q : Nat)), l4], [], cH h T) else x_ev (d + 3, n_X2_fillLights, 39, [.ref o, .ref La, .int (zI q), .int (zI (5 * q : Nat)), .int (zI 0)], [], cH h T) := by
      rw [s_X2_fillLights_2]
      simp (disch := first | omega | assumption) only [s_X2_fillLights_3, s_X2_fillLights_4, s_X2_fillLights_7, c_ho hh hO, c_hg0 hh hO, c_hg1 hh hO, c_hg2 hh hO, c_hg3 hh hO, c_hg4 hh hO, c_hg5 hh hO, c_hg6 hh hO, c_hg7 hh hO, c_hg8 hh hO, c_hg9 hh hO, c_hg10 hh hO, c_hq hh hO, c_hbg0 hh hO, c_hbg1 hh hO, c_hbo hh hO, c_hno hh hO, c_hng0 hh hO, c_hng1 hh hO, c_hng2 hh hO, c_hng3 hh hO, c_hng4 hh hO, c_hdo hh hO, c_hdg0 hh hO, c_hdg1 hh hO, c_hdg2 hh hO, c_hdg3 hh hO, c_hdg4 hh hO, c_hdg5 hh hO, c_hp4 hh hO, c_hp5 hh hO, c_hp6 hh hO, c_hp7 hh hO, c_hp8 hh hO, c_hp9 hh hO, c_hp10 hh hO, c_hbp hh hO, c_hnp hh hO, c_hdp0 hh hO, c_hdp1 hh hO, c_hdp2 hh hO, c_hdp3 hh hO, c_hdp4 hh hO, c_hdp5 hh hO, c_hr3 hh hO, c_hr5 hh hO, c_hr6 hh hO, c_hr7 hh hO, c_hr8 hh hO, c_hr9 hh hO, c_hs3 hh hO, c_hs5 hh hO, c_hs6 hh hO, c_hs7 hh hO, c_hs8 hh hO, c_hs9 hh hO, zI_add, zI_sub, zI_mul, zI_neg, zL_add, zL_sub, zL_mul, Option.bind_some, Option.toList_some, Option.toList_none, List.cons_append, List.nil_append, zI_lt, zI_le, zI_eq, zI_eq0, zI_lt0, zI_le0, zI_0lt, zI_0le, bZ_e0, Int.add_zero, Int.zero_add, e6]
      rw [if_neg (by omega)]
      simp (disch := first | omega | assumption) only [s_X2_fillLights_10, s_X2_fillLights_11, s_X2_fillLights_12, s_X2_fillLights_13, s_X2_fillLights_14, s_X2_fillLights_15, s_X2_fillLights_16, s_X2_fillLights_19, c_ho hh hO, c_hg0 hh hO, c_hg1 hh hO, c_hg2 hh hO, c_hg3 hh hO, c_hg4 hh hO, c_hg5 hh hO, c_hg6 hh hO, c_hg7 hh hO, c_hg8 hh hO, c_hg9 hh hO, c_hg10 hh hO, c_hq hh hO, c_hbg0 hh hO, c_hbg1 hh hO, c_hbo hh hO, c_hno hh hO, c_hng0 hh hO, c_hng1 hh hO, c_hng2 hh hO, c_hng3 hh hO, c_hng4 hh hO, c_hdo hh hO, c_hdg0 hh hO, c_hdg1 hh hO, c_hdg2 hh hO, c_hdg3 hh hO, c_hdg4 hh hO, c_hdg5 hh hO, c_hp4 hh hO, c_hp5 hh hO, c_hp6 hh hO, c_hp7 hh hO, c_hp8 hh hO, c_hp9 hh hO, c_hp10 hh hO, c_hbp hh hO, c_hnp hh hO, c_hdp0 hh hO, c_hdp1 hh hO, c_hdp2 hh hO, c_hdp3 hh hO, c_hdp4 hh hO, c_hdp5 hh hO, c_hr3 hh hO, c_hr5 hh hO, c_hr6 hh hO, c_hr7 hh hO, c_hr8 hh hO, c_hr9 hh hO, c_hs3 hh hO, c_hs5 hh hO, c_hs6 hh hO, c_hs7 hh hO, c_hs8 hh hO, c_hs9 hh hO, zI_add, zI_sub, zI_mul, zI_neg, zL_add, zL_sub, zL_mul, Option.bind_some, Option.toList_some, Option.toList_none, List.cons_append, List.nil_append, zI_lt, zI_le, zI_eq, zI_eq0, zI_lt0, zI_le0, zI_0lt, zI_0le, bZ_e0, Int.add_zero, Int.zero_add, k_hasShelf hh hO hr hv]
      rw [show (q : Int) * 5 = ((5 * q : Nat) : Int) by omega]
      by_cases z : hasB (g 4) q = true
      · rw [if_pos z, if_neg (fun y => y ⟨⟨by omega, by omega⟩, z⟩)]
      · rw [if_neg z, if_pos (fun y => z y.2)]
        simp (disch := first | omega | assumption) only [s_X2_fillLights_22, s_X2_fillLights_23, s_X2_fillLights_24, s_X2_fillLights_27, s_X2_fillLights_28, s_X2_fillLights_29, s_X2_fillLights_30, s_X2_fillLights_33, s_X2_fillLights_36, s_X2_fillLights_37, c_ho hh hO, c_hg0 hh hO, c_hg1 hh hO, c_hg2 hh hO, c_hg3 hh hO, c_hg4 hh hO, c_hg5 hh hO, c_hg6 hh hO, c_hg7 hh hO, c_hg8 hh hO, c_hg9 hh hO, c_hg10 hh hO, c_hq hh hO, c_hbg0 hh hO, c_hbg1 hh hO, c_hbo hh hO, c_hno hh hO, c_hng0 hh hO, c_hng1 hh hO, c_hng2 hh hO, c_hng3 hh hO, c_hng4 hh hO, c_hdo hh hO, c_hdg0 hh hO, c_hdg1 hh hO, c_hdg2 hh hO, c_hdg3 hh hO, c_hdg4 hh hO, c_hdg5 hh hO, c_hp4 hh hO, c_hp5 hh hO, c_hp6 hh hO, c_hp7 hh hO, c_hp8 hh hO, c_hp9 hh hO, c_hp10 hh hO, c_hbp hh hO, c_hnp hh hO, c_hdp0 hh hO, c_hdp1 hh hO, c_hdp2 hh hO, c_hdp3 hh hO, c_hdp4 hh hO, c_hdp5 hh hO, c_hr3 hh hO, c_hr5 hh hO, c_hr6 hh hO, c_hr7 hh hO, c_hr8 hh hO, c_hr9 hh hO, c_hs3 hh hO, c_hs5 hh hO, c_hs6 hh hO, c_hs7 hh hO, c_hs8 hh hO, c_hs9 hh hO, zI_add, zI_sub, zI_mul, zI_neg, zL_add, zL_sub, zL_mul, Option.bind_some, Option.toList_some, Option.toList_none, List.cons_append, List.nil_append, zI_lt, zI_le, zI_eq, zI_eq0, zI_lt0, zI_le0, zI_0lt, zI_0le, bZ_e0, Int.add_zero, Int.zero_add, e9, a_l hh hA]
        rw [if_pos (by omega)]
    rw [hstep]
    by_cases z : hasB (g 4) q = true
    · rw [if_pos z]
      obtain ⟨T', r1, r2, r3⟩ := ih (q + 1) T (.int (zI (5 * q : Nat))) l4 (by omega) hr
      refine ⟨T', fun i j hij => r1 i j (by omega), fun r r4 r5 r6 => ?_, ?_⟩
      · by_cases y : r = q
        · rw [y, z] at r6; exact absurd r6 (by decide)
        · exact r2 r (by omega) r5 r6
      · simp (disch := first | omega | assumption) only [s_X2_fillLights_75, s_X2_fillLights_78, c_ho hh hO, c_hg0 hh hO, c_hg1 hh hO, c_hg2 hh hO, c_hg3 hh hO, c_hg4 hh hO, c_hg5 hh hO, c_hg6 hh hO, c_hg7 hh hO, c_hg8 hh hO, c_hg9 hh hO, c_hg10 hh hO, c_hq hh hO, c_hbg0 hh hO, c_hbg1 hh hO, c_hbo hh hO, c_hno hh hO, c_hng0 hh hO, c_hng1 hh hO, c_hng2 hh hO, c_hng3 hh hO, c_hng4 hh hO, c_hdo hh hO, c_hdg0 hh hO, c_hdg1 hh hO, c_hdg2 hh hO, c_hdg3 hh hO, c_hdg4 hh hO, c_hdg5 hh hO, c_hp4 hh hO, c_hp5 hh hO, c_hp6 hh hO, c_hp7 hh hO, c_hp8 hh hO, c_hp9 hh hO, c_hp10 hh hO, c_hbp hh hO, c_hnp hh hO, c_hdp0 hh hO, c_hdp1 hh hO, c_hdp2 hh hO, c_hdp3 hh hO, c_hdp4 hh hO, c_hdp5 hh hO, c_hr3 hh hO, c_hr5 hh hO, c_hr6 hh hO, c_hr7 hh hO, c_hr8 hh hO, c_hr9 hh hO, c_hs3 hh hO, c_hs5 hh hO, c_hs6 hh hO, c_hs7 hh hO, c_hs8 hh hO, c_hs9 hh hO, zI_add, zI_sub, zI_mul, zI_neg, zL_add, zL_sub, zL_mul, Option.bind_some, Option.toList_some, Option.toList_none, List.cons_append, List.nil_append, zI_lt, zI_le, zI_eq, zI_eq0, zI_lt0, zI_le0, zI_0lt, zI_0le, bZ_e0, Int.add_zero, Int.zero_add]
        rw [show (q : Int) + 1 = ((q + 1 : Nat) : Int) by omega]
        exact r3
    · rw [if_neg z]
      obtain ⟨T1, l4', s1, s2, s3⟩ := l_fill1 (d := d) (h := h) (q := q) hh hO hv hA hL (by omega) (g 5).toNat 0 T (by omega) hr
      obtain ⟨T', r1, r2, r3⟩ := ih (q + 1) T1 (.int (zI (5 * q : Nat))) l4' (by omega) (hR_k (fun i j h1 h2 => s1 i j (by omega)) hr)
      refine ⟨T', fun i j hij => (r1 i j (by omega)).trans (s1 i j (by omega)), fun r r4 r5 r6 p hp => ?_, ?_⟩
      · by_cases y : r = q
        · rw [y, r1 La (5 * q + p) (by omega), s2 p (by omega) hp]
        · exact r2 r (by omega) r5 r6 p hp
      · refine Eq.trans s3 ?_
        simp (disch := first | omega | assumption) only [s_X2_fillLights_75, s_X2_fillLights_78, c_ho hh hO, c_hg0 hh hO, c_hg1 hh hO, c_hg2 hh hO, c_hg3 hh hO, c_hg4 hh hO, c_hg5 hh hO, c_hg6 hh hO, c_hg7 hh hO, c_hg8 hh hO, c_hg9 hh hO, c_hg10 hh hO, c_hq hh hO, c_hbg0 hh hO, c_hbg1 hh hO, c_hbo hh hO, c_hno hh hO, c_hng0 hh hO, c_hng1 hh hO, c_hng2 hh hO, c_hng3 hh hO, c_hng4 hh hO, c_hdo hh hO, c_hdg0 hh hO, c_hdg1 hh hO, c_hdg2 hh hO, c_hdg3 hh hO, c_hdg4 hh hO, c_hdg5 hh hO, c_hp4 hh hO, c_hp5 hh hO, c_hp6 hh hO, c_hp7 hh hO, c_hp8 hh hO, c_hp9 hh hO, c_hp10 hh hO, c_hbp hh hO, c_hnp hh hO, c_hdp0 hh hO, c_hdp1 hh hO, c_hdp2 hh hO, c_hdp3 hh hO, c_hdp4 hh hO, c_hdp5 hh hO, c_hr3 hh hO, c_hr5 hh hO, c_hr6 hh hO, c_hr7 hh hO, c_hr8 hh hO, c_hr9 hh hO, c_hs3 hh hO, c_hs5 hh hO, c_hs6 hh hO, c_hs7 hh hO, c_hs8 hh hO, c_hs9 hh hO, zI_add, zI_sub, zI_mul, zI_neg, zL_add, zL_sub, zL_mul, Option.bind_some, Option.toList_some, Option.toList_none, List.cons_append, List.nil_append, zI_lt, zI_le, zI_eq, zI_eq0, zI_lt0, zI_le0, zI_0lt, zI_0le, bZ_e0, Int.add_zero, Int.zero_add]
        rw [show (q : Int) + 1 = ((q + 1 : Nat) : Int) by omega]
        exact r3
theorem k_fill {La : Nat} (hh : 91 ≤ h.1) (hO : isH o) (hr : hR G o g) (hv : vI g) (hA : isA La 125) (hL : La < o ∨ o + 15 ≤ La) : ∃ T', (∀ i j, i ≠ La → T' i j = G i j) ∧ (∀ r : Nat, (r : Int) < g 0 * g 1 → hasB (g 4) r = false → ∀ p : Nat, (p : Int) < g 5 → T' La (5 * r + p) = lgt (g 0) (g 4) (g (6 + p)) r) ∧ x_cl (d + 3) n_X2_fillLights [.ref o, .ref La] (cH h G) = some (none, cH h T') := by
  have hsq := vI_sq hv
  obtain ⟨T', r1, r2, r3⟩ := l_fill (d := d) (h := h) hh hO hv hA hL (g 0 * g 1).toNat 0 G .null .null (by omega) hr
  refine ⟨T', fun i j hi => r1 i j (by omega), fun r hr1 hr2 => r2 r (by omega) hr1 hr2, ?_⟩
  simp only [e_X2_fillLights, s_X2_fillLights_0, s_X2_fillLights_1]
  exact r3
end

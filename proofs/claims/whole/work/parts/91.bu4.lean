/-! A MINUTE BURNT: the component's call -/
section
variable {h : xH} {d o : Nat} {g : Nat → Int} {G : Nat → Nat → Int}
theorem l_burnK {q : Int} {f : Nat → Int} (hh : 91 ≤ h.1) (hO : isH o) (hv : vI f) (hq : 0 ≤ q ∧ q < f 0 * f 1) (h2 : f 2 = q) : ∀ (c k : Nat) (T : Nat → Nat → Int), (k : Int) + c = f 5 → hR T o f →
    ∃ T', (∀ i j, i ≠ o + 9 → T' i j = T i j) ∧ (∀ p : Nat, k ≤ p → (p : Int) < f 5 → T' (o + 9) p = if f 3 ≤ 0 then 0 else lgt (f 0) (f 4) (f (6 + p)) q) ∧ (∀ p : Nat, p < k → T' (o + 9) p = T (o + 9) p) ∧
      x_ev (d + 3, n_X2_burnMinute, 50, [.ref o, .int (zI q), .int (zI k)], [], cH h T) = x_ev (d + 3, n_X2_burnMinute, 98, [.ref o, .int (zI q), .int (zI (f 5))], [], cH h T') := by
  have h5 := hv.2.2.2.2.2.2.1
  have h3 := hv.2.2.2.1
  have hsq := vI_sq hv
  intro c
  induction c with
  | zero =>
    intro k T hk hr
    have e9 := hr.2.2.2.2.2.1
    refine ⟨T, fun _ _ _ => rfl, fun p p1 p2 => by omega, fun _ _ => rfl, ?_⟩
    rw [s_X2_burnMinute_50]
    simp (disch := first | omega | assumption) only [s_X2_burnMinute_51, s_X2_burnMinute_52, s_X2_burnMinute_55, c_ho hh hO, c_hg0 hh hO, c_hg1 hh hO, c_hg2 hh hO, c_hg3 hh hO, c_hg4 hh hO, c_hg5 hh hO, c_hg6 hh hO, c_hg7 hh hO, c_hg8 hh hO, c_hg9 hh hO, c_hg10 hh hO, c_hq hh hO, c_hbg0 hh hO, c_hbg1 hh hO, c_hbo hh hO, c_hno hh hO, c_hng0 hh hO, c_hng1 hh hO, c_hng2 hh hO, c_hng3 hh hO, c_hng4 hh hO, c_hdo hh hO, c_hdg0 hh hO, c_hdg1 hh hO, c_hdg2 hh hO, c_hdg3 hh hO, c_hdg4 hh hO, c_hdg5 hh hO, c_hp4 hh hO, c_hp5 hh hO, c_hp6 hh hO, c_hp7 hh hO, c_hp8 hh hO, c_hp9 hh hO, c_hp10 hh hO, c_hbp hh hO, c_hnp hh hO, c_hdp0 hh hO, c_hdp1 hh hO, c_hdp2 hh hO, c_hdp3 hh hO, c_hdp4 hh hO, c_hdp5 hh hO, c_hr3 hh hO, c_hr5 hh hO, c_hr6 hh hO, c_hr7 hh hO, c_hr8 hh hO, c_hr9 hh hO, c_hs3 hh hO, c_hs5 hh hO, c_hs6 hh hO, c_hs7 hh hO, c_hs8 hh hO, c_hs9 hh hO, zI_add, zI_sub, zI_mul, zI_neg, zL_add, zL_sub, zL_mul, Option.bind_some, Option.toList_some, Option.toList_none, List.cons_append, List.nil_append, zI_lt, zI_le, zI_eq, zI_eq0, zI_lt0, zI_le0, zI_0lt, zI_0le, bZ_e0, Int.add_zero, Int.zero_add, e9]
    rw [if_pos (by omega), show (k : Int) = f 5 by omega]
  | succ c ih =>
    intro k T hk hr
    have e9 := hr.2.2.2.2.2.1
    have e8 := hr.2.2.2.2.1
    have e7 := hr.2.2.2.1
    have e := (hr.2.2.2.2.2.2.2.1 k (by omega) (by omega)).1
    have eg := (hv.2.2.2.2.2.2.2.1 k (by omega) (by omega)).1
    obtain ⟨T', r1, r2, r3, r4⟩ := ih (k + 1) (up2 T (o + 9) k (if f 3 ≤ 0 then 0 else lgt (f 0) (f 4) (f (6 + k)) q)) (by omega) (hR_9 (fun i j a1 a2 a3 => up2_n (by omega)) hr)
    refine ⟨T', fun i j hij => (r1 i j hij).trans (up2_n (by omega)), fun p p1 p2 => ?_, fun p p1 => (r3 p (by omega)).trans (up2_n (by omega)), ?_⟩
    · by_cases z : p = k
      · rw [z, r3 k (by omega), up2_s]
      · exact r2 p (by omega) p2
    · refine Eq.trans ?_ r4
      rw [s_X2_burnMinute_50]
      simp (disch := first | omega | assumption) only [s_X2_burnMinute_51, s_X2_burnMinute_52, s_X2_burnMinute_55, c_ho hh hO, c_hg0 hh hO, c_hg1 hh hO, c_hg2 hh hO, c_hg3 hh hO, c_hg4 hh hO, c_hg5 hh hO, c_hg6 hh hO, c_hg7 hh hO, c_hg8 hh hO, c_hg9 hh hO, c_hg10 hh hO, c_hq hh hO, c_hbg0 hh hO, c_hbg1 hh hO, c_hbo hh hO, c_hno hh hO, c_hng0 hh hO, c_hng1 hh hO, c_hng2 hh hO, c_hng3 hh hO, c_hng4 hh hO, c_hdo hh hO, c_hdg0 hh hO, c_hdg1 hh hO, c_hdg2 hh hO, c_hdg3 hh hO, c_hdg4 hh hO, c_hdg5 hh hO, c_hp4 hh hO, c_hp5 hh hO, c_hp6 hh hO, c_hp7 hh hO, c_hp8 hh hO, c_hp9 hh hO, c_hp10 hh hO, c_hbp hh hO, c_hnp hh hO, c_hdp0 hh hO, c_hdp1 hh hO, c_hdp2 hh hO, c_hdp3 hh hO, c_hdp4 hh hO, c_hdp5 hh hO, c_hr3 hh hO, c_hr5 hh hO, c_hr6 hh hO, c_hr7 hh hO, c_hr8 hh hO, c_hr9 hh hO, c_hs3 hh hO, c_hs5 hh hO, c_hs6 hh hO, c_hs7 hh hO, c_hs8 hh hO, c_hs9 hh hO, zI_add, zI_sub, zI_mul, zI_neg, zL_add, zL_sub, zL_mul, Option.bind_some, Option.toList_some, Option.toList_none, List.cons_append, List.nil_append, zI_lt, zI_le, zI_eq, zI_eq0, zI_lt0, zI_le0, zI_0lt, zI_0le, bZ_e0, Int.add_zero, Int.zero_add, e9]
      rw [if_neg (by omega)]
      simp (disch := first | omega | assumption) only [s_X2_burnMinute_58, s_X2_burnMinute_59, s_X2_burnMinute_62, s_X2_burnMinute_63, s_X2_burnMinute_64, s_X2_burnMinute_67, c_ho hh hO, c_hg0 hh hO, c_hg1 hh hO, c_hg2 hh hO, c_hg3 hh hO, c_hg4 hh hO, c_hg5 hh hO, c_hg6 hh hO, c_hg7 hh hO, c_hg8 hh hO, c_hg9 hh hO, c_hg10 hh hO, c_hq hh hO, c_hbg0 hh hO, c_hbg1 hh hO, c_hbo hh hO, c_hno hh hO, c_hng0 hh hO, c_hng1 hh hO, c_hng2 hh hO, c_hng3 hh hO, c_hng4 hh hO, c_hdo hh hO, c_hdg0 hh hO, c_hdg1 hh hO, c_hdg2 hh hO, c_hdg3 hh hO, c_hdg4 hh hO, c_hdg5 hh hO, c_hp4 hh hO, c_hp5 hh hO, c_hp6 hh hO, c_hp7 hh hO, c_hp8 hh hO, c_hp9 hh hO, c_hp10 hh hO, c_hbp hh hO, c_hnp hh hO, c_hdp0 hh hO, c_hdp1 hh hO, c_hdp2 hh hO, c_hdp3 hh hO, c_hdp4 hh hO, c_hdp5 hh hO, c_hr3 hh hO, c_hr5 hh hO, c_hr6 hh hO, c_hr7 hh hO, c_hr8 hh hO, c_hr9 hh hO, c_hs3 hh hO, c_hs5 hh hO, c_hs6 hh hO, c_hs7 hh hO, c_hs8 hh hO, c_hs9 hh hO, zI_add, zI_sub, zI_mul, zI_neg, zL_add, zL_sub, zL_mul, Option.bind_some, Option.toList_some, Option.toList_none, List.cons_append, List.nil_append, zI_lt, zI_le, zI_eq, zI_eq0, zI_lt0, zI_le0, zI_0lt, zI_0le, bZ_e0, Int.add_zero, Int.zero_add, e8]
      by_cases z : f 3 ≤ 0
      · rw [if_pos z, if_pos z]
        simp (disch := first | omega | assumption) only [s_X2_burnMinute_90, s_X2_burnMinute_91, s_X2_burnMinute_92, s_X2_burnMinute_95, c_ho hh hO, c_hg0 hh hO, c_hg1 hh hO, c_hg2 hh hO, c_hg3 hh hO, c_hg4 hh hO, c_hg5 hh hO, c_hg6 hh hO, c_hg7 hh hO, c_hg8 hh hO, c_hg9 hh hO, c_hg10 hh hO, c_hq hh hO, c_hbg0 hh hO, c_hbg1 hh hO, c_hbo hh hO, c_hno hh hO, c_hng0 hh hO, c_hng1 hh hO, c_hng2 hh hO, c_hng3 hh hO, c_hng4 hh hO, c_hdo hh hO, c_hdg0 hh hO, c_hdg1 hh hO, c_hdg2 hh hO, c_hdg3 hh hO, c_hdg4 hh hO, c_hdg5 hh hO, c_hp4 hh hO, c_hp5 hh hO, c_hp6 hh hO, c_hp7 hh hO, c_hp8 hh hO, c_hp9 hh hO, c_hp10 hh hO, c_hbp hh hO, c_hnp hh hO, c_hdp0 hh hO, c_hdp1 hh hO, c_hdp2 hh hO, c_hdp3 hh hO, c_hdp4 hh hO, c_hdp5 hh hO, c_hr3 hh hO, c_hr5 hh hO, c_hr6 hh hO, c_hr7 hh hO, c_hr8 hh hO, c_hr9 hh hO, c_hs3 hh hO, c_hs5 hh hO, c_hs6 hh hO, c_hs7 hh hO, c_hs8 hh hO, c_hs9 hh hO, zI_add, zI_sub, zI_mul, zI_neg, zL_add, zL_sub, zL_mul, Option.bind_some, Option.toList_some, Option.toList_none, List.cons_append, List.nil_append, zI_lt, zI_le, zI_eq, zI_eq0, zI_lt0, zI_le0, zI_0lt, zI_0le, bZ_e0, Int.add_zero, Int.zero_add, Int.toNat_natCast]
        rw [show (k : Int) + 1 = ((k + 1 : Nat) : Int) by omega]
      · rw [if_neg z, if_neg z]
        simp (disch := first | omega | assumption) only [s_X2_burnMinute_70, s_X2_burnMinute_71, s_X2_burnMinute_72, s_X2_burnMinute_75, s_X2_burnMinute_76, s_X2_burnMinute_77, s_X2_burnMinute_80, s_X2_burnMinute_81, s_X2_burnMinute_84, s_X2_burnMinute_87, s_X2_burnMinute_90, s_X2_burnMinute_91, s_X2_burnMinute_92, s_X2_burnMinute_95, c_ho hh hO, c_hg0 hh hO, c_hg1 hh hO, c_hg2 hh hO, c_hg3 hh hO, c_hg4 hh hO, c_hg5 hh hO, c_hg6 hh hO, c_hg7 hh hO, c_hg8 hh hO, c_hg9 hh hO, c_hg10 hh hO, c_hq hh hO, c_hbg0 hh hO, c_hbg1 hh hO, c_hbo hh hO, c_hno hh hO, c_hng0 hh hO, c_hng1 hh hO, c_hng2 hh hO, c_hng3 hh hO, c_hng4 hh hO, c_hdo hh hO, c_hdg0 hh hO, c_hdg1 hh hO, c_hdg2 hh hO, c_hdg3 hh hO, c_hdg4 hh hO, c_hdg5 hh hO, c_hp4 hh hO, c_hp5 hh hO, c_hp6 hh hO, c_hp7 hh hO, c_hp8 hh hO, c_hp9 hh hO, c_hp10 hh hO, c_hbp hh hO, c_hnp hh hO, c_hdp0 hh hO, c_hdp1 hh hO, c_hdp2 hh hO, c_hdp3 hh hO, c_hdp4 hh hO, c_hdp5 hh hO, c_hr3 hh hO, c_hr5 hh hO, c_hr6 hh hO, c_hr7 hh hO, c_hr8 hh hO, c_hr9 hh hO, c_hs3 hh hO, c_hs5 hh hO, c_hs6 hh hO, c_hs7 hh hO, c_hs8 hh hO, c_hs9 hh hO, zI_add, zI_sub, zI_mul, zI_neg, zL_add, zL_sub, zL_mul, Option.bind_some, Option.toList_some, Option.toList_none, List.cons_append, List.nil_append, zI_lt, zI_le, zI_eq, zI_eq0, zI_lt0, zI_le0, zI_0lt, zI_0le, bZ_e0, Int.add_zero, Int.zero_add, Int.toNat_natCast, e, e7, h2, k_light hh hO hr hv]
        rw [show (k : Int) + 1 = ((k + 1 : Nat) : Int) by omega]
theorem mi_r {L : Int → Int} {T : Nat → Nat → Int} (hO : isH o) (hr : hR T o g) (hv : vI g) (hL : ∀ p : Nat, (p : Int) < g 5 → T (o + 9) p = L p) : (∀ p : Nat, (p : Int) < g 5 → rdK g (liK T (o + 9) 0) (lfK T (o + 2)) (ltK T (o + 2)) p = rdG g L p) ∧ hR (mnK T g (o + 9) 0 (o + 2) (o + 2)) o (miG g L) ∧ hK T (mnK T g (o + 9) 0 (o + 2) (o + 2)) o := by
  have h5 := hv.2.2.2.2.2.2.1
  have eL : ∀ p : Nat, (p : Int) < g 5 → liK T (o + 9) 0 p = L p := fun p hp => by
    unfold liK
    rw [Int.zero_add, Int.toNat_natCast]
    exact hL p hp
  have e1 : ∀ p : Nat, (p : Int) < g 5 → rdK g (liK T (o + 9) 0) (lfK T (o + 2)) (ltK T (o + 2)) p = rdG g L p := fun p hp => by
    unfold rdK rdG
    rw [eL p hp]
    refine rdS_congr (by omega) (fun k k0 k1 => ?_) ?_
    · show T (o + 2 + 1) k.toNat = g (31 + k.toNat)
      exact (hr.2.2.2.2.2.2.2.1 k.toNat (by omega) (by omega)).2.2.2.2.2.2
    · show bZ (hasB (T (o + 2) 1) (p : Int) = true) = g (36 + (p : Int).toNat)
      rw [Int.toNat_natCast]
      have el := li_at (k := p) hr.2.2.2.2.2.2.2.2.1 (by omega) hp
      have eb := (hv.2.2.2.2.2.2.2.1 p (by omega) hp).2.2.2.2.2.2.1
      by_cases z : g (36 + p) = 1
      · rw [bZ_t (el.mpr z), z]
      · rw [bZ_f (fun y => z (el.mp y))]
        omega
  have lo : ∀ i j, ¬ (i = o + 2) → ¬ (i = o + 3) → mnK T g (o + 9) 0 (o + 2) (o + 2) i j = T i j := fun i j a1 a2 => by
    unfold mnK
    rw [up2_n (by omega), rmN_n (by omega)]
  refine ⟨e1, ?_, fun i j hij => lo i j (by omega) (by omega)⟩
  obtain ⟨e4, e5, e6, e7, e8, e9, e10, er, el, ek, em⟩ := hr
  unfold hR
  simp (disch := omega) only [lo, mi_o]
  refine ⟨e4, e5, e6, e7, e8, e9, e10, fun p p1 p2 => ?_, fun k hk => ?_, ek, fun m m1 m2 => ?_⟩
  · have r := er p p1 p2
    unfold rdR' at *
    simp (disch := omega) only [lo, mi_o]
    refine ⟨r.1, r.2.1, r.2.2.1, r.2.2.2.1, r.2.2.2.2.1, r.2.2.2.2.2.1, ?_⟩
    rw [mi_31 p1 p2]
    unfold mnK
    rw [up2_n (by omega)]
    unfold rmN
    rw [if_pos ⟨by omega, by omega⟩, e1 p p2]
    show T (o + 2 + 1) (p : Int).toNat - _ = _
    rw [Int.toNat_natCast, ← r.2.2.2.2.2.2]
  · unfold mnK
    rw [up2_s, lvF_b hk _ (by omega)]
    by_cases z : (k : Int) < g 5
    · have e36 : miG g L (36 + k) = ltG g L k := mi_36 (by omega) z
      rw [decide_eq_true (show k < (g 5).toNat by omega), Bool.true_and]
      unfold lbK
      rw [e1 k z, eL k z]
      by_cases y : 0 < L k ∧ 0 < rdG g L k
      · rw [decide_eq_true ⟨y.2, y.1⟩]
        exact (decide_eq_true ⟨by omega, z, e36.trans (if_pos y)⟩).symm
      · rw [decide_eq_false (fun x => y ⟨x.2, x.1⟩)]
        have e0 : miG g L (36 + k) = 0 := e36.trans (if_neg y)
        exact (decide_eq_false (fun x => absurd (e0.symm.trans x.2.2) (by decide))).symm
    · rw [decide_eq_false (show ¬ k < (g 5).toNat by omega), Bool.false_and, decide_eq_false (fun x => z x.2.1)]
  · have r := em m m1 m2
    unfold mnR at *
    simp (disch := omega) only [lo, mi_o]
    exact r
def uBurn (g : Nat → Int) (q : Int) : Int × (Nat → Int) := if 0 ≤ q ∧ q < g 0 * g 1 then (if bes (g 0) (g 4) (g 2) q = true then (sumF (rdG (buG g q) (liG g q)) (g 5).toNat, miG (buG g q) (liG g q)) else (-3, g)) else (-2, g)
theorem u_burn {q : Int} (hh : 91 ≤ h.1) (hO : isH o) (hr : hR G o g) (hv : vI g) (h1 : -2147483648 ≤ q) (h2 : q < 2147483648) : ∃ G', hK G G' o ∧ hR G' o (uBurn g q).2 ∧ x_cl (d + 3) n_X2_burnMinute [.ref o, .int (zI q)] (cH h G) = some (some (.int (zI (uBurn g q).1)), cH h G') := by
  have hsq := vI_sq hv
  have hl := hv.2.2.1
  have h3 := hv.2.2.2.1
  have h5 := hv.2.2.2.2.2.2.1
  have h46 := hv.2.2.2.2.2.2.2.2.1
  have e7 := hr.2.2.2.1
  have ek := hr.2.2.2.2.2.2.2.2.2.1
  unfold uBurn
  simp (disch := first | omega | assumption) only [e_X2_burnMinute, s_X2_burnMinute_0, s_X2_burnMinute_1, s_X2_burnMinute_2, s_X2_burnMinute_5, s_X2_burnMinute_8, s_X2_burnMinute_10, c_ho hh hO, c_hg0 hh hO, c_hg1 hh hO, c_hg2 hh hO, c_hg3 hh hO, c_hg4 hh hO, c_hg5 hh hO, c_hg6 hh hO, c_hg7 hh hO, c_hg8 hh hO, c_hg9 hh hO, c_hg10 hh hO, c_hq hh hO, c_hbg0 hh hO, c_hbg1 hh hO, c_hbo hh hO, c_hno hh hO, c_hng0 hh hO, c_hng1 hh hO, c_hng2 hh hO, c_hng3 hh hO, c_hng4 hh hO, c_hdo hh hO, c_hdg0 hh hO, c_hdg1 hh hO, c_hdg2 hh hO, c_hdg3 hh hO, c_hdg4 hh hO, c_hdg5 hh hO, c_hp4 hh hO, c_hp5 hh hO, c_hp6 hh hO, c_hp7 hh hO, c_hp8 hh hO, c_hp9 hh hO, c_hp10 hh hO, c_hbp hh hO, c_hnp hh hO, c_hdp0 hh hO, c_hdp1 hh hO, c_hdp2 hh hO, c_hdp3 hh hO, c_hdp4 hh hO, c_hdp5 hh hO, c_hr3 hh hO, c_hr5 hh hO, c_hr6 hh hO, c_hr7 hh hO, c_hr8 hh hO, c_hr9 hh hO, c_hs3 hh hO, c_hs5 hh hO, c_hs6 hh hO, c_hs7 hh hO, c_hs8 hh hO, c_hs9 hh hO, zI_add, zI_sub, zI_mul, zI_neg, zL_add, zL_sub, zL_mul, Option.bind_some, Option.toList_some, Option.toList_none, List.cons_append, List.nil_append, zI_lt, zI_le, zI_eq, zI_eq0, zI_lt0, zI_le0, zI_0lt, zI_0le, bZ_e0, Int.add_zero, Int.zero_add, k_hasSquare hh hO hr hv]
  by_cases q1 : 0 ≤ q ∧ q < g 0 * g 1
  · rw [if_pos q1, if_neg (show ¬ ¬ (0 ≤ q ∧ q < g 0 * g 1) from fun z => z q1)]
    simp (disch := first | omega | assumption) only [s_X2_burnMinute_11, s_X2_burnMinute_12, s_X2_burnMinute_13, s_X2_burnMinute_16, c_ho hh hO, c_hg0 hh hO, c_hg1 hh hO, c_hg2 hh hO, c_hg3 hh hO, c_hg4 hh hO, c_hg5 hh hO, c_hg6 hh hO, c_hg7 hh hO, c_hg8 hh hO, c_hg9 hh hO, c_hg10 hh hO, c_hq hh hO, c_hbg0 hh hO, c_hbg1 hh hO, c_hbo hh hO, c_hno hh hO, c_hng0 hh hO, c_hng1 hh hO, c_hng2 hh hO, c_hng3 hh hO, c_hng4 hh hO, c_hdo hh hO, c_hdg0 hh hO, c_hdg1 hh hO, c_hdg2 hh hO, c_hdg3 hh hO, c_hdg4 hh hO, c_hdg5 hh hO, c_hp4 hh hO, c_hp5 hh hO, c_hp6 hh hO, c_hp7 hh hO, c_hp8 hh hO, c_hp9 hh hO, c_hp10 hh hO, c_hbp hh hO, c_hnp hh hO, c_hdp0 hh hO, c_hdp1 hh hO, c_hdp2 hh hO, c_hdp3 hh hO, c_hdp4 hh hO, c_hdp5 hh hO, c_hr3 hh hO, c_hr5 hh hO, c_hr6 hh hO, c_hr7 hh hO, c_hr8 hh hO, c_hr9 hh hO, c_hs3 hh hO, c_hs5 hh hO, c_hs6 hh hO, c_hs7 hh hO, c_hs8 hh hO, c_hs9 hh hO, zI_add, zI_sub, zI_mul, zI_neg, zL_add, zL_sub, zL_mul, Option.bind_some, Option.toList_some, Option.toList_none, List.cons_append, List.nil_append, zI_lt, zI_le, zI_eq, zI_eq0, zI_lt0, zI_le0, zI_0lt, zI_0le, bZ_e0, Int.add_zero, Int.zero_add, k_hasShelf hh hO hr hv]
    by_cases q2 : hasB (g 4) q = true
    · rw [if_neg (show ¬ bes (g 0) (g 4) (g 2) q = true by unfold bes; rw [q2]; simp), if_neg (show ¬ ¬ ((0 ≤ q ∧ q < g 0 * g 1) ∧ hasB (g 4) q = true) from fun z => z ⟨q1, q2⟩)]
      simp (disch := first | omega | assumption) only [s_X2_burnMinute_32, s_X2_burnMinute_34]
      exact ⟨G, hK_r _ _, hr, rfl⟩
    · rw [if_pos (show ¬ ((0 ≤ q ∧ q < g 0 * g 1) ∧ hasB (g 4) q = true) from fun z => q2 z.2)]
      simp (disch := first | omega | assumption) only [s_X2_burnMinute_19, s_X2_burnMinute_20, s_X2_burnMinute_21, s_X2_burnMinute_24, s_X2_burnMinute_25, c_ho hh hO, c_hg0 hh hO, c_hg1 hh hO, c_hg2 hh hO, c_hg3 hh hO, c_hg4 hh hO, c_hg5 hh hO, c_hg6 hh hO, c_hg7 hh hO, c_hg8 hh hO, c_hg9 hh hO, c_hg10 hh hO, c_hq hh hO, c_hbg0 hh hO, c_hbg1 hh hO, c_hbo hh hO, c_hno hh hO, c_hng0 hh hO, c_hng1 hh hO, c_hng2 hh hO, c_hng3 hh hO, c_hng4 hh hO, c_hdo hh hO, c_hdg0 hh hO, c_hdg1 hh hO, c_hdg2 hh hO, c_hdg3 hh hO, c_hdg4 hh hO, c_hdg5 hh hO, c_hp4 hh hO, c_hp5 hh hO, c_hp6 hh hO, c_hp7 hh hO, c_hp8 hh hO, c_hp9 hh hO, c_hp10 hh hO, c_hbp hh hO, c_hnp hh hO, c_hdp0 hh hO, c_hdp1 hh hO, c_hdp2 hh hO, c_hdp3 hh hO, c_hdp4 hh hO, c_hdp5 hh hO, c_hr3 hh hO, c_hr5 hh hO, c_hr6 hh hO, c_hr7 hh hO, c_hr8 hh hO, c_hr9 hh hO, c_hs3 hh hO, c_hs5 hh hO, c_hs6 hh hO, c_hs7 hh hO, c_hs8 hh hO, c_hs9 hh hO, zI_add, zI_sub, zI_mul, zI_neg, zL_add, zL_sub, zL_mul, Option.bind_some, Option.toList_some, Option.toList_none, List.cons_append, List.nil_append, zI_lt, zI_le, zI_eq, zI_eq0, zI_lt0, zI_le0, zI_0lt, zI_0le, bZ_e0, Int.add_zero, Int.zero_add, e7, k_steps hh hO hr hv]
      have hst : 0 ≤ stp (g 0) (g 2) q ∧ stp (g 0) (g 2) q < 1000 := by
        have a := sq_rg (x := g 2) hv.1.1 hv.1.2 hl.1 (by omega)
        have b := sq_rg (x := q) hv.1.1 hv.1.2 q1.1 (by omega)
        have hw := hv.1
        unfold stp
        omega
      simp (disch := first | omega | assumption) only [s_X2_burnMinute_28, s_X2_burnMinute_29, s_X2_burnMinute_32, s_X2_burnMinute_34, c_ho hh hO, c_hg0 hh hO, c_hg1 hh hO, c_hg2 hh hO, c_hg3 hh hO, c_hg4 hh hO, c_hg5 hh hO, c_hg6 hh hO, c_hg7 hh hO, c_hg8 hh hO, c_hg9 hh hO, c_hg10 hh hO, c_hq hh hO, c_hbg0 hh hO, c_hbg1 hh hO, c_hbo hh hO, c_hno hh hO, c_hng0 hh hO, c_hng1 hh hO, c_hng2 hh hO, c_hng3 hh hO, c_hng4 hh hO, c_hdo hh hO, c_hdg0 hh hO, c_hdg1 hh hO, c_hdg2 hh hO, c_hdg3 hh hO, c_hdg4 hh hO, c_hdg5 hh hO, c_hp4 hh hO, c_hp5 hh hO, c_hp6 hh hO, c_hp7 hh hO, c_hp8 hh hO, c_hp9 hh hO, c_hp10 hh hO, c_hbp hh hO, c_hnp hh hO, c_hdp0 hh hO, c_hdp1 hh hO, c_hdp2 hh hO, c_hdp3 hh hO, c_hdp4 hh hO, c_hdp5 hh hO, c_hr3 hh hO, c_hr5 hh hO, c_hr6 hh hO, c_hr7 hh hO, c_hr8 hh hO, c_hr9 hh hO, c_hs3 hh hO, c_hs5 hh hO, c_hs6 hh hO, c_hs7 hh hO, c_hs8 hh hO, c_hs9 hh hO, zI_add, zI_sub, zI_mul, zI_neg, zL_add, zL_sub, zL_mul, Option.bind_some, Option.toList_some, Option.toList_none, List.cons_append, List.nil_append, zI_lt, zI_le, zI_eq, zI_eq0, zI_lt0, zI_le0, zI_0lt, zI_0le, bZ_e0, Int.add_zero, Int.zero_add]
      have hbs : bes (g 0) (g 4) (g 2) q = true ↔ stp (g 0) (g 2) q ≤ 1 := by
        unfold bes
        rw [Bool.eq_false_iff.mpr q2]
        simp
        omega
      by_cases q3 : stp (g 0) (g 2) q ≤ 1
      · rw [if_pos q3, if_pos (hbs.mpr q3)]
        obtain ⟨kr, kk⟩ := ke_all hr hv
        have hkp := kp_v hv
        have hb : hasB (g 4) q = false := Bool.eq_false_iff.mpr q2
        generalize hK' : (if G (o + 4) 4 = 12 then keT (drT G o) o 11 else keT G o (G (o + 4) 4).toNat) = K at kr kk
        simp (disch := first | omega | assumption) only [s_X2_burnMinute_35, s_X2_burnMinute_36, s_X2_burnMinute_39, s_X2_burnMinute_40, s_X2_burnMinute_43, s_X2_burnMinute_44, s_X2_burnMinute_45, s_X2_burnMinute_48, s_X2_burnMinute_49, c_ho hh hO, c_hg0 hh hO, c_hg1 hh hO, c_hg2 hh hO, c_hg3 hh hO, c_hg4 hh hO, c_hg5 hh hO, c_hg6 hh hO, c_hg7 hh hO, c_hg8 hh hO, c_hg9 hh hO, c_hg10 hh hO, c_hq hh hO, c_hbg0 hh hO, c_hbg1 hh hO, c_hbo hh hO, c_hno hh hO, c_hng0 hh hO, c_hng1 hh hO, c_hng2 hh hO, c_hng3 hh hO, c_hng4 hh hO, c_hdo hh hO, c_hdg0 hh hO, c_hdg1 hh hO, c_hdg2 hh hO, c_hdg3 hh hO, c_hdg4 hh hO, c_hdg5 hh hO, c_hp4 hh hO, c_hp5 hh hO, c_hp6 hh hO, c_hp7 hh hO, c_hp8 hh hO, c_hp9 hh hO, c_hp10 hh hO, c_hbp hh hO, c_hnp hh hO, c_hdp0 hh hO, c_hdp1 hh hO, c_hdp2 hh hO, c_hdp3 hh hO, c_hdp4 hh hO, c_hdp5 hh hO, c_hr3 hh hO, c_hr5 hh hO, c_hr6 hh hO, c_hr7 hh hO, c_hr8 hh hO, c_hr9 hh hO, c_hs3 hh hO, c_hs5 hh hO, c_hs6 hh hO, c_hs7 hh hO, c_hs8 hh hO, c_hs9 hh hO, zI_add, zI_sub, zI_mul, zI_neg, zL_add, zL_sub, zL_mul, Option.bind_some, Option.toList_some, Option.toList_none, List.cons_append, List.nil_append, zI_lt, zI_le, zI_eq, zI_eq0, zI_lt0, zI_le0, zI_0lt, zI_0le, bZ_e0, Int.add_zero, Int.zero_add, k_keep hh hO, hK']
        have r1 := bu_r (q := q) kr
        have l0 : up1 (kpG g) 2 q 0 = g 0 := (up1_n (by decide)).trans (kp_lo (by decide))
        have l1 : up1 (kpG g) 2 q 1 = g 1 := (up1_n (by decide)).trans (kp_lo (by decide))
        have l3 : up1 (kpG g) 2 q 3 = g 3 := (up1_n (by decide)).trans (kp_lo (by decide))
        have l4 : up1 (kpG g) 2 q 4 = g 4 := (up1_n (by decide)).trans (kp_lo (by decide))
        have l5 : up1 (kpG g) 2 q 5 = g 5 := (up1_n (by decide)).trans (kp_lo (by decide))
        have v1 : vI (up1 (kpG g) 2 q) := by
          have := uLamp_v (q := q) hkp
          unfold uLamp at this
          rw [kp_lo (show 0 < 46 by decide), kp_lo (show 1 < 46 by decide), kp_lo (show 4 < 46 by decide), if_pos q1, if_neg q2] at this
          exact this
        obtain ⟨T', t1, t2, t3, t4⟩ := l_burnK (d := d) (h := h) (q := q) hh hO v1 (by rw [l0, l1]; exact q1) up1_s (g 5).toNat 0 (up2 K o 7 q) (by rw [l5]; omega) r1
        rw [l5] at t4
        refine Exists.imp (fun (G' : Nat → Nat → Int) (y : hK G G' o ∧ hR G' o (miG (buG g q) (liG g q)) ∧ x_ev (d + 3, n_X2_burnMinute, 98, [.ref o, .int (zI q), .int (zI (g 5))], [], cH h T') = some (some (.int (zI (sumF (rdG (buG g q) (liG g q)) (g 5).toNat))), cH h G')) => ⟨y.1, y.2.1, Eq.trans t4 y.2.2⟩) ?_
        have r2 : hR T' o (up1 (kpG g) 2 q) := hR_9 (fun i j a1 a2 a3 => t1 i j a3) r1
        have e8 : T' o 8 = g 3 := r2.2.2.2.2.1.trans l3
        have em : max 0 (g 3 - 1) = g 3 - (if g 3 ≤ 0 then 0 else 1) := by split <;> omega
        have r3 : hR (up2 T' o 8 (max 0 (g 3 - 1))) o (buG g q) := by
          rw [em]
          exact oi_r r2
        have v3 := bu_v (q := q) hv q1 hb
        have b5 : buG g q 5 = g 5 := bu_lo (by decide) (by decide) (by decide)
        have hL : ∀ p : Nat, (p : Int) < buG g q 5 → up2 T' o 8 (max 0 (g 3 - 1)) (o + 9) p = liG g q p := fun p hp => by
          rw [up2_n (by omega), t2 p (by omega) (by omega), l3, l0, l4]
          unfold liG
          rw [up1_n (by omega), kp_lo (by omega), Int.toNat_natCast]
        obtain ⟨m1, m2, m3⟩ := mi_r hO r3 v3 hL
        have hmi : miK (up2 T' o 8 (max 0 (g 3 - 1))) o (buG g q) (o + 9) 5 0 (o + 2) (o + 2) := by
          have hO1 := hO.1
          refine ⟨⟨by omega, by decide, fun g => hO.2 g 9 (by decide)⟩, isB_h hO, isB_h hO, Or.inl rfl, by omega, by omega, by omega, by omega, by omega, fun p hp => ⟨?_, ?_⟩⟩
          · unfold liK
            rw [Int.zero_add, Int.toNat_natCast, hL p hp]
            unfold liG
            split
            · omega
            · have := lgt_rg (g 0) (g 4) (g (6 + (p : Int).toNat)) q
              omega
          · unfold lfK
            rw [Int.toNat_natCast]
            have a := (r3.2.2.2.2.2.2.2.1 p (by omega) hp).2.2.2.2.2.2
            have b := (v3.2.2.2.2.2.2.2.1 p (by omega) hp).2.2.2.2.2.1
            rw [show o + 2 + 1 = o + 3 from rfl, a]
            exact b
        have hsm : sumF (rdK (buG g q) (liK (up2 T' o 8 (max 0 (g 3 - 1))) (o + 9) 0) (lfK (up2 T' o 8 (max 0 (g 3 - 1))) (o + 2)) (ltK (up2 T' o 8 (max 0 (g 3 - 1))) (o + 2))) (buG g q 5).toNat = sumF (rdG (buG g q) (liG g q)) (g 5).toNat := by
          rw [b5]
          exact sumF_congr _ fun k hk => m1 k (by omega)
        refine ⟨_, ?_, m2, ?_⟩
        · refine hK_t kk (hK_t ?_ m3)
          intro i j hij
          rw [up2_n (by omega), t1 i j (by omega), up2_n (by omega)]
        · have km := k_minute (d := d) hh hO r3 v3 hmi
          rw [hsm] at km
          simp (disch := first | omega | assumption) only [s_X2_burnMinute_98, s_X2_burnMinute_99, s_X2_burnMinute_100, s_X2_burnMinute_101, s_X2_burnMinute_104, s_X2_burnMinute_105, s_X2_burnMinute_106, c_ho hh hO, c_hg0 hh hO, c_hg1 hh hO, c_hg2 hh hO, c_hg3 hh hO, c_hg4 hh hO, c_hg5 hh hO, c_hg6 hh hO, c_hg7 hh hO, c_hg8 hh hO, c_hg9 hh hO, c_hg10 hh hO, c_hq hh hO, c_hbg0 hh hO, c_hbg1 hh hO, c_hbo hh hO, c_hno hh hO, c_hng0 hh hO, c_hng1 hh hO, c_hng2 hh hO, c_hng3 hh hO, c_hng4 hh hO, c_hdo hh hO, c_hdg0 hh hO, c_hdg1 hh hO, c_hdg2 hh hO, c_hdg3 hh hO, c_hdg4 hh hO, c_hdg5 hh hO, c_hp4 hh hO, c_hp5 hh hO, c_hp6 hh hO, c_hp7 hh hO, c_hp8 hh hO, c_hp9 hh hO, c_hp10 hh hO, c_hbp hh hO, c_hnp hh hO, c_hdp0 hh hO, c_hdp1 hh hO, c_hdp2 hh hO, c_hdp3 hh hO, c_hdp4 hh hO, c_hdp5 hh hO, c_hr3 hh hO, c_hr5 hh hO, c_hr6 hh hO, c_hr7 hh hO, c_hr8 hh hO, c_hr9 hh hO, c_hs3 hh hO, c_hs5 hh hO, c_hs6 hh hO, c_hs7 hh hO, c_hs8 hh hO, c_hs9 hh hO, zI_add, zI_sub, zI_mul, zI_neg, zL_add, zL_sub, zL_mul, Option.bind_some, Option.toList_some, Option.toList_none, List.cons_append, List.nil_append, zI_lt, zI_le, zI_eq, zI_eq0, zI_lt0, zI_le0, zI_0lt, zI_0le, bZ_e0, Int.add_zero, Int.zero_add, e8, zI_max]
          simp (disch := first | omega | assumption) only [s_X2_burnMinute_109, s_X2_burnMinute_112, s_X2_burnMinute_113, s_X2_burnMinute_114, s_X2_burnMinute_117, s_X2_burnMinute_118, s_X2_burnMinute_119, s_X2_burnMinute_122, s_X2_burnMinute_123, s_X2_burnMinute_126, s_X2_burnMinute_129, c_ho hh hO, c_hg0 hh hO, c_hg1 hh hO, c_hg2 hh hO, c_hg3 hh hO, c_hg4 hh hO, c_hg5 hh hO, c_hg6 hh hO, c_hg7 hh hO, c_hg8 hh hO, c_hg9 hh hO, c_hg10 hh hO, c_hq hh hO, c_hbg0 hh hO, c_hbg1 hh hO, c_hbo hh hO, c_hno hh hO, c_hng0 hh hO, c_hng1 hh hO, c_hng2 hh hO, c_hng3 hh hO, c_hng4 hh hO, c_hdo hh hO, c_hdg0 hh hO, c_hdg1 hh hO, c_hdg2 hh hO, c_hdg3 hh hO, c_hdg4 hh hO, c_hdg5 hh hO, c_hp4 hh hO, c_hp5 hh hO, c_hp6 hh hO, c_hp7 hh hO, c_hp8 hh hO, c_hp9 hh hO, c_hp10 hh hO, c_hbp hh hO, c_hnp hh hO, c_hdp0 hh hO, c_hdp1 hh hO, c_hdp2 hh hO, c_hdp3 hh hO, c_hdp4 hh hO, c_hdp5 hh hO, c_hr3 hh hO, c_hr5 hh hO, c_hr6 hh hO, c_hr7 hh hO, c_hr8 hh hO, c_hr9 hh hO, c_hs3 hh hO, c_hs5 hh hO, c_hs6 hh hO, c_hs7 hh hO, c_hs8 hh hO, c_hs9 hh hO, zI_add, zI_sub, zI_mul, zI_neg, zL_add, zL_sub, zL_mul, Option.bind_some, Option.toList_some, Option.toList_none, List.cons_append, List.nil_append, zI_lt, zI_le, zI_eq, zI_eq0, zI_lt0, zI_le0, zI_0lt, zI_0le, bZ_e0, Int.add_zero, Int.zero_add, km]
      · rw [if_neg q3, if_neg (fun y => q3 (hbs.mp y))]
        exact ⟨G, hK_r _ _, hr, rfl⟩
  · rw [if_neg q1, if_pos q1]
    exact ⟨G, hK_r _ _, hr, rfl⟩
theorem uBurn_rg {q : Int} (hv : vI g) : -3 ≤ (uBurn g q).1 ∧ (uBurn g q).1 ≤ 1000 := by
  have h5 := hv.2.2.2.2.2.2.1
  unfold uBurn
  split
  next q1 =>
    split
    next q2 =>
      have hb : hasB (g 4) q = false := by
        unfold bes at q2
        simp at q2
        exact q2.2
      have v3 := bu_v (q := q) hv q1 hb
      have b5 : buG g q 5 = g 5 := bu_lo (by decide) (by decide) (by decide)
      have := sumF_rg (f := rdG (buG g q) (liG g q)) (B := 20) (g 5).toNat fun k hk => by
        have a := rdG_rg (L := liG g q) (p := k) v3 (by omega) (by omega)
        have b := (v3.2.2.2.2.2.2.2.1 k (by omega) (by omega)).2.2.2.2.2.1
        omega
      dsimp only
      omega
    · dsimp only; omega
  · dsimp only; omega
theorem o_burn {q : Int} (hh : 91 ≤ h.1) (hr : hR G 1 g) (hv : vI g) (h1 : -2147483648 ≤ q) (h2 : q < 2147483648) : ∃ G', o_S G G' (uBurn g q) ∧ x_cl (d + 4) n_X7_burn [.ref 0, .int (zI q)] (cH h G) = some (some (.int (zI (uBurn g q).1)), cH h G') := by
  have hO := isH_1
  obtain ⟨F, f1, f2, f3⟩ := u_burn (d := d) (q := q) hh hO hr hv h1 h2
  have rg := uBurn_rg (q := q) hv
  refine ⟨_, ⟨F, f1, f2, rfl⟩, ?_⟩
  simp (disch := first | omega | assumption) only [e_X7_burn, s_X7_burn_0, s_X7_burn_1, s_X7_burn_2, s_X7_burn_5, s_X7_burn_6, s_X7_burn_9, s_X7_burn_12, c_oo hh, c_og0 hh, c_og1 hh, c_og2 hh, c_og3 hh, c_og4 hh, c_og5 hh, c_og6 hh, c_og7 hh, c_og8 hh, c_og9 hh, c_ko hh, c_kg0 hh, c_kg1 hh, c_kg2 hh, c_kg3 hh, c_kg4 hh, c_kg5 hh, c_kg6 hh, c_wo hh, c_wg0 hh, c_wg1 hh, c_wg2 hh, c_wg3 hh, c_wg4 hh, c_wg5 hh, c_wg6 hh, c_wg7 hh, c_wg8 hh, c_po hh, c_pg0 hh, c_pg1 hh, c_pg2 hh, c_pg3 hh, c_pg4 hh, c_pg5 hh, c_pg6 hh, c_pg7 hh, c_q31 hh, c_q39 hh, c_op7 hh, c_op8 hh, c_op9 hh, c_kp0 hh, c_kp1 hh, c_kp5 hh, c_kp6 hh, c_wp1 hh, c_wp2 hh, c_wp3 hh, c_wp7 hh, c_wp8 hh, c_pp0 hh, c_pp1 hh, c_pp2 hh, c_pp6 hh, c_pp7 hh, c_r32 hh, c_r34 hh, c_r35 hh, c_r36 hh, c_r38 hh, c_r40 hh, c_r41 hh, c_r57 hh, c_r58 hh, c_s32 hh, c_s34 hh, c_s35 hh, c_s36 hh, c_s38 hh, c_s40 hh, c_s41 hh, c_s57 hh, c_s58 hh, c_ho hh hO, c_hg0 hh hO, c_hg1 hh hO, c_hg2 hh hO, c_hg3 hh hO, c_hg4 hh hO, c_hg5 hh hO, c_hg6 hh hO, c_hg7 hh hO, c_hg8 hh hO, c_hg9 hh hO, c_hg10 hh hO, c_hq hh hO, c_hbg0 hh hO, c_hbg1 hh hO, c_hbo hh hO, c_hno hh hO, c_hng0 hh hO, c_hng1 hh hO, c_hng2 hh hO, c_hng3 hh hO, c_hng4 hh hO, c_hdo hh hO, c_hdg0 hh hO, c_hdg1 hh hO, c_hdg2 hh hO, c_hdg3 hh hO, c_hdg4 hh hO, c_hdg5 hh hO, c_hp4 hh hO, c_hp5 hh hO, c_hp6 hh hO, c_hp7 hh hO, c_hp8 hh hO, c_hp9 hh hO, c_hp10 hh hO, c_hbp hh hO, c_hnp hh hO, c_hdp0 hh hO, c_hdp1 hh hO, c_hdp2 hh hO, c_hdp3 hh hO, c_hdp4 hh hO, c_hdp5 hh hO, c_hr3 hh hO, c_hr5 hh hO, c_hr6 hh hO, c_hr7 hh hO, c_hr8 hh hO, c_hr9 hh hO, c_hs3 hh hO, c_hs5 hh hO, c_hs6 hh hO, c_hs7 hh hO, c_hs8 hh hO, c_hs9 hh hO, zI_add, zI_sub, zI_mul, zI_neg, zL_add, zL_sub, zL_mul, Option.bind_some, Option.toList_some, Option.toList_none, List.cons_append, List.nil_append, zI_lt, zI_le, zI_eq, zI_eq0, zI_lt0, zI_le0, zI_0lt, zI_0le, bZ_e0, Int.add_zero, Int.zero_add, f3, k_counted hh]
end

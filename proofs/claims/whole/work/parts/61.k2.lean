/-! THE COMPONENT, part 2: the setters of a hall -/
section
variable {h : xH} {G : Nat → Nat → Int} {d o : Nat} {g : Nat → Int}
/-- only the hall's own cells -/
def hK (G G' : Nat → Nat → Int) (o : Nat) : Prop := ∀ i j, ¬ (o ≤ i ∧ i < o + 15) → G' i j = G i j
theorem hK_r (G : Nat → Nat → Int) (o : Nat) : hK G G o := fun _ _ _ => rfl
theorem hK_t {G F E : Nat → Nat → Int} (p : hK G F o) (q : hK F E o) : hK G E o := fun i j hj => (q i j hj).trans (p i j hj)
theorem hK_u {i j : Nat} {x : Int} (hi : o ≤ i ∧ i < o + 15) : hK G (up2 G i j x) o := fun i' j' hj => up2_n (by omega)
def suT (G : Nat → Nat → Int) (o : Nat) (w hh : Int) : Nat → Nat → Int := up2 (up2 (up2 (up2 (up2 (up2 (up2 (up2 (up2 G o 4 w) o 5 hh) o 6 (w * hh)) o 7 0) o 8 8) o 9 0) o 10 0) (o + 2) 1 0) (o + 4) 4 0
theorem suT_k {w hh : Int} : hK G (suT G o w hh) o := hK_t (hK_t (hK_t (hK_t (hK_t (hK_t (hK_t (hK_t (hK_u (by omega)) (hK_u (by omega))) (hK_u (by omega))) (hK_u (by omega))) (hK_u (by omega))) (hK_u (by omega))) (hK_u (by omega))) (hK_u (by omega))) (hK_u (by omega))
theorem suT_r {w hh : Int} : hR (suT G o w hh) o (anG w hh) := by
  unfold hR suT
  simp (disch := omega) only [up2_n, up2_s]
  refine ⟨rfl, rfl, rfl, rfl, rfl, rfl, rfl, fun p h1 h2 => ?_, fun k hk => ?_, rfl, fun m h1 h2 => ?_⟩
  · exact absurd (show (p : Int) < 0 from h2) (by omega)
  · rw [hasB_0 hk]
    refine (decide_eq_false fun z => ?_).symm
    exact absurd (show (k : Int) < 0 from z.2.1) (by omega)
  · exact absurd (show (m : Int) < 0 from h2) (by omega)
theorem k_setUp {w hh' : Int} (hh : 91 ≤ h.1) (hO : isH o) (h1 : -2147483648 ≤ w) (h2 : w < 2147483648) (h3 : -2147483648 ≤ hh') (h4 : hh' < 2147483648) : x_cl d n_X2_setUp [.ref o, .int (zI w), .int (zI hh')] (cH h G) = if (2 ≤ w ∧ w ≤ 5) ∧ (2 ≤ hh' ∧ hh' ≤ 5) then some (some (.int (zI (w * hh'))), cH h (suT G o w hh')) else some (some (.int (zI (-2))), cH h G) := by
  have e : (suT G o w hh') o 6 = w * hh' := by
    unfold suT
    simp (disch := omega) only [up2_n, up2_s]
  unfold suT at e ⊢
  simp (disch := first | omega | assumption) only [e_X2_setUp, s_X2_setUp_0, s_X2_setUp_1, s_X2_setUp_2, s_X2_setUp_5, s_X2_setUp_6, s_X2_setUp_7, s_X2_setUp_10, s_X2_setUp_11, s_X2_setUp_12, s_X2_setUp_15, s_X2_setUp_16, s_X2_setUp_17, s_X2_setUp_20, s_X2_setUp_22, s_X2_setUp_23, s_X2_setUp_24, s_X2_setUp_25, s_X2_setUp_28, s_X2_setUp_29, s_X2_setUp_30, s_X2_setUp_33, s_X2_setUp_34, s_X2_setUp_35, s_X2_setUp_36, s_X2_setUp_37, s_X2_setUp_40, s_X2_setUp_41, s_X2_setUp_42, s_X2_setUp_45, s_X2_setUp_46, s_X2_setUp_48, s_X2_setUp_51, s_X2_setUp_52, s_X2_setUp_53, s_X2_setUp_56, s_X2_setUp_57, s_X2_setUp_58, s_X2_setUp_61, s_X2_setUp_62, s_X2_setUp_65, s_X2_setUp_66, s_X2_setUp_69, s_X2_setUp_70, s_X2_setUp_73, s_X2_setUp_74, s_X2_setUp_77, s_X2_setUp_78, s_X2_setUp_81, c_ho hh hO, c_hg0 hh hO, c_hg1 hh hO, c_hg2 hh hO, c_hg3 hh hO, c_hg4 hh hO, c_hg5 hh hO, c_hg6 hh hO, c_hg7 hh hO, c_hg8 hh hO, c_hg9 hh hO, c_hg10 hh hO, c_hq hh hO, c_hbg0 hh hO, c_hbg1 hh hO, c_hbo hh hO, c_hno hh hO, c_hng0 hh hO, c_hng1 hh hO, c_hng2 hh hO, c_hng3 hh hO, c_hng4 hh hO, c_hdo hh hO, c_hdg0 hh hO, c_hdg1 hh hO, c_hdg2 hh hO, c_hdg3 hh hO, c_hdg4 hh hO, c_hdg5 hh hO, c_hp4 hh hO, c_hp5 hh hO, c_hp6 hh hO, c_hp7 hh hO, c_hp8 hh hO, c_hp9 hh hO, c_hp10 hh hO, c_hbp hh hO, c_hnp hh hO, c_hdp0 hh hO, c_hdp1 hh hO, c_hdp2 hh hO, c_hdp3 hh hO, c_hdp4 hh hO, c_hdp5 hh hO, c_hr3 hh hO, c_hr5 hh hO, c_hr6 hh hO, c_hr7 hh hO, c_hr8 hh hO, c_hr9 hh hO, c_hs3 hh hO, c_hs5 hh hO, c_hs6 hh hO, c_hs7 hh hO, c_hs8 hh hO, c_hs9 hh hO, zI_add, zI_sub, zI_mul, zI_neg, zL_add, zL_sub, zL_mul, Option.bind_some, Option.toList_some, Option.toList_none, List.cons_append, List.nil_append, zI_lt, zI_le, zI_eq, zI_eq0, zI_lt0, zI_le0, zI_0lt, zI_0le, bZ_e0, Int.add_zero, Int.zero_add, up2_n, up2_s]
  by_cases q1 : w < 2
  · rw [if_pos q1, if_neg (by omega)]
  · rw [if_neg q1]
    by_cases q2 : 5 < w
    · rw [if_pos q2, if_neg (by omega)]
    · rw [if_neg q2]
      by_cases q3 : hh' < 2
      · rw [if_pos q3, if_neg (by omega)]
      · rw [if_neg q3]
        by_cases q4 : hh' ≤ 5
        · rw [if_pos q4, if_pos (by omega)]
        · rw [if_neg q4, if_neg (by omega)]
theorem u_setUp {w hh' : Int} (hh : 91 ≤ h.1) (hO : isH o) (hr : hR G o g) (h1 : -2147483648 ≤ w) (h2 : w < 2147483648) (h3 : -2147483648 ≤ hh') (h4 : hh' < 2147483648) : ∃ G', hK G G' o ∧ hR G' o (uHall g w hh').2 ∧ x_cl d n_X2_setUp [.ref o, .int (zI w), .int (zI hh')] (cH h G) = some (some (.int (zI (uHall g w hh').1)), cH h G') := by
  rw [k_setUp hh hO h1 h2 h3 h4]
  unfold uHall
  by_cases q : (2 ≤ w ∧ w ≤ 5) ∧ (2 ≤ hh' ∧ hh' ≤ 5)
  · rw [if_pos q, if_pos q]; exact ⟨_, suT_k, suT_r, rfl⟩
  · rw [if_neg q, if_neg q]; exact ⟨_, hK_r _ _, hr, rfl⟩
theorem u_pourOil {n : Int} (hh : 91 ≤ h.1) (hO : isH o) (hr : hR G o g) (h1 : -2147483648 ≤ n) (h2 : n < 2147483648) : ∃ G', hK G G' o ∧ hR G' o (uOil g n).2 ∧ x_cl d n_X2_pourOil [.ref o, .int (zI n)] (cH h G) = some (some (.int (zI (uOil g n).1)), cH h G') := by
  obtain ⟨e4, e5, e6, e7, e8, e9, e10, er, el, ek, em⟩ := hr
  simp (disch := first | omega | assumption) only [e_X2_pourOil, s_X2_pourOil_0, s_X2_pourOil_1, s_X2_pourOil_4, s_X2_pourOil_5, s_X2_pourOil_7, s_X2_pourOil_10, s_X2_pourOil_12, s_X2_pourOil_13, s_X2_pourOil_14, s_X2_pourOil_17, s_X2_pourOil_18, s_X2_pourOil_19, s_X2_pourOil_20, s_X2_pourOil_23, s_X2_pourOil_24, c_ho hh hO, c_hg0 hh hO, c_hg1 hh hO, c_hg2 hh hO, c_hg3 hh hO, c_hg4 hh hO, c_hg5 hh hO, c_hg6 hh hO, c_hg7 hh hO, c_hg8 hh hO, c_hg9 hh hO, c_hg10 hh hO, c_hq hh hO, c_hbg0 hh hO, c_hbg1 hh hO, c_hbo hh hO, c_hno hh hO, c_hng0 hh hO, c_hng1 hh hO, c_hng2 hh hO, c_hng3 hh hO, c_hng4 hh hO, c_hdo hh hO, c_hdg0 hh hO, c_hdg1 hh hO, c_hdg2 hh hO, c_hdg3 hh hO, c_hdg4 hh hO, c_hdg5 hh hO, c_hp4 hh hO, c_hp5 hh hO, c_hp6 hh hO, c_hp7 hh hO, c_hp8 hh hO, c_hp9 hh hO, c_hp10 hh hO, c_hbp hh hO, c_hnp hh hO, c_hdp0 hh hO, c_hdp1 hh hO, c_hdp2 hh hO, c_hdp3 hh hO, c_hdp4 hh hO, c_hdp5 hh hO, c_hr3 hh hO, c_hr5 hh hO, c_hr6 hh hO, c_hr7 hh hO, c_hr8 hh hO, c_hr9 hh hO, c_hs3 hh hO, c_hs5 hh hO, c_hs6 hh hO, c_hs7 hh hO, c_hs8 hh hO, c_hs9 hh hO, zI_add, zI_sub, zI_mul, zI_neg, zL_add, zL_sub, zL_mul, Option.bind_some, Option.toList_some, Option.toList_none, List.cons_append, List.nil_append, zI_lt, zI_le, zI_eq, zI_eq0, zI_lt0, zI_le0, zI_0lt, zI_0le, bZ_e0, Int.add_zero, Int.zero_add, e8]
  unfold uOil
  by_cases q : 0 ≤ n ∧ n ≤ 12
  · rw [if_neg (show ¬ n < 0 by omega), if_pos q.2, if_pos q]
    refine ⟨_, hK_u (by omega), ?_, rfl⟩
    unfold hR rdR' mnR
    simp (disch := omega) only [up2_n, up2_s, up1_n, up1_s]
    exact ⟨e4, e5, e6, e7, trivial, e9, e10, er, el, ek, em⟩
  · rw [if_neg q]
    refine ⟨_, hK_r _ _, ⟨e4, e5, e6, e7, e8, e9, e10, er, el, ek, em⟩, ?_⟩
    by_cases q1 : n < 0
    · rw [if_pos q1]
    · rw [if_neg q1, if_neg (by omega)]
def asH (v : Int) : Int := if v = -10 then -2 else if v = -20 then -3 else v
theorem u_putLamp {q : Int} (hh : 91 ≤ h.1) (hO : isH o) (hr : hR G o g) (hv : vI g) (h1 : -2147483648 ≤ q) (h2 : q < 2147483648) : ∃ G', hK G G' o ∧ hR G' o (uLamp g q).2 ∧ x_cl (d + 1) n_X2_putLamp [.ref o, .int (zI q)] (cH h G) = some (some (.int (zI (asH (uLamp g q).1))), cH h G') := by
  have hr' := hr
  have hl := hv.2.2.1
  obtain ⟨e4, e5, e6, e7, e8, e9, e10, er, el, ek, em⟩ := hr
  simp (disch := first | omega | assumption) only [e_X2_putLamp, s_X2_putLamp_0, s_X2_putLamp_1, s_X2_putLamp_2, s_X2_putLamp_5, s_X2_putLamp_8, s_X2_putLamp_10, s_X2_putLamp_11, s_X2_putLamp_12, s_X2_putLamp_13, s_X2_putLamp_16, s_X2_putLamp_19, s_X2_putLamp_21, s_X2_putLamp_22, s_X2_putLamp_23, s_X2_putLamp_26, s_X2_putLamp_27, s_X2_putLamp_28, s_X2_putLamp_29, s_X2_putLamp_32, s_X2_putLamp_33, c_ho hh hO, c_hg0 hh hO, c_hg1 hh hO, c_hg2 hh hO, c_hg3 hh hO, c_hg4 hh hO, c_hg5 hh hO, c_hg6 hh hO, c_hg7 hh hO, c_hg8 hh hO, c_hg9 hh hO, c_hg10 hh hO, c_hq hh hO, c_hbg0 hh hO, c_hbg1 hh hO, c_hbo hh hO, c_hno hh hO, c_hng0 hh hO, c_hng1 hh hO, c_hng2 hh hO, c_hng3 hh hO, c_hng4 hh hO, c_hdo hh hO, c_hdg0 hh hO, c_hdg1 hh hO, c_hdg2 hh hO, c_hdg3 hh hO, c_hdg4 hh hO, c_hdg5 hh hO, c_hp4 hh hO, c_hp5 hh hO, c_hp6 hh hO, c_hp7 hh hO, c_hp8 hh hO, c_hp9 hh hO, c_hp10 hh hO, c_hbp hh hO, c_hnp hh hO, c_hdp0 hh hO, c_hdp1 hh hO, c_hdp2 hh hO, c_hdp3 hh hO, c_hdp4 hh hO, c_hdp5 hh hO, c_hr3 hh hO, c_hr5 hh hO, c_hr6 hh hO, c_hr7 hh hO, c_hr8 hh hO, c_hr9 hh hO, c_hs3 hh hO, c_hs5 hh hO, c_hs6 hh hO, c_hs7 hh hO, c_hs8 hh hO, c_hs9 hh hO, zI_add, zI_sub, zI_mul, zI_neg, zL_add, zL_sub, zL_mul, Option.bind_some, Option.toList_some, Option.toList_none, List.cons_append, List.nil_append, zI_lt, zI_le, zI_eq, zI_eq0, zI_lt0, zI_le0, zI_0lt, zI_0le, bZ_e0, Int.add_zero, Int.zero_add, e7, k_hasSquare hh hO hr' hv, k_hasShelf hh hO hr' hv]
  unfold uLamp asH
  by_cases q1 : 0 ≤ q ∧ q < g 0 * g 1
  · rw [if_pos q1]
    by_cases q2 : hasB (g 4) q = true
    · rw [if_pos q2]
      refine ⟨_, hK_r _ _, hr', ?_⟩
      rw [if_neg (fun z => z q1), if_neg (fun z => z ⟨q1, q2⟩)]
      rfl
    · rw [if_neg q2]
      refine ⟨up2 G o 7 q, hK_u (by omega), ?_, ?_⟩
      · unfold hR rdR' mnR
        simp (disch := omega) only [up2_n, up2_s, up1_n, up1_s]
        exact ⟨e4, e5, e6, trivial, e8, e9, e10, er, el, ek, em⟩
      · rw [if_neg (fun z => z q1), if_pos (fun z => q2 z.2), if_neg (show ¬ g 2 = -10 by omega), if_neg (show ¬ g 2 = -20 by omega)]
  · rw [if_neg q1]
    refine ⟨_, hK_r _ _, hr', ?_⟩
    rw [if_pos q1]
    rfl
theorem u_tieString {p v : Int} (hh : 91 ≤ h.1) (hO : isH o) (hr : hR G o g) (hv : vI g) (h1 : -2147483648 ≤ p) (h2 : p < 2147483648) (h3 : -2147483648 ≤ v) (h4 : v < 2147483648) : ∃ G', hK G G' o ∧ hR G' o (uStr g p v).2 ∧ x_cl (d + 1) n_X2_tieString [.ref o, .int (zI p), .int (zI v)] (cH h G) = some (some (.int (zI (uStr g p v).1)), cH h G') := by
  have hr' := hr
  have h5 := hv.2.2.2.2.2.2.1
  obtain ⟨e4, e5, e6, e7, e8, e9, e10, er, el, ek, em⟩ := hr
  simp (disch := first | omega | assumption) only [e_X2_tieString, s_X2_tieString_0, s_X2_tieString_1, s_X2_tieString_2, s_X2_tieString_5, s_X2_tieString_8, s_X2_tieString_9, s_X2_tieString_12, s_X2_tieString_13, s_X2_tieString_15, s_X2_tieString_18, s_X2_tieString_20, c_ho hh hO, c_hg0 hh hO, c_hg1 hh hO, c_hg2 hh hO, c_hg3 hh hO, c_hg4 hh hO, c_hg5 hh hO, c_hg6 hh hO, c_hg7 hh hO, c_hg8 hh hO, c_hg9 hh hO, c_hg10 hh hO, c_hq hh hO, c_hbg0 hh hO, c_hbg1 hh hO, c_hbo hh hO, c_hno hh hO, c_hng0 hh hO, c_hng1 hh hO, c_hng2 hh hO, c_hng3 hh hO, c_hng4 hh hO, c_hdo hh hO, c_hdg0 hh hO, c_hdg1 hh hO, c_hdg2 hh hO, c_hdg3 hh hO, c_hdg4 hh hO, c_hdg5 hh hO, c_hp4 hh hO, c_hp5 hh hO, c_hp6 hh hO, c_hp7 hh hO, c_hp8 hh hO, c_hp9 hh hO, c_hp10 hh hO, c_hbp hh hO, c_hnp hh hO, c_hdp0 hh hO, c_hdp1 hh hO, c_hdp2 hh hO, c_hdp3 hh hO, c_hdp4 hh hO, c_hdp5 hh hO, c_hr3 hh hO, c_hr5 hh hO, c_hr6 hh hO, c_hr7 hh hO, c_hr8 hh hO, c_hr9 hh hO, c_hs3 hh hO, c_hs5 hh hO, c_hs6 hh hO, c_hs7 hh hO, c_hs8 hh hO, c_hs9 hh hO, zI_add, zI_sub, zI_mul, zI_neg, zL_add, zL_sub, zL_mul, Option.bind_some, Option.toList_some, Option.toList_none, List.cons_append, List.nil_append, zI_lt, zI_le, zI_eq, zI_eq0, zI_lt0, zI_le0, zI_0lt, zI_0le, bZ_e0, Int.add_zero, Int.zero_add, k_hasReader hh hO hr' hv]
  unfold uStr
  by_cases q : (0 ≤ p ∧ p < g 5) ∧ (0 ≤ v ∧ v ≤ 9)
  · have e := (er p.toNat (by omega) (by omega)).2.2.2.2.1
    rw [if_pos q, if_neg (show ¬ ¬ (0 ≤ p ∧ p < g 5) from fun z => z q.1), if_neg (show ¬ v < 0 by omega), if_pos q.2.2]
    simp (disch := first | omega | assumption) only [s_X2_tieString_21, s_X2_tieString_22, s_X2_tieString_25, s_X2_tieString_26, s_X2_tieString_27, s_X2_tieString_30, s_X2_tieString_31, s_X2_tieString_32, s_X2_tieString_35, s_X2_tieString_36, s_X2_tieString_37, s_X2_tieString_38, s_X2_tieString_41, s_X2_tieString_42, c_ho hh hO, c_hg0 hh hO, c_hg1 hh hO, c_hg2 hh hO, c_hg3 hh hO, c_hg4 hh hO, c_hg5 hh hO, c_hg6 hh hO, c_hg7 hh hO, c_hg8 hh hO, c_hg9 hh hO, c_hg10 hh hO, c_hq hh hO, c_hbg0 hh hO, c_hbg1 hh hO, c_hbo hh hO, c_hno hh hO, c_hng0 hh hO, c_hng1 hh hO, c_hng2 hh hO, c_hng3 hh hO, c_hng4 hh hO, c_hdo hh hO, c_hdg0 hh hO, c_hdg1 hh hO, c_hdg2 hh hO, c_hdg3 hh hO, c_hdg4 hh hO, c_hdg5 hh hO, c_hp4 hh hO, c_hp5 hh hO, c_hp6 hh hO, c_hp7 hh hO, c_hp8 hh hO, c_hp9 hh hO, c_hp10 hh hO, c_hbp hh hO, c_hnp hh hO, c_hdp0 hh hO, c_hdp1 hh hO, c_hdp2 hh hO, c_hdp3 hh hO, c_hdp4 hh hO, c_hdp5 hh hO, c_hr3 hh hO, c_hr5 hh hO, c_hr6 hh hO, c_hr7 hh hO, c_hr8 hh hO, c_hr9 hh hO, c_hs3 hh hO, c_hs5 hh hO, c_hs6 hh hO, c_hs7 hh hO, c_hs8 hh hO, c_hs9 hh hO, zI_add, zI_sub, zI_mul, zI_neg, zL_add, zL_sub, zL_mul, Option.bind_some, Option.toList_some, Option.toList_none, List.cons_append, List.nil_append, zI_lt, zI_le, zI_eq, zI_eq0, zI_lt0, zI_le0, zI_0lt, zI_0le, bZ_e0, Int.add_zero, Int.zero_add, e]
    refine ⟨up2 G (o + 10 + p.toNat) 4 v, hK_u (by omega), ?_, rfl⟩
    unfold hR mnR
    simp (disch := omega) only [up2_n, up1_n]
    refine ⟨e4, e5, e6, e7, e8, e9, e10, fun k k1 k2 => ?_, el, ek, em⟩
    obtain ⟨w1, w2, w3, w4, w5, w6, w7⟩ := er k k1 k2
    unfold rdR'
    simp (disch := omega) only [up2_n, up1_n]
    refine ⟨w1, w2, w3, w4, ?_, w6, w7⟩
    by_cases z : k = p.toNat
    · rw [z, up2_s, up1_s]
    · rw [up2_n (by omega), up1_n (by omega), w5]
  · rw [if_neg q]
    refine ⟨_, hK_r _ _, hr', ?_⟩
    by_cases q1 : 0 ≤ p ∧ p < g 5
    · rw [if_neg (fun z => z q1)]
      by_cases q2 : v < 0
      · rw [if_pos q2]
      · rw [if_neg q2, if_neg (by omega)]
    · rw [if_pos q1]
theorem u_tellPages {p v : Int} (hh : 91 ≤ h.1) (hO : isH o) (hr : hR G o g) (hv : vI g) (h1 : -2147483648 ≤ p) (h2 : p < 2147483648) (h3 : -2147483648 ≤ v) (h4 : v < 2147483648) : ∃ G', hK G G' o ∧ hR G' o (uTold g p v).2 ∧ x_cl (d + 1) n_X2_tellPages [.ref o, .int (zI p), .int (zI v)] (cH h G) = some (some (.int (zI (uTold g p v).1)), cH h G') := by
  have hr' := hr
  have h5 := hv.2.2.2.2.2.2.1
  obtain ⟨e4, e5, e6, e7, e8, e9, e10, er, el, ek, em⟩ := hr
  simp (disch := first | omega | assumption) only [e_X2_tellPages, s_X2_tellPages_0, s_X2_tellPages_1, s_X2_tellPages_2, s_X2_tellPages_5, s_X2_tellPages_8, s_X2_tellPages_9, s_X2_tellPages_12, s_X2_tellPages_13, s_X2_tellPages_15, s_X2_tellPages_18, s_X2_tellPages_20, c_ho hh hO, c_hg0 hh hO, c_hg1 hh hO, c_hg2 hh hO, c_hg3 hh hO, c_hg4 hh hO, c_hg5 hh hO, c_hg6 hh hO, c_hg7 hh hO, c_hg8 hh hO, c_hg9 hh hO, c_hg10 hh hO, c_hq hh hO, c_hbg0 hh hO, c_hbg1 hh hO, c_hbo hh hO, c_hno hh hO, c_hng0 hh hO, c_hng1 hh hO, c_hng2 hh hO, c_hng3 hh hO, c_hng4 hh hO, c_hdo hh hO, c_hdg0 hh hO, c_hdg1 hh hO, c_hdg2 hh hO, c_hdg3 hh hO, c_hdg4 hh hO, c_hdg5 hh hO, c_hp4 hh hO, c_hp5 hh hO, c_hp6 hh hO, c_hp7 hh hO, c_hp8 hh hO, c_hp9 hh hO, c_hp10 hh hO, c_hbp hh hO, c_hnp hh hO, c_hdp0 hh hO, c_hdp1 hh hO, c_hdp2 hh hO, c_hdp3 hh hO, c_hdp4 hh hO, c_hdp5 hh hO, c_hr3 hh hO, c_hr5 hh hO, c_hr6 hh hO, c_hr7 hh hO, c_hr8 hh hO, c_hr9 hh hO, c_hs3 hh hO, c_hs5 hh hO, c_hs6 hh hO, c_hs7 hh hO, c_hs8 hh hO, c_hs9 hh hO, zI_add, zI_sub, zI_mul, zI_neg, zL_add, zL_sub, zL_mul, Option.bind_some, Option.toList_some, Option.toList_none, List.cons_append, List.nil_append, zI_lt, zI_le, zI_eq, zI_eq0, zI_lt0, zI_le0, zI_0lt, zI_0le, bZ_e0, Int.add_zero, Int.zero_add, k_hasReader hh hO hr' hv]
  unfold uTold
  by_cases q : (0 ≤ p ∧ p < g 5) ∧ (0 ≤ v ∧ v ≤ 20)
  · have e := (er p.toNat (by omega) (by omega)).2.2.2.2.2.1
    rw [if_pos q, if_neg (show ¬ ¬ (0 ≤ p ∧ p < g 5) from fun z => z q.1), if_neg (show ¬ v < 0 by omega), if_pos q.2.2]
    simp (disch := first | omega | assumption) only [s_X2_tellPages_21, s_X2_tellPages_22, s_X2_tellPages_25, s_X2_tellPages_26, s_X2_tellPages_27, s_X2_tellPages_30, s_X2_tellPages_31, s_X2_tellPages_32, s_X2_tellPages_35, s_X2_tellPages_36, s_X2_tellPages_37, s_X2_tellPages_38, s_X2_tellPages_41, s_X2_tellPages_42, c_ho hh hO, c_hg0 hh hO, c_hg1 hh hO, c_hg2 hh hO, c_hg3 hh hO, c_hg4 hh hO, c_hg5 hh hO, c_hg6 hh hO, c_hg7 hh hO, c_hg8 hh hO, c_hg9 hh hO, c_hg10 hh hO, c_hq hh hO, c_hbg0 hh hO, c_hbg1 hh hO, c_hbo hh hO, c_hno hh hO, c_hng0 hh hO, c_hng1 hh hO, c_hng2 hh hO, c_hng3 hh hO, c_hng4 hh hO, c_hdo hh hO, c_hdg0 hh hO, c_hdg1 hh hO, c_hdg2 hh hO, c_hdg3 hh hO, c_hdg4 hh hO, c_hdg5 hh hO, c_hp4 hh hO, c_hp5 hh hO, c_hp6 hh hO, c_hp7 hh hO, c_hp8 hh hO, c_hp9 hh hO, c_hp10 hh hO, c_hbp hh hO, c_hnp hh hO, c_hdp0 hh hO, c_hdp1 hh hO, c_hdp2 hh hO, c_hdp3 hh hO, c_hdp4 hh hO, c_hdp5 hh hO, c_hr3 hh hO, c_hr5 hh hO, c_hr6 hh hO, c_hr7 hh hO, c_hr8 hh hO, c_hr9 hh hO, c_hs3 hh hO, c_hs5 hh hO, c_hs6 hh hO, c_hs7 hh hO, c_hs8 hh hO, c_hs9 hh hO, zI_add, zI_sub, zI_mul, zI_neg, zL_add, zL_sub, zL_mul, Option.bind_some, Option.toList_some, Option.toList_none, List.cons_append, List.nil_append, zI_lt, zI_le, zI_eq, zI_eq0, zI_lt0, zI_le0, zI_0lt, zI_0le, bZ_e0, Int.add_zero, Int.zero_add, e]
    refine ⟨up2 G (o + 10 + p.toNat) 5 v, hK_u (by omega), ?_, rfl⟩
    unfold hR mnR
    simp (disch := omega) only [up2_n, up1_n]
    refine ⟨e4, e5, e6, e7, e8, e9, e10, fun k k1 k2 => ?_, ?_, ek, em⟩
    · obtain ⟨w1, w2, w3, w4, w5, w6, w7⟩ := er k k1 k2
      unfold rdR'
      simp (disch := omega) only [up2_n, up1_n]
      refine ⟨w1, w2, w3, w4, w5, ?_, w7⟩
      by_cases z : k = p.toNat
      · rw [z, up2_s, up1_s]
      · rw [up2_n (by omega), up1_n (by omega), w6]
    · intro k hk
      rw [el k hk]
      refine decide_eq_decide.mpr ?_
      by_cases z : k < 5
      · dsimp only
        rw [up1_n (by omega)]
      · exact ⟨fun y => absurd y.1 z, fun y => absurd y.1 z⟩
  · rw [if_neg q]
    refine ⟨_, hK_r _ _, hr', ?_⟩
    by_cases q1 : 0 ≤ p ∧ p < g 5
    · rw [if_neg (fun z => z q1)]
      by_cases q2 : v < 0
      · rw [if_pos q2]
      · rw [if_neg q2, if_neg (by omega)]
    · rw [if_pos q1]
end

/-! THE COMPONENT, part 3: shelves, readers of a hall -/
section
variable {h : xH} {G : Nat → Nat → Int} {d o : Nat} {g : Nat → Int}
theorem u_putShelf {q : Int} {is : Bool} (hh : 91 ≤ h.1) (hO : isH o) (hr : hR G o g) (hv : vI g) (h1 : -2147483648 ≤ q) (h2 : q < 2147483648) : ∃ G', hK G G' o ∧ hR G' o (uShelf g q is).2 ∧ x_cl (d + 1) n_X2_putShelf [.ref o, .int (zI q), .int (zI (bZ (is = true)))] (cH h G) = some (some (.int (zI (uShelf g q is).1)), cH h G') := by
  have hr' := hr
  have hl := hv.2.2.1
  have hsq := vI_sq hv
  obtain ⟨v, v1, v2, v3, v4⟩ := k_readerAt (d := d) hh hO hr hv h1 h2
  obtain ⟨e4, e5, e6, e7, e8, e9, e10, er, el, ek, em⟩ := hr
  simp (disch := first | omega | assumption) only [e_X2_putShelf, s_X2_putShelf_0, s_X2_putShelf_1, s_X2_putShelf_2, s_X2_putShelf_5, s_X2_putShelf_8, s_X2_putShelf_10, s_X2_putShelf_11, s_X2_putShelf_12, s_X2_putShelf_13, s_X2_putShelf_16, s_X2_putShelf_17, s_X2_putShelf_20, s_X2_putShelf_21, s_X2_putShelf_22, s_X2_putShelf_25, s_X2_putShelf_26, s_X2_putShelf_29, s_X2_putShelf_30, s_X2_putShelf_33, s_X2_putShelf_34, s_X2_putShelf_37, s_X2_putShelf_39, c_ho hh hO, c_hg0 hh hO, c_hg1 hh hO, c_hg2 hh hO, c_hg3 hh hO, c_hg4 hh hO, c_hg5 hh hO, c_hg6 hh hO, c_hg7 hh hO, c_hg8 hh hO, c_hg9 hh hO, c_hg10 hh hO, c_hq hh hO, c_hbg0 hh hO, c_hbg1 hh hO, c_hbo hh hO, c_hno hh hO, c_hng0 hh hO, c_hng1 hh hO, c_hng2 hh hO, c_hng3 hh hO, c_hng4 hh hO, c_hdo hh hO, c_hdg0 hh hO, c_hdg1 hh hO, c_hdg2 hh hO, c_hdg3 hh hO, c_hdg4 hh hO, c_hdg5 hh hO, c_hp4 hh hO, c_hp5 hh hO, c_hp6 hh hO, c_hp7 hh hO, c_hp8 hh hO, c_hp9 hh hO, c_hp10 hh hO, c_hbp hh hO, c_hnp hh hO, c_hdp0 hh hO, c_hdp1 hh hO, c_hdp2 hh hO, c_hdp3 hh hO, c_hdp4 hh hO, c_hdp5 hh hO, c_hr3 hh hO, c_hr5 hh hO, c_hr6 hh hO, c_hr7 hh hO, c_hr8 hh hO, c_hr9 hh hO, c_hs3 hh hO, c_hs5 hh hO, c_hs6 hh hO, c_hs7 hh hO, c_hs8 hh hO, c_hs9 hh hO, zI_add, zI_sub, zI_mul, zI_neg, zL_add, zL_sub, zL_mul, Option.bind_some, Option.toList_some, Option.toList_none, List.cons_append, List.nil_append, zI_lt, zI_le, zI_eq, zI_eq0, zI_lt0, zI_le0, zI_0lt, zI_0le, bZ_e0, Int.add_zero, Int.zero_add, e7, v4, k_hasSquare hh hO hr' hv, k_hasShelf hh hO hr' hv, bZ_eq]
  unfold uShelf
  by_cases q1 : 0 ≤ q ∧ q < g 0 * g 1
  · rw [if_pos q1]
    have hs0 : hasB (g 4) q = true → sitY g q < 0 ∧ ¬ g 2 = q := fun z => by
      refine ⟨(sitY_lt hv.2.2.2.2.2.2.1.1).mpr fun j hj y => ?_, fun y => ?_⟩
      · have := (hv.2.2.2.2.2.2.2.1 j (by have := hv.2.2.2.2.2.2.1; omega) hj).2.2.2.2.2.2.2.2
        rw [y, z] at this
        exact absurd this (by decide)
      · have := hv.2.2.2.2.2.1
        rw [y, z] at this
        exact absurd this (by decide)
    by_cases q2 : hasB (g 4) q = is ∨ (is = true ∧ (0 ≤ sitY g q ∨ g 2 = q))
    · rw [if_pos q2]
      refine ⟨_, hK_r _ _, hr', ?_⟩
      rw [if_neg (show ¬ ¬ (0 ≤ q ∧ q < g 0 * g 1) from fun z => z q1)]
      by_cases z1 : ((0 ≤ q ∧ q < g 0 * g 1) ∧ hasB (g 4) q = true ↔ is = true)
      · rw [if_pos z1]
      · rw [if_neg z1]
        by_cases z2 : v = -1
        · rw [if_pos z2]
          have z3 : g 2 = q := by
            rcases q2 with y | y
            · refine absurd ?_ z1
              rw [y]
              exact ⟨fun x => x.2, fun x => ⟨q1, x⟩⟩
            · rcases y.2 with x | x
              · have := v1.mp z2; omega
              · exact x
          rw [if_pos z3]
        · rw [if_neg z2]
    · rw [if_neg q2]
      have b1 : ¬ ((0 ≤ q ∧ q < g 0 * g 1) ∧ hasB (g 4) q = true ↔ is = true) := fun z => q2 (Or.inl (by
        cases is with
        | true => exact (z.mpr rfl).2
        | false => exact Bool.eq_false_iff.mpr fun y => absurd (z.mp ⟨q1, y⟩) (by decide)))
      have b2 : sitY g q < 0 ∧ ¬ g 2 = q := by
        cases is with
        | true => exact ⟨by have : ¬ 0 ≤ sitY g q := fun z => q2 (Or.inr ⟨rfl, Or.inl z⟩); omega, fun z => q2 (Or.inr ⟨rfl, Or.inr z⟩)⟩
        | false =>
          refine hs0 ?_
          cases hb : hasB (g 4) q with
          | true => rfl
          | false => exact absurd (Or.inl hb) q2
      refine ⟨up2 (up2 G o 10 (xorB (g 4) q)) (o + 4) 4 0, hK_t (hK_u (by omega)) (hK_u (by omega)), ?_, ?_⟩
      · unfold hR
        simp (disch := omega) only [up2_n, up2_s, up1_n, up1_s]
        refine ⟨e4, e5, e6, e7, e8, e9, trivial, fun k k1 k2 => ?_, fun k hk => ?_, trivial, fun m hm1 hm2 => ?_⟩
        · have := er k k1 k2
          unfold rdR' at *
          simp (disch := omega) only [up2_n, up1_n]
          exact this
        · rw [el k hk]
          refine decide_eq_decide.mpr ?_
          by_cases z : k < 5
          · dsimp only
            rw [up1_n (by omega), up1_n (by omega)]
          · exact ⟨fun y => absurd y.1 z, fun y => absurd y.1 z⟩
        · omega
      · rw [if_neg (show ¬ ¬ (0 ≤ q ∧ q < g 0 * g 1) from fun z => z q1), if_neg b1, if_pos (v1.mpr b2.1), if_neg b2.2]
        simp (disch := first | omega | assumption) only [s_X2_putShelf_40, s_X2_putShelf_41, s_X2_putShelf_42, s_X2_putShelf_45, s_X2_putShelf_46, s_X2_putShelf_47, s_X2_putShelf_48, s_X2_putShelf_49, s_X2_putShelf_52, s_X2_putShelf_53, s_X2_putShelf_56, s_X2_putShelf_57, s_X2_putShelf_60, s_X2_putShelf_61, c_ho hh hO, c_hg0 hh hO, c_hg1 hh hO, c_hg2 hh hO, c_hg3 hh hO, c_hg4 hh hO, c_hg5 hh hO, c_hg6 hh hO, c_hg7 hh hO, c_hg8 hh hO, c_hg9 hh hO, c_hg10 hh hO, c_hq hh hO, c_hbg0 hh hO, c_hbg1 hh hO, c_hbo hh hO, c_hno hh hO, c_hng0 hh hO, c_hng1 hh hO, c_hng2 hh hO, c_hng3 hh hO, c_hng4 hh hO, c_hdo hh hO, c_hdg0 hh hO, c_hdg1 hh hO, c_hdg2 hh hO, c_hdg3 hh hO, c_hdg4 hh hO, c_hdg5 hh hO, c_hp4 hh hO, c_hp5 hh hO, c_hp6 hh hO, c_hp7 hh hO, c_hp8 hh hO, c_hp9 hh hO, c_hp10 hh hO, c_hbp hh hO, c_hnp hh hO, c_hdp0 hh hO, c_hdp1 hh hO, c_hdp2 hh hO, c_hdp3 hh hO, c_hdp4 hh hO, c_hdp5 hh hO, c_hr3 hh hO, c_hr5 hh hO, c_hr6 hh hO, c_hr7 hh hO, c_hr8 hh hO, c_hr9 hh hO, c_hs3 hh hO, c_hs5 hh hO, c_hs6 hh hO, c_hs7 hh hO, c_hs8 hh hO, c_hs9 hh hO, zI_add, zI_sub, zI_mul, zI_neg, zL_add, zL_sub, zL_mul, Option.bind_some, Option.toList_some, Option.toList_none, List.cons_append, List.nil_append, zI_lt, zI_le, zI_eq, zI_eq0, zI_lt0, zI_le0, zI_0lt, zI_0le, bZ_e0, Int.add_zero, Int.zero_add, e10, xorB_z]
  · rw [if_neg q1]
    refine ⟨_, hK_r _ _, hr', ?_⟩
    rw [if_pos q1]
def k_adT (G : Nat → Nat → Int) (o p : Nat) (q k pg wo : Int) : Nat → Nat → Int := up2 (up2 (up2 (up2 (up2 (up2 (up2 (up2 (up2 G (o + 10 + p) 0 q) (o + 10 + p) 1 k) (o + 10 + p) 2 pg) (o + 10 + p) 3 wo) (o + 10 + p) 4 1) (o + 10 + p) 5 0) (o + 3) p pg) (o + 4) 4 0) o 9 (p + 1)
theorem u_addReader {q k pg wo : Int} (hh : 91 ≤ h.1) (hO : isH o) (hr : hR G o g) (hv : vI g) (h1 : -2147483648 ≤ q) (h2 : q < 2147483648) (h3 : -2147483648 ≤ k) (h4 : k < 2147483648) (h5 : -2147483648 ≤ pg) (h6 : pg < 2147483648) (h7 : -2147483648 ≤ wo) (h8 : wo < 2147483648) : ∃ G', hK G G' o ∧ hR G' o (uRead g q k pg wo).2 ∧ x_cl (d + 3) n_X2_addReader [.ref o, .int (zI q), .int (zI k), .int (zI pg), .int (zI wo)] (cH h G) = some (some (.int (zI (uRead g q k pg wo).1)), cH h G') := by
  have hr' := hr
  have hn := hv.2.2.2.2.2.2.1
  obtain ⟨e4, e5, e6, e7, e8, e9, e10, er, el, ek, em⟩ := hr
  simp (disch := first | omega | assumption) only [e_X2_addReader, s_X2_addReader_0, s_X2_addReader_1, s_X2_addReader_2, s_X2_addReader_5, s_X2_addReader_8, s_X2_addReader_9, s_X2_addReader_12, s_X2_addReader_13, s_X2_addReader_14, s_X2_addReader_17, s_X2_addReader_18, s_X2_addReader_19, s_X2_addReader_22, s_X2_addReader_23, s_X2_addReader_25, s_X2_addReader_28, s_X2_addReader_30, s_X2_addReader_33, s_X2_addReader_35, s_X2_addReader_37, s_X2_addReader_40, s_X2_addReader_42, c_ho hh hO, c_hg0 hh hO, c_hg1 hh hO, c_hg2 hh hO, c_hg3 hh hO, c_hg4 hh hO, c_hg5 hh hO, c_hg6 hh hO, c_hg7 hh hO, c_hg8 hh hO, c_hg9 hh hO, c_hg10 hh hO, c_hq hh hO, c_hbg0 hh hO, c_hbg1 hh hO, c_hbo hh hO, c_hno hh hO, c_hng0 hh hO, c_hng1 hh hO, c_hng2 hh hO, c_hng3 hh hO, c_hng4 hh hO, c_hdo hh hO, c_hdg0 hh hO, c_hdg1 hh hO, c_hdg2 hh hO, c_hdg3 hh hO, c_hdg4 hh hO, c_hdg5 hh hO, c_hp4 hh hO, c_hp5 hh hO, c_hp6 hh hO, c_hp7 hh hO, c_hp8 hh hO, c_hp9 hh hO, c_hp10 hh hO, c_hbp hh hO, c_hnp hh hO, c_hdp0 hh hO, c_hdp1 hh hO, c_hdp2 hh hO, c_hdp3 hh hO, c_hdp4 hh hO, c_hdp5 hh hO, c_hr3 hh hO, c_hr5 hh hO, c_hr6 hh hO, c_hr7 hh hO, c_hr8 hh hO, c_hr9 hh hO, c_hs3 hh hO, c_hs5 hh hO, c_hs6 hh hO, c_hs7 hh hO, c_hs8 hh hO, c_hs9 hh hO, zI_add, zI_sub, zI_mul, zI_neg, zL_add, zL_sub, zL_mul, Option.bind_some, Option.toList_some, Option.toList_none, List.cons_append, List.nil_append, zI_lt, zI_le, zI_eq, zI_eq0, zI_lt0, zI_le0, zI_0lt, zI_0le, bZ_e0, Int.add_zero, Int.zero_add, k_hasSquare hh hO hr' hv]
  unfold uRead
  by_cases q1 : (0 ≤ q ∧ q < g 0 * g 1) ∧ (0 ≤ k ∧ k ≤ 5) ∧ (1 ≤ pg ∧ pg ≤ 20) ∧ (0 ≤ wo ∧ wo ≤ 9)
  · rw [if_pos q1, if_neg (show ¬ ¬ (0 ≤ q ∧ q < g 0 * g 1) from fun z => z q1.1), if_neg (show ¬ k < 0 by omega), if_neg (show ¬ 5 < k by omega), if_neg (show ¬ pg < 1 by omega), if_neg (show ¬ 20 < pg by omega), if_neg (show ¬ wo < 0 by omega), if_pos q1.2.2.2.2]
    simp (disch := first | omega | assumption) only [s_X2_addReader_43, s_X2_addReader_44, s_X2_addReader_45, s_X2_addReader_48, s_X2_addReader_51, s_X2_addReader_53, s_X2_addReader_54, s_X2_addReader_55, s_X2_addReader_58, s_X2_addReader_59, s_X2_addReader_62, s_X2_addReader_64, c_ho hh hO, c_hg0 hh hO, c_hg1 hh hO, c_hg2 hh hO, c_hg3 hh hO, c_hg4 hh hO, c_hg5 hh hO, c_hg6 hh hO, c_hg7 hh hO, c_hg8 hh hO, c_hg9 hh hO, c_hg10 hh hO, c_hq hh hO, c_hbg0 hh hO, c_hbg1 hh hO, c_hbo hh hO, c_hno hh hO, c_hng0 hh hO, c_hng1 hh hO, c_hng2 hh hO, c_hng3 hh hO, c_hng4 hh hO, c_hdo hh hO, c_hdg0 hh hO, c_hdg1 hh hO, c_hdg2 hh hO, c_hdg3 hh hO, c_hdg4 hh hO, c_hdg5 hh hO, c_hp4 hh hO, c_hp5 hh hO, c_hp6 hh hO, c_hp7 hh hO, c_hp8 hh hO, c_hp9 hh hO, c_hp10 hh hO, c_hbp hh hO, c_hnp hh hO, c_hdp0 hh hO, c_hdp1 hh hO, c_hdp2 hh hO, c_hdp3 hh hO, c_hdp4 hh hO, c_hdp5 hh hO, c_hr3 hh hO, c_hr5 hh hO, c_hr6 hh hO, c_hr7 hh hO, c_hr8 hh hO, c_hr9 hh hO, c_hs3 hh hO, c_hs5 hh hO, c_hs6 hh hO, c_hs7 hh hO, c_hs8 hh hO, c_hs9 hh hO, zI_add, zI_sub, zI_mul, zI_neg, zL_add, zL_sub, zL_mul, Option.bind_some, Option.toList_some, Option.toList_none, List.cons_append, List.nil_append, zI_lt, zI_le, zI_eq, zI_eq0, zI_lt0, zI_le0, zI_0lt, zI_0le, bZ_e0, Int.add_zero, Int.zero_add, e9, k_isFree hh hO hr' hv]
    by_cases q2 : hasB (g 4) q = true ∨ 0 ≤ sitY g q
    · rw [if_pos q2]
      refine ⟨_, hK_r _ _, hr', ?_⟩
      have b : ¬ (((0 ≤ q ∧ q < g 0 * g 1) ∧ hasB (g 4) q = false) ∧ sitY g q < 0) := fun z => by
        rcases q2 with y | y
        · rw [z.1.2] at y; exact absurd y (by decide)
        · omega
      rw [if_pos b]
    · rw [if_neg q2]
      have b : ((0 ≤ q ∧ q < g 0 * g 1) ∧ hasB (g 4) q = false) ∧ sitY g q < 0 := ⟨⟨q1.1, Bool.eq_false_iff.mpr fun z => q2 (Or.inl z)⟩, by
        have : ¬ 0 ≤ sitY g q := fun z => q2 (Or.inr z)
        omega⟩
      by_cases q3 : g 5 = 5
      · rw [if_pos q3]
        refine ⟨_, hK_r _ _, hr', ?_⟩
        rw [if_neg (fun z => z b), if_neg (show ¬ g 5 < 5 by omega)]
      · rw [if_neg q3]
        refine ⟨k_adT G o (g 5).toNat q k pg wo, ?_, ?_, ?_⟩
        · exact hK_t (hK_t (hK_t (hK_t (hK_t (hK_t (hK_t (hK_t (hK_u (by omega)) (hK_u (by omega))) (hK_u (by omega))) (hK_u (by omega))) (hK_u (by omega))) (hK_u (by omega))) (hK_u (by omega))) (hK_u (by omega))) (hK_u (by omega))
        · have hp5 : (g 5).toNat < 5 := by omega
          have e9' : ((g 5).toNat : Int) = g 5 := by omega
          unfold hR k_adT addG
          dsimp only
          generalize hp : (g 5).toNat = p at *
          simp (disch := omega) only [up2_n, up2_s, up1_n, up1_s]
          refine ⟨e4, e5, e6, e7, e8, trivial, e10, fun j j1 j2 => ?_, fun j hj => ?_, trivial, fun m hm1 hm2 => by omega⟩
          · unfold rdR'
            by_cases z : j = p
            · subst z
              simp (disch := omega) only [up2_n, up2_s, up1_n, up1_s, and_self]
            · have := er j j1 (by omega)
              unfold rdR' at this
              simp (disch := omega) only [up2_n, up1_n]
              exact this
          · rw [el j hj]
            refine decide_eq_decide.mpr ?_
            by_cases z : j < 5
            · dsimp only
              by_cases z2 : j = p
              · subst z2
                simp (disch := omega) only [up1_n, up1_s]
                omega
              · simp (disch := omega) only [up1_n]
                omega
            · exact ⟨fun y => absurd y.1 z, fun y => absurd y.1 z⟩
        · rw [if_neg (fun z => z b), if_pos (show g 5 < 5 by omega)]
          unfold k_adT
          simp (disch := first | omega | assumption) only [s_X2_addReader_65, s_X2_addReader_66, s_X2_addReader_69, s_X2_addReader_70, s_X2_addReader_73, s_X2_addReader_74, s_X2_addReader_76, s_X2_addReader_78, s_X2_addReader_79, s_X2_addReader_82, s_X2_addReader_84, s_X2_addReader_85, s_X2_addReader_88, s_X2_addReader_90, s_X2_addReader_91, s_X2_addReader_94, s_X2_addReader_96, s_X2_addReader_98, s_X2_addReader_101, s_X2_addReader_103, s_X2_addReader_104, s_X2_addReader_107, s_X2_addReader_109, s_X2_addReader_110, s_X2_addReader_113, s_X2_addReader_114, s_X2_addReader_117, s_X2_addReader_120, s_X2_addReader_121, s_X2_addReader_124, s_X2_addReader_125, s_X2_addReader_126, s_X2_addReader_127, s_X2_addReader_130, s_X2_addReader_131, s_X2_addReader_134, s_X2_addReader_135, s_X2_addReader_136, s_X2_addReader_139, s_X2_addReader_140, s_X2_addReader_141, s_X2_addReader_144, s_X2_addReader_145, s_X2_addReader_148, s_X2_addReader_149, s_X2_addReader_150, c_ho hh hO, c_hg0 hh hO, c_hg1 hh hO, c_hg2 hh hO, c_hg3 hh hO, c_hg4 hh hO, c_hg5 hh hO, c_hg6 hh hO, c_hg7 hh hO, c_hg8 hh hO, c_hg9 hh hO, c_hg10 hh hO, c_hq hh hO, c_hbg0 hh hO, c_hbg1 hh hO, c_hbo hh hO, c_hno hh hO, c_hng0 hh hO, c_hng1 hh hO, c_hng2 hh hO, c_hng3 hh hO, c_hng4 hh hO, c_hdo hh hO, c_hdg0 hh hO, c_hdg1 hh hO, c_hdg2 hh hO, c_hdg3 hh hO, c_hdg4 hh hO, c_hdg5 hh hO, c_hp4 hh hO, c_hp5 hh hO, c_hp6 hh hO, c_hp7 hh hO, c_hp8 hh hO, c_hp9 hh hO, c_hp10 hh hO, c_hbp hh hO, c_hnp hh hO, c_hdp0 hh hO, c_hdp1 hh hO, c_hdp2 hh hO, c_hdp3 hh hO, c_hdp4 hh hO, c_hdp5 hh hO, c_hr3 hh hO, c_hr5 hh hO, c_hr6 hh hO, c_hr7 hh hO, c_hr8 hh hO, c_hr9 hh hO, c_hs3 hh hO, c_hs5 hh hO, c_hs6 hh hO, c_hs7 hh hO, c_hs8 hh hO, c_hs9 hh hO, zI_add, zI_sub, zI_mul, zI_neg, zL_add, zL_sub, zL_mul, Option.bind_some, Option.toList_some, Option.toList_none, List.cons_append, List.nil_append, zI_lt, zI_le, zI_eq, zI_eq0, zI_lt0, zI_le0, zI_0lt, zI_0le, bZ_e0, Int.add_zero, Int.zero_add, e9, up2_n, up2_s]
          rw [show ((g 5).toNat : Int) = g 5 by omega, show g 5 + 1 - 1 = g 5 by omega]
  · rw [if_neg q1]
    refine ⟨_, hK_r _ _, hr', ?_⟩
    by_cases z1 : 0 ≤ q ∧ q < g 0 * g 1
    · rw [if_neg (show ¬ ¬ (0 ≤ q ∧ q < g 0 * g 1) from fun z => z z1)]
      by_cases z2 : k < 0
      · rw [if_pos z2]
      rw [if_neg z2]
      by_cases z3 : 5 < k
      · rw [if_pos z3]
      rw [if_neg z3]
      by_cases z4 : pg < 1
      · rw [if_pos z4]
      rw [if_neg z4]
      by_cases z5 : 20 < pg
      · rw [if_pos z5]
      rw [if_neg z5]
      by_cases z6 : wo < 0
      · rw [if_pos z6]
      rw [if_neg z6, if_neg (by omega)]
    · rw [if_pos z1]
end

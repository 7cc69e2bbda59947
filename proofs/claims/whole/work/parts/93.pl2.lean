/-! WHERE LAMPS STAND BEST: the component weighs, and stands one lamp -/
section
variable {h : xH} {d o : Nat} {g : Nat → Int} {G : Nat → Nat → Int}
theorem rdK_e {T : Nat → Nat → Int} {La p : Nat} {pl : Int} {L : Int → Int} (hr : hR T o g) (hv : vI g) (hp : (p : Int) < g 5) (hL : T La (pl + (p : Int)).toNat = L p) : rdK g (liK T La pl) (lfK T (o + 2)) (ltK T (o + 2)) p = rdG g L p := by
  have h5 := hv.2.2.2.2.2.2.1
  unfold rdK rdG
  have e : liK T La pl p = L p := hL
  rw [e]
  refine rdS_congr (by omega) (fun k k0 k1 => ?_) ?_
  · show T (o + 2 + 1) k.toNat = g (31 + k.toNat)
    exact (hr.2.2.2.2.2.2.2.1 k.toNat (by omega) (by omega)).2.2.2.2.2.2
  · show bZ (hasB (T (o + 2) 1) (p : Int) = true) = g (36 + (p : Int).toNat)
    rw [Int.toNat_natCast]
    have el := li_at (k := p) hr.2.2.2.2.2.2.2.2.1 (by omega) hp
    have eb := (hv.2.2.2.2.2.2.2.1 p (by omega) hp).2.2.2.2.2.2.1
    by_cases z : g (36 + p) = 1
    · rw [bZ_t (el.mpr z), z]
    · rw [bZ_f (fun y => z (el.mp y))]
      omega
theorem wtG_rg {L : Int → Int} (hv : vI g) : 0 ≤ wtG g L ∧ wtG g L ≤ 900 := by
  have h5 := hv.2.2.2.2.2.2.1
  have := sumF_rg (f := fun p => rdG g L p * g (21 + p.toNat)) (B := 180) (g 5).toNat fun k hk => by
    have a := rdG_rg (L := L) (p := k) hv (by omega) (by omega)
    have b := hv.2.2.2.2.2.2.2.1 k (by omega) (by omega)
    unfold rdI at b
    rw [Int.toNat_natCast]
    have b1 := b.2.2.2.1
    have b2 := b.2.2.2.2.2.1
    generalize rdG g L k = X at *
    generalize g (21 + k) = Y at *
    exact ⟨Int.mul_nonneg a.1 b1.1, Int.le_trans (Int.mul_le_mul_of_nonneg_right (show X ≤ 20 by omega) b1.1) (by omega)⟩
  unfold wtG
  omega
theorem isA_57 : isA 57 125 := ⟨by decide, by decide, fun _ => rfl⟩
theorem isA_58 : isA 58 5 := ⟨by decide, by decide, fun _ => rfl⟩
theorem k_weigh {La n : Nat} {pl x y : Int} {L : Int → Int} (hh : 91 ≤ h.1) (hO : isH o) (hr : hR G o g) (hv : vI g) (ho : o + 15 ≤ 56) (hA : isA La n) (hn : n ≤ 200) (hLa : La = 57 ∨ La = 58) (h0 : 0 ≤ pl) (h1 : pl + g 5 ≤ n) (hL : ∀ p : Nat, (p : Int) < g 5 → G La (pl + (p : Int)).toNat = L p) (hLr : ∀ p, 0 ≤ L p ∧ L p ≤ 24) (hw : -1 ≤ G 56 2 ∧ G 56 2 ≤ 900) :
    ∃ G', (∀ i j, ¬ (i = 56 ∧ j < 3) → i ≠ 59 → i ≠ 60 → G' i j = G i j) ∧ G' 56 2 = (if G 56 2 < wtG g L then wtG g L else G 56 2) ∧ G' 56 0 = (if G 56 2 < wtG g L then x else G 56 0) ∧ G' 56 1 = (if G 56 2 < wtG g L then y else G 56 1) ∧
      x_cl (d + 3) n_X4_weigh [.ref 56, .ref o, .ref La, .int (zI pl), .int (zI x), .int (zI y)] (cH h G) = some (none, cH h G') := by
  have h5 := hv.2.2.2.2.2.2.1
  have hB := isB_h hO
  have hwt := wtG_rg (L := L) hv
  have hm : miK G o g La n pl (o + 2) 59 := by
    refine ⟨hA, hB, isB_59, by omega, by omega, by omega, h0, h1, hn, fun p hp => ⟨?_, ?_⟩⟩
    · have e : liK G La pl p = L p := hL p hp
      rw [e]
      exact hLr p
    · have e : lfK G (o + 2) p = G (o + 3) p := by unfold lfK; rw [Int.toNat_natCast]
      rw [e, (hr.2.2.2.2.2.2.2.1 p (by omega) hp).2.2.2.2.2.2]
      exact (hv.2.2.2.2.2.2.2.1 p (by omega) hp).2.2.2.2.2.1
  have km := k_minute (d := d) hh hO hr hv hm
  have lo : ∀ i j, i ≠ 59 → i ≠ 60 → mnK G g La pl (o + 2) 59 i j = G i j := fun i j a1 a2 => by
    unfold mnK
    rw [up2_n (by omega), rmN_n (by omega)]
  have lr : ∀ p : Nat, (p : Int) < g 5 → mnK G g La pl (o + 2) 59 60 p = G (o + 3) p - rdG g L p := fun p hp => by
    unfold mnK
    rw [up2_n (by omega)]
    unfold rmN
    rw [if_pos ⟨rfl, by omega⟩, rdK_e hr hv hp (hL p hp)]
    congr 1
  generalize mnK G g La pl (o + 2) 59 = M at km lo lr
  have hr2 : hR M o g := hR_k (fun i j a1 a2 => lo i j (by omega) (by omega)) hr
  have ew : sumF (woK M g (o + 2) 59) (g 5).toNat = wtG g L := by
    unfold wtG
    refine sumF_congr _ fun p hp => ?_
    unfold woK
    rw [Int.toNat_natCast, lo _ _ (by omega) (by omega), show 59 + 1 = 60 from rfl, lr p (by omega), show o + 2 + 1 = o + 3 from rfl]
    congr 1
    omega
  have kw := k_worth (d := d + 2) hh hO hr2 hv hB isB_59
  rw [ew] at kw
  have e2 : M 56 2 = G 56 2 := lo _ _ (by decide) (by decide)
  simp (disch := first | omega | assumption) only [e_X4_weigh, s_X4_weigh_0, s_X4_weigh_1, s_X4_weigh_2, s_X4_weigh_3, s_X4_weigh_4, s_X4_weigh_7, s_X4_weigh_8, s_X4_weigh_11, s_X4_weigh_14, s_X4_weigh_15, s_X4_weigh_16, s_X4_weigh_17, s_X4_weigh_20, s_X4_weigh_21, s_X4_weigh_24, s_X4_weigh_27, s_X4_weigh_29, s_X4_weigh_31, s_X4_weigh_32, s_X4_weigh_35, c_oo hh, c_og0 hh, c_og1 hh, c_og2 hh, c_og3 hh, c_og4 hh, c_og5 hh, c_og6 hh, c_og7 hh, c_og8 hh, c_og9 hh, c_ko hh, c_kg0 hh, c_kg1 hh, c_kg2 hh, c_kg3 hh, c_kg4 hh, c_kg5 hh, c_kg6 hh, c_wo hh, c_wg0 hh, c_wg1 hh, c_wg2 hh, c_wg3 hh, c_wg4 hh, c_wg5 hh, c_wg6 hh, c_wg7 hh, c_wg8 hh, c_po hh, c_pg0 hh, c_pg1 hh, c_pg2 hh, c_pg3 hh, c_pg4 hh, c_pg5 hh, c_pg6 hh, c_pg7 hh, c_q31 hh, c_q39 hh, c_op7 hh, c_op8 hh, c_op9 hh, c_kp0 hh, c_kp1 hh, c_kp5 hh, c_kp6 hh, c_wp1 hh, c_wp2 hh, c_wp3 hh, c_wp7 hh, c_wp8 hh, c_pp0 hh, c_pp1 hh, c_pp2 hh, c_pp6 hh, c_pp7 hh, c_r32 hh, c_r34 hh, c_r35 hh, c_r36 hh, c_r38 hh, c_r40 hh, c_r41 hh, c_r57 hh, c_r58 hh, c_s32 hh, c_s34 hh, c_s35 hh, c_s36 hh, c_s38 hh, c_s40 hh, c_s41 hh, c_s57 hh, c_s58 hh, c_ho hh hO, c_hg0 hh hO, c_hg1 hh hO, c_hg2 hh hO, c_hg3 hh hO, c_hg4 hh hO, c_hg5 hh hO, c_hg6 hh hO, c_hg7 hh hO, c_hg8 hh hO, c_hg9 hh hO, c_hg10 hh hO, c_hq hh hO, c_hbg0 hh hO, c_hbg1 hh hO, c_hbo hh hO, c_hno hh hO, c_hng0 hh hO, c_hng1 hh hO, c_hng2 hh hO, c_hng3 hh hO, c_hng4 hh hO, c_hdo hh hO, c_hdg0 hh hO, c_hdg1 hh hO, c_hdg2 hh hO, c_hdg3 hh hO, c_hdg4 hh hO, c_hdg5 hh hO, c_hp4 hh hO, c_hp5 hh hO, c_hp6 hh hO, c_hp7 hh hO, c_hp8 hh hO, c_hp9 hh hO, c_hp10 hh hO, c_hbp hh hO, c_hnp hh hO, c_hdp0 hh hO, c_hdp1 hh hO, c_hdp2 hh hO, c_hdp3 hh hO, c_hdp4 hh hO, c_hdp5 hh hO, c_hr3 hh hO, c_hr5 hh hO, c_hr6 hh hO, c_hr7 hh hO, c_hr8 hh hO, c_hr9 hh hO, c_hs3 hh hO, c_hs5 hh hO, c_hs6 hh hO, c_hs7 hh hO, c_hs8 hh hO, c_hs9 hh hO, zI_add, zI_sub, zI_mul, zI_neg, zL_add, zL_sub, zL_mul, Option.bind_some, Option.toList_some, Option.toList_none, List.cons_append, List.nil_append, zI_lt, zI_le, zI_eq, zI_eq0, zI_lt0, zI_le0, zI_0lt, zI_0le, bZ_e0, Int.add_zero, Int.zero_add, km, kw, e2]
  by_cases z : wtG g L ≤ G 56 2
  · rw [if_pos z, if_neg (by omega), if_neg (by omega), if_neg (by omega)]
    simp (disch := first | omega | assumption) only [s_X4_weigh_56]
    exact ⟨M, fun i j a1 a2 a3 => lo i j a2 a3, e2, lo _ _ (by decide) (by decide), lo _ _ (by decide) (by decide), rfl⟩
  · rw [if_neg z, if_pos (by omega), if_pos (by omega), if_pos (by omega)]
    simp (disch := first | omega | assumption) only [s_X4_weigh_38, s_X4_weigh_39, s_X4_weigh_41, s_X4_weigh_44, s_X4_weigh_45, s_X4_weigh_47, s_X4_weigh_50, s_X4_weigh_51, s_X4_weigh_53, s_X4_weigh_56, c_oo hh, c_og0 hh, c_og1 hh, c_og2 hh, c_og3 hh, c_og4 hh, c_og5 hh, c_og6 hh, c_og7 hh, c_og8 hh, c_og9 hh, c_ko hh, c_kg0 hh, c_kg1 hh, c_kg2 hh, c_kg3 hh, c_kg4 hh, c_kg5 hh, c_kg6 hh, c_wo hh, c_wg0 hh, c_wg1 hh, c_wg2 hh, c_wg3 hh, c_wg4 hh, c_wg5 hh, c_wg6 hh, c_wg7 hh, c_wg8 hh, c_po hh, c_pg0 hh, c_pg1 hh, c_pg2 hh, c_pg3 hh, c_pg4 hh, c_pg5 hh, c_pg6 hh, c_pg7 hh, c_q31 hh, c_q39 hh, c_op7 hh, c_op8 hh, c_op9 hh, c_kp0 hh, c_kp1 hh, c_kp5 hh, c_kp6 hh, c_wp1 hh, c_wp2 hh, c_wp3 hh, c_wp7 hh, c_wp8 hh, c_pp0 hh, c_pp1 hh, c_pp2 hh, c_pp6 hh, c_pp7 hh, c_r32 hh, c_r34 hh, c_r35 hh, c_r36 hh, c_r38 hh, c_r40 hh, c_r41 hh, c_r57 hh, c_r58 hh, c_s32 hh, c_s34 hh, c_s35 hh, c_s36 hh, c_s38 hh, c_s40 hh, c_s41 hh, c_s57 hh, c_s58 hh, c_ho hh hO, c_hg0 hh hO, c_hg1 hh hO, c_hg2 hh hO, c_hg3 hh hO, c_hg4 hh hO, c_hg5 hh hO, c_hg6 hh hO, c_hg7 hh hO, c_hg8 hh hO, c_hg9 hh hO, c_hg10 hh hO, c_hq hh hO, c_hbg0 hh hO, c_hbg1 hh hO, c_hbo hh hO, c_hno hh hO, c_hng0 hh hO, c_hng1 hh hO, c_hng2 hh hO, c_hng3 hh hO, c_hng4 hh hO, c_hdo hh hO, c_hdg0 hh hO, c_hdg1 hh hO, c_hdg2 hh hO, c_hdg3 hh hO, c_hdg4 hh hO, c_hdg5 hh hO, c_hp4 hh hO, c_hp5 hh hO, c_hp6 hh hO, c_hp7 hh hO, c_hp8 hh hO, c_hp9 hh hO, c_hp10 hh hO, c_hbp hh hO, c_hnp hh hO, c_hdp0 hh hO, c_hdp1 hh hO, c_hdp2 hh hO, c_hdp3 hh hO, c_hdp4 hh hO, c_hdp5 hh hO, c_hr3 hh hO, c_hr5 hh hO, c_hr6 hh hO, c_hr7 hh hO, c_hr8 hh hO, c_hr9 hh hO, c_hs3 hh hO, c_hs5 hh hO, c_hs6 hh hO, c_hs7 hh hO, c_hs8 hh hO, c_hs9 hh hO, zI_add, zI_sub, zI_mul, zI_neg, zL_add, zL_sub, zL_mul, Option.bind_some, Option.toList_some, Option.toList_none, List.cons_append, List.nil_append, zI_lt, zI_le, zI_eq, zI_eq0, zI_lt0, zI_le0, zI_0lt, zI_0le, bZ_e0, Int.add_zero, Int.zero_add]
    refine ⟨_, fun i j a1 a2 a3 => ?_, ?_, ?_, ?_, rfl⟩
    · rw [up2_n (by omega), up2_n (by omega), up2_n (by omega), lo i j a2 a3]
    · rw [up2_n (by omega), up2_n (by omega), up2_s]
    · rw [up2_n (by omega), up2_s]
    · rw [up2_s]
def ltT (T : Nat → Nat → Int) (g : Nat → Int) : Prop := ∀ r : Nat, (r : Int) < g 0 * g 1 → hasB (g 4) r = false → ∀ p : Nat, (p : Int) < g 5 → T 57 (5 * r + p) = lgt (g 0) (g 4) (g (6 + p)) r
theorem l_standK (hh : 91 ≤ h.1) (hO : isH o) (hv : vI g) (ho : o + 15 ≤ 56) : ∀ (c q : Nat) (T : Nat → Nat → Int) (s : Int × Int), (q : Int) + c = g 0 * g 1 → hR T o g → ltT T g → T 56 2 = s.1 → T 56 0 = s.2 → -1 ≤ s.1 → s.1 ≤ 900 →
    ∃ T', (∀ i j, ¬ (i = 56 ∧ j < 3) → i ≠ 59 → i ≠ 60 → T' i j = T i j) ∧ T' 56 2 = (scG (stW g) id (fun q => !hasB (g 4) q) c q s).1 ∧ T' 56 0 = (scG (stW g) id (fun q => !hasB (g 4) q) c q s).2 ∧
      x_ev (d + 4, n_X4_findStand, 14, [.ref 56, .ref o, .int (zI q)], [], cH h T) = some (none, cH h T') := by
  have h5 := hv.2.2.2.2.2.2.1
  have hsq := vI_sq hv
  intro c
  induction c with
  | zero =>
    intro q T s hq hr hl s1 s2 b1 b2
    have e6 := hr.2.2.1
    refine ⟨T, fun _ _ _ _ _ => rfl, s1, s2, ?_⟩
    rw [s_X4_findStand_14]
    simp (disch := first | omega | assumption) only [s_X4_findStand_15, s_X4_findStand_16, s_X4_findStand_19, c_oo hh, c_og0 hh, c_og1 hh, c_og2 hh, c_og3 hh, c_og4 hh, c_og5 hh, c_og6 hh, c_og7 hh, c_og8 hh, c_og9 hh, c_ko hh, c_kg0 hh, c_kg1 hh, c_kg2 hh, c_kg3 hh, c_kg4 hh, c_kg5 hh, c_kg6 hh, c_wo hh, c_wg0 hh, c_wg1 hh, c_wg2 hh, c_wg3 hh, c_wg4 hh, c_wg5 hh, c_wg6 hh, c_wg7 hh, c_wg8 hh, c_po hh, c_pg0 hh, c_pg1 hh, c_pg2 hh, c_pg3 hh, c_pg4 hh, c_pg5 hh, c_pg6 hh, c_pg7 hh, c_q31 hh, c_q39 hh, c_op7 hh, c_op8 hh, c_op9 hh, c_kp0 hh, c_kp1 hh, c_kp5 hh, c_kp6 hh, c_wp1 hh, c_wp2 hh, c_wp3 hh, c_wp7 hh, c_wp8 hh, c_pp0 hh, c_pp1 hh, c_pp2 hh, c_pp6 hh, c_pp7 hh, c_r32 hh, c_r34 hh, c_r35 hh, c_r36 hh, c_r38 hh, c_r40 hh, c_r41 hh, c_r57 hh, c_r58 hh, c_s32 hh, c_s34 hh, c_s35 hh, c_s36 hh, c_s38 hh, c_s40 hh, c_s41 hh, c_s57 hh, c_s58 hh, c_ho hh hO, c_hg0 hh hO, c_hg1 hh hO, c_hg2 hh hO, c_hg3 hh hO, c_hg4 hh hO, c_hg5 hh hO, c_hg6 hh hO, c_hg7 hh hO, c_hg8 hh hO, c_hg9 hh hO, c_hg10 hh hO, c_hq hh hO, c_hbg0 hh hO, c_hbg1 hh hO, c_hbo hh hO, c_hno hh hO, c_hng0 hh hO, c_hng1 hh hO, c_hng2 hh hO, c_hng3 hh hO, c_hng4 hh hO, c_hdo hh hO, c_hdg0 hh hO, c_hdg1 hh hO, c_hdg2 hh hO, c_hdg3 hh hO, c_hdg4 hh hO, c_hdg5 hh hO, c_hp4 hh hO, c_hp5 hh hO, c_hp6 hh hO, c_hp7 hh hO, c_hp8 hh hO, c_hp9 hh hO, c_hp10 hh hO, c_hbp hh hO, c_hnp hh hO, c_hdp0 hh hO, c_hdp1 hh hO, c_hdp2 hh hO, c_hdp3 hh hO, c_hdp4 hh hO, c_hdp5 hh hO, c_hr3 hh hO, c_hr5 hh hO, c_hr6 hh hO, c_hr7 hh hO, c_hr8 hh hO, c_hr9 hh hO, c_hs3 hh hO, c_hs5 hh hO, c_hs6 hh hO, c_hs7 hh hO, c_hs8 hh hO, c_hs9 hh hO, zI_add, zI_sub, zI_mul, zI_neg, zL_add, zL_sub, zL_mul, Option.bind_some, Option.toList_some, Option.toList_none, List.cons_append, List.nil_append, zI_lt, zI_le, zI_eq, zI_eq0, zI_lt0, zI_le0, zI_0lt, zI_0le, bZ_e0, Int.add_zero, Int.zero_add, e6]
    rw [if_pos (by omega)]
    simp (disch := first | omega | assumption) only [s_X4_findStand_50]
  | succ c ih =>
    intro q T s hq hr hl s1 s2 b1 b2
    have e6 := hr.2.2.1
    rw [s_X4_findStand_14]
    simp (disch := first | omega | assumption) only [s_X4_findStand_15, s_X4_findStand_16, s_X4_findStand_19, c_oo hh, c_og0 hh, c_og1 hh, c_og2 hh, c_og3 hh, c_og4 hh, c_og5 hh, c_og6 hh, c_og7 hh, c_og8 hh, c_og9 hh, c_ko hh, c_kg0 hh, c_kg1 hh, c_kg2 hh, c_kg3 hh, c_kg4 hh, c_kg5 hh, c_kg6 hh, c_wo hh, c_wg0 hh, c_wg1 hh, c_wg2 hh, c_wg3 hh, c_wg4 hh, c_wg5 hh, c_wg6 hh, c_wg7 hh, c_wg8 hh, c_po hh, c_pg0 hh, c_pg1 hh, c_pg2 hh, c_pg3 hh, c_pg4 hh, c_pg5 hh, c_pg6 hh, c_pg7 hh, c_q31 hh, c_q39 hh, c_op7 hh, c_op8 hh, c_op9 hh, c_kp0 hh, c_kp1 hh, c_kp5 hh, c_kp6 hh, c_wp1 hh, c_wp2 hh, c_wp3 hh, c_wp7 hh, c_wp8 hh, c_pp0 hh, c_pp1 hh, c_pp2 hh, c_pp6 hh, c_pp7 hh, c_r32 hh, c_r34 hh, c_r35 hh, c_r36 hh, c_r38 hh, c_r40 hh, c_r41 hh, c_r57 hh, c_r58 hh, c_s32 hh, c_s34 hh, c_s35 hh, c_s36 hh, c_s38 hh, c_s40 hh, c_s41 hh, c_s57 hh, c_s58 hh, c_ho hh hO, c_hg0 hh hO, c_hg1 hh hO, c_hg2 hh hO, c_hg3 hh hO, c_hg4 hh hO, c_hg5 hh hO, c_hg6 hh hO, c_hg7 hh hO, c_hg8 hh hO, c_hg9 hh hO, c_hg10 hh hO, c_hq hh hO, c_hbg0 hh hO, c_hbg1 hh hO, c_hbo hh hO, c_hno hh hO, c_hng0 hh hO, c_hng1 hh hO, c_hng2 hh hO, c_hng3 hh hO, c_hng4 hh hO, c_hdo hh hO, c_hdg0 hh hO, c_hdg1 hh hO, c_hdg2 hh hO, c_hdg3 hh hO, c_hdg4 hh hO, c_hdg5 hh hO, c_hp4 hh hO, c_hp5 hh hO, c_hp6 hh hO, c_hp7 hh hO, c_hp8 hh hO, c_hp9 hh hO, c_hp10 hh hO, c_hbp hh hO, c_hnp hh hO, c_hdp0 hh hO, c_hdp1 hh hO, c_hdp2 hh hO, c_hdp3 hh hO, c_hdp4 hh hO, c_hdp5 hh hO, c_hr3 hh hO, c_hr5 hh hO, c_hr6 hh hO, c_hr7 hh hO, c_hr8 hh hO, c_hr9 hh hO, c_hs3 hh hO, c_hs5 hh hO, c_hs6 hh hO, c_hs7 hh hO, c_hs8 hh hO, c_hs9 hh hO, zI_add, zI_sub, zI_mul, zI_neg, zL_add, zL_sub, zL_mul, Option.bind_some, Option.toList_some, Option.toList_none, List.cons_append, List.nil_append, zI_lt, zI_le, zI_eq, zI_eq0, zI_lt0, zI_le0, zI_0lt, zI_0le, bZ_e0, Int.add_zero, Int.zero_add, e6]
    rw [if_neg (by omega)]
    simp (disch := first | omega | assumption) only [s_X4_findStand_22, s_X4_findStand_23, s_X4_findStand_24, s_X4_findStand_27, c_oo hh, c_og0 hh, c_og1 hh, c_og2 hh, c_og3 hh, c_og4 hh, c_og5 hh, c_og6 hh, c_og7 hh, c_og8 hh, c_og9 hh, c_ko hh, c_kg0 hh, c_kg1 hh, c_kg2 hh, c_kg3 hh, c_kg4 hh, c_kg5 hh, c_kg6 hh, c_wo hh, c_wg0 hh, c_wg1 hh, c_wg2 hh, c_wg3 hh, c_wg4 hh, c_wg5 hh, c_wg6 hh, c_wg7 hh, c_wg8 hh, c_po hh, c_pg0 hh, c_pg1 hh, c_pg2 hh, c_pg3 hh, c_pg4 hh, c_pg5 hh, c_pg6 hh, c_pg7 hh, c_q31 hh, c_q39 hh, c_op7 hh, c_op8 hh, c_op9 hh, c_kp0 hh, c_kp1 hh, c_kp5 hh, c_kp6 hh, c_wp1 hh, c_wp2 hh, c_wp3 hh, c_wp7 hh, c_wp8 hh, c_pp0 hh, c_pp1 hh, c_pp2 hh, c_pp6 hh, c_pp7 hh, c_r32 hh, c_r34 hh, c_r35 hh, c_r36 hh, c_r38 hh, c_r40 hh, c_r41 hh, c_r57 hh, c_r58 hh, c_s32 hh, c_s34 hh, c_s35 hh, c_s36 hh, c_s38 hh, c_s40 hh, c_s41 hh, c_s57 hh, c_s58 hh, c_ho hh hO, c_hg0 hh hO, c_hg1 hh hO, c_hg2 hh hO, c_hg3 hh hO, c_hg4 hh hO, c_hg5 hh hO, c_hg6 hh hO, c_hg7 hh hO, c_hg8 hh hO, c_hg9 hh hO, c_hg10 hh hO, c_hq hh hO, c_hbg0 hh hO, c_hbg1 hh hO, c_hbo hh hO, c_hno hh hO, c_hng0 hh hO, c_hng1 hh hO, c_hng2 hh hO, c_hng3 hh hO, c_hng4 hh hO, c_hdo hh hO, c_hdg0 hh hO, c_hdg1 hh hO, c_hdg2 hh hO, c_hdg3 hh hO, c_hdg4 hh hO, c_hdg5 hh hO, c_hp4 hh hO, c_hp5 hh hO, c_hp6 hh hO, c_hp7 hh hO, c_hp8 hh hO, c_hp9 hh hO, c_hp10 hh hO, c_hbp hh hO, c_hnp hh hO, c_hdp0 hh hO, c_hdp1 hh hO, c_hdp2 hh hO, c_hdp3 hh hO, c_hdp4 hh hO, c_hdp5 hh hO, c_hr3 hh hO, c_hr5 hh hO, c_hr6 hh hO, c_hr7 hh hO, c_hr8 hh hO, c_hr9 hh hO, c_hs3 hh hO, c_hs5 hh hO, c_hs6 hh hO, c_hs7 hh hO, c_hs8 hh hO, c_hs9 hh hO, zI_add, zI_sub, zI_mul, zI_neg, zL_add, zL_sub, zL_mul, Option.bind_some, Option.toList_some, Option.toList_none, List.cons_append, List.nil_append, zI_lt, zI_le, zI_eq, zI_eq0, zI_lt0, zI_le0, zI_0lt, zI_0le, bZ_e0, Int.add_zero, Int.zero_add, k_isOpen hh hO hr hv]
    rw [scG]
    by_cases z : hasB (g 4) q = false
    · rw [if_neg (show ¬ ¬ ((0 ≤ (q : Int) ∧ (q : Int) < g 0 * g 1) ∧ hasB (g 4) q = false) from fun y => y ⟨⟨by omega, by omega⟩, z⟩)]
      have hwt := wtG_rg (L := lqG g q) hv
      obtain ⟨W, w1, w2, w3, w4, w5⟩ := k_weigh (d := d) (h := h) (La := 57) (n := 125) (pl := (q : Int) * 5) (x := (q : Int)) (y := (q : Int)) (L := lqG g q) hh hO hr hv ho isA_57 (by decide) (Or.inl rfl) (by omega) (by omega) (fun p hp => by
        have := hl q (by omega) z p hp
        rw [show ((q : Int) * 5 + (p : Int)).toNat = 5 * q + p by omega, this]
        unfold lqG
        rw [Int.toNat_natCast]) (fun p => by
        have := lgt_rg (g 0) (g 4) (g (6 + p.toNat)) q
        unfold lqG
        omega) (by omega)
      rw [s1] at w2 w3
      rw [s2] at w3
      have hst : stW g q = wtG g (lqG g q) := rfl
      obtain ⟨T', t1, t2, t3, t4⟩ := ih (q + 1) W (if (!hasB (g 4) q) = true ∧ s.1 < stW g q then (stW g q, id (q : Int)) else s) (by omega) (hR_k (fun i j a1 a2 => w1 i j (by omega) (by omega) (by omega)) hr) (fun r r1 r2 p p1 => (w1 _ _ (by omega) (by omega) (by omega)).trans (hl r r1 r2 p p1)) (by
        rw [w2, z, hst]
        by_cases y : s.1 < wtG g (lqG g q)
        · rw [if_pos y, if_pos ⟨rfl, y⟩]
        · rw [if_neg y, if_neg (fun x => y x.2)]) (by
        rw [w3, z, hst]
        by_cases y : s.1 < wtG g (lqG g q)
        · rw [if_pos y, if_pos ⟨rfl, y⟩]; rfl
        · rw [if_neg y, if_neg (fun x => y x.2)]) (by rw [hst]; split <;> (try dsimp only) <;> omega) (by rw [hst]; split <;> (try dsimp only) <;> omega)
      refine ⟨T', fun i j a1 a2 a3 => (t1 i j a1 a2 a3).trans (w1 i j a1 a2 a3), t2, t3, ?_⟩
      simp (disch := first | omega | assumption) only [s_X4_findStand_30, s_X4_findStand_31, s_X4_findStand_32, s_X4_findStand_33, s_X4_findStand_36, s_X4_findStand_37, s_X4_findStand_38, s_X4_findStand_39, s_X4_findStand_40, s_X4_findStand_41, s_X4_findStand_44, s_X4_findStand_47, c_oo hh, c_og0 hh, c_og1 hh, c_og2 hh, c_og3 hh, c_og4 hh, c_og5 hh, c_og6 hh, c_og7 hh, c_og8 hh, c_og9 hh, c_ko hh, c_kg0 hh, c_kg1 hh, c_kg2 hh, c_kg3 hh, c_kg4 hh, c_kg5 hh, c_kg6 hh, c_wo hh, c_wg0 hh, c_wg1 hh, c_wg2 hh, c_wg3 hh, c_wg4 hh, c_wg5 hh, c_wg6 hh, c_wg7 hh, c_wg8 hh, c_po hh, c_pg0 hh, c_pg1 hh, c_pg2 hh, c_pg3 hh, c_pg4 hh, c_pg5 hh, c_pg6 hh, c_pg7 hh, c_q31 hh, c_q39 hh, c_op7 hh, c_op8 hh, c_op9 hh, c_kp0 hh, c_kp1 hh, c_kp5 hh, c_kp6 hh, c_wp1 hh, c_wp2 hh, c_wp3 hh, c_wp7 hh, c_wp8 hh, c_pp0 hh, c_pp1 hh, c_pp2 hh, c_pp6 hh, c_pp7 hh, c_r32 hh, c_r34 hh, c_r35 hh, c_r36 hh, c_r38 hh, c_r40 hh, c_r41 hh, c_r57 hh, c_r58 hh, c_s32 hh, c_s34 hh, c_s35 hh, c_s36 hh, c_s38 hh, c_s40 hh, c_s41 hh, c_s57 hh, c_s58 hh, c_ho hh hO, c_hg0 hh hO, c_hg1 hh hO, c_hg2 hh hO, c_hg3 hh hO, c_hg4 hh hO, c_hg5 hh hO, c_hg6 hh hO, c_hg7 hh hO, c_hg8 hh hO, c_hg9 hh hO, c_hg10 hh hO, c_hq hh hO, c_hbg0 hh hO, c_hbg1 hh hO, c_hbo hh hO, c_hno hh hO, c_hng0 hh hO, c_hng1 hh hO, c_hng2 hh hO, c_hng3 hh hO, c_hng4 hh hO, c_hdo hh hO, c_hdg0 hh hO, c_hdg1 hh hO, c_hdg2 hh hO, c_hdg3 hh hO, c_hdg4 hh hO, c_hdg5 hh hO, c_hp4 hh hO, c_hp5 hh hO, c_hp6 hh hO, c_hp7 hh hO, c_hp8 hh hO, c_hp9 hh hO, c_hp10 hh hO, c_hbp hh hO, c_hnp hh hO, c_hdp0 hh hO, c_hdp1 hh hO, c_hdp2 hh hO, c_hdp3 hh hO, c_hdp4 hh hO, c_hdp5 hh hO, c_hr3 hh hO, c_hr5 hh hO, c_hr6 hh hO, c_hr7 hh hO, c_hr8 hh hO, c_hr9 hh hO, c_hs3 hh hO, c_hs5 hh hO, c_hs6 hh hO, c_hs7 hh hO, c_hs8 hh hO, c_hs9 hh hO, zI_add, zI_sub, zI_mul, zI_neg, zL_add, zL_sub, zL_mul, Option.bind_some, Option.toList_some, Option.toList_none, List.cons_append, List.nil_append, zI_lt, zI_le, zI_eq, zI_eq0, zI_lt0, zI_le0, zI_0lt, zI_0le, bZ_e0, Int.add_zero, Int.zero_add, w5]
      rw [show (q : Int) + 1 = ((q + 1 : Nat) : Int) by omega]
      exact t4
    · rw [if_pos (show ¬ ((0 ≤ (q : Int) ∧ (q : Int) < g 0 * g 1) ∧ hasB (g 4) q = false) from fun y => z y.2)]
      obtain ⟨T', t1, t2, t3, t4⟩ := ih (q + 1) T s (by omega) hr hl s1 s2 b1 b2
      have zt : hasB (g 4) q = true := by
        cases hb : hasB (g 4) q with
        | true => rfl
        | false => exact absurd hb z
      rw [show (q : Int) + 1 = ((q + 1 : Nat) : Int) by omega]
      rw [if_neg (show ¬ ((!hasB (g 4) q) = true ∧ s.1 < stW g q) from fun y => by rw [zt] at y; exact absurd y.1 (by decide))]
      refine ⟨T', t1, t2, t3, ?_⟩
      simp (disch := first | omega | assumption) only [s_X4_findStand_44, s_X4_findStand_47, c_oo hh, c_og0 hh, c_og1 hh, c_og2 hh, c_og3 hh, c_og4 hh, c_og5 hh, c_og6 hh, c_og7 hh, c_og8 hh, c_og9 hh, c_ko hh, c_kg0 hh, c_kg1 hh, c_kg2 hh, c_kg3 hh, c_kg4 hh, c_kg5 hh, c_kg6 hh, c_wo hh, c_wg0 hh, c_wg1 hh, c_wg2 hh, c_wg3 hh, c_wg4 hh, c_wg5 hh, c_wg6 hh, c_wg7 hh, c_wg8 hh, c_po hh, c_pg0 hh, c_pg1 hh, c_pg2 hh, c_pg3 hh, c_pg4 hh, c_pg5 hh, c_pg6 hh, c_pg7 hh, c_q31 hh, c_q39 hh, c_op7 hh, c_op8 hh, c_op9 hh, c_kp0 hh, c_kp1 hh, c_kp5 hh, c_kp6 hh, c_wp1 hh, c_wp2 hh, c_wp3 hh, c_wp7 hh, c_wp8 hh, c_pp0 hh, c_pp1 hh, c_pp2 hh, c_pp6 hh, c_pp7 hh, c_r32 hh, c_r34 hh, c_r35 hh, c_r36 hh, c_r38 hh, c_r40 hh, c_r41 hh, c_r57 hh, c_r58 hh, c_s32 hh, c_s34 hh, c_s35 hh, c_s36 hh, c_s38 hh, c_s40 hh, c_s41 hh, c_s57 hh, c_s58 hh, c_ho hh hO, c_hg0 hh hO, c_hg1 hh hO, c_hg2 hh hO, c_hg3 hh hO, c_hg4 hh hO, c_hg5 hh hO, c_hg6 hh hO, c_hg7 hh hO, c_hg8 hh hO, c_hg9 hh hO, c_hg10 hh hO, c_hq hh hO, c_hbg0 hh hO, c_hbg1 hh hO, c_hbo hh hO, c_hno hh hO, c_hng0 hh hO, c_hng1 hh hO, c_hng2 hh hO, c_hng3 hh hO, c_hng4 hh hO, c_hdo hh hO, c_hdg0 hh hO, c_hdg1 hh hO, c_hdg2 hh hO, c_hdg3 hh hO, c_hdg4 hh hO, c_hdg5 hh hO, c_hp4 hh hO, c_hp5 hh hO, c_hp6 hh hO, c_hp7 hh hO, c_hp8 hh hO, c_hp9 hh hO, c_hp10 hh hO, c_hbp hh hO, c_hnp hh hO, c_hdp0 hh hO, c_hdp1 hh hO, c_hdp2 hh hO, c_hdp3 hh hO, c_hdp4 hh hO, c_hdp5 hh hO, c_hr3 hh hO, c_hr5 hh hO, c_hr6 hh hO, c_hr7 hh hO, c_hr8 hh hO, c_hr9 hh hO, c_hs3 hh hO, c_hs5 hh hO, c_hs6 hh hO, c_hs7 hh hO, c_hs8 hh hO, c_hs9 hh hO, zI_add, zI_sub, zI_mul, zI_neg, zL_add, zL_sub, zL_mul, Option.bind_some, Option.toList_some, Option.toList_none, List.cons_append, List.nil_append, zI_lt, zI_le, zI_eq, zI_eq0, zI_lt0, zI_le0, zI_0lt, zI_0le, bZ_e0, Int.add_zero, Int.zero_add]
      rw [show (q : Int) + 1 = ((q + 1 : Nat) : Int) by omega]
      exact t4
theorem k_stand (hh : 91 ≤ h.1) (hO : isH o) (hr : hR G o g) (hv : vI g) (ho : o + 15 ≤ 56) : ∃ G', (∀ i j, ¬ (i = 56 ∧ j < 3) → i ≠ 57 → i ≠ 59 → i ≠ 60 → G' i j = G i j) ∧ G' 56 2 = (stG g (-1, -1)).1 ∧ G' 56 0 = (stG g (-1, -1)).2 ∧ x_cl (d + 4) n_X4_findStand [.ref 56, .ref o] (cH h G) = some (none, cH h G') := by
  have hsq := vI_sq hv
  obtain ⟨F, f1, f2, f3⟩ := k_fill (d := d) (La := 57) hh hO hr hv isA_57 (by omega)
  have hrF : hR F o g := hR_k (fun i j a1 a2 => f1 i j (by omega)) hr
  obtain ⟨T', t1, t2, t3, t4⟩ := l_standK (d := d) (h := h) hh hO hv ho (g 0 * g 1).toNat 0 (up2 (up2 (up2 F 56 2 (-1)) 56 0 (-1)) 56 1 (-1)) (-1, -1) (by omega) (hR_k (fun i j a1 a2 => by rw [up2_n (by omega), up2_n (by omega), up2_n (by omega)]) hrF) (fun r r1 r2 p p1 => by
    rw [up2_n (by omega), up2_n (by omega), up2_n (by omega)]
    exact f2 r r1 r2 p p1) (by rw [up2_n (by omega), up2_n (by omega), up2_s]) (by rw [up2_n (by omega), up2_s]) (by decide) (by decide)
  refine ⟨T', fun i j a1 a2 a3 a4 => ?_, t2, t3, ?_⟩
  · rw [t1 i j a1 a3 a4, up2_n (by omega), up2_n (by omega), up2_n (by omega), f1 i j a2]
  · simp (disch := first | omega | assumption) only [e_X4_findStand, s_X4_findStand_0, s_X4_findStand_1, s_X4_findStand_2, s_X4_findStand_5, s_X4_findStand_8, s_X4_findStand_9, s_X4_findStand_12, s_X4_findStand_13, c_oo hh, c_og0 hh, c_og1 hh, c_og2 hh, c_og3 hh, c_og4 hh, c_og5 hh, c_og6 hh, c_og7 hh, c_og8 hh, c_og9 hh, c_ko hh, c_kg0 hh, c_kg1 hh, c_kg2 hh, c_kg3 hh, c_kg4 hh, c_kg5 hh, c_kg6 hh, c_wo hh, c_wg0 hh, c_wg1 hh, c_wg2 hh, c_wg3 hh, c_wg4 hh, c_wg5 hh, c_wg6 hh, c_wg7 hh, c_wg8 hh, c_po hh, c_pg0 hh, c_pg1 hh, c_pg2 hh, c_pg3 hh, c_pg4 hh, c_pg5 hh, c_pg6 hh, c_pg7 hh, c_q31 hh, c_q39 hh, c_op7 hh, c_op8 hh, c_op9 hh, c_kp0 hh, c_kp1 hh, c_kp5 hh, c_kp6 hh, c_wp1 hh, c_wp2 hh, c_wp3 hh, c_wp7 hh, c_wp8 hh, c_pp0 hh, c_pp1 hh, c_pp2 hh, c_pp6 hh, c_pp7 hh, c_r32 hh, c_r34 hh, c_r35 hh, c_r36 hh, c_r38 hh, c_r40 hh, c_r41 hh, c_r57 hh, c_r58 hh, c_s32 hh, c_s34 hh, c_s35 hh, c_s36 hh, c_s38 hh, c_s40 hh, c_s41 hh, c_s57 hh, c_s58 hh, c_ho hh hO, c_hg0 hh hO, c_hg1 hh hO, c_hg2 hh hO, c_hg3 hh hO, c_hg4 hh hO, c_hg5 hh hO, c_hg6 hh hO, c_hg7 hh hO, c_hg8 hh hO, c_hg9 hh hO, c_hg10 hh hO, c_hq hh hO, c_hbg0 hh hO, c_hbg1 hh hO, c_hbo hh hO, c_hno hh hO, c_hng0 hh hO, c_hng1 hh hO, c_hng2 hh hO, c_hng3 hh hO, c_hng4 hh hO, c_hdo hh hO, c_hdg0 hh hO, c_hdg1 hh hO, c_hdg2 hh hO, c_hdg3 hh hO, c_hdg4 hh hO, c_hdg5 hh hO, c_hp4 hh hO, c_hp5 hh hO, c_hp6 hh hO, c_hp7 hh hO, c_hp8 hh hO, c_hp9 hh hO, c_hp10 hh hO, c_hbp hh hO, c_hnp hh hO, c_hdp0 hh hO, c_hdp1 hh hO, c_hdp2 hh hO, c_hdp3 hh hO, c_hdp4 hh hO, c_hdp5 hh hO, c_hr3 hh hO, c_hr5 hh hO, c_hr6 hh hO, c_hr7 hh hO, c_hr8 hh hO, c_hr9 hh hO, c_hs3 hh hO, c_hs5 hh hO, c_hs6 hh hO, c_hs7 hh hO, c_hs8 hh hO, c_hs9 hh hO, zI_add, zI_sub, zI_mul, zI_neg, zL_add, zL_sub, zL_mul, Option.bind_some, Option.toList_some, Option.toList_none, List.cons_append, List.nil_append, zI_lt, zI_le, zI_eq, zI_eq0, zI_lt0, zI_le0, zI_0lt, zI_0le, bZ_e0, Int.add_zero, Int.zero_add, f3, e_X4_forget, s_X4_forget_0, s_X4_forget_1, s_X4_forget_2, s_X4_forget_5, s_X4_forget_6, s_X4_forget_7, s_X4_forget_10, s_X4_forget_11, s_X4_forget_12, s_X4_forget_15]
    exact t4
end

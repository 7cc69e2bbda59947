/-! WAYS: the component goes for worth -/
section
variable {h : xH} {t T : Nat → Nat → Int}
def frW (k : Nat) (T T' : Nat → Nat → Int) : Prop := (∀ i j, i ≠ 37 → i ≠ 38 → ¬ (i = 41 ∧ k ≤ j) → ¬ (44 + 2 * k ≤ i ∧ i < 56) → T' i j = T i j) ∧ T' 37 7 = T 37 7 ∧ T' 37 8 = T 37 8
theorem frW.r {k : Nat} {T : Nat → Nat → Int} : frW k T T := ⟨fun _ _ _ _ _ _ => rfl, rfl, rfl⟩
theorem frW.tr {k : Nat} {T1 T2 T3 : Nat → Nat → Int} (p : frW k T1 T2) (q : frW k T2 T3) : frW k T1 T3 := ⟨fun i j a b c d => (q.1 i j a b c d).trans (p.1 i j a b c d), q.2.1.trans p.2.1, q.2.2.trans p.2.2⟩
theorem frW.low {k : Nat} {T1 T2 : Nat → Nat → Int} (p : frW (k + 1) T1 T2) : frW k T1 T2 := ⟨fun i j a b c d => p.1 i j a b (by omega) (by omega), p.2⟩
def eR (T t : Nat → Nat → Int) (m : Nat) (who : Int) : Prop := hR T 1 (rg t 0) ∧ ltW T (rg t 0) ∧ T 37 7 = (m : Int) ∧ T 37 8 = who
theorem eR.go {k m : Nat} {who : Int} {T T' : Nat → Nat → Int} (p : eR T t m who) (q : frW k T T') : eR T' t m who := ⟨hR_k (fun i j a1 a2 => q.1 i j (by omega) (by omega) (by omega) (by omega)) p.1, fun r r1 r2 x x1 => (q.1 _ _ (by omega) (by omega) (by omega) (by omega)).trans (p.2.1 r r1 r2 x x1), q.2.1.trans p.2.2.1, q.2.2.trans p.2.2.2⟩
theorem nR.go {k : Nat} {lf lt : Int → Int} {T T' : Nat → Nat → Int} (p : nR T t k lf lt) (q : frW k T T') (hk : k < 7) : nR T' t k lf lt := fun i hi => by
  rw [q.1 (43 + 2 * k) i (by omega) (by omega) (by omega) (by omega), q.1 (42 + 2 * k) 1 (by omega) (by omega) (by omega) (by omega)]
  exact p i hi
def pR (T : Nat → Nat → Int) (path : Nat → Int) (k : Nat) : Prop := ∀ j, j < k → T 41 j = path (j + 1)
theorem pR.go {k : Nat} {path : Nat → Int} {T T' : Nat → Nat → Int} (p : pR T path k) (q : frW k T T') : pR T' path k := fun j hj => (q.1 41 j (by omega) (by omega) (by omega) (by omega)).trans (p j hj)
def acW (T : Nat → Nat → Int) (A : xA) (m : Nat) : Prop := T 37 1 = A.1 ∧ (A.1 = -1 ∨ ∀ j, j < m → T 38 j = A.2.2.2 (j + 1))
theorem vis_le {m : Nat} {who : Int} {by' : Bool} (hs : srOk t) : ∀ (n : Nat) (q sum : Int) (lf lt : Int → Int) (path : Nat → Int) (k : Nat) (A : xA), bkOk t lf lt → A.1 ≤ 10000 → sum + 900 * (n : Int) ≤ 10000 → (visF t m who by' n q sum lf lt path k A).1 ≤ 10000 := by
  intro n
  induction n with
  | zero =>
    intro q sum lf lt path k A hb hA h0
    rw [visF]
    unfold endA
    split
    · split
      · dsimp only; omega
      · exact hA
    · exact hA
  | succ n ih =>
    intro q sum lf lt path k A hb hA h0
    rw [visF]
    refine kdF_P (P := fun B => B.1 ≤ 10000) (fun b B hB => ?_) _ _ _ hA
    have w := nwt_rg (b := b) hs hb
    exact ih _ _ _ _ _ _ _ (bkOk_n hb) hB (by omega)
theorem sbV_rg {g : Nat → Int} {q s : Int} (hv : vI g) : sbV g q s = -1 ∨ ((0 ≤ sbV g q s ∧ sbV g q s < g 0 * g 1) ∧ hasB (g 4) (sbV g q s) = false) := by
  unfold sbV
  by_cases z : (0 ≤ sbX (g 0) q s ∧ sbX (g 0) q s < g 0) ∧ (0 ≤ sbY (g 0) q s ∧ sbY (g 0) q s < g 1)
  · rw [if_pos z]
    by_cases y : hasB (g 4) (sbY (g 0) q s * g 0 + sbX (g 0) q s) = false
    · rw [if_pos y]
      exact Or.inr ⟨xy_lt hv.1 z.1 z.2, y⟩
    · rw [if_neg y]
      exact Or.inl rfl
  · rw [if_neg z]
    exact Or.inl rfl
/-- left early: nothing was lost -/
theorem pr_acW {m n k : Nat} {who q sum : Int} {lf lt : Int → Int} {path : Nat → Int} {A : xA} {b : Bool} (hs : srOk t) (hb : bkOk t lf lt) (hA : acW T A m) (h : b = true ↔ (∀ p : Nat, (p : Int) < t 1 5 → ¬ (hasB who p = true ∧ min ((n : Int) * cap t p) (lf p) < lf p)) ∧ A.1 < sum + toC t n lf) (hf : ¬ b = true) : acW T (visF t m who false n q sum lf lt path k A) m := by
  by_cases z : ∀ p : Nat, (p : Int) < t 1 5 → ¬ (hasB who p = true ∧ min ((n : Int) * cap t p) (lf p) < lf p)
  · have z2 : ¬ A.1 < sum + toC t n lf := fun y => hf (h.mpr ⟨z, y⟩)
    have u := vis_ub (m := m) (who := who) (by' := false) hs n q sum lf lt path k A hb (by omega)
    unfold acW
    rw [u.1, u.2]
    exact hA
  · obtain ⟨p, hp⟩ := Classical.not_forall.mp z
    obtain ⟨h1, h2⟩ := Classical.not_imp.mp hp
    have h3 := Classical.not_not.mp h2
    rw [vis_who hs h1 h3.1 n q sum lf lt path k A hb (by
      have := h3.2
      generalize (n : Int) * cap t p = N at *
      omega)]
    exact hA
theorem cp_w (hh : 91 ≤ h.1) : x_copy (cH h T) 41 (zI 0) 38 (zI 0) (zI 6) = some (cH h (cpU T 41 0 38 0 6)) := c_cpy (a := 6) (b := 6) hh (by decide) (by decide) (fun _ => rfl) (fun _ => rfl) (by decide) (by decide) (by decide) (by decide) (by decide) (by decide) (by decide)
def gW (h : xH) (t : Nat → Nat → Int) (m : Nat) (who : Int) (n : Nat) : Prop := ∀ (e k : Nat) (T : Nat → Nat → Int) (A : xA) (q sum : Int) (lf lt : Int → Int) (path : Nat → Int), n ≤ e → k + n = m → eR T t m who → nR T t k lf lt → bkOk t lf lt → pR T path k → acW T A m → -1 ≤ A.1 → A.1 ≤ 10000 → 0 ≤ q → q < sqN t 0 → 0 ≤ sum → sum ≤ 900 * (k : Int) →
  ∃ T', frW k T T' ∧ acW T' (visF t m who false n q sum lf lt path k A) m ∧ x_cl (e + 4) n_X6_goForWorth [.ref 37, .ref 1, .int (zI k), .int (zI q), .int (zI sum)] (cH h T) = some (none, cH h T')
theorem gW_0 {m : Nat} {who : Int} (hh : 91 ≤ h.1) (hv : vI (rg t 0)) (hm : m ≤ 6) : gW h t m who 0 := by
  intro e k T A q sum lf lt path he hk hE hN hb hP hA a1 a2 q0 q1 s0 s1
  have hs := sr_of (now_v hv)
  have h5 := hs.2.2.1
  have em : T 37 7 = ((k + 0 : Nat) : Int) := by rw [hE.2.2.1, hk]
  obtain ⟨b, b1, b2⟩ := k_mb (e := e + 1) (h := h) (n := 0) (k := k) (sum := sum) hh hE.1 hv em (by omega) hN hb hE.2.2.2 hA.1 (by omega) (by omega)
  by_cases z : b = true
  · have y := b1.mp z
    rw [toC_0 hs hb] at y
    have ok : okA t who false lf (t 1 5).toNat = true := okA_t _ fun p hp => by
      have y1 := y.1 p (by omega)
      have l := (hb p (by omega) (by omega)).1
      unfold okP
      rw [if_neg (by decide)]
      cases c : hasB who p with
      | false => rfl
      | true =>
        have : ¬ min (((0 : Nat) : Int) * cap t p) (lf p) < lf p := fun x => y1 ⟨c, x⟩
        rw [show ((0 : Nat) : Int) = 0 from rfl, Int.zero_mul] at this
        rw [decide_eq_true (by omega)]
        rfl
    refine ⟨cpU (up2 T 37 1 sum) 41 0 38 0 6, ⟨fun i j c1 c2 c3 c4 => ?_, ?_, ?_⟩, ?_, ?_⟩
    · rw [cpU_n (by omega), up2_n (by omega)]
    · rw [cpU_n (by omega), up2_n (by omega)]
    · rw [cpU_n (by omega), up2_n (by omega)]
    · rw [visF, ok]
      unfold endA
      rw [if_pos rfl, if_pos (by omega)]
      refine ⟨?_, Or.inr fun j hj => ?_⟩
      · rw [cpU_n (by omega), up2_s]
      · rw [cpU_s (by omega), up2_n (by omega), show 0 + (j - 0) = j by omega, hP j (by omega)]
        exact (if_pos (by omega)).symm
    · simp (disch := first | omega | assumption) only [e_X6_goForWorth, s_X6_goForWorth_0, s_X6_goForWorth_1, s_X6_goForWorth_2, s_X6_goForWorth_3, s_X6_goForWorth_5, s_X6_goForWorth_8, c_oo hh, c_og0 hh, c_og1 hh, c_og2 hh, c_og3 hh, c_og4 hh, c_og5 hh, c_og6 hh, c_og7 hh, c_og8 hh, c_og9 hh, c_ko hh, c_kg0 hh, c_kg1 hh, c_kg2 hh, c_kg3 hh, c_kg4 hh, c_kg5 hh, c_kg6 hh, c_wo hh, c_wg0 hh, c_wg1 hh, c_wg2 hh, c_wg3 hh, c_wg4 hh, c_wg5 hh, c_wg6 hh, c_wg7 hh, c_wg8 hh, c_po hh, c_pg0 hh, c_pg1 hh, c_pg2 hh, c_pg3 hh, c_pg4 hh, c_pg5 hh, c_pg6 hh, c_pg7 hh, c_q31 hh, c_q39 hh, c_op7 hh, c_op8 hh, c_op9 hh, c_kp0 hh, c_kp1 hh, c_kp5 hh, c_kp6 hh, c_wp1 hh, c_wp2 hh, c_wp3 hh, c_wp7 hh, c_wp8 hh, c_pp0 hh, c_pp1 hh, c_pp2 hh, c_pp6 hh, c_pp7 hh, c_r32 hh, c_r34 hh, c_r35 hh, c_r36 hh, c_r38 hh, c_r40 hh, c_r41 hh, c_r57 hh, c_r58 hh, c_s32 hh, c_s34 hh, c_s35 hh, c_s36 hh, c_s38 hh, c_s40 hh, c_s41 hh, c_s57 hh, c_s58 hh, zI_add, zI_sub, zI_mul, zI_neg, zL_add, zL_sub, zL_mul, Option.bind_some, Option.toList_some, Option.toList_none, List.cons_append, List.nil_append, zI_lt, zI_le, zI_eq, zI_eq0, zI_lt0, zI_le0, zI_0lt, zI_0le, bZ_e0, b2]
      rw [if_neg (fun x => x z)]
      simp (disch := first | omega | assumption) only [s_X6_goForWorth_12, s_X6_goForWorth_13, s_X6_goForWorth_14, s_X6_goForWorth_17, c_oo hh, c_og0 hh, c_og1 hh, c_og2 hh, c_og3 hh, c_og4 hh, c_og5 hh, c_og6 hh, c_og7 hh, c_og8 hh, c_og9 hh, c_ko hh, c_kg0 hh, c_kg1 hh, c_kg2 hh, c_kg3 hh, c_kg4 hh, c_kg5 hh, c_kg6 hh, c_wo hh, c_wg0 hh, c_wg1 hh, c_wg2 hh, c_wg3 hh, c_wg4 hh, c_wg5 hh, c_wg6 hh, c_wg7 hh, c_wg8 hh, c_po hh, c_pg0 hh, c_pg1 hh, c_pg2 hh, c_pg3 hh, c_pg4 hh, c_pg5 hh, c_pg6 hh, c_pg7 hh, c_q31 hh, c_q39 hh, c_op7 hh, c_op8 hh, c_op9 hh, c_kp0 hh, c_kp1 hh, c_kp5 hh, c_kp6 hh, c_wp1 hh, c_wp2 hh, c_wp3 hh, c_wp7 hh, c_wp8 hh, c_pp0 hh, c_pp1 hh, c_pp2 hh, c_pp6 hh, c_pp7 hh, c_r32 hh, c_r34 hh, c_r35 hh, c_r36 hh, c_r38 hh, c_r40 hh, c_r41 hh, c_r57 hh, c_r58 hh, c_s32 hh, c_s34 hh, c_s35 hh, c_s36 hh, c_s38 hh, c_s40 hh, c_s41 hh, c_s57 hh, c_s58 hh, zI_add, zI_sub, zI_mul, zI_neg, zL_add, zL_sub, zL_mul, Option.bind_some, Option.toList_some, Option.toList_none, List.cons_append, List.nil_append, zI_lt, zI_le, zI_eq, zI_eq0, zI_lt0, zI_le0, zI_0lt, zI_0le, bZ_e0, em]
      rw [if_neg (by omega)]
      simp (disch := first | omega | assumption) only [s_X6_goForWorth_20, s_X6_goForWorth_21, s_X6_goForWorth_23, s_X6_goForWorth_26, s_X6_goForWorth_27, s_X6_goForWorth_30, s_X6_goForWorth_31, s_X6_goForWorth_32, s_X6_goForWorth_35, s_X6_goForWorth_36, s_X6_goForWorth_38, s_X6_goForWorth_41, c_oo hh, c_og0 hh, c_og1 hh, c_og2 hh, c_og3 hh, c_og4 hh, c_og5 hh, c_og6 hh, c_og7 hh, c_og8 hh, c_og9 hh, c_ko hh, c_kg0 hh, c_kg1 hh, c_kg2 hh, c_kg3 hh, c_kg4 hh, c_kg5 hh, c_kg6 hh, c_wo hh, c_wg0 hh, c_wg1 hh, c_wg2 hh, c_wg3 hh, c_wg4 hh, c_wg5 hh, c_wg6 hh, c_wg7 hh, c_wg8 hh, c_po hh, c_pg0 hh, c_pg1 hh, c_pg2 hh, c_pg3 hh, c_pg4 hh, c_pg5 hh, c_pg6 hh, c_pg7 hh, c_q31 hh, c_q39 hh, c_op7 hh, c_op8 hh, c_op9 hh, c_kp0 hh, c_kp1 hh, c_kp5 hh, c_kp6 hh, c_wp1 hh, c_wp2 hh, c_wp3 hh, c_wp7 hh, c_wp8 hh, c_pp0 hh, c_pp1 hh, c_pp2 hh, c_pp6 hh, c_pp7 hh, c_r32 hh, c_r34 hh, c_r35 hh, c_r36 hh, c_r38 hh, c_r40 hh, c_r41 hh, c_r57 hh, c_r58 hh, c_s32 hh, c_s34 hh, c_s35 hh, c_s36 hh, c_s38 hh, c_s40 hh, c_s41 hh, c_s57 hh, c_s58 hh, zI_add, zI_sub, zI_mul, zI_neg, zL_add, zL_sub, zL_mul, Option.bind_some, Option.toList_some, Option.toList_none, List.cons_append, List.nil_append, zI_lt, zI_le, zI_eq, zI_eq0, zI_lt0, zI_le0, zI_0lt, zI_0le, bZ_e0, cp_w hh]
  · refine ⟨T, frW.r, pr_acW hs hb hA b1 z, ?_⟩
    simp (disch := first | omega | assumption) only [e_X6_goForWorth, s_X6_goForWorth_0, s_X6_goForWorth_1, s_X6_goForWorth_2, s_X6_goForWorth_3, s_X6_goForWorth_5, s_X6_goForWorth_8, s_X6_goForWorth_11, c_oo hh, c_og0 hh, c_og1 hh, c_og2 hh, c_og3 hh, c_og4 hh, c_og5 hh, c_og6 hh, c_og7 hh, c_og8 hh, c_og9 hh, c_ko hh, c_kg0 hh, c_kg1 hh, c_kg2 hh, c_kg3 hh, c_kg4 hh, c_kg5 hh, c_kg6 hh, c_wo hh, c_wg0 hh, c_wg1 hh, c_wg2 hh, c_wg3 hh, c_wg4 hh, c_wg5 hh, c_wg6 hh, c_wg7 hh, c_wg8 hh, c_po hh, c_pg0 hh, c_pg1 hh, c_pg2 hh, c_pg3 hh, c_pg4 hh, c_pg5 hh, c_pg6 hh, c_pg7 hh, c_q31 hh, c_q39 hh, c_op7 hh, c_op8 hh, c_op9 hh, c_kp0 hh, c_kp1 hh, c_kp5 hh, c_kp6 hh, c_wp1 hh, c_wp2 hh, c_wp3 hh, c_wp7 hh, c_wp8 hh, c_pp0 hh, c_pp1 hh, c_pp2 hh, c_pp6 hh, c_pp7 hh, c_r32 hh, c_r34 hh, c_r35 hh, c_r36 hh, c_r38 hh, c_r40 hh, c_r41 hh, c_r57 hh, c_r58 hh, c_s32 hh, c_s34 hh, c_s35 hh, c_s36 hh, c_s38 hh, c_s40 hh, c_s41 hh, c_s57 hh, c_s58 hh, zI_add, zI_sub, zI_mul, zI_neg, zL_add, zL_sub, zL_mul, Option.bind_some, Option.toList_some, Option.toList_none, List.cons_append, List.nil_append, zI_lt, zI_le, zI_eq, zI_eq0, zI_lt0, zI_le0, zI_0lt, zI_0le, bZ_e0, b2]
    rw [if_pos z]
theorem l_sdW {m n k e : Nat} {who q sum : Int} {lf lt : Int → Int} {path : Nat → Int} (hh : 91 ≤ h.1) (hv : vI (rg t 0)) (hm : m ≤ 6) (ih : gW h t m who n) (he : n ≤ e) (hk : k + (n + 1) = m) (hb : bkOk t lf lt) (q0 : 0 ≤ q) (q1 : q < sqN t 0) (s0 : 0 ≤ sum) (s1 : sum ≤ 900 * (k : Int)) : ∀ (c s : Nat) (T : Nat → Nat → Int) (A : xA) (l6 l7 : Value), s + c = 5 → eR T t m who → nR T t k lf lt → pR T path k → acW T A m → -1 ≤ A.1 → A.1 ≤ 10000 →
    ∃ T', frW k T T' ∧ acW T' (sdF (fun b A => visF t m who false n b (sum + nwt t b lf lt) (nlf t b lf lt) (nlt t b lf lt) (upP path (k + 1) b) (k + 1) A) (rg t 0) q c s A) m ∧
      x_ev (e + 1 + 4, n_X6_goForWorth, 45, [.ref 37, .ref 1, .int (zI k), .int (zI q), .int (zI sum), .int (zI s), l6, l7], [], cH h T) = some (none, cH h T') := by
  have hO := isH_1
  have hs := sr_of (now_v hv)
  have h5 := hs.2.2.1
  have hsq := vI_sq hv
  have q1' := q1
  rw [sq_v] at q1'
  intro c
  induction c with
  | zero =>
    intro s T A l6 l7 hc hE hN hP hA a1 a2
    refine ⟨T, frW.r, hA, ?_⟩
    rw [s_X6_goForWorth_45]
    simp (disch := first | omega | assumption) only [s_X6_goForWorth_47, s_X6_goForWorth_48, c_oo hh, c_og0 hh, c_og1 hh, c_og2 hh, c_og3 hh, c_og4 hh, c_og5 hh, c_og6 hh, c_og7 hh, c_og8 hh, c_og9 hh, c_ko hh, c_kg0 hh, c_kg1 hh, c_kg2 hh, c_kg3 hh, c_kg4 hh, c_kg5 hh, c_kg6 hh, c_wo hh, c_wg0 hh, c_wg1 hh, c_wg2 hh, c_wg3 hh, c_wg4 hh, c_wg5 hh, c_wg6 hh, c_wg7 hh, c_wg8 hh, c_po hh, c_pg0 hh, c_pg1 hh, c_pg2 hh, c_pg3 hh, c_pg4 hh, c_pg5 hh, c_pg6 hh, c_pg7 hh, c_q31 hh, c_q39 hh, c_op7 hh, c_op8 hh, c_op9 hh, c_kp0 hh, c_kp1 hh, c_kp5 hh, c_kp6 hh, c_wp1 hh, c_wp2 hh, c_wp3 hh, c_wp7 hh, c_wp8 hh, c_pp0 hh, c_pp1 hh, c_pp2 hh, c_pp6 hh, c_pp7 hh, c_r32 hh, c_r34 hh, c_r35 hh, c_r36 hh, c_r38 hh, c_r40 hh, c_r41 hh, c_r57 hh, c_r58 hh, c_s32 hh, c_s34 hh, c_s35 hh, c_s36 hh, c_s38 hh, c_s40 hh, c_s41 hh, c_s57 hh, c_s58 hh, zI_add, zI_sub, zI_mul, zI_neg, zL_add, zL_sub, zL_mul, Option.bind_some, Option.toList_some, Option.toList_none, List.cons_append, List.nil_append, zI_lt, zI_le, zI_eq, zI_eq0, zI_lt0, zI_le0, zI_0lt, zI_0le, bZ_e0]
    rw [if_pos (by omega)]
    simp (disch := first | omega | assumption) only [s_X6_goForWorth_115]
  | succ c ihc =>
    intro s T A l6 l7 hc hE hN hP hA a1 a2
    have es : (s : Int) + 1 = ((s + 1 : Nat) : Int) := by omega
    have kb := k_beside (d := e + 2) (h := h) (q := q) (s := (s : Int)) hh hO hE.1 hv q0 (by omega) (by omega) (by omega)
    have hv2 := sbV_rg (q := q) (s := (s : Int)) hv
    have go : x_ev (e + 1 + 4, n_X6_goForWorth, 45, [.ref 37, .ref 1, .int (zI k), .int (zI q), .int (zI sum), .int (zI s), l6, l7], [], cH h T) = if sbV (rg t 0) q s = -1 then x_ev (e + 1 + 4, n_X6_goForWorth, 109, [.ref 37, .ref 1, .int (zI k), .int (zI q), .int (zI sum), .int (zI s), .int (zI (sbV (rg t 0) q s)), l7], [], cH h T) else x_ev (e + 1 + 4, n_X6_goForWorth, 66, [.ref 37, .ref 1, .int (zI k), .int (zI q), .int (zI sum), .int (zI s), .int (zI (sbV (rg t 0) q s)), l7], [], cH h T) := by
      rw [s_X6_goForWorth_45]
      simp (disch := first | omega | assumption) only [s_X6_goForWorth_47, s_X6_goForWorth_48, c_oo hh, c_og0 hh, c_og1 hh, c_og2 hh, c_og3 hh, c_og4 hh, c_og5 hh, c_og6 hh, c_og7 hh, c_og8 hh, c_og9 hh, c_ko hh, c_kg0 hh, c_kg1 hh, c_kg2 hh, c_kg3 hh, c_kg4 hh, c_kg5 hh, c_kg6 hh, c_wo hh, c_wg0 hh, c_wg1 hh, c_wg2 hh, c_wg3 hh, c_wg4 hh, c_wg5 hh, c_wg6 hh, c_wg7 hh, c_wg8 hh, c_po hh, c_pg0 hh, c_pg1 hh, c_pg2 hh, c_pg3 hh, c_pg4 hh, c_pg5 hh, c_pg6 hh, c_pg7 hh, c_q31 hh, c_q39 hh, c_op7 hh, c_op8 hh, c_op9 hh, c_kp0 hh, c_kp1 hh, c_kp5 hh, c_kp6 hh, c_wp1 hh, c_wp2 hh, c_wp3 hh, c_wp7 hh, c_wp8 hh, c_pp0 hh, c_pp1 hh, c_pp2 hh, c_pp6 hh, c_pp7 hh, c_r32 hh, c_r34 hh, c_r35 hh, c_r36 hh, c_r38 hh, c_r40 hh, c_r41 hh, c_r57 hh, c_r58 hh, c_s32 hh, c_s34 hh, c_s35 hh, c_s36 hh, c_s38 hh, c_s40 hh, c_s41 hh, c_s57 hh, c_s58 hh, zI_add, zI_sub, zI_mul, zI_neg, zL_add, zL_sub, zL_mul, Option.bind_some, Option.toList_some, Option.toList_none, List.cons_append, List.nil_append, zI_lt, zI_le, zI_eq, zI_eq0, zI_lt0, zI_le0, zI_0lt, zI_0le, bZ_e0]
      rw [if_neg (by omega)]
      simp (disch := first | omega | assumption) only [s_X6_goForWorth_51, s_X6_goForWorth_52, s_X6_goForWorth_53, s_X6_goForWorth_55, s_X6_goForWorth_58, s_X6_goForWorth_60, s_X6_goForWorth_62, s_X6_goForWorth_63, c_oo hh, c_og0 hh, c_og1 hh, c_og2 hh, c_og3 hh, c_og4 hh, c_og5 hh, c_og6 hh, c_og7 hh, c_og8 hh, c_og9 hh, c_ko hh, c_kg0 hh, c_kg1 hh, c_kg2 hh, c_kg3 hh, c_kg4 hh, c_kg5 hh, c_kg6 hh, c_wo hh, c_wg0 hh, c_wg1 hh, c_wg2 hh, c_wg3 hh, c_wg4 hh, c_wg5 hh, c_wg6 hh, c_wg7 hh, c_wg8 hh, c_po hh, c_pg0 hh, c_pg1 hh, c_pg2 hh, c_pg3 hh, c_pg4 hh, c_pg5 hh, c_pg6 hh, c_pg7 hh, c_q31 hh, c_q39 hh, c_op7 hh, c_op8 hh, c_op9 hh, c_kp0 hh, c_kp1 hh, c_kp5 hh, c_kp6 hh, c_wp1 hh, c_wp2 hh, c_wp3 hh, c_wp7 hh, c_wp8 hh, c_pp0 hh, c_pp1 hh, c_pp2 hh, c_pp6 hh, c_pp7 hh, c_r32 hh, c_r34 hh, c_r35 hh, c_r36 hh, c_r38 hh, c_r40 hh, c_r41 hh, c_r57 hh, c_r58 hh, c_s32 hh, c_s34 hh, c_s35 hh, c_s36 hh, c_s38 hh, c_s40 hh, c_s41 hh, c_s57 hh, c_s58 hh, c_ho hh hO, c_hg0 hh hO, c_hg1 hh hO, c_hg2 hh hO, c_hg3 hh hO, c_hg4 hh hO, c_hg5 hh hO, c_hg6 hh hO, c_hg7 hh hO, c_hg8 hh hO, c_hg9 hh hO, c_hg10 hh hO, c_hq hh hO, c_hbg0 hh hO, c_hbg1 hh hO, c_hbo hh hO, c_hno hh hO, c_hng0 hh hO, c_hng1 hh hO, c_hng2 hh hO, c_hng3 hh hO, c_hng4 hh hO, c_hdo hh hO, c_hdg0 hh hO, c_hdg1 hh hO, c_hdg2 hh hO, c_hdg3 hh hO, c_hdg4 hh hO, c_hdg5 hh hO, c_hp4 hh hO, c_hp5 hh hO, c_hp6 hh hO, c_hp7 hh hO, c_hp8 hh hO, c_hp9 hh hO, c_hp10 hh hO, c_hbp hh hO, c_hnp hh hO, c_hdp0 hh hO, c_hdp1 hh hO, c_hdp2 hh hO, c_hdp3 hh hO, c_hdp4 hh hO, c_hdp5 hh hO, c_hr3 hh hO, c_hr5 hh hO, c_hr6 hh hO, c_hr7 hh hO, c_hr8 hh hO, c_hr9 hh hO, c_hs3 hh hO, c_hs5 hh hO, c_hs6 hh hO, c_hs7 hh hO, c_hs8 hh hO, c_hs9 hh hO, zI_add, zI_sub, zI_mul, zI_neg, zL_add, zL_sub, zL_mul, Option.bind_some, Option.toList_some, Option.toList_none, List.cons_append, List.nil_append, zI_lt, zI_le, zI_eq, zI_eq0, zI_lt0, zI_le0, zI_0lt, zI_0le, bZ_e0, Int.add_zero, Int.zero_add, kb]
    have nx : ∀ (T0 : Nat → Nat → Int) (x6 x7 : Value), x_ev (e + 1 + 4, n_X6_goForWorth, 109, [.ref 37, .ref 1, .int (zI k), .int (zI q), .int (zI sum), .int (zI s), x6, x7], [], cH h T0) = x_ev (e + 1 + 4, n_X6_goForWorth, 45, [.ref 37, .ref 1, .int (zI k), .int (zI q), .int (zI sum), .int (zI ((s + 1 : Nat) : Int)), x6, x7], [], cH h T0) := fun T0 x6 x7 => by
      simp (disch := first | omega | assumption) only [s_X6_goForWorth_109, s_X6_goForWorth_112, c_oo hh, c_og0 hh, c_og1 hh, c_og2 hh, c_og3 hh, c_og4 hh, c_og5 hh, c_og6 hh, c_og7 hh, c_og8 hh, c_og9 hh, c_ko hh, c_kg0 hh, c_kg1 hh, c_kg2 hh, c_kg3 hh, c_kg4 hh, c_kg5 hh, c_kg6 hh, c_wo hh, c_wg0 hh, c_wg1 hh, c_wg2 hh, c_wg3 hh, c_wg4 hh, c_wg5 hh, c_wg6 hh, c_wg7 hh, c_wg8 hh, c_po hh, c_pg0 hh, c_pg1 hh, c_pg2 hh, c_pg3 hh, c_pg4 hh, c_pg5 hh, c_pg6 hh, c_pg7 hh, c_q31 hh, c_q39 hh, c_op7 hh, c_op8 hh, c_op9 hh, c_kp0 hh, c_kp1 hh, c_kp5 hh, c_kp6 hh, c_wp1 hh, c_wp2 hh, c_wp3 hh, c_wp7 hh, c_wp8 hh, c_pp0 hh, c_pp1 hh, c_pp2 hh, c_pp6 hh, c_pp7 hh, c_r32 hh, c_r34 hh, c_r35 hh, c_r36 hh, c_r38 hh, c_r40 hh, c_r41 hh, c_r57 hh, c_r58 hh, c_s32 hh, c_s34 hh, c_s35 hh, c_s36 hh, c_s38 hh, c_s40 hh, c_s41 hh, c_s57 hh, c_s58 hh, zI_add, zI_sub, zI_mul, zI_neg, zL_add, zL_sub, zL_mul, Option.bind_some, Option.toList_some, Option.toList_none, List.cons_append, List.nil_append, zI_lt, zI_le, zI_eq, zI_eq0, zI_lt0, zI_le0, zI_0lt, zI_0le, bZ_e0]
      rw [es]
    rw [go, sdF]
    generalize hbv : sbV (rg t 0) q s = b at *
    by_cases z : b = -1
    · rw [if_pos z, if_pos z]
      obtain ⟨T', t1, t2, t3⟩ := ihc (s + 1) T A (.int (zI b)) l7 (by omega) hE hN hP hA a1 a2
      rw [← es] at t2
      exact ⟨T', t1, t2, (nx _ _ _).trans t3⟩
    · rw [if_neg z, if_neg z]
      obtain ⟨⟨b0, b1⟩, b2⟩ := hv2.resolve_left z
      rw [← sq_v] at b1
      rw [rg_0 (by decide)] at b2
      obtain ⟨T1, u1, u2, u3, u4⟩ := k_goM (e := e + 1) (h := h) (b := b) hh hE.1 hv hE.2.1 (by omega) hN hb b0 b1 b2
      have f1 : frW k T T1 := ⟨fun i j c1 c2 c3 c4 => u1 i j (by omega) (by omega) (by omega), u1 _ _ (by omega) (by omega) (by omega), u1 _ _ (by omega) (by omega) (by omega)⟩
      have hE1 := hE.go f1
      have hB := isB_w (i := k) (by omega)
      have hC := isB_w (i := k + 1) (by omega)
      have w := nwt_rg (b := b) hs hb
      have ew : sumF (woK T1 (rg t 0) (42 + 2 * k) (42 + 2 * (k + 1))) (rg t 0 5).toNat = nwt t b lf lt := by
        unfold nwt
        rw [rg_0 (show 5 < 200 by decide)]
        refine sumF_congr _ fun p hp => ?_
        have x1 := (hN.go f1 (by omega) p (by omega)).1
        have x2 := (u3 p (by omega)).1
        unfold woK
        rw [Int.toNat_natCast, show 42 + 2 * k + 1 = 43 + 2 * k by omega, x1, show 42 + 2 * (k + 1) + 1 = 43 + 2 * (k + 1) by omega, x2, g_1 (t := t) (j := 21 + p) (x := 21 + (p : Int)) (by omega) (by omega)]
        congr 1
        unfold nlf
        omega
      have kw := k_worth (d := e + 1 + 3) hh hO hE1.1 hv hB hC
      rw [ew] at kw
      have hP1 : pR T1 (upP path (k + 1) b) (k + 1) := fun j hj => by
        unfold upP
        by_cases y : j = k
        · rw [y, if_pos rfl, u2]
        · rw [if_neg (by omega), u1 41 j (by omega) (by omega) (by omega), hP j (by omega)]
      have hA1 : acW T1 A m := by
        unfold acW
        rw [u1 37 1 (by omega) (by omega) (by omega)]
        refine ⟨hA.1, hA.2.imp id fun y j hj => ?_⟩
        rw [u1 38 j (by omega) (by omega) (by omega)]
        exact y j hj
      obtain ⟨T2, v1, v2, v3⟩ := ih e (k + 1) T1 A b (sum + nwt t b lf lt) (nlf t b lf lt) (nlt t b lf lt) (upP path (k + 1) b) he (by omega) hE1 u3 (bkOk_n hb) hP1 hA1 a1 a2 b0 b1 (by omega) (by omega)
      have f2 := f1.tr v1.low
      have v3' : x_cl (e + 1 + 3) n_X6_goForWorth [.ref 37, .ref 1, .int (zI ((k : Int) + 1)), .int (zI b), .int (zI (sum + nwt t b lf lt))] (cH h T1) = some (none, cH h T2) := by
        rw [show (k : Int) + 1 = ((k + 1 : Nat) : Int) by omega]
        exact v3
      have m1 := vis_mo (t := t) (m := m) (who := who) (by' := false) n b (sum + nwt t b lf lt) (nlf t b lf lt) (nlt t b lf lt) (upP path (k + 1) b) (k + 1) A
      have m2 := vis_le (m := m) (who := who) (by' := false) hs n b (sum + nwt t b lf lt) (nlf t b lf lt) (nlt t b lf lt) (upP path (k + 1) b) (k + 1) A (bkOk_n hb) a2 (by omega)
      obtain ⟨T', t1, t2, t3⟩ := ihc (s + 1) T2 (visF t m who false n b (sum + nwt t b lf lt) (nlf t b lf lt) (nlt t b lf lt) (upP path (k + 1) b) (k + 1) A) (.int (zI b)) (.int (zI (nwt t b lf lt))) (by omega) (hE.go f2) (hN.go f2 (by omega)) (hP.go f2) v2 (by omega) m2
      rw [← es] at t2
      refine ⟨T', f2.tr t1, t2, ?_⟩
      have eK : ((k : Int) + 1).toNat = k + 1 := by omega
      simp (disch := first | omega | assumption) only [s_X6_goForWorth_66, s_X6_goForWorth_67, s_X6_goForWorth_68, s_X6_goForWorth_69, s_X6_goForWorth_71, s_X6_goForWorth_74, s_X6_goForWorth_75, s_X6_goForWorth_76, s_X6_goForWorth_79, s_X6_goForWorth_80, s_X6_goForWorth_81, s_X6_goForWorth_82, s_X6_goForWorth_85, s_X6_goForWorth_86, s_X6_goForWorth_87, s_X6_goForWorth_88, s_X6_goForWorth_89, s_X6_goForWorth_92, s_X6_goForWorth_94, s_X6_goForWorth_95, s_X6_goForWorth_96, s_X6_goForWorth_97, s_X6_goForWorth_98, s_X6_goForWorth_99, s_X6_goForWorth_101, s_X6_goForWorth_103, s_X6_goForWorth_105, s_X6_goForWorth_106, c_oo hh, c_og0 hh, c_og1 hh, c_og2 hh, c_og3 hh, c_og4 hh, c_og5 hh, c_og6 hh, c_og7 hh, c_og8 hh, c_og9 hh, c_ko hh, c_kg0 hh, c_kg1 hh, c_kg2 hh, c_kg3 hh, c_kg4 hh, c_kg5 hh, c_kg6 hh, c_wo hh, c_wg0 hh, c_wg1 hh, c_wg2 hh, c_wg3 hh, c_wg4 hh, c_wg5 hh, c_wg6 hh, c_wg7 hh, c_wg8 hh, c_po hh, c_pg0 hh, c_pg1 hh, c_pg2 hh, c_pg3 hh, c_pg4 hh, c_pg5 hh, c_pg6 hh, c_pg7 hh, c_q31 hh, c_q39 hh, c_op7 hh, c_op8 hh, c_op9 hh, c_kp0 hh, c_kp1 hh, c_kp5 hh, c_kp6 hh, c_wp1 hh, c_wp2 hh, c_wp3 hh, c_wp7 hh, c_wp8 hh, c_pp0 hh, c_pp1 hh, c_pp2 hh, c_pp6 hh, c_pp7 hh, c_r32 hh, c_r34 hh, c_r35 hh, c_r36 hh, c_r38 hh, c_r40 hh, c_r41 hh, c_r57 hh, c_r58 hh, c_s32 hh, c_s34 hh, c_s35 hh, c_s36 hh, c_s38 hh, c_s40 hh, c_s41 hh, c_s57 hh, c_s58 hh, c_ho hh hO, c_hg0 hh hO, c_hg1 hh hO, c_hg2 hh hO, c_hg3 hh hO, c_hg4 hh hO, c_hg5 hh hO, c_hg6 hh hO, c_hg7 hh hO, c_hg8 hh hO, c_hg9 hh hO, c_hg10 hh hO, c_hq hh hO, c_hbg0 hh hO, c_hbg1 hh hO, c_hbo hh hO, c_hno hh hO, c_hng0 hh hO, c_hng1 hh hO, c_hng2 hh hO, c_hng3 hh hO, c_hng4 hh hO, c_hdo hh hO, c_hdg0 hh hO, c_hdg1 hh hO, c_hdg2 hh hO, c_hdg3 hh hO, c_hdg4 hh hO, c_hdg5 hh hO, c_hp4 hh hO, c_hp5 hh hO, c_hp6 hh hO, c_hp7 hh hO, c_hp8 hh hO, c_hp9 hh hO, c_hp10 hh hO, c_hbp hh hO, c_hnp hh hO, c_hdp0 hh hO, c_hdp1 hh hO, c_hdp2 hh hO, c_hdp3 hh hO, c_hdp4 hh hO, c_hdp5 hh hO, c_hr3 hh hO, c_hr5 hh hO, c_hr6 hh hO, c_hr7 hh hO, c_hr8 hh hO, c_hr9 hh hO, c_hs3 hh hO, c_hs5 hh hO, c_hs6 hh hO, c_hs7 hh hO, c_hs8 hh hO, c_hs9 hh hO, zI_add, zI_sub, zI_mul, zI_neg, zL_add, zL_sub, zL_mul, Option.bind_some, Option.toList_some, Option.toList_none, List.cons_append, List.nil_append, zI_lt, zI_le, zI_eq, zI_eq0, zI_lt0, zI_le0, zI_0lt, zI_0le, bZ_e0, Int.add_zero, Int.zero_add, Int.toNat_natCast, eK, u4, kw, v3']
      exact (nx _ _ _).trans t3
theorem gW_all {m : Nat} {who : Int} (hh : 91 ≤ h.1) (hv : vI (rg t 0)) (hm : m ≤ 6) : ∀ n, gW h t m who n := by
  intro n
  induction n with
  | zero => exact gW_0 hh hv hm
  | succ n ih =>
    intro e k T A q sum lf lt path he hk hE hN hb hP hA a1 a2 q0 q1 s0 s1
    have hs := sr_of (now_v hv)
    have q1' := q1
    rw [sq_v] at q1'
    have em : T 37 7 = ((k + (n + 1) : Nat) : Int) := by rw [hE.2.2.1, hk]
    obtain ⟨b, b1, b2⟩ := k_mb (e := e + 1) (h := h) (n := n + 1) (k := k) (sum := sum) hh hE.1 hv em (by omega) hN hb hE.2.2.2 hA.1 (by omega) (by omega)
    by_cases z : b = true
    · obtain ⟨f, hf⟩ : ∃ f, e = f + 1 := ⟨e - 1, by omega⟩
      subst hf
      obtain ⟨T', t1, t2, t3⟩ := l_sdW (h := h) (e := f) hh hv hm ih (by omega) hk hb q0 q1 s0 s1 5 0 T A .null .null (by omega) hE hN hP hA a1 a2
      refine ⟨T', t1, ?_, ?_⟩
      · rw [visF, sq_v]
        have e0 : t 1 0 = rg t 0 0 := (rg_0 (by decide)).symm
        have e4 : t 1 4 = rg t 0 4 := (rg_0 (by decide)).symm
        rw [e0, e4, ← sd_kd hv q0 q1']
        exact t2
      · simp (disch := first | omega | assumption) only [e_X6_goForWorth, s_X6_goForWorth_0, s_X6_goForWorth_1, s_X6_goForWorth_2, s_X6_goForWorth_3, s_X6_goForWorth_5, s_X6_goForWorth_8, c_oo hh, c_og0 hh, c_og1 hh, c_og2 hh, c_og3 hh, c_og4 hh, c_og5 hh, c_og6 hh, c_og7 hh, c_og8 hh, c_og9 hh, c_ko hh, c_kg0 hh, c_kg1 hh, c_kg2 hh, c_kg3 hh, c_kg4 hh, c_kg5 hh, c_kg6 hh, c_wo hh, c_wg0 hh, c_wg1 hh, c_wg2 hh, c_wg3 hh, c_wg4 hh, c_wg5 hh, c_wg6 hh, c_wg7 hh, c_wg8 hh, c_po hh, c_pg0 hh, c_pg1 hh, c_pg2 hh, c_pg3 hh, c_pg4 hh, c_pg5 hh, c_pg6 hh, c_pg7 hh, c_q31 hh, c_q39 hh, c_op7 hh, c_op8 hh, c_op9 hh, c_kp0 hh, c_kp1 hh, c_kp5 hh, c_kp6 hh, c_wp1 hh, c_wp2 hh, c_wp3 hh, c_wp7 hh, c_wp8 hh, c_pp0 hh, c_pp1 hh, c_pp2 hh, c_pp6 hh, c_pp7 hh, c_r32 hh, c_r34 hh, c_r35 hh, c_r36 hh, c_r38 hh, c_r40 hh, c_r41 hh, c_r57 hh, c_r58 hh, c_s32 hh, c_s34 hh, c_s35 hh, c_s36 hh, c_s38 hh, c_s40 hh, c_s41 hh, c_s57 hh, c_s58 hh, zI_add, zI_sub, zI_mul, zI_neg, zL_add, zL_sub, zL_mul, Option.bind_some, Option.toList_some, Option.toList_none, List.cons_append, List.nil_append, zI_lt, zI_le, zI_eq, zI_eq0, zI_lt0, zI_le0, zI_0lt, zI_0le, bZ_e0, b2]
        rw [if_neg (fun x => x z)]
        simp (disch := first | omega | assumption) only [s_X6_goForWorth_12, s_X6_goForWorth_13, s_X6_goForWorth_14, s_X6_goForWorth_17, c_oo hh, c_og0 hh, c_og1 hh, c_og2 hh, c_og3 hh, c_og4 hh, c_og5 hh, c_og6 hh, c_og7 hh, c_og8 hh, c_og9 hh, c_ko hh, c_kg0 hh, c_kg1 hh, c_kg2 hh, c_kg3 hh, c_kg4 hh, c_kg5 hh, c_kg6 hh, c_wo hh, c_wg0 hh, c_wg1 hh, c_wg2 hh, c_wg3 hh, c_wg4 hh, c_wg5 hh, c_wg6 hh, c_wg7 hh, c_wg8 hh, c_po hh, c_pg0 hh, c_pg1 hh, c_pg2 hh, c_pg3 hh, c_pg4 hh, c_pg5 hh, c_pg6 hh, c_pg7 hh, c_q31 hh, c_q39 hh, c_op7 hh, c_op8 hh, c_op9 hh, c_kp0 hh, c_kp1 hh, c_kp5 hh, c_kp6 hh, c_wp1 hh, c_wp2 hh, c_wp3 hh, c_wp7 hh, c_wp8 hh, c_pp0 hh, c_pp1 hh, c_pp2 hh, c_pp6 hh, c_pp7 hh, c_r32 hh, c_r34 hh, c_r35 hh, c_r36 hh, c_r38 hh, c_r40 hh, c_r41 hh, c_r57 hh, c_r58 hh, c_s32 hh, c_s34 hh, c_s35 hh, c_s36 hh, c_s38 hh, c_s40 hh, c_s41 hh, c_s57 hh, c_s58 hh, zI_add, zI_sub, zI_mul, zI_neg, zL_add, zL_sub, zL_mul, Option.bind_some, Option.toList_some, Option.toList_none, List.cons_append, List.nil_append, zI_lt, zI_le, zI_eq, zI_eq0, zI_lt0, zI_le0, zI_0lt, zI_0le, bZ_e0, em]
        rw [if_pos (by omega)]
        simp (disch := first | omega | assumption) only [s_X6_goForWorth_42, s_X6_goForWorth_43]
        exact t3
    · refine ⟨T, frW.r, pr_acW hs hb hA b1 z, ?_⟩
      simp (disch := first | omega | assumption) only [e_X6_goForWorth, s_X6_goForWorth_0, s_X6_goForWorth_1, s_X6_goForWorth_2, s_X6_goForWorth_3, s_X6_goForWorth_5, s_X6_goForWorth_8, s_X6_goForWorth_11, c_oo hh, c_og0 hh, c_og1 hh, c_og2 hh, c_og3 hh, c_og4 hh, c_og5 hh, c_og6 hh, c_og7 hh, c_og8 hh, c_og9 hh, c_ko hh, c_kg0 hh, c_kg1 hh, c_kg2 hh, c_kg3 hh, c_kg4 hh, c_kg5 hh, c_kg6 hh, c_wo hh, c_wg0 hh, c_wg1 hh, c_wg2 hh, c_wg3 hh, c_wg4 hh, c_wg5 hh, c_wg6 hh, c_wg7 hh, c_wg8 hh, c_po hh, c_pg0 hh, c_pg1 hh, c_pg2 hh, c_pg3 hh, c_pg4 hh, c_pg5 hh, c_pg6 hh, c_pg7 hh, c_q31 hh, c_q39 hh, c_op7 hh, c_op8 hh, c_op9 hh, c_kp0 hh, c_kp1 hh, c_kp5 hh, c_kp6 hh, c_wp1 hh, c_wp2 hh, c_wp3 hh, c_wp7 hh, c_wp8 hh, c_pp0 hh, c_pp1 hh, c_pp2 hh, c_pp6 hh, c_pp7 hh, c_r32 hh, c_r34 hh, c_r35 hh, c_r36 hh, c_r38 hh, c_r40 hh, c_r41 hh, c_r57 hh, c_r58 hh, c_s32 hh, c_s34 hh, c_s35 hh, c_s36 hh, c_s38 hh, c_s40 hh, c_s41 hh, c_s57 hh, c_s58 hh, zI_add, zI_sub, zI_mul, zI_neg, zL_add, zL_sub, zL_mul, Option.bind_some, Option.toList_some, Option.toList_none, List.cons_append, List.nil_append, zI_lt, zI_le, zI_eq, zI_eq0, zI_lt0, zI_le0, zI_0lt, zI_0le, bZ_e0, b2]
      rw [if_pos z]
end

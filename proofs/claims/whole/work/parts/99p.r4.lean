/-! CALLS OF BOTH: the card, minutes, images, the digest -/
section
variable {h : xH}
/-- a change of the card alone -/
theorem oR_c {G G' t t' : Nat → Nat → Int} (ho : oR G t) (hg : ∀ i j, ¬ (i = 33) → i ≠ 34 → G' i j = G i j) (ht : ∀ i j, ¬ (i = 0) → i ≠ 3 → t' i j = t i j) (hc : cdR G' t') (hx : txOk t') : oR G' t' := by
  obtain ⟨o1, o2, o3, o4, o5, o6, o7⟩ := ho
  have er : ∀ r, rg t' r = rg t r := fun r => funext fun j => by
    unfold rg
    rw [ht 1 _ (by decide) (by decide)]
  refine ⟨by rw [er]; exact hR_k (fun i j a1 a2 => hg i j (by omega) (by omega)) o1, by rw [er]; exact o2, by rw [er]; exact o3, hc, hx, ?_, fun i hi => ?_⟩
  · unfold cR at *
    rw [hg 0 7 (by decide) (by decide), hg 0 8 (by decide) (by decide), hg 0 9 (by decide) (by decide), ht 4 0 (by decide) (by decide), ht 4 1 (by decide) (by decide), ht 4 2 (by decide) (by decide)]
    exact o6
  · have w := o7 i hi
    unfold imR at *
    rw [ht 2 i (by decide) (by decide), hg 32 i (by decide) (by decide), er]
    exact ⟨w.1, w.2.1, fun y => ⟨hR_k (fun a b c1 c2 => hg a b (by omega) (by omega)) (w.2.2 y).1, (w.2.2 y).2⟩⟩
theorem cal_clear (hh : 103 ≤ h.1) : okC h n_X7_clear n_X8_clear [] := by
  refine okC_mk fun G t ho => ?_
  have e := o_clear (d := 19) (h := mH h 91 t) (G := G) (h91m hh)
  have f := m_clear (d := 20) (h := cH h (up2 G 33 0 0)) (a := 91) (t := t) (h103c hh)
  rw [ho.2.2.2.1.1] at e
  refine ⟨up2 G 33 0 0, up2 t 0 3 0, _, oR_c ho (fun i j a1 a2 => up2_n (by omega)) (fun i j a1 a2 => up2_n (by omega)) ⟨up2_s.trans up2_s.symm, fun j hj => ?_⟩ ⟨?_, fun j => ?_⟩, e, f⟩
  · rw [up2_n (by omega), up2_n (by omega)]
    exact ho.2.2.2.1.2 j hj
  · rw [up2_s]
    decide
  · rw [up2_n (by omega)]
    exact ho.2.2.2.2.1.2 j
theorem byB_rg (v : Int64) (k : Int) : 0 ≤ byB v k ∧ byB v k ≤ 255 := by
  unfold byB
  generalize v >>> ((zI (8 * k)).toInt64 &&& 63) = y
  have n : ((y &&& zL 255).toBitVec).toNat ≤ 255 := by
    rw [Int64.toBitVec_and, BitVec.toNat_and]
    exact Nat.and_le_right
  have t : (y &&& zL 255).toInt = (((y &&& zL 255).toBitVec).toNat : Int) := BitVec.toInt_eq_toNat_of_lt (by omega)
  rw [Int64.toInt_toInt32, t, Int.bmod_eq_of_le (by omega) (by omega)]
  omega
theorem ty_k {v : Int64} : ∀ (n : Nat) (G t : Nat → Nat → Int), cdR G t → txOk t → t 0 3 + n ≤ 200 → cdR (kyT v n G) (typT v n t) ∧ txOk (typT v n t) ∧ (∀ i j, ¬ (i = 33 ∧ j = 0) → i ≠ 34 → kyT v n G i j = G i j) ∧ (∀ i j, ¬ (i = 0 ∧ j = 3) → i ≠ 3 → typT v n t i j = t i j) ∧ typT v n t 0 3 = t 0 3 + n := by
  intro n
  induction n with
  | zero => intro G t hc hx hn; exact ⟨hc, hx, fun _ _ _ _ => rfl, fun _ _ _ _ => rfl, by show t 0 3 = t 0 3 + ((0 : Nat) : Int); omega⟩
  | succ n ih =>
    intro G t hc hx hn
    have x1 := hx.1
    have bb := byB_rg v n
    have e1 : cdR (up2 (up2 G 34 (G 33 0).toNat (byB v n)) 33 0 (G 33 0 + 1)) (up2 (up2 t 3 (t 0 3).toNat (byB v n)) 0 3 (t 0 3 + 1)) := by
      refine ⟨by rw [up2_s, up2_s, hc.1], fun j hj => ?_⟩
      rw [up2_n (show ¬ (34 = 33 ∧ j = 0) by omega), up2_n (show ¬ (3 = 0 ∧ j = 3) by omega), hc.1]
      by_cases z : j = (t 0 3).toNat
      · rw [z, up2_s, up2_s]
      · rw [up2_n (by omega), up2_n (by omega), hc.2 j hj]
    have e2 : txOk (up2 (up2 t 3 (t 0 3).toNat (byB v n)) 0 3 (t 0 3 + 1)) := by
      refine ⟨by rw [up2_s]; omega, fun j => ?_⟩
      rw [up2_n (by omega)]
      by_cases z : j = (t 0 3).toNat
      · rw [z, up2_s]; exact bb
      · rw [up2_n (by omega)]; exact hx.2 j
    obtain ⟨a1, a2, a3, a4, a5⟩ := ih _ _ e1 e2 (by rw [up2_s]; omega)
    rw [kyT, typT]
    refine ⟨a1, a2, fun i j c1 c2 => ?_, fun i j c1 c2 => ?_, ?_⟩
    · rw [a3 i j c1 c2, up2_n (by omega), up2_n (by omega)]
    · rw [a4 i j c1 c2, up2_n (by omega), up2_n (by omega)]
    · rw [a5, up2_s]
      omega
theorem cal_type (hh : 103 ≤ h.1) (v : Int64) (b : Int32) : okC h n_X7_type n_X8_type [.long v, .int b] := by
  obtain ⟨w, rfl, w1, w2⟩ := zI_of2 b
  refine okC_mk fun G t ho => ?_
  have hx := ho.2.2.2.2.1
  have hc := ho.2.2.2.1
  have x1 := hx.1
  have c1 := hc.1
  have ky : 1 ≤ w ∧ w ≤ 8 → t 0 3 + w ≤ 200 → cdR (kyT v w.toNat G) (typT v w.toNat t) ∧ txOk (typT v w.toNat t) ∧ (∀ i j, ¬ (i = 33 ∧ j = 0) → i ≠ 34 → kyT v w.toNat G i j = G i j) ∧ (∀ i j, ¬ (i = 0 ∧ j = 3) → i ≠ 3 → typT v w.toNat t i j = t i j) ∧ typT v w.toNat t 0 3 = t 0 3 + w.toNat := fun y1 y2 => ty_k w.toNat G t hc hx (by omega)
  have e := o_type (d := 18) (h := mH h 91 t) (G := G) (v := v) (n := w) (h91m hh) w1 w2 (by omega) (by omega) (fun y1 y2 => by
    have y := ky y1 (by omega)
    rw [y.1.1, y.2.2.2.2]
    omega)
  by_cases q : 1 ≤ w ∧ w ≤ 8
  · rw [if_pos q] at e
    by_cases z : 200 < t 0 3 + w
    · rw [if_pos (by omega)] at e
      have f := m_type (d := 19) (h := cH h (ctT G (-4))) (a := 91) (t := t) (v := v) (n := w) (h103c hh) w1 w2 x1.1 x1.2
      unfold qType at f
      rw [if_pos q, if_pos z] at f
      exact ⟨_, _, _, oR_v ho, e, f⟩
    · rw [if_neg (by omega)] at e
      have y := ky q (by omega)
      have f := m_type (d := 19) (h := cH h (kyT v w.toNat G)) (a := 91) (t := t) (v := v) (n := w) (h103c hh) w1 w2 x1.1 x1.2
      unfold qType at f
      rw [if_pos q, if_neg z] at f
      rw [ctT_p (by rw [y.1.1, y.2.2.2.2]; omega), y.1.1] at e
      exact ⟨_, _, _, oR_c ho (fun i j a1 a2 => y.2.2.1 i j (by omega) a2) (fun i j a1 a2 => y.2.2.2.1 i j (by omega) a2) y.1 y.2.1, e, f⟩
  · rw [if_neg q] at e
    have f := m_type (d := 19) (h := cH h (ctT G (-2))) (a := 91) (t := t) (v := v) (n := w) (h103c hh) w1 w2 x1.1 x1.2
    unfold qType at f
    rw [if_neg q] at f
    exact ⟨_, _, _, oR_v ho, e, f⟩
theorem cal_read (hh : 103 ≤ h.1) : okC h n_X7_read n_X8_read [] := by
  refine okC_mk fun G t ho => ?_
  obtain ⟨G', g1, g2, g3⟩ := o_read (d := 14) (h := mH h 91 t) (G := G) (t := t) (h91m hh) ho.2.2.2.2.1 ho.2.2.2.1
  obtain ⟨t', f1, f2⟩ := m_read (d := 16) (h := cH h G') (a := 91) (t := t) (h103c hh) ho.2.2.2.2.1
  refine ⟨G', t', _, ?_, g3, f2⟩
  have hs : sK G G' := ⟨fun j => g1 32 j (by omega) (by omega) (by omega) (by omega), g1 33 0 (by omega) (by omega) (by omega) (by omega), fun j => g1 34 j (by omega) (by omega) (by omega) (by omega), fun i j a1 a2 => g1 i j (by omega) (by omega) (by omega) (by omega)⟩
  have c0 : ∀ j, G' 0 j = G 0 j := fun j => g1 0 j (by omega) (by omega) (by omega) (by omega)
  have same : rdR t t' → (∀ i j, 1 ≤ i → i < 16 → G' i j = G i j) → oR G' t' := fun r s => by
    have er : rg t' 0 = rg t 0 := funext fun j => by
      unfold rg
      split
      · exact r 1 _ (by omega) (by omega) (by omega) (by omega)
      · rfl
    refine oR_mk ho hs ⟨fun j => r 2 j (by omega) (by omega) (by omega) (by omega), fun j => r 3 j (by omega) (by omega) (by omega) (by omega), r 0 3 (by omega) (by omega) (by omega) (by omega), fun j a1 a2 => r 1 j (by omega) (by omega) (by omega) (by omega)⟩ (by rw [er]; exact hR_k (fun i j a1 a2 => s i j a1 a2) ho.1) (by rw [er]; exact ho.2.1) (by rw [er]; exact ho.2.2.1) ?_
    have c := ho.2.2.2.2.2.1
    unfold cR at *
    rw [c0, c0, c0, r 4 0 (by omega) (by omega) (by omega) (by omega), r 4 1 (by omega) (by omega) (by omega) (by omega), r 4 2 (by omega) (by omega) (by omega) (by omega)]
    exact c
  cases hA : alS (txX t) (t 0 3) 201 0 0 with
  | inl f =>
    rw [hA] at f1 g2
    exact same f1 g2
  | inr L =>
    rw [hA] at f1 g2
    unfold rdP at f1
    unfold rdQ at g2
    dsimp only at f1 g2
    cases hT : tlA 0 (rg t 600) L with
    | inl i =>
      rw [hT] at f1 g2
      exact same f1 g2
    | inr g =>
      rw [hT] at f1 g2
      obtain ⟨r1, r2⟩ := f1
      have r1' : rg t' 0 = g := r1
      obtain ⟨q1, q2, q3⟩ := g2
      refine oR_mk ho hs ⟨fun j => r2 2 j (by omega) (by omega) (by omega) (by omega) (by omega), fun j => r2 3 j (by omega) (by omega) (by omega) (by omega) (by omega), r2 0 3 (by omega) (by omega) (by omega) (by omega) (by omega), fun j a1 a2 => r2 1 j (by omega) (by omega) (by omega) (by omega) (by omega)⟩ (by rw [r1']; exact q1) (by rw [r1']; exact q2) (by rw [r1']; exact q3) ?_
      have c := ho.2.2.2.2.2.1
      unfold cR at *
      rw [c0, c0, c0, r2 4 0 (by omega) (by omega) (by omega) (by omega) (by omega), r2 4 1 (by omega) (by omega) (by omega) (by omega) (by omega), r2 4 2 (by omega) (by omega) (by omega) (by omega) (by omega)]
      exact c
theorem cal_burn (hh : 103 ≤ h.1) (a : Int32) : okC h n_X7_burn n_X8_burn [.int a] := by
  obtain ⟨w, rfl, w1, w2⟩ := zI_of2 a
  refine okC_mk fun G t ho => ?_
  have hv := ho.2.1
  have h5 := hv.2.2.2.2.2.2.1
  have h46 := hv.2.2.2.2.2.2.2.2.1
  rw [rg_0 (by decide)] at h5 h46
  obtain ⟨G', ⟨F, f1, f2, f3⟩, e⟩ := o_burn (d := 16) (h := mH h 91 t) (q := w) (h91m hh) ho.1 hv w1 w2
  have f := m_burn (d := 17) (h := cH h G') (a := 91) (t := t) (q := w) (h103c hh) w1 w2 (now_v hv)
  have rgB := uBurn_rg (q := w) hv
  unfold qBurn at f
  unfold uBurn at e f2 f3 rgB
  rw [sq_v, ← rg_0 (t := t) (show 0 < 200 by decide), ← rg_0 (t := t) (show 4 < 200 by decide), ← rg_0 (t := t) (show 2 < 200 by decide)] at f
  by_cases q1 : 0 ≤ w ∧ w < rg t 0 0 * rg t 0 1
  · rw [if_pos q1] at e f2 f3 f rgB
    by_cases q2 : bes (rg t 0 0) (rg t 0 4) (rg t 0 2) w = true
    · rw [if_pos q2] at e f2 f3 f rgB
      dsimp only at e f2 f3 f rgB
      rw [br_a hv q1.1, ← rg_0 (t := t) (show 5 < 200 by decide)] at f
      have hb : hasB (rg t 0 4) w = false := by
        unfold bes at q2
        simp at q2
        exact q2.2
      have eg : rg (brT t w) 0 = miG (buG (rg t 0) w) (liG (rg t 0) w) := br_g hv q1.1
      have p0 : 0 ≤ sumF (rdG (buG (rg t 0) w) (liG (rg t 0) w)) (rg t 0 5).toNat := by
        have v3 := bu_v (q := w) hv q1 hb
        have b5 : buG (rg t 0) w 5 = rg t 0 5 := bu_lo (by decide) (by decide) (by decide)
        have e5 : rg t 0 5 = t 1 5 := rg_0 (by decide)
        exact (sumF_rg (B := 20) _ fun k hk => by
          have a := rdG_rg (L := liG (rg t 0) w) (p := k) v3 (by omega) (by omega)
          have b := (v3.2.2.2.2.2.2.2.1 k (by omega) (by omega)).2.2.2.2.2.1
          omega).1
      rw [ctT_p p0] at f3
      subst f3
      refine ⟨_, brT t w, _, ?_, e, f⟩
      refine oR_mk ho (sK_h f1) ⟨fun j => br_o h46 h5.2 (by omega) (by omega) (by omega) (by omega), fun j => br_o h46 h5.2 (by omega) (by omega) (by omega) (by omega), br_o h46 h5.2 (by omega) (by omega) (by omega) (by omega), fun j a1 a2 => br_o h46 h5.2 (by omega) (by omega) (by omega) (by omega)⟩ (by rw [eg]; exact f2) (by rw [eg]; exact mi_v (bu_v hv q1 hb)) ?_ ?_
      · rw [eg, mi_o (by decide), bu_hi (by decide), kp_end (kpN_rg (by rw [rg_0 (by decide)]; exact h46)).1 (by decide)]
        exact ho.2.2.1
      · have c := ho.2.2.2.2.2.1
        unfold cR at *
        rw [f1 0 7 (by omega), f1 0 8 (by omega), f1 0 9 (by omega), br_o h46 h5.2 (by omega) (by omega) (by omega) (by omega), br_o h46 h5.2 (by omega) (by omega) (by omega) (by omega), br_o h46 h5.2 (by omega) (by omega) (by omega) (by omega)]
        exact c
    · rw [if_neg q2] at e f2 f3 f
      dsimp only at e f2 f3 f
      subst f3
      refine ⟨_, _, _, oR_v (v := -3) (oR_g ho f1 f2 hv (rg_ct t 0) ho.2.2.1), e, ?_⟩
      rw [pr_rg]
      exact f
  · rw [if_neg q1] at e f2 f3 f
    dsimp only at e f2 f3 f
    subst f3
    refine ⟨_, _, _, oR_v (v := -2) (oR_g ho f1 f2 hv (rg_ct t 0) ho.2.2.1), e, ?_⟩
    rw [pr_rg]
    exact f
theorem cal_undo (hh : 103 ≤ h.1) : okC h n_X7_undo n_X8_undo [] := by
  refine okC_mk fun G t ho => ?_
  have hv := ho.2.1
  have h46 := hv.2.2.2.2.2.2.2.2.1
  have e46 : rg t 0 46 = t 1 46 := rg_0 (by decide)
  have e := o_undo (d := 16) (h := mH h 91 t) (h91m hh) ho.1 hv
  rw [e46] at e h46
  by_cases q : t 1 46 = 0
  · rw [if_pos q] at e
    have f := m_undo (d := 19) (h := cH h (ctT G (-3))) (a := 91) (t := t) (h103c hh) h46
    unfold qUndo at f
    rw [if_pos q] at f
    exact ⟨_, _, _, oR_v ho, e, f⟩
  · rw [if_neg q, ctT_p (by decide)] at e
    obtain ⟨m, hm⟩ : ∃ m : Nat, t 1 46 - 1 = m := ⟨(t 1 46 - 1).toNat, by omega⟩
    rw [hm, Int.toNat_natCast] at e
    obtain ⟨r1, r2⟩ := gb_r (m := m) ho.1 hv (by omega)
    have f := m_undo (d := 19) (h := cH h (gbT G 1 m)) (a := 91) (t := t) (h103c hh) h46
    unfold qUndo at f
    rw [if_neg q, hm, show (47 + 12 * (m : Int)).toNat = 47 + 12 * m by omega] at f
    have eg : rg (unT t (47 + 12 * m)) 0 = unG (rg t 0) m := by
      rw [un_g (by omega)]
      funext j
      split
      next z => rw [z, un_46]; omega
      · rfl
    refine ⟨gbT G 1 m, unT t (47 + 12 * m), _, ?_, e, f⟩
    refine oR_mk ho (sK_h r2) ⟨fun j => un_out (by omega), fun j => un_out (by omega), un_out (by omega), fun j a1 a2 => un_out (by omega)⟩ (by rw [eg]; exact r1) (by rw [eg]; exact un_v hv ho.2.2.1 (by omega)) (by rw [eg, un_o (by decide) (by decide) (by decide) (by decide)]; exact ho.2.2.1) ?_
    have c := ho.2.2.2.2.2.1
    unfold cR at *
    rw [r2 0 7 (by omega), r2 0 8 (by omega), r2 0 9 (by omega), un_out (by omega), un_out (by omega), un_out (by omega)]
    exact c
theorem cpT_o {t : Nat → Nat → Int} {fr to i j : Nat} (hi : ¬ (i = 1 ∧ to ≤ j ∧ j < to + 200)) : cpT t fr to 0 i j = t i j := by
  unfold cpT
  rw [if_neg (by omega)]
theorem cpT_g {t : Nat → Nat → Int} {fr to : Nat} : rg (cpT t fr to 0) to = rg t fr := by
  funext j
  unfold rg
  by_cases z : j < 200
  · rw [if_pos z, if_pos z]
    unfold cpT
    rw [if_pos ⟨rfl, by omega, by omega⟩]
    congr 1
    omega
  · rw [if_neg z, if_neg z]
theorem rg_out {t t' : Nat → Nat → Int} {r : Nat} (he : ∀ j, r ≤ j → j < r + 200 → t' 1 j = t 1 j) : rg t' r = rg t r := by
  funext j
  unfold rg
  split
  · exact he _ (by omega) (by omega)
  · rfl
theorem cal_image (hh : 103 ≤ h.1) (a : Int32) : okC h n_X7_image n_X8_image [.int a] := by
  obtain ⟨w, rfl, w1, w2⟩ := zI_of2 a
  refine okC_mk fun G t ho => ?_
  have hv := ho.2.1
  obtain ⟨e1, e2⟩ := o_image (d := 17) (h := mH h 91 t) (i := w) (h91m hh) ho.1 hv w1 w2
  by_cases q : 0 ≤ w ∧ w ≤ 1
  · obtain ⟨F, f1, f2, f3⟩ := e1 q
    have f := m_image (d := 19) (h := cH h (up2 F 32 w.toNat 1)) (a := 91) (t := t) (i := w) (h103c hh) w1 w2
    unfold qImage at f
    rw [if_pos q] at f
    obtain ⟨k, hk⟩ : ∃ k : Nat, w = k := ⟨w.toNat, by omega⟩
    subst hk
    rw [Int.toNat_natCast, show (200 * (1 + (k : Int))).toNat = 200 * (1 + k) by omega] at f
    rw [Int.toNat_natCast] at f1 f2 f3
    dsimp only at f
    obtain ⟨o1, o2, o3, o4, o5, o6, o7⟩ := ho
    have er0 : rg (up2 (cpT t 0 (200 * (1 + k)) 0) 2 k 1) 0 = rg t 0 := rg_out fun j a1 a2 => by rw [up2_n (by omega), cpT_o (by omega)]
    refine ⟨up2 F 32 k 1, up2 (cpT t 0 (200 * (1 + k)) 0) 2 k 1, _, ⟨?_, by rw [er0]; exact o2, by rw [er0]; exact o3, ⟨?_, fun j hj => ?_⟩, ⟨?_, fun j => ?_⟩, ?_, fun i hi => ?_⟩, f3, f⟩
    · rw [er0]
      exact hR_k (fun i j a1 a2 => by rw [up2_n (by omega), f1 i j (by omega)]) o1
    · rw [up2_n (by omega), f1 _ _ (by omega), up2_n (by omega), cpT_o (by omega)]
      exact o4.1
    · rw [up2_n (by omega), f1 _ _ (by omega), up2_n (by omega), cpT_o (by omega)]
      exact o4.2 j hj
    · rw [up2_n (by omega), cpT_o (by omega)]
      exact o5.1
    · rw [up2_n (by omega), cpT_o (by omega)]
      exact o5.2 j
    · unfold cR at *
      have q0 : ∀ j, up2 F 32 k 1 0 j = G 0 j := fun j => by rw [up2_n (by omega), f1 _ _ (by omega)]
      have p4 : ∀ j, up2 (cpT t 0 (200 * (1 + k)) 0) 2 k 1 4 j = t 4 j := fun j => by rw [up2_n (by omega), cpT_o (by omega)]
      rw [q0, q0, q0, p4, p4, p4]
      exact o6
    · unfold imR
      by_cases z : i = k
      · subst z
        have eri : rg (up2 (cpT t 0 (200 * (1 + i)) 0) 2 i 1) (200 * (1 + i)) = rg t 0 := (rg_out fun j a1 a2 => up2_n (by omega)).trans cpT_g
        rw [up2_s, up2_s, eri]
        exact ⟨by decide, rfl, fun _ => ⟨hR_k (fun a b c1 c2 => by rw [up2_n (by omega)]) f2, o2, o3⟩⟩
      · have w := o7 i hi
        unfold imR at w
        have eri : rg (up2 (cpT t 0 (200 * (1 + k)) 0) 2 k 1) (200 * (1 + i)) = rg t (200 * (1 + i)) := rg_out fun j a1 a2 => by rw [up2_n (by omega), cpT_o (by omega)]
        rw [up2_n (by omega), cpT_o (by omega), up2_n (by omega), f1 _ _ (by omega), eri]
        exact ⟨w.1, w.2.1, fun y => ⟨hR_k (fun a b c1 c2 => by rw [up2_n (by omega), f1 a b (by omega)]) (w.2.2 y).1, (w.2.2 y).2⟩⟩
  · have f := m_image (d := 19) (h := cH h (ctT G (-2))) (a := 91) (t := t) (i := w) (h103c hh) w1 w2
    unfold qImage at f
    rw [if_neg q] at f
    exact ⟨_, _, _, oR_v ho, e2 q, f⟩
theorem cal_from (hh : 103 ≤ h.1) (a : Int32) : okC h n_X7_from n_X8_from [.int a] := by
  obtain ⟨w, rfl, w1, w2⟩ := zI_of2 a
  refine okC_mk fun G t ho => ?_
  have hv := ho.2.1
  have o7 := ho.2.2.2.2.2.2
  have hkG : ∀ j, j < 2 → 0 ≤ G 32 j ∧ G 32 j ≤ 1 := fun j hj => by rw [(o7 j hj).2.1]; exact (o7 j hj).1
  have hkt : ∀ j, j < 2 → 0 ≤ t 2 j ∧ t 2 j ≤ 1 := fun j hj => (o7 j hj).1
  obtain ⟨e1, e2, e3⟩ := o_from (d := 17) (h := mH h 91 t) (G := G) (i := w) (f := rg t (200 * (1 + w.toNat))) (h91m hh) w1 w2 hkG
  by_cases q : 0 ≤ w ∧ w ≤ 1
  · have wi := o7 w.toNat (by omega)
    unfold imR at wi
    by_cases z : t 2 w.toNat = 0
    · have f := m_from (d := 19) (h := cH h (ctT G (-3))) (a := 91) (t := t) (i := w) (h103c hh) w1 w2 hkt
      unfold qFrom at f
      rw [if_pos q, if_pos z] at f
      exact ⟨_, _, _, oR_v ho, e2 q (wi.2.1.trans z), f⟩
    · obtain ⟨p1, p2, p3⟩ := wi.2.2 z
      obtain ⟨F, f1, f2, f3⟩ := e1 q (fun y => z (wi.2.1.symm.trans y)) p1 p2.2.2.2.2.2.2.1.2
      have f := m_from (d := 19) (h := cH h F) (a := 91) (t := t) (i := w) (h103c hh) w1 w2 hkt
      unfold qFrom at f
      rw [if_pos q, if_neg z, show (200 * (1 + w)).toNat = 200 * (1 + w.toNat) by omega] at f
      have eg : rg (cpT t (200 * (1 + w.toNat)) 0 0) 0 = rg t (200 * (1 + w.toNat)) := cpT_g
      refine ⟨_, _, _, oR_mk ho (sK_h f1) ⟨fun j => cpT_o (by omega), fun j => cpT_o (by omega), cpT_o (by omega), fun j a1 a2 => cpT_o (by omega)⟩ (by rw [eg]; exact f2) (by rw [eg]; exact p2) (by rw [eg]; exact p3) ?_, f3, f⟩
      have c := ho.2.2.2.2.2.1
      unfold cR at *
      rw [f1 0 7 (by omega), f1 0 8 (by omega), f1 0 9 (by omega), cpT_o (by omega), cpT_o (by omega), cpT_o (by omega)]
      exact c
  · have f := m_from (d := 19) (h := cH h (ctT G (-2))) (a := 91) (t := t) (i := w) (h103c hh) w1 w2 hkt
    unfold qFrom at f
    rw [if_neg q] at f
    exact ⟨_, _, _, oR_v ho, e3 q, f⟩
theorem cal_digest (hh : 103 ≤ h.1) : okC h n_X7_digest n_X8_digest [] := by
  refine okC_mk fun G t ho => ?_
  have hv := ho.2.1
  have h5 := hv.2.2.2.2.2.2.1
  have hw := hv.1
  have hsq := vI_sq hv
  rw [rg_0 (by decide)] at h5 hw
  have e := o_digest (d := 18) (h := mH h 91 t) (h91m hh) ho.1 hv ho.2.2.2.1.1 ho.2.2.2.2.1.1
  have f := m_digest (d := 18) (h := cH h G) (a := 91) (t := t) (h103c hh) (fun k p k1 p0 p1 => ?_) (by omega) (rOk_v (R := 0) hv) (fun w => by have := cOf_rg (w := w) hv ho.2.2.2.2.1.1; omega)
  · refine ⟨G, _, _, oR_L ho ⟨fun i j a1 a2 => up2_n (by omega), up2_n (by omega)⟩ (fun i j _ _ => rfl), e, f⟩
  · have y := hv.2.2.2.2.2.2.2.1 p.toNat (by omega) (by rw [rg_0 (by decide)]; omega)
    unfold rdI at y
    rcases (show k = 0 ∨ k = 1 ∨ k = 2 ∨ k = 3 ∨ k = 4 ∨ k = 5 ∨ k = 6 ∨ k = 7 by omega) with z | z | z | z | z | z | z | z <;> subst z
    · rw [g_1 (t := t) (j := 6 + p.toNat) (x := 6 + 5 * ((0 : Nat) : Int) + p) (by omega) (by omega)]; omega
    · rw [g_1 (t := t) (j := 11 + p.toNat) (x := 6 + 5 * ((1 : Nat) : Int) + p) (by omega) (by omega)]; omega
    · rw [g_1 (t := t) (j := 16 + p.toNat) (x := 6 + 5 * ((2 : Nat) : Int) + p) (by omega) (by omega)]; omega
    · rw [g_1 (t := t) (j := 21 + p.toNat) (x := 6 + 5 * ((3 : Nat) : Int) + p) (by omega) (by omega)]; omega
    · rw [g_1 (t := t) (j := 26 + p.toNat) (x := 6 + 5 * ((4 : Nat) : Int) + p) (by omega) (by omega)]; omega
    · rw [g_1 (t := t) (j := 31 + p.toNat) (x := 6 + 5 * ((5 : Nat) : Int) + p) (by omega) (by omega)]; omega
    · rw [g_1 (t := t) (j := 36 + p.toNat) (x := 6 + 5 * ((6 : Nat) : Int) + p) (by omega) (by omega)]; omega
    · rw [g_1 (t := t) (j := 41 + p.toNat) (x := 6 + 5 * ((7 : Nat) : Int) + p) (by omega) (by omega)]; omega
end

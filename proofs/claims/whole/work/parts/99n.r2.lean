/-! CALLS OF BOTH: those that set -/
section
variable {h : xH}
theorem metT_p {t : Nat → Nat → Int} {v : Int} (hv : 0 ≤ v) : metT t v = t := if_neg (by omega)
theorem ctT_p {G : Nat → Nat → Int} {v : Int} (hv : 0 ≤ v) : ctT G v = G := by
  unfold ctT
  rw [if_neg (by omega), if_neg (by omega), if_neg (by omega)]
theorem h91m {t : Nat → Nat → Int} (hh : 103 ≤ h.1) : 91 ≤ (mH h 91 t).1 := show 91 ≤ h.1 by omega
theorem h103c {G : Nat → Nat → Int} (hh : 103 ≤ h.1) : 91 + 12 ≤ (cH h G).1 := show 91 + 12 ≤ h.1 by omega
theorem cal_S {kx km : Nat} {as : List Value} {u : (Nat → Int) → Int × (Nat → Int)} (hx : ∀ G t, oR G t → ∃ G', o_S G G' (u (rg t 0)) ∧ x_cl 20 kx (.ref 0 :: as) (cH (mH h 91 t) G) = some (some (.int (zI (u (rg t 0)).1)), cH (mH h 91 t) G'))
    (hm : ∀ G' t, vI (rg t 0) → x_cl 20 km (.ref 91 :: as) (mH (cH h G') 91 t) = some (some (.int (zI (u (rg t 0)).1)), mH (cH h G') 91 (metT (pr t 0 (u (rg t 0)).2) (u (rg t 0)).1)))
    (hu : ∀ g, vI g → ct g → g 199 = 0 → vI (u g).2 ∧ ct (u g).2 ∧ (u g).2 199 = 0) : okC h kx km as := by
  refine okC_mk fun G t ho => ?_
  obtain ⟨G', ⟨F, f1, f2, f3⟩, e⟩ := hx G t ho
  obtain ⟨u1, u2, u3⟩ := hu (rg t 0) ho.2.1 (rg_ct t 0) ho.2.2.1
  refine ⟨G', _, _, ?_, e, hm G' t ho.2.1⟩
  rw [f3]
  exact oR_v (oR_g ho f1 f2 u1 u2 u3)
theorem cal_hall (hh : 103 ≤ h.1) (a b : Int32) : okC h n_X7_hall n_X8_hall [.int a, .int b] := by
  obtain ⟨w, rfl, w1, w2⟩ := zI_of2 a
  obtain ⟨z, rfl, z1, z2⟩ := zI_of2 b
  refine cal_S (u := fun g => uHall g w z) (fun G t ho => o_hall (d := 19) (h91m hh) ho.1 w1 w2 z1 z2) (fun G' t hv => ?_) (fun g hv hc h9 => ⟨uHall_v hv, uHall_c hc, ?_⟩)
  · have e := m_hall (d := 18) (h := cH h G') (a := 91) (t := t) (w := w) (hh := z) (h103c hh) w1 w2 z1 z2
    have es : sHall t 0 w z = ((uHall (rg t 0) w z).1, pr t 0 (uHall (rg t 0) w z).2) := sHall_u (R := 0)
    rw [es] at e
    exact e
  · unfold uHall
    split
    · rfl
    · exact h9
theorem cal_shelf (hh : 103 ≤ h.1) (a : Int32) (b : Bool) : okC h n_X7_shelf n_X8_shelf [.int a, .int (zI (bZ (b = true)))] := by
  obtain ⟨w, rfl, w1, w2⟩ := zI_of2 a
  refine cal_S (u := fun g => uShelf g w b) (fun G t ho => o_shelf (d := 18) (h91m hh) ho.1 ho.2.1 w1 w2) (fun G' t hv => ?_) (fun g hv hc h9 => ⟨uShelf_v hv, uShelf_c hc, ?_⟩)
  · have e := m_shelf (d := 17) (h := cH h G') (a := 91) (t := t) (q := w) (is := b) (h103c hh) w1 w2 (rOk_v (R := 0) hv)
    have es : sShelf t 0 w b = ((uShelf (rg t 0) w b).1, pr t 0 (uShelf (rg t 0) w b).2) := sShelf_u (R := 0) hv.2.2.2.2.2.2.1.2
    rw [es] at e
    exact e
  · unfold uShelf
    split
    · split
      · exact h9
      · show up1 (up1 g 4 (xorB (g 4) w)) 46 0 199 = 0
        rw [up1_n (by decide), up1_n (by decide)]
        exact h9
    · exact h9
theorem cal_reader (hh : 103 ≤ h.1) (a b c d : Int32) : okC h n_X7_reader n_X8_reader [.int a, .int b, .int c, .int d] := by
  obtain ⟨w, rfl, w1, w2⟩ := zI_of2 a
  obtain ⟨z, rfl, z1, z2⟩ := zI_of2 b
  obtain ⟨y, rfl, y1, y2⟩ := zI_of2 c
  obtain ⟨x, rfl, x1, x2⟩ := zI_of2 d
  refine cal_S (u := fun g => uRead g w z y x) (fun G t ho => o_reader (d := 16) (h91m hh) ho.1 ho.2.1 w1 w2 z1 z2 y1 y2 x1 x2) (fun G' t hv => ?_) (fun g hv hc h9 => ⟨uRead_v hv, uRead_c hc hv.2.2.2.2.2.2.1.2, ?_⟩)
  · have e := m_reader (d := 17) (h := cH h G') (a := 91) (t := t) (q := w) (k := z) (pg := y) (wo := x) (h103c hh) w1 w2 z1 z2 y1 y2 x1 x2 (rOk_v (R := 0) hv)
    have es : sRead t 0 w z y x = ((uRead (rg t 0) w z y x).1, pr t 0 (uRead (rg t 0) w z y x).2) := sRead_u (R := 0) hv.2.2.2.2.2.2.1
    rw [es] at e
    exact e
  · have h5 := hv.2.2.2.2.2.2.1
    unfold uRead
    split
    · split
      · exact h9
      · split
        · exact h9
        · show addG g (g 5).toNat w z y x 199 = 0
          unfold addG
          rw [up1_n (by omega), up1_n (by omega), up1_n (by omega), up1_n (by omega), up1_n (by omega), up1_n (by omega), up1_n (by omega), up1_n (by omega), up1_n (by omega), up1_n (by omega)]
          exact h9
    · exact h9
theorem cal_oil (hh : 103 ≤ h.1) (a : Int32) : okC h n_X7_oil n_X8_oil [.int a] := by
  obtain ⟨w, rfl, w1, w2⟩ := zI_of2 a
  refine cal_S (u := fun g => uOil g w) (fun G t ho => o_oil (d := 19) (h91m hh) ho.1 ho.2.1 w1 w2) (fun G' t hv => ?_) (fun g hv hc h9 => ⟨uOil_v hv, uOil_c hc, ?_⟩)
  · have e := m_oil (d := 18) (h := cH h G') (a := 91) (t := t) (n := w) (h103c hh) w1 w2 (rOk_v (R := 0) hv)
    have es : sOil t 0 w = ((uOil (rg t 0) w).1, pr t 0 (uOil (rg t 0) w).2) := sOil_u (R := 0)
    rw [es] at e
    exact e
  · unfold uOil
    split
    · show up1 g 3 w 199 = 0
      rw [up1_n (by decide)]
      exact h9
    · exact h9
theorem cal_string (hh : 103 ≤ h.1) (a b : Int32) : okC h n_X7_string n_X8_string [.int a, .int b] := by
  obtain ⟨w, rfl, w1, w2⟩ := zI_of2 a
  obtain ⟨z, rfl, z1, z2⟩ := zI_of2 b
  refine cal_S (u := fun g => uStr g w z) (fun G t ho => o_string (d := 18) (h91m hh) ho.1 ho.2.1 w1 w2 z1 z2) (fun G' t hv => ?_) (fun g hv hc h9 => ⟨uStr_v hv, uStr_c hc hv.2.2.2.2.2.2.1.2, ?_⟩)
  · have e := m_string (d := 18) (h := cH h G') (a := 91) (t := t) (p := w) (v := z) (h103c hh) w1 w2 z1 z2 (rOk_v (R := 0) hv)
    have es : sStr t 0 w z = ((uStr (rg t 0) w z).1, pr t 0 (uStr (rg t 0) w z).2) := sStr_u (R := 0) hv.2.2.2.2.2.2.1.2
    rw [es] at e
    exact e
  · have h5 := hv.2.2.2.2.2.2.1
    unfold uStr
    split
    next y =>
      show up1 g (26 + w.toNat) z 199 = 0
      rw [up1_n (by omega)]
      exact h9
    · exact h9
theorem qTold_u {t : Nat → Nat → Int} {p n : Int} (hv : vI (rg t 0)) : qTold t p n = ((uTold (rg t 0) p n).1, metT (pr t 0 (uTold (rg t 0) p n).2) (uTold (rg t 0) p n).1) := by
  have h5 := hv.2.2.2.2.2.2.1
  have e5 : rg t 0 5 = t 1 5 := rg_0 (by decide)
  unfold qTold uTold
  rw [← e5]
  by_cases z : (0 ≤ p ∧ p < rg t 0 5) ∧ (0 ≤ n ∧ n ≤ 20)
  · have w := (hv.2.2.2.2.2.2.2.1 p.toNat (by omega) (by omega)).2.2.2.2.2.2.2.1
    have ei : (41 + p).toNat = 0 + (41 + p.toNat) := by omega
    rw [if_pos z, if_pos z, metT_p w.1, ei, up2_pr (by omega), Nat.zero_add, rg_0 (by omega)]
  · rw [if_neg z, if_neg z, pr_rg]
theorem cal_told (hh : 103 ≤ h.1) (a b : Int32) : okC h n_X7_told n_X8_told [.int a, .int b] := by
  obtain ⟨w, rfl, w1, w2⟩ := zI_of2 a
  obtain ⟨z, rfl, z1, z2⟩ := zI_of2 b
  refine cal_S (u := fun g => uTold g w z) (fun G t ho => o_told (d := 18) (h91m hh) ho.1 ho.2.1 w1 w2 z1 z2) (fun G' t hv => ?_) (fun g hv hc h9 => ⟨uTold_v hv, uTold_c hc hv.2.2.2.2.2.2.1.2, ?_⟩)
  · have e := m_told (d := 18) (h := cH h G') (a := 91) (t := t) (p := w) (n := z) (h103c hh) w1 w2 z1 z2 (rOk_v (R := 0) hv)
    rw [qTold_u hv] at e
    exact e
  · have h5 := hv.2.2.2.2.2.2.1
    unfold uTold
    split
    next y =>
      show up1 g (41 + w.toNat) z 199 = 0
      rw [up1_n (by omega)]
      exact h9
    · exact h9
theorem cal_lamp (hh : 103 ≤ h.1) (a : Int32) : okC h n_X7_lamp n_X8_lamp [.int a] := by
  obtain ⟨w, rfl, w1, w2⟩ := zI_of2 a
  refine okC_mk fun G t ho => ?_
  have hv := ho.2.1
  obtain ⟨F, f1, f2, f3⟩ := o_lamp (d := 18) (h := mH h 91 t) (q := w) (h91m hh) ho.1 hv w1 w2
  have e := m_lamp (d := 17) (h := cH h (ctT F (asH (uLamp (rg t 0) w).1))) (a := 91) (t := t) (q := w) (h103c hh) w1 w2 (rOk_v (R := 0) hv)
  have es : sLamp t 0 w = ((uLamp (rg t 0) w).1, pr t 0 (uLamp (rg t 0) w).2) := sLamp_u (R := 0)
  rw [es] at e
  have hu := uLamp_rg (q := w) hv
  have h9 : (uLamp (rg t 0) w).2 199 = 0 := by
    have g9 := ho.2.2.1
    unfold uLamp
    split
    · split
      · exact g9
      · show up1 (rg t 0) 2 w 199 = 0
        rw [up1_n (by decide)]
        exact g9
    · exact g9
  have og := oR_g ho f1 f2 (uLamp_v hv) (uLamp_c (rg_ct t 0)) h9
  refine ⟨_, _, _, ?_, f3, e⟩
  unfold lampP
  dsimp only
  unfold asH
  rcases hu with u | u | u
  · rw [if_pos u, if_pos (by omega), u, metE_2]
    exact oR_v og
  · rw [if_neg (by omega), if_pos u, if_pos (by omega), u, metE_3]
    exact oR_v og
  · rw [if_neg (by omega), if_neg (by omega), if_neg (by omega), ctT_p u.1]
    exact og
end

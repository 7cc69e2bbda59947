/-! CALLS OF BOTH: those that ask -/
section
variable {h : xH}
theorem cal_light (hh : 103 ≤ h.1) (a b : Int32) : okC h n_X7_light n_X8_light [.int a, .int b] := by
  obtain ⟨w, rfl, w1, w2⟩ := zI_of2 a
  obtain ⟨z, rfl, z1, z2⟩ := zI_of2 b
  refine okC_mk fun G t ho => ?_
  have hv := ho.2.1
  have hw := hv.1
  rw [rg_0 (by decide)] at hw
  have e := o_light (d := 17) (h := mH h 91 t) (x := w) (y := z) (h91m hh) ho.1 hv w1 w2 z1 z2
  rw [← sq_v, rg_0 (show 0 < 200 by decide), rg_0 (show 4 < 200 by decide)] at e
  by_cases q : (0 ≤ w ∧ w < sqN t 0) ∧ (0 ≤ z ∧ z < sqN t 0)
  · rw [if_pos q] at e
    have f := m_light (d := 18) (h := cH h G) (a := 91) (t := t) (x := w) (y := z) (h103c hh) hw.1 hw.2 w1 w2 z1 z2 (rOk_v (R := 0) hv)
    unfold qLight at f
    rw [if_pos q] at f
    exact ⟨G, t, _, ho, e, f⟩
  · rw [if_neg q] at e
    have f := m_light (d := 18) (h := cH h (ctT G (-2))) (a := 91) (t := t) (x := w) (y := z) (h103c hh) hw.1 hw.2 w1 w2 z1 z2 (rOk_v (R := 0) hv)
    unfold qLight at f
    rw [if_neg q] at f
    exact ⟨_, _, _, oR_v ho, e, f⟩
theorem cal_left (hh : 103 ≤ h.1) (a : Int32) : okC h n_X7_left n_X8_left [.int a] := by
  obtain ⟨w, rfl, w1, w2⟩ := zI_of2 a
  refine okC_mk fun G t ho => ?_
  have hv := ho.2.1
  have h5 := hv.2.2.2.2.2.2.1
  have e := o_left (d := 19) (h := mH h 91 t) (p := w) (h91m hh) ho.1 hv w1 w2
  rw [rg_0 (show 5 < 200 by decide)] at e h5
  by_cases q : 0 ≤ w ∧ w < t 1 5
  · rw [if_pos q, rg_0 (show 31 + w.toNat < 200 by omega), show 31 + w.toNat = (31 + w).toNat by omega] at e
    have f := m_left (d := 18) (h := cH h G) (a := 91) (t := t) (p := w) (h103c hh) w1 w2 (rOk_v (R := 0) hv)
    unfold qLeft at f
    rw [if_pos q] at f
    exact ⟨G, t, _, ho, e, f⟩
  · rw [if_neg q] at e
    have f := m_left (d := 18) (h := cH h (ctT G (-2))) (a := 91) (t := t) (p := w) (h103c hh) w1 w2 (rOk_v (R := 0) hv)
    unfold qLeft at f
    rw [if_neg q] at f
    exact ⟨_, _, _, oR_v ho, e, f⟩
theorem cal_rest (hh : 103 ≤ h.1) (a : Int32) : okC h n_X7_rest n_X8_rest [.int a] := by
  obtain ⟨w, rfl, w1, w2⟩ := zI_of2 a
  refine okC_mk fun G t ho => ?_
  have hv := ho.2.1
  have e := o_rest (d := 17) (h := mH h 91 t) (w := w) (h91m hh) ho.1 hv w1 w2
  by_cases q : 0 ≤ w ∧ w ≤ 1
  · rw [if_pos q] at e
    have f := m_rest (d := 18) (h := cH h G) (a := 91) (t := t) (w := w) (h103c hh) w1 w2 (now_v hv) (seat_v hv) (lamp_v hv)
    unfold qRest at f
    rw [if_pos q] at f
    exact ⟨G, t, _, ho, e, f⟩
  · rw [if_neg q] at e
    have f := m_rest (d := 18) (h := cH h (ctT G (-2))) (a := 91) (t := t) (w := w) (h103c hh) w1 w2 (now_v hv) (seat_v hv) (lamp_v hv)
    unfold qRest at f
    rw [if_neg q] at f
    exact ⟨_, _, _, oR_v ho, e, f⟩
theorem cal_status (hh : 103 ≤ h.1) (a : Int32) : okC h n_X7_status n_X8_status [.int a] := by
  obtain ⟨w, rfl, w1, w2⟩ := zI_of2 a
  refine okC_mk fun G t ho => ?_
  have e := o_status (d := 19) (h := mH h 91 t) (G := G) (w := w) (h91m hh) w1 w2
  by_cases q : 0 ≤ w ∧ w ≤ 2
  · rw [if_pos q] at e
    have f := m_status (d := 19) (h := cH h G) (a := 91) (t := t) (i := w) (h103c hh) w1 w2
    unfold qStatus at f
    rw [if_pos q] at f
    have ec : G 0 (7 + w.toNat) = t 4 w.toNat := by
      obtain ⟨c1, c2, c3⟩ := ho.2.2.2.2.2.1
      rcases (show w = 0 ∨ w = 1 ∨ w = 2 by omega) with y | y | y <;> subst y
      · exact c1
      · exact c2
      · exact c3
    rw [ec] at e
    exact ⟨G, t, _, ho, e, f⟩
  · rw [if_neg q] at e
    have f := m_status (d := 19) (h := cH h (ctT G (-2))) (a := 91) (t := t) (i := w) (h103c hh) w1 w2
    unfold qStatus at f
    rw [if_neg q] at f
    exact ⟨_, _, _, oR_v (v := -2) ho, e, f⟩
theorem cal_count (hh : 103 ≤ h.1) (a : Int32) : okC h n_X7_count n_X8_count [.int a] := by
  obtain ⟨w, rfl, w1, w2⟩ := zI_of2 a
  refine okC_mk fun G t ho => ?_
  have hv := ho.2.1
  have e := o_count (d := 18) (h := mH h 91 t) (w := w) (h91m hh) ho.1 hv ho.2.2.2.1.1 ho.2.2.2.2.1.1 w1 w2
  by_cases q : 0 ≤ w ∧ w ≤ 6
  · rw [if_pos q] at e
    have f := m_count (d := 18) (h := cH h G) (a := 91) (t := t) (w := w) (h103c hh) w1 w2
    unfold qCount at f
    rw [if_pos q] at f
    exact ⟨G, t, _, ho, e, f⟩
  · rw [if_neg q] at e
    have f := m_count (d := 18) (h := cH h (ctT G (-2))) (a := 91) (t := t) (w := w) (h103c hh) w1 w2
    unfold qCount at f
    rw [if_neg q] at f
    exact ⟨_, _, _, oR_v ho, e, f⟩
theorem vI_32 {t : Nat → Nat → Int} (ho : ∀ j, j < 200 → -2147483648 ≤ t 1 j ∧ t 1 j < 2147483648) : True := trivial
theorem cal_stand (hh : 103 ≤ h.1) (a : Int32) : okC h n_X7_stand n_X8_stand [.int a] := by
  obtain ⟨w, rfl, w1, w2⟩ := zI_of2 a
  refine okC_mk fun G t ho => ?_
  have hv := ho.2.1
  obtain ⟨e1, e2⟩ := o_stand (d := 15) (h := mH h 91 t) (w := w) (h91m hh) ho.1 hv w1 w2
  by_cases q : 0 ≤ w ∧ w ≤ 1
  · obtain ⟨G', g1, g2⟩ := e1 q
    obtain ⟨t', f1, f2⟩ := m_stand (d := 16) (h := cH h G') (a := 91) (t := t) (w := w) (h103c hh) w1 w2 (now_v hv)
    rw [if_pos q] at f1 f2
    exact ⟨G', t', _, oR_L ho f1 fun i j c1 c2 => g1 i j (by omega), g2, f2⟩
  · obtain ⟨t', f1, f2⟩ := m_stand (d := 16) (h := cH h (ctT G (-2))) (a := 91) (t := t) (w := w) (h103c hh) w1 w2 (now_v hv)
    rw [if_neg q] at f1 f2
    refine ⟨_, t', _, ?_, e2 q, f2⟩
    rw [f1]
    exact oR_v ho
theorem cal_two (hh : 103 ≤ h.1) (a : Int32) : okC h n_X7_two n_X8_two [.int a] := by
  obtain ⟨w, rfl, w1, w2⟩ := zI_of2 a
  refine okC_mk fun G t ho => ?_
  have hv := ho.2.1
  obtain ⟨e1, e2⟩ := o_two (d := 15) (h := mH h 91 t) (w := w) (h91m hh) ho.1 hv w1 w2
  by_cases q : 0 ≤ w ∧ w ≤ 1
  · have e1' := e1 q
    by_cases z : (twS (bgT t 0)).1 < 0
    · rw [if_pos z] at e1'
      obtain ⟨t', f1, f2⟩ := m_two (d := 17) (h := cH h (ctT G (-3))) (a := 91) (t := t) (w := w) (h103c hh) w1 w2 (now_v hv)
      rw [if_pos q, if_pos z] at f1
      rw [if_pos q] at f2
      obtain ⟨t1, l1, l2⟩ := f1
      refine ⟨_, t', _, ?_, e1', f2⟩
      rw [l2, metE_3]
      exact oR_v (oR_L ho l1 fun i j _ _ => rfl)
    · rw [if_neg z] at e1'
      obtain ⟨G', g1, g2⟩ := e1'
      obtain ⟨t', f1, f2⟩ := m_two (d := 17) (h := cH h G') (a := 91) (t := t) (w := w) (h103c hh) w1 w2 (now_v hv)
      rw [if_pos q, if_neg z] at f1
      rw [if_pos q] at f2
      exact ⟨G', t', _, oR_L ho f1 fun i j c1 c2 => g1 i j (by omega), g2, f2⟩
  · obtain ⟨t', f1, f2⟩ := m_two (d := 17) (h := cH h (ctT G (-2))) (a := 91) (t := t) (w := w) (h103c hh) w1 w2 (now_v hv)
    rw [if_neg q] at f1 f2
    refine ⟨_, t', _, ?_, e2 q, f2⟩
    rw [f1]
    exact oR_v ho
theorem bg5 {t : Nat → Nat → Int} (hv : vI (rg t 0)) : 0 ≤ bgT t 0 1 5 ∧ bgT t 0 1 5 ≤ 5 := by
  have h5 := hv.2.2.2.2.2.2.1
  rw [rg_0 (by decide)] at h5
  rw [bg_1]
  exact h5
theorem cal_seats (hh : 103 ≤ h.1) : okC h n_X7_seats n_X8_seats [] := by
  refine okC_mk fun G t ho => ?_
  have hv := ho.2.1
  obtain ⟨G', g1, g2⟩ := o_seats (d := 13) (h := mH h 91 t) (h91m hh) ho.1 hv
  obtain ⟨t', f1, f2⟩ := m_seats (d := 16) (h := cH h G') (a := 91) (t := t) (h103c hh) (now_v hv)
  rw [seG_u bgC_bg (bg5 hv), rg_bg] at f2
  exact ⟨G', t', _, oR_L ho f1 fun i j c1 c2 => g1 i j (by omega) (by omega), g2, f2⟩
theorem cal_moved (hh : 103 ≤ h.1) : okC h n_X7_moved n_X8_moved [] := by
  refine okC_mk fun G t ho => ?_
  have hv := ho.2.1
  obtain ⟨G', g1, g2⟩ := o_moved (d := 13) (h := mH h 91 t) (h91m hh) ho.1 hv
  obtain ⟨t', f1, f2⟩ := m_moved (d := 16) (h := cH h G') (a := 91) (t := t) (h103c hh) (now_v hv)
  rw [smG_u bgC_bg (bg5 hv), rg_bg] at f2
  exact ⟨G', t', _, oR_L ho f1 fun i j c1 c2 => g1 i j (by omega) (by omega), g2, f2⟩
theorem cal_way (hh : 103 ≤ h.1) (a b : Int32) : okC h n_X7_way n_X8_way [.int a, .int b] := by
  obtain ⟨w, rfl, w1, w2⟩ := zI_of2 a
  obtain ⟨z, rfl, z1, z2⟩ := zI_of2 b
  refine okC_mk fun G t ho => ?_
  have hv := ho.2.1
  obtain ⟨e1, e2⟩ := o_way (d := 7) (h := mH h 91 t) (m := w) (i := z) (h91m hh) ho.1 hv w1 w2 z1 z2
  by_cases q : wayC t w z
  · obtain ⟨G', g1, g2⟩ := e1 q
    obtain ⟨f1, -⟩ := m_way (d := 16) (h := cH h G') (a := 91) (t := t) (m := w) (i := z) (h103c hh) w1 w2 z1 z2 (now_v hv) (lamp_v hv)
    obtain ⟨t', l1, l2⟩ := f1 q
    exact ⟨G', t', _, oR_L ho l1 fun i j c1 c2 => g1 i j (by omega), g2, l2⟩
  · obtain ⟨-, f2⟩ := m_way (d := 16) (h := cH h (ctT G (-2))) (a := 91) (t := t) (m := w) (i := z) (h103c hh) w1 w2 z1 z2 (now_v hv) (lamp_v hv)
    have f := f2 q
    rw [metE_2] at f
    exact ⟨_, _, _, oR_v ho, e2 q, f⟩
theorem cal_done (hh : 103 ≤ h.1) (a b c : Int32) : okC h n_X7_done n_X8_done [.int a, .int b, .int c] := by
  obtain ⟨w, rfl, w1, w2⟩ := zI_of2 a
  obtain ⟨y, rfl, y1, y2⟩ := zI_of2 b
  obtain ⟨z, rfl, z1, z2⟩ := zI_of2 c
  refine okC_mk fun G t ho => ?_
  have hv := ho.2.1
  obtain ⟨e1, e2⟩ := o_done (d := 7) (h := mH h 91 t) (m := w) (who := y) (i := z) (h91m hh) ho.1 hv w1 w2 y1 y2 z1 z2
  by_cases q : doneC t w y z
  · obtain ⟨G', g1, g2⟩ := e1 q
    obtain ⟨f1, -⟩ := m_done (d := 16) (h := cH h G') (a := 91) (t := t) (m := w) (who := y) (i := z) (h103c hh) w1 w2 z1 z2 y1 y2 (now_v hv) (lamp_v hv)
    obtain ⟨t', l1, l2⟩ := f1 q
    exact ⟨G', t', _, oR_L ho l1 fun i j c1 c2 => g1 i j (by omega), g2, l2⟩
  · obtain ⟨-, f2⟩ := m_done (d := 16) (h := cH h (ctT G (-2))) (a := 91) (t := t) (m := w) (who := y) (i := z) (h103c hh) w1 w2 z1 z2 y1 y2 (now_v hv) (lamp_v hv)
    have f := f2 q
    rw [metE_2] at f
    exact ⟨_, _, _, oR_v ho, e2 q, f⟩
theorem cal_been (hh : 103 ≤ h.1) (a b c : Int32) : okC h n_X7_been n_X8_been [.int a, .int b, .int c] := by
  obtain ⟨w, rfl, w1, w2⟩ := zI_of2 a
  obtain ⟨y, rfl, y1, y2⟩ := zI_of2 b
  obtain ⟨z, rfl, z1, z2⟩ := zI_of2 c
  refine okC_mk fun G t ho => ?_
  have hv := ho.2.1
  obtain ⟨e1, e2⟩ := o_been (d := 8) (h := mH h 91 t) (f := w) (m := y) (w := z) (h91m hh) ho.1 hv w1 w2 y1 y2 z1 z2
  by_cases q : beenC t w y z
  · obtain ⟨G', g1, g2⟩ := e1 q
    obtain ⟨f1, -⟩ := m_been (d := 16) (h := cH h G') (a := 91) (t := t) (f := w) (m := y) (w := z) (h103c hh) y1 y2 w1 w2 z1 z2 (now_v hv)
    obtain ⟨t', l1, l2⟩ := f1 q
    exact ⟨G', t', _, oR_L ho l1 fun i j c1 c2 => g1 i j (by omega), g2, l2⟩
  · obtain ⟨-, f2⟩ := m_been (d := 16) (h := cH h (ctT G (-2))) (a := 91) (t := t) (f := w) (m := y) (w := z) (h103c hh) y1 y2 w1 w2 z1 z2 (now_v hv)
    exact ⟨_, _, _, oR_v ho, e2 q, f2 q⟩
end

/-! WHAT NOW MUST BE, from the invariant of the hall's row -/
section
variable {t : Nat → Nat → Int}
theorem rg_0 {j : Nat} (hj : j < 200) : rg t 0 j = t 1 j := by
  unfold rg
  rw [if_pos hj, Nat.zero_add]
theorem now_v (hv : vI (rg t 0)) : nowOk t := by
  have hr : rOk t 0 := rOk_v (t := t) (R := 0) hv
  obtain ⟨v1, v2, v3, v4, v5, v6, v7, v8, v9, v10⟩ := hv
  rw [rg_0 (by omega)] at v1 v7 v9
  refine ⟨hr, v1, v9, fun p h0 h1 => ?_⟩
  obtain ⟨w1, w2, w3, w4, w5, w6, w7, w8, w9⟩ := v8 p.toNat (by omega) (by rw [rg_0 (by omega)]; omega)
  rw [rg_0 (by omega)] at w2 w3 w4 w5 w6 w7 w8
  rw [show (11 + p).toNat = 11 + p.toNat by omega, show (21 + p).toNat = 21 + p.toNat by omega, show (31 + p).toNat = 31 + p.toNat by omega, show (36 + p).toNat = 36 + p.toNat by omega, show (16 + p).toNat = 16 + p.toNat by omega, show (41 + p).toNat = 41 + p.toNat by omega]
  exact ⟨w2, w4, w6, w7, w3, w8⟩
theorem sq_v (t : Nat → Nat → Int) : sqN t 0 = rg t 0 0 * rg t 0 1 := sqN_u (t := t) (R := 0)
theorem seat_v (hv : vI (rg t 0)) : seatOk t := by
  rw [seatOk, sq_v]
  obtain ⟨v1, v2, v3, v4, v5, v6, v7, v8, v9, v10⟩ := hv
  refine ⟨?_, fun p h0 h1 => ?_⟩
  · rw [rg_0 (by omega)] at v2
    exact v2
  · rw [rg_0 (by omega)] at v7
    have := (v8 p.toNat (by omega) (by rw [rg_0 (by omega)]; omega)).1
    rw [rg_0 (show 6 + p.toNat < 200 by omega)] at this
    rw [show (6 + p).toNat = 6 + p.toNat by omega]
    exact this.2
theorem lamp_v (hv : vI (rg t 0)) : t 1 2 < sqN t 0 := by
  rw [sq_v, ← rg_0 (t := t) (show 2 < 200 by omega)]
  exact hv.2.2.1.2
end

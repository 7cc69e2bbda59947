/-! THE REFERENCE, leaves -/
section
variable {h : xH} {a : Nat} {t : Nat → Nat → Int} {d : Nat}
theorem c_in {x lo hi : Int} : x_cl d n_X8_in [.long (zL x), .long (zL lo), .long (zL hi)] h = some (some (.int (zI (bZ (lo ≤ x ∧ x ≤ hi)))), h) := by
  simp only [e_X8_in, s_X8_in_0, s_X8_in_1, s_X8_in_2, s_X8_in_3, s_X8_in_6, s_X8_in_7, s_X8_in_9, s_X8_in_10, s_X8_in_13, s_X8_in_14, s_X8_in_17, s_X8_in_18_0, s_X8_in_18_1, s_X8_in_18_b]
  done
theorem c_sizeOf {x : Int} (h1 : -2147483648 < x) (h2 : x < 2147483648) : x_cl d n_X8_sizeOf [.int (zI x)] h = some (some (.int (zI (if x < 0 then -x else x))), h) := by
  simp only [e_X8_sizeOf, s_X8_sizeOf_0, s_X8_sizeOf_1, s_X8_sizeOf_4, s_X8_sizeOf_5, s_X8_sizeOf_6, s_X8_sizeOf_9, s_X8_sizeOf_10]
  done
theorem c_squaresOf {r : Int} (ha : a + 12 ≤ h.1) (h0 : 0 ≤ r) (h1 : r < 700) : x_cl d n_X8_squaresOf [.ref a, .int (zI r)] (mH h a t) = some (some (.int (zI (t 1 r.toNat * t 1 (r + 1).toNat))), mH h a t) := by
  simp (disch := omega) only [e_X8_squaresOf, s_X8_squaresOf_0, s_X8_squaresOf_1, s_X8_squaresOf_4, s_X8_squaresOf_5, s_X8_squaresOf_6, s_X8_squaresOf_7, s_X8_squaresOf_8, s_X8_squaresOf_9, s_X8_squaresOf_12, s_X8_squaresOf_13, s_X8_squaresOf_14, s_X8_squaresOf_15, s_X8_squaresOf_16, s_X8_squaresOf_17, mH_obj ha, m_g0 ha, m_g1 ha, m_g2 ha, m_g3 ha, m_g4 ha, m_g5 ha, m_g6 ha, m_g7 ha, m_g8 ha, m_g9 ha, m_g10 ha, m_g11 ha, m_g12 ha, m_g13 ha, m_g14 ha, m_g15 ha, m_g16 ha, m_g17 ha, m_g18 ha, m_g19 ha, m_g20 ha, m_r1 ha, m_r2 ha, m_r3 ha, m_r4 ha, m_r5 ha, m_r6 ha, m_r7 ha, m_r8 ha, m_r9 ha, m_r10 ha, m_r11 ha, zI_add, zI_sub, zI_mul, zI_neg, zL_add, zL_sub, zL_mul, Option.bind_some, Option.toList_some, Option.toList_none, List.cons_append, List.nil_append]
  done
end

/-! THE COMPONENT, NEW: its numbers -/
set_option maxRecDepth 1000000 in
theorem x_g7 : (([(1, 4, 4), (1, 5, 4), (1, 6, 16), (1, 7, 0), (1, 8, 8), (1, 9, 0), (1, 10, 0), (3, 1, 0), (5, 4, 0), (33, 0, 0), (32, 0, 0), (32, 1, 0), (0, 7, 0), (0, 8, 0), (0, 9, 0)] : List (Nat × Nat × Int)).all fun p => decide (xG x_h7 p.1 p.2.1 = p.2.2)) = true := by decide +kernel
set_option maxRecDepth 1000000 in
theorem x_x7 : ((List.range 200).all fun j => decide (xG x_h7 34 j = 0)) = true := by decide +kernel
set_option maxRecDepth 1000000 in
theorem x_s7 : decide (x_h7.2.1 ≤ 3000) = true := by decide +kernel

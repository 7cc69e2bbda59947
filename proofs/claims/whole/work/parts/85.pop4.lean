/-! BITS COUNTED by the machine: the method -/
section
variable {h : xH} {d : Nat}
theorem pc_1 {n : Nat} (hn : n < 4294967296) : zI (n : Int) - (((zI (n : Int)).toUInt32 >>> ((zI 1).toUInt32 &&& Int32.toUInt32 31)).toInt32 &&& 1431655765) = zI ((pF1 n 1431655765 : Nat) : Int) := by
  have e := zN_shr (n := n) (k := 1) hn (by decide)
  rw [show ((1 : Nat) : Int) = 1 from rfl] at e
  rw [e, show (1431655765 : Int32) = zI ((1431655765 : Nat) : Int) from rfl, zN_and (by omega) (by decide), zI_sub]
  unfold pF1
  have : n / 2 &&& 1431655765 ≤ n / 2 := Nat.and_le_left
  congr 1
  rw [show n / 2 ^ 1 = n / 2 from rfl]
  omega
theorem pc_2 {n : Nat} (hn : n < 4294967296) : (zI (n : Int) &&& 858993459) + (((zI (n : Int)).toUInt32 >>> ((zI 2).toUInt32 &&& Int32.toUInt32 31)).toInt32 &&& 858993459) = zI ((pF2 n 858993459 : Nat) : Int) := by
  have e := zN_shr (n := n) (k := 2) hn (by decide)
  rw [show ((2 : Nat) : Int) = 2 from rfl] at e
  rw [e, show (858993459 : Int32) = zI ((858993459 : Nat) : Int) from rfl, zN_and (by omega) (by decide), zN_and (by omega) (by decide), zI_add]
  unfold pF2
  congr 1
theorem pc_3 {n : Nat} (hn : n < 2147483648) : (zI (n : Int) + ((zI (n : Int)).toUInt32 >>> ((zI 4).toUInt32 &&& Int32.toUInt32 31)).toInt32) &&& 252645135 = zI ((pF3 n 252645135 : Nat) : Int) := by
  have e := zN_shr (n := n) (k := 4) (by omega) (by decide)
  rw [show ((4 : Nat) : Int) = 4 from rfl] at e
  rw [e, show (252645135 : Int32) = zI ((252645135 : Nat) : Int) from rfl, zI_add]
  have e2 : (n : Int) + ((n / 2 ^ 4 : Nat) : Int) = ((n + n / 16 : Nat) : Int) := by
    rw [show n / 2 ^ 4 = n / 16 from rfl]
    omega
  rw [e2, zN_and (by omega) (by decide)]
  rfl
theorem pc_4 {n k : Nat} (hn : n < 2147483648) (hk : k < 32) : zI (n : Int) + ((zI (n : Int)).toUInt32 >>> ((zI (k : Int)).toUInt32 &&& Int32.toUInt32 31)).toInt32 = zI ((n + n / 2 ^ k : Nat) : Int) := by
  rw [zN_shr (by omega) hk, zI_add]
  congr 1
theorem byte_le {A : Nat} (hA : A < 256) : pF2 (pF1 A 85) 51 < 128 := by
  obtain ⟨a1, a2, a3, a4, a5⟩ := byte_all ⟨A, hA⟩
  dsimp only at a2 a3
  omega
theorem k_bits {n : Nat} (hn : n < 4294967296) : x_cl d n_J6_bitCount_0f7a4 [.int (zI (n : Int))] h = some (some (.int (zI ((pop8 (n % 256) + pop8 (n / 256 % 256) + pop8 (n / 65536 % 256) + pop8 (n / 16777216) : Nat) : Int))), h) := by
  have hd : n = 256 * (256 * (256 * (n / 16777216) + n / 65536 % 256) + n / 256 % 256) + n % 256 := by omega
  have hA : n % 256 < 256 := by omega
  have hB : n / 256 % 256 < 256 := by omega
  have hC : n / 65536 % 256 < 256 := by omega
  have hD : n / 16777216 < 256 := by omega
  have hp := pop_all hA hB hC hD
  rw [← hd] at hp
  obtain ⟨a1, a2, a3, a4, a5⟩ := byte_all ⟨_, hA⟩
  obtain ⟨b1, b2, b3, b4, b5⟩ := byte_all ⟨_, hB⟩
  obtain ⟨c1, c2, c3, c4, c5⟩ := byte_all ⟨_, hC⟩
  obtain ⟨d1, d2, d3, d4, d5⟩ := byte_all ⟨_, hD⟩
  dsimp only at a1 a2 a3 a4 a5 b1 b2 b3 b4 b5 c1 c2 c3 c4 c5 d1 d2 d3 d4 d5
  have e1 : pF1 n 1431655765 = 256 * (256 * (256 * pF1 (n / 16777216) 85 + pF1 (n / 65536 % 256) 85) + pF1 (n / 256 % 256) 85) + pF1 (n % 256) 85 := by
    rw [show 1431655765 = 256 * (256 * (256 * 85 + 85) + 85) + 85 from rfl, hd, pF1_s hA, pF1_s hB, pF1_s hC, ← hd]
  have e2 : pF2 (pF1 n 1431655765) 858993459 = 256 * (256 * (256 * pF2 (pF1 (n / 16777216) 85) 51 + pF2 (pF1 (n / 65536 % 256) 85) 51) + pF2 (pF1 (n / 256 % 256) 85) 51) + pF2 (pF1 (n % 256) 85) 51 := by
    rw [e1, show 858993459 = 256 * (256 * (256 * 51 + 51) + 51) + 51 from rfl, pF2_s a1, pF2_s b1, pF2_s c1]
  have r1 : pF1 n 1431655765 < 4294967296 := by omega
  have r2 : pF2 (pF1 n 1431655765) 858993459 < 2147483648 := by
    have := byte_le hA
    have := byte_le hB
    have := byte_le hC
    have := byte_le hD
    omega
  have r3 : pF3 (pF2 (pF1 n 1431655765) 858993459) 252645135 ≤ 252645135 := Nat.and_le_right
  have p4 := pc_4 (n := pF3 (pF2 (pF1 n 1431655765) 858993459) 252645135) (k := 8) (by omega) (by decide)
  have p5 := pc_4 (n := popN n) (k := 16) (by unfold popN; omega) (by decide)
  rw [show ((8 : Nat) : Int) = 8 from rfl, show (2 : Nat) ^ 8 = 256 from rfl] at p4
  rw [show ((16 : Nat) : Int) = 16 from rfl, show (2 : Nat) ^ 16 = 65536 from rfl] at p5
  have ep : ((pF3 (pF2 (pF1 n 1431655765) 858993459) 252645135 + pF3 (pF2 (pF1 n 1431655765) 858993459) 252645135 / 256 : Nat) : Int) = (popN n : Int) := rfl
  rw [ep] at p4
  simp only [e_J6_bitCount_0f7a4, s_J6_bitCount_0f7a4_0, s_J6_bitCount_0f7a4_1, s_J6_bitCount_0f7a4_2, s_J6_bitCount_0f7a4_3, s_J6_bitCount_0f7a4_4, s_J6_bitCount_0f7a4_7, s_J6_bitCount_0f7a4_8, s_J6_bitCount_0f7a4_9, s_J6_bitCount_0f7a4_10, s_J6_bitCount_0f7a4_11, s_J6_bitCount_0f7a4_14, s_J6_bitCount_0f7a4_15, s_J6_bitCount_0f7a4_16, s_J6_bitCount_0f7a4_17, s_J6_bitCount_0f7a4_18, s_J6_bitCount_0f7a4_21, s_J6_bitCount_0f7a4_22, s_J6_bitCount_0f7a4_23, s_J6_bitCount_0f7a4_24, s_J6_bitCount_0f7a4_25, s_J6_bitCount_0f7a4_26, s_J6_bitCount_0f7a4_27, s_J6_bitCount_0f7a4_28, s_J6_bitCount_0f7a4_29, s_J6_bitCount_0f7a4_32, s_J6_bitCount_0f7a4_33, s_J6_bitCount_0f7a4_34, s_J6_bitCount_0f7a4_35, s_J6_bitCount_0f7a4_36, s_J6_bitCount_0f7a4_38, s_J6_bitCount_0f7a4_39, s_J6_bitCount_0f7a4_40, s_J6_bitCount_0f7a4_41, s_J6_bitCount_0f7a4_42, s_J6_bitCount_0f7a4_43, s_J6_bitCount_0f7a4_45, s_J6_bitCount_0f7a4_46, s_J6_bitCount_0f7a4_47, s_J6_bitCount_0f7a4_48, s_J6_bitCount_0f7a4_49, s_J6_bitCount_0f7a4_51, s_J6_bitCount_0f7a4_52, pc_1 hn, pc_2 r1, pc_3 r2, p4, p5]
  have e63 : zI 63 = zI ((63 : Nat) : Int) := rfl
  rw [e63, zN_and (by unfold popN; omega) (by decide), hp]
end

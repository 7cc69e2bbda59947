/-! BITS COUNTED by the machine -/
section
variable {h : xH} {d : Nat}
theorem zI_bv {n : Nat} : (zI (n : Int)).toBitVec = BitVec.ofNat 32 n := BitVec.ofInt_natCast 32 n
theorem zN_and {n m : Nat} (hn : n < 4294967296) (hm : m < 4294967296) : zI (n : Int) &&& zI (m : Int) = zI ((n &&& m : Nat) : Int) := by
  refine Int32.toBitVec_inj.mp ?_
  rw [Int32.toBitVec_and, zI_bv, zI_bv, zI_bv]
  refine BitVec.eq_of_toNat_eq ?_
  have : n &&& m < 4294967296 := Nat.lt_of_le_of_lt Nat.and_le_left hn
  rw [BitVec.toNat_and, BitVec.toNat_ofNat, BitVec.toNat_ofNat, BitVec.toNat_ofNat, Nat.mod_eq_of_lt hn, Nat.mod_eq_of_lt hm, Nat.mod_eq_of_lt this]
theorem sh_u : ∀ k : Fin 32, ((zI (k.val : Int)).toUInt32 &&& Int32.toUInt32 31).toNat % 32 = k.val := by decide +kernel
theorem zN_shr {n k : Nat} (hn : n < 4294967296) (hk : k < 32) : ((zI (n : Int)).toUInt32 >>> ((zI (k : Int)).toUInt32 &&& Int32.toUInt32 31)).toInt32 = zI ((n / 2 ^ k : Nat) : Int) := by
  refine Int32.toBitVec_inj.mp ?_
  rw [zI_bv]
  refine BitVec.eq_of_toNat_eq ?_
  have e := sh_u ⟨k, hk⟩
  dsimp only at e
  show ((zI (n : Int)).toUInt32 >>> ((zI (k : Int)).toUInt32 &&& Int32.toUInt32 31)).toNat = _
  rw [UInt32.toNat_shiftRight, e]
  have e2 : (zI (n : Int)).toUInt32.toNat = n := by
    show (zI (n : Int)).toBitVec.toNat = n
    rw [zI_bv, BitVec.toNat_ofNat, Nat.mod_eq_of_lt hn]
  have : n / 2 ^ k < 4294967296 := Nat.lt_of_le_of_lt (Nat.div_le_self _ _) hn
  rw [e2, Nat.shiftRight_eq_div_pow, BitVec.toNat_ofNat, Nat.mod_eq_of_lt this]
end

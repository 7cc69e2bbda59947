/-! BITS of the machine's ints -/
section
theorem sh_amt : ∀ k : Fin 32, ((zI (k.val : Int) &&& 31).toBitVec.smod 32).toNat = k.val := by decide +kernel
theorem hasB_bit {S : Int} {k : Nat} (hk : k < 32) : hasB S k = (zI S).toBitVec.getLsbD k := by
  have e := sh_amt ⟨k, hk⟩
  dsimp only at e
  have e2 : ((zI S >>> (zI (k : Int) &&& 31)) &&& zI 1 = zI 1) ↔ (zI S).toBitVec.getLsbD k = true := by
    rw [← Int32.toBitVec_inj, Int32.toBitVec_and, Int32.toBitVec_shiftRight]
    have o : (zI 1).toBitVec = 1#32 := rfl
    rw [o, BitVec.and_one_eq_setWidth_ofBool_getLsbD, BitVec.getLsbD_sshiftRight', e]
    rw [if_pos (by omega), Nat.add_zero]
    cases (zI S).toBitVec.getLsbD k <;> decide
  unfold hasB
  by_cases q : (zI S).toBitVec.getLsbD k = true
  · rw [decide_eq_true (e2.mpr q), q]
  · rw [decide_eq_false (fun z => q (e2.mp z))]
    exact (Bool.eq_false_iff.mpr q).symm
theorem bit1 : ∀ (q k : Fin 32), (zI 1 <<< (zI (q.val : Int) &&& 31)).toBitVec.getLsbD k.val = decide (k = q) := by decide +kernel
theorem bit1' {q k : Nat} (hq : q < 32) (hk : k < 32) : (zI 1 <<< (zI (q : Int) &&& 31)).toBitVec.getLsbD k = decide (k = q) := by
  rw [bit1 ⟨q, hq⟩ ⟨k, hk⟩]
  exact decide_eq_decide.mpr ⟨fun z => Fin.mk.inj z, fun z => Fin.ext z⟩
theorem hasB_xor {S : Int} {q k : Nat} (hq : q < 32) (hk : k < 32) : hasB (xorB S q) k = (hasB S k ^^ decide (k = q)) := by
  rw [hasB_bit hk, hasB_bit hk, ← xorB_z, Int32.toBitVec_xor, BitVec.getLsbD_xor, bit1' hq hk]
theorem hasB_orB {S : Int} {q k : Nat} (hq : q < 32) (hk : k < 32) : hasB (orB S q) k = (hasB S k || decide (k = q)) := by
  rw [hasB_bit hk, hasB_bit hk]
  have : zI (orB S q) = zI S ||| (zI 1 <<< (zI (q : Int) &&& 31)) := (zI_of _).symm
  rw [this, Int32.toBitVec_or, BitVec.getLsbD_or, bit1' hq hk]
theorem hasB_mv {S : Int} {f q k : Nat} (hf : f < 32) (hq : q < 32) (hk : k < 32) : ((zI S &&& ~~~(zI 1 <<< (zI (f : Int) &&& 31))) ||| (zI 1 <<< (zI (q : Int) &&& 31))).toBitVec.getLsbD k = ((hasB S k && !decide (k = f)) || decide (k = q)) := by
  rw [hasB_bit hk, Int32.toBitVec_or, BitVec.getLsbD_or, bit1' hq hk, Int32.toBitVec_and, BitVec.getLsbD_and, Int32.toBitVec_not, BitVec.getLsbD_not, bit1' hf hk, decide_eq_true hk, Bool.true_and]
/-- the same bits, the same int -/
theorem bit_ext {x y : Int32} (hb : ∀ k, k < 32 → x.toBitVec.getLsbD k = y.toBitVec.getLsbD k) : x = y := Int32.toBitVec_inj.mp (BitVec.eq_of_getLsbD_eq fun i hi => hb i hi)
theorem hasB_0 {k : Nat} (hk : k < 32) : hasB 0 k = false := by
  rw [hasB_bit hk]
  have o : (zI 0).toBitVec = 0#32 := rfl
  rw [o, BitVec.getLsbD_zero]
end

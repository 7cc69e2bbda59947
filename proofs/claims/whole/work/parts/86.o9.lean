/-! BITS COUNTED: one by one; how many of each, for both -/
section
variable {h : xH} {G : Nat → Nat → Int} {d : Nat} {g : Nat → Int} {t : Nat → Nat → Int}
def bsN (N : Nat) : Nat → Nat → Nat
  | 0, _ => 0
  | n + 1, q => N / 2 ^ q % 2 + bsN N n (q + 1)
def bvN (S : Int) : Nat := (zI S).toBitVec.toNat
theorem hb_n {S : Int} {k : Nat} (hk : k < 32) : hasB S k = decide (bvN S / 2 ^ k % 2 = 1) := by
  rw [hasB_bit hk]
  show (bvN S).testBit k = _
  exact Nat.testBit_eq_decide_div_mod_eq
theorem hb_z {S : Int} {k : Nat} (hk : k < 32) : bZ (hasB S k = true) = ((bvN S / 2 ^ k % 2 : Nat) : Int) := by
  rw [hb_n hk]
  by_cases q : bvN S / 2 ^ k % 2 = 1
  · rw [q, bZ_t (by decide)]
    rfl
  · rw [bZ_f (by simpa using q)]
    omega
theorem cntB_n {S : Int} : ∀ (n q : Nat) (c : Int), q + n ≤ 32 → cntB S n (q : Int) c = c + ((bsN (bvN S) n q : Nat) : Int) := by
  intro n
  induction n with
  | zero =>
    intro q c hq
    rw [cntB, bsN]
    omega
  | succ n ih =>
    intro q c hq
    rw [cntB, bsN, hb_z (by omega), show (q : Int) + 1 = ((q + 1 : Nat) : Int) by omega, ih (q + 1) _ (by omega)]
    omega
theorem pop8_s (N j : Nat) : pop8 (N / 2 ^ j % 256) = N / 2 ^ j % 2 + (N / 2 ^ (j + 1) % 2 + (N / 2 ^ (j + 2) % 2 + (N / 2 ^ (j + 3) % 2 + (N / 2 ^ (j + 4) % 2 + (N / 2 ^ (j + 5) % 2 + (N / 2 ^ (j + 6) % 2 + N / 2 ^ (j + 7) % 2)))))) := by
  have e : ∀ k, N / 2 ^ (j + k) = N / 2 ^ j / 2 ^ k := fun k => by rw [Nat.pow_add, Nat.div_div_eq_div_mul]
  rw [e 1, e 2, e 3, e 4, e 5, e 6, e 7]
  generalize N / 2 ^ j = M
  unfold pop8
  have a0 : M % 256 % 2 = M % 2 := by omega
  have a1 : M % 256 / 2 % 2 = M / 2 ^ 1 % 2 := by omega
  have a2 : M % 256 / 4 % 2 = M / 2 ^ 2 % 2 := by omega
  have a3 : M % 256 / 8 % 2 = M / 2 ^ 3 % 2 := by omega
  have a4 : M % 256 / 16 % 2 = M / 2 ^ 4 % 2 := by omega
  have a5 : M % 256 / 32 % 2 = M / 2 ^ 5 % 2 := by omega
  have a6 : M % 256 / 64 % 2 = M / 2 ^ 6 % 2 := by omega
  have a7 : M % 256 / 128 % 2 = M / 2 ^ 7 % 2 := by omega
  rw [a0, a1, a2, a3, a4, a5, a6, a7]
  simp only [Nat.add_assoc]
theorem bvN_lt (S : Int) : bvN S < 4294967296 := (zI S).toBitVec.isLt
theorem pop_cnt {S : Int} (hz : ∀ q : Nat, 25 ≤ q → q < 32 → hasB S q = false) : ((pop8 (bvN S % 256) + pop8 (bvN S / 256 % 256) + pop8 (bvN S / 65536 % 256) + pop8 (bvN S / 16777216) : Nat) : Int) = cntB S 25 0 0 := by
  have h24 : bvN S / 16777216 % 256 = bvN S / 16777216 := by
    have hl := bvN_lt S
    omega
  have z : ∀ q : Nat, 25 ≤ q → q < 32 → bvN S / 2 ^ q % 2 = 0 := fun q h1 h2 => by
    have := hz q h1 h2
    rw [hb_n h2] at this
    have := of_decide_eq_false this
    omega
  have e := cntB_n (S := S) 25 0 0 (by decide)
  rw [show ((0 : Nat) : Int) = 0 from rfl] at e
  rw [e, Int.zero_add]
  have p0 := pop8_s (bvN S) 0
  have p1 := pop8_s (bvN S) 8
  have p2 := pop8_s (bvN S) 16
  have p3 := pop8_s (bvN S) 24
  rw [show bvN S / 2 ^ 0 = bvN S by simp] at p0
  rw [show (2 : Nat) ^ 8 = 256 from rfl] at p1
  rw [show (2 : Nat) ^ 16 = 65536 from rfl] at p2
  rw [show (2 : Nat) ^ 24 = 16777216 from rfl, h24, z (24 + 1) (by decide) (by decide), z (24 + 2) (by decide) (by decide), z (24 + 3) (by decide) (by decide), z (24 + 4) (by decide) (by decide), z (24 + 5) (by decide) (by decide), z (24 + 6) (by decide) (by decide), z (24 + 7) (by decide) (by decide)] at p3
  have key : pop8 (bvN S % 256) + pop8 (bvN S / 256 % 256) + pop8 (bvN S / 65536 % 256) + pop8 (bvN S / 16777216) = bsN (bvN S) 25 0 := by
    rw [p0, p1, p2, p3]
    generalize bvN S = N
    simp only [bsN, Nat.add_assoc, Nat.reduceAdd, Nat.reducePow, Nat.div_one, Nat.add_zero, Nat.zero_add]
  rw [key]
theorem k_bitC {S : Int} (hz : ∀ q : Nat, 25 ≤ q → q < 32 → hasB S q = false) : x_cl d n_J6_bitCount_0f7a4 [.int (zI S)] h = some (some (.int (zI (cntB S 25 0 0))), h) := by
  have e : zI S = zI ((bvN S : Nat) : Int) := by
    apply Int32.toBitVec_inj.mp
    rw [zI_bv]
    unfold bvN
    rw [BitVec.ofNat_toNat, BitVec.setWidth_eq]
  have k := k_bits (h := h) (d := d) (bvN_lt S)
  rw [← e] at k
  rw [k, pop_cnt hz]
theorem cntB_rg (S : Int) : ∀ (n : Nat) (q c : Int), c ≤ cntB S n q c ∧ cntB S n q c ≤ c + n := by
  intro n
  induction n with
  | zero =>
    intro q c
    rw [cntB]
    omega
  | succ n ih =>
    intro q c
    rw [cntB]
    have := ih (q + 1) (c + bZ (hasB S q = true))
    have := bZ_01 (hasB S q = true)
    omega
theorem vI_z (hv : vI g) : ∀ q : Nat, 25 ≤ q → q < 32 → hasB (g 4) q = false := fun q h1 h2 => hv.2.2.2.2.1 q (by have := vI_sq hv; omega) h2
theorem cOf_rg {w : Int} (hv : vI (rg t 0)) (h3 : 0 ≤ t 0 3 ∧ t 0 3 ≤ 200) : 0 ≤ cOf t w ∧ cOf t w ≤ 200 := by
  have hs := vI_sq hv
  rw [← sq_v] at hs
  have a := hv.2.2.1
  have b := hv.2.2.2.1
  have c := hv.2.2.2.2.2.2.1
  have e := hv.2.2.2.2.2.2.2.2.1
  rw [rg_0 (by decide), ← sq_v] at a
  rw [rg_0 (by decide)] at b c e
  have f := cntB_rg (t 1 4) 25 0 0
  unfold cOf
  split
  · omega
  · split
    · omega
    · split
      · omega
      · split
        · omega
        · split
          · omega
          · split
            · omega
            · omega
end

/-! BITS COUNTED, byte by byte -/
section
theorem land_split {i a p m q : Nat} (ha : a < 2 ^ i) (hp : p < 2 ^ i) : (2 ^ i * m + a) &&& (2 ^ i * q + p) = 2 ^ i * (m &&& q) + (a &&& p) := by
  have hap : a &&& p < 2 ^ i := Nat.lt_of_le_of_lt Nat.and_le_left ha
  refine Nat.eq_of_testBit_eq fun j => ?_
  rw [Nat.testBit_and, Nat.testBit_two_pow_mul_add m ha, Nat.testBit_two_pow_mul_add q hp, Nat.testBit_two_pow_mul_add (m &&& q) hap]
  by_cases hj : j < i
  · rw [if_pos hj, if_pos hj, if_pos hj, Nat.testBit_and]
  · rw [if_neg hj, if_neg hj, if_neg hj, Nat.testBit_and]
def pF1 (n M : Nat) : Nat := n - (n / 2 &&& M)
def pF2 (n M : Nat) : Nat := (n &&& M) + (n / 4 &&& M)
def pF3 (n M : Nat) : Nat := (n + n / 16) &&& M
theorem b1_all : ∀ (b : Fin 2) (A : Fin 256), (A.val / 2 + 128 * b.val) &&& 85 = (A.val / 2) &&& 85 := by decide +kernel
theorem b2_all : ∀ (b : Fin 4) (A : Fin 256), (A.val / 4 + 64 * b.val) &&& 51 = (A.val / 4) &&& 51 := by decide +kernel
theorem pF1_s {A m M : Nat} (hA : A < 256) : pF1 (256 * m + A) (256 * M + 85) = 256 * pF1 m M + pF1 A 85 := by
  unfold pF1
  have e : (256 * m + A) / 2 = 256 * (m / 2) + (A / 2 + 128 * (m % 2)) := by omega
  have l := land_split (i := 8) (a := A / 2 + 128 * (m % 2)) (p := 85) (m := m / 2) (q := M) (by omega) (by decide)
  rw [show (2 : Nat) ^ 8 = 256 from rfl] at l
  rw [e, l]
  have b := b1_all ⟨m % 2, by omega⟩ ⟨A, hA⟩
  dsimp only at b
  rw [b]
  have h1 : m / 2 &&& M ≤ m / 2 := Nat.and_le_left
  have h2 : A / 2 &&& 85 ≤ A / 2 := Nat.and_le_left
  omega
theorem pF2_s {A m M : Nat} (hA : A < 256) : pF2 (256 * m + A) (256 * M + 51) = 256 * pF2 m M + pF2 A 51 := by
  unfold pF2
  have e : (256 * m + A) / 4 = 256 * (m / 4) + (A / 4 + 64 * (m % 4)) := by omega
  have l := land_split (i := 8) (a := A / 4 + 64 * (m % 4)) (p := 51) (m := m / 4) (q := M) (by omega) (by decide)
  have l2 := land_split (i := 8) (a := A) (p := 51) (m := m) (q := M) (by omega) (by decide)
  rw [show (2 : Nat) ^ 8 = 256 from rfl] at l l2
  rw [e, l, l2]
  have b := b2_all ⟨m % 4, by omega⟩ ⟨A, hA⟩
  dsimp only at b
  rw [b]
  omega
end

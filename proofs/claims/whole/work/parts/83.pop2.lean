/-! BITS COUNTED, the whole int -/
section
theorem b3_all : ∀ (b : Fin 5) (A : Fin 69), (A.val + A.val / 16 + 16 * b.val) &&& 15 = (A.val + A.val / 16) &&& 15 := by decide +kernel
theorem pF3_s {A m M : Nat} (hA : A % 16 ≤ 4 ∧ A / 16 ≤ 4) (hm : m % 16 ≤ 4) : pF3 (256 * m + A) (256 * M + 15) = 256 * pF3 m M + pF3 A 15 := by
  unfold pF3
  have e : 256 * m + A + (256 * m + A) / 16 = 256 * (m + m / 16) + (A + A / 16 + 16 * (m % 16)) := by omega
  have l := land_split (i := 8) (a := A + A / 16 + 16 * (m % 16)) (p := 15) (m := m + m / 16) (q := M) (by omega) (by decide)
  rw [show (2 : Nat) ^ 8 = 256 from rfl] at l
  rw [e, l]
  have b := b3_all ⟨m % 16, by omega⟩ ⟨A, by omega⟩
  dsimp only at b
  rw [b]
def pop8 (A : Nat) : Nat := A % 2 + A / 2 % 2 + A / 4 % 2 + A / 8 % 2 + A / 16 % 2 + A / 32 % 2 + A / 64 % 2 + A / 128 % 2
theorem byte_all : ∀ A : Fin 256, pF1 A.val 85 < 256 ∧ pF2 (pF1 A.val 85) 51 % 16 ≤ 4 ∧ pF2 (pF1 A.val 85) 51 / 16 ≤ 4 ∧ pF3 (pF2 (pF1 A.val 85) 51) 15 = pop8 A.val ∧ pop8 A.val ≤ 8 := by decide +kernel
def popN (n : Nat) : Nat := (pF3 (pF2 (pF1 n 1431655765) 858993459) 252645135 + pF3 (pF2 (pF1 n 1431655765) 858993459) 252645135 / 256)
theorem pop_all {A B C D : Nat} (hA : A < 256) (hB : B < 256) (hC : C < 256) (hD : D < 256) : (popN (256 * (256 * (256 * D + C) + B) + A) + popN (256 * (256 * (256 * D + C) + B) + A) / 65536) &&& 63 = pop8 A + pop8 B + pop8 C + pop8 D := by
  obtain ⟨a1, a2, a3, a4, a5⟩ := byte_all ⟨A, hA⟩
  obtain ⟨b1, b2, b3, b4, b5⟩ := byte_all ⟨B, hB⟩
  obtain ⟨c1, c2, c3, c4, c5⟩ := byte_all ⟨C, hC⟩
  obtain ⟨d1, d2, d3, d4, d5⟩ := byte_all ⟨D, hD⟩
  dsimp only at a1 a2 a3 a4 a5 b1 b2 b3 b4 b5 c1 c2 c3 c4 c5 d1 d2 d3 d4 d5
  have e1 : pF1 (256 * (256 * (256 * D + C) + B) + A) 1431655765 = 256 * (256 * (256 * pF1 D 85 + pF1 C 85) + pF1 B 85) + pF1 A 85 := by
    rw [show 1431655765 = 256 * (256 * (256 * 85 + 85) + 85) + 85 from rfl, pF1_s hA, pF1_s hB, pF1_s hC]
  have e2 : pF2 (256 * (256 * (256 * pF1 D 85 + pF1 C 85) + pF1 B 85) + pF1 A 85) 858993459 = 256 * (256 * (256 * pF2 (pF1 D 85) 51 + pF2 (pF1 C 85) 51) + pF2 (pF1 B 85) 51) + pF2 (pF1 A 85) 51 := by
    rw [show 858993459 = 256 * (256 * (256 * 51 + 51) + 51) + 51 from rfl, pF2_s a1, pF2_s b1, pF2_s c1]
  have e3 : pF3 (256 * (256 * (256 * pF2 (pF1 D 85) 51 + pF2 (pF1 C 85) 51) + pF2 (pF1 B 85) 51) + pF2 (pF1 A 85) 51) 252645135 = 256 * (256 * (256 * pop8 D + pop8 C) + pop8 B) + pop8 A := by
    rw [show 252645135 = 256 * (256 * (256 * 15 + 15) + 15) + 15 from rfl, pF3_s ⟨a2, a3⟩ (by omega), pF3_s ⟨b2, b3⟩ (by omega), pF3_s ⟨c2, c3⟩ (by omega), a4, b4, c4, d4]
  unfold popN
  rw [e1, e2, e3]
  have m63 : ∀ x : Nat, x &&& 63 = x % 64 := fun x => Nat.and_two_pow_sub_one_eq_mod x 6
  rw [m63]
  clear e1 e2 e3 m63 a1 a2 a3 a4 b1 b2 b3 b4 c1 c2 c3 c4 d1 d2 d3 d4
  generalize pop8 A = a at *
  generalize pop8 B = b at *
  generalize pop8 C = c at *
  generalize pop8 D = e at *
  have f1 : (256 * (256 * (256 * e + c) + b) + a) / 256 = 256 * (256 * e + c) + b := by omega
  rw [f1]
  have f2 : (256 * (256 * (256 * e + c) + b) + a + (256 * (256 * e + c) + b)) / 65536 = 256 * e + c + e := by omega
  rw [f2]
  omega
end

/-! THE FREE PLACE of a row stays 0 -/
section
variable {g : Nat → Int}
theorem u9_hall {w hh : Int} (h9 : g 199 = 0) : (uHall g w hh).2 199 = 0 := by
  unfold uHall
  split
  · rfl
  · exact h9
theorem u9_shelf {q : Int} {b : Bool} (h9 : g 199 = 0) : (uShelf g q b).2 199 = 0 := by
  unfold uShelf
  split
  · split
    · exact h9
    · show up1 (up1 g 4 (xorB (g 4) q)) 46 0 199 = 0
      rw [up1_n (by decide), up1_n (by decide)]
      exact h9
  · exact h9
theorem u9_read {w z y x : Int} (h5 : 0 ≤ g 5 ∧ g 5 ≤ 5) (h9 : g 199 = 0) : (uRead g w z y x).2 199 = 0 := by
  unfold uRead
  split
  · split
    · exact h9
    · split
      · exact h9
      · show addG g (g 5).toNat w z y x 199 = 0
        unfold addG
        rw [up1_n (by omega), up1_n (by omega), up1_n (by omega), up1_n (by omega), up1_n (by omega), up1_n (by omega), up1_n (by omega), up1_n (by omega), up1_n (by omega), up1_n (by omega)]
        exact h9
  · exact h9
theorem u9_lamp {q : Int} (h9 : g 199 = 0) : (uLamp g q).2 199 = 0 := by
  unfold uLamp
  split
  · split
    · exact h9
    · show up1 g 2 q 199 = 0
      rw [up1_n (by decide)]
      exact h9
  · exact h9
theorem u9_oil {n : Int} (h9 : g 199 = 0) : (uOil g n).2 199 = 0 := by
  unfold uOil
  split
  · show up1 g 3 n 199 = 0
    rw [up1_n (by decide)]
    exact h9
  · exact h9
theorem u9_str {p v : Int} (h5 : 0 ≤ g 5 ∧ g 5 ≤ 5) (h9 : g 199 = 0) : (uStr g p v).2 199 = 0 := by
  unfold uStr
  split
  next y =>
    show up1 g (26 + p.toNat) v 199 = 0
    rw [up1_n (by omega)]
    exact h9
  · exact h9
theorem u9_tl {w : Int} {l : List Int} (hv : vI g) (h9 : g 199 = 0) : (tlU g w l).2 199 = 0 := by
  have h5 := hv.2.2.2.2.2.2.1
  unfold tlU
  split
  · exact u9_hall h9
  · split
    · exact u9_shelf h9
    · split
      · exact u9_read h5 h9
      · split
        · exact u9_lamp h9
        · split
          · exact u9_oil h9
          · exact u9_str h5 h9
end

/-! A HALL as a row of 200 numbers: what holds of it, and what the setters make of it -/
section
variable {h : xH} {a : Nat} {t : Nat → Nat → Int} {d : Nat} {g : Nat → Int}
def rg (t : Nat → Nat → Int) (r : Nat) : Nat → Int := fun j => if j < 200 then t 1 (r + j) else 0
/-- nothing behind the row -/
def ct (g : Nat → Int) : Prop := ∀ j, 200 ≤ j → g j = 0
theorem rg_ct (t : Nat → Nat → Int) (r : Nat) : ct (rg t r) := fun j hj => if_neg (by omega)
def pr (t : Nat → Nat → Int) (r : Nat) (g : Nat → Int) : Nat → Nat → Int := fun i j => if i = 1 ∧ r ≤ j ∧ j < r + 200 then g (j - r) else t i j
def up1 (g : Nat → Int) (j : Nat) (x : Int) : Nat → Int := fun k => if k = j then x else g k
theorem up1_s {j : Nat} {x : Int} : up1 g j x j = x := if_pos rfl
theorem up1_n {j k : Nat} {x : Int} (h : k ≠ j) : up1 g j x k = g k := if_neg h
theorem pr_rg {r : Nat} : pr t r (rg t r) = t := by
  funext i j
  unfold pr rg
  by_cases q : i = 1 ∧ r ≤ j ∧ j < r + 200
  · rw [if_pos q, if_pos (by omega), q.1, show r + (j - r) = j by omega]
  · rw [if_neg q]
theorem pr_in {r j : Nat} (hj : j < 200) : pr t r g 1 (r + j) = g j := by
  unfold pr
  rw [if_pos ⟨rfl, by omega, by omega⟩, show r + j - r = j by omega]
theorem pr_out {r i j : Nat} (hj : ¬ (i = 1 ∧ r ≤ j ∧ j < r + 200)) : pr t r g i j = t i j := if_neg hj
theorem pr_up {r j : Nat} {x : Int} (hj : j < 200) : up2 (pr t r g) 1 (r + j) x = pr t r (up1 g j x) := by
  funext i k
  by_cases q : i = 1 ∧ k = r + j
  · rw [q.1, q.2, up2_s, pr_in hj, up1_s]
  · rw [up2_n q]
    by_cases z : i = 1 ∧ r ≤ k ∧ k < r + 200
    · have e : k = r + (k - r) := by omega
      rw [z.1, e, pr_in (by omega), pr_in (by omega), up1_n (by omega)]
    · rw [pr_out z, pr_out z]
theorem up2_pr {r j : Nat} {x : Int} (hj : j < 200) : up2 t 1 (r + j) x = pr t r (up1 (rg t r) j x) := by rw [← pr_up hj, pr_rg]
theorem pr_pr {r : Nat} {f : Nat → Int} : pr (pr t r f) r g = pr t r g := by
  funext i j
  by_cases z : i = 1 ∧ r ≤ j ∧ j < r + 200
  · unfold pr; rw [if_pos z, if_pos z]
  · rw [pr_out z, pr_out z, pr_out z]
theorem rg_pr {r : Nat} (hg : ct g) : rg (pr t r g) r = g := by
  funext j
  unfold rg
  by_cases hj : j < 200
  · rw [if_pos hj, pr_in hj]
  · rw [if_neg hj, hg j (by omega)]
theorem ct_up {j : Nat} {x : Int} (hg : ct g) (hj : j < 200) : ct (up1 g j x) := fun k hk => (up1_n (by omega)).trans (hg k hk)
def rdI (g : Nat → Int) (p : Nat) : Prop := (0 ≤ g (6 + p) ∧ g (6 + p) < g 0 * g 1) ∧ (0 ≤ g (11 + p) ∧ g (11 + p) ≤ 5) ∧ (1 ≤ g (16 + p) ∧ g (16 + p) ≤ 20) ∧ (0 ≤ g (21 + p) ∧ g (21 + p) ≤ 9) ∧ (0 ≤ g (26 + p) ∧ g (26 + p) ≤ 9) ∧ (0 ≤ g (31 + p) ∧ g (31 + p) ≤ 20) ∧ (0 ≤ g (36 + p) ∧ g (36 + p) ≤ 1) ∧ (0 ≤ g (41 + p) ∧ g (41 + p) ≤ 20) ∧ hasB (g 4) (g (6 + p)) = false
def mnI (g : Nat → Int) (m : Nat) : Prop := (0 ≤ g (47 + 12 * m) ∧ g (47 + 12 * m) < g 0 * g 1) ∧ (g 199 = 0 → hasB (g 4) (g (47 + 12 * m)) = false) ∧ (0 ≤ g (48 + 12 * m) ∧ g (48 + 12 * m) ≤ 12) ∧ ∀ p : Nat, p < 5 → (p : Int) < g 5 → (0 ≤ g (49 + 12 * m + p) ∧ g (49 + 12 * m + p) ≤ 20) ∧ (0 ≤ g (54 + 12 * m + p) ∧ g (54 + 12 * m + p) ≤ 1)
def vI (g : Nat → Int) : Prop := (2 ≤ g 0 ∧ g 0 ≤ 5) ∧ (2 ≤ g 1 ∧ g 1 ≤ 5) ∧ (0 ≤ g 2 ∧ g 2 < g 0 * g 1) ∧ (0 ≤ g 3 ∧ g 3 ≤ 12) ∧ (∀ q : Nat, g 0 * g 1 ≤ q → q < 32 → hasB (g 4) q = false) ∧ hasB (g 4) (g 2) = false ∧ (0 ≤ g 5 ∧ g 5 ≤ 5) ∧ (∀ p : Nat, p < 5 → (p : Int) < g 5 → rdI g p) ∧ (0 ≤ g 46 ∧ g 46 ≤ 12) ∧ ∀ m : Nat, (m : Int) < g 46 → mnI g m
theorem wh_rg {w hh : Int} (h1 : 2 ≤ w ∧ w ≤ 5) (h2 : 2 ≤ hh ∧ hh ≤ 5) : 4 ≤ w * hh ∧ w * hh ≤ 25 := by
  rcases (show w = 2 ∨ w = 3 ∨ w = 4 ∨ w = 5 by omega) with e | e | e | e <;> subst e <;> omega
theorem vI_sq (hv : vI g) : 4 ≤ g 0 * g 1 ∧ g 0 * g 1 ≤ 25 := wh_rg hv.1 hv.2.1
/-- a row alike where it counts -/
theorem vI_congr {f : Nat → Int} (he : ∀ j, j < 200 → f j = g j) (hv : vI g) : vI f := by
  obtain ⟨v1, v2, v3, v4, v5, v6, v7, v8, v9, v10⟩ := hv
  unfold vI
  rw [he 0 (by omega), he 1 (by omega), he 2 (by omega), he 3 (by omega), he 4 (by omega), he 5 (by omega), he 46 (by omega)]
  refine ⟨v1, v2, v3, v4, v5, v6, v7, fun p h1 h2 => ?_, v9, fun m hm => ?_⟩
  · have := v8 p h1 h2
    unfold rdI at *
    rw [he _ (by omega), he _ (by omega), he _ (by omega), he (11 + p) (by omega), he (16 + p) (by omega), he (21 + p) (by omega), he (26 + p) (by omega), he (31 + p) (by omega), he (36 + p) (by omega), he (41 + p) (by omega), he 4 (by omega)]
    exact this
  · have := v10 m hm
    unfold mnI at *
    rw [he (47 + 12 * m) (by omega), he (48 + 12 * m) (by omega), he 0 (by omega), he 1 (by omega), he 4 (by omega), he 5 (by omega), he 199 (by omega)]
    refine ⟨this.1, this.2.1, this.2.2.1, fun p h1 h2 => ?_⟩
    rw [he (49 + 12 * m + p) (by omega), he (54 + 12 * m + p) (by omega)]
    exact this.2.2.2 p h1 h2
def anG (w hh : Int) : Nat → Int := fun j => if j = 0 then w else if j = 1 then hh else if j = 3 then 8 else 0
theorem vI_an {w hh : Int} (h1 : 2 ≤ w ∧ w ≤ 5) (h2 : 2 ≤ hh ∧ hh ≤ 5) : vI (anG w hh) := by
  have := wh_rg h1 h2
  refine ⟨h1, h2, ⟨show (0 : Int) ≤ 0 by decide, show (0 : Int) < w * hh by omega⟩, show (0 : Int) ≤ 8 ∧ (8 : Int) ≤ 12 by decide, fun q _ hq => hasB_0 hq, hasB_0 (k := 0) (by decide), show (0 : Int) ≤ 0 ∧ (0 : Int) ≤ 5 by decide, fun p _ hp => ?_, show (0 : Int) ≤ 0 ∧ (0 : Int) ≤ 12 by decide, fun m hm => ?_⟩
  · have : (p : Int) < 0 := hp
    omega
  · have : (m : Int) < 0 := hm
    omega
def uHall (g : Nat → Int) (w hh : Int) : Int × (Nat → Int) := if (2 ≤ w ∧ w ≤ 5) ∧ (2 ≤ hh ∧ hh ≤ 5) then (w * hh, anG w hh) else (-2, g)
theorem sHall_u {R : Nat} {w hh : Int} : sHall t R w hh = ((uHall (rg t R) w hh).1, pr t R (uHall (rg t R) w hh).2) := by
  unfold sHall uHall
  split
  · refine Prod.ext rfl ?_
    funext i j
    show anT t (R : Int).toNat w hh i j = pr t R (anG w hh) i j
    rw [Int.toNat_natCast]
    unfold anT pr anG
    by_cases q : i = 1 ∧ R ≤ j ∧ j < R + 200
    · rw [if_pos q, if_pos q]
      by_cases q0 : j = R
      · rw [if_pos q0, if_pos (show j - R = 0 by omega)]
      · rw [if_neg q0, if_neg (show ¬ j - R = 0 by omega)]
        by_cases q1 : j = R + 1
        · rw [if_pos q1, if_pos (show j - R = 1 by omega)]
        · rw [if_neg q1, if_neg (show ¬ j - R = 1 by omega)]
          by_cases q3 : j = R + 3
          · rw [if_pos q3, if_pos (show j - R = 3 by omega)]
          · rw [if_neg q3, if_neg (show ¬ j - R = 3 by omega)]
    · rw [if_neg q, if_neg q]
  · rw [pr_rg]
theorem uHall_c {w hh : Int} (hg : ct g) : ct (uHall g w hh).2 := by
  unfold uHall
  split
  · intro j hj
    show anG w hh j = 0
    unfold anG
    rw [if_neg (by omega), if_neg (by omega), if_neg (by omega)]
  · exact hg
theorem uHall_v {w hh : Int} (hv : vI g) : vI (uHall g w hh).2 := by
  unfold uHall
  split
  next q => exact vI_an q.1 q.2
  next => exact hv
def uLamp (g : Nat → Int) (q : Int) : Int × (Nat → Int) := if 0 ≤ q ∧ q < g 0 * g 1 then (if hasB (g 4) q = true then (-20, g) else (g 2, up1 g 2 q)) else (-10, g)
theorem rg_c (t : Nat → Nat → Int) (R : Nat) (x : Int) (c : Nat) (hx : x = (R : Int) + c ∧ c < 200) : t 1 x.toNat = rg t R c := by
  rw [hx.1]
  unfold rg
  rw [if_pos hx.2]
  rfl
theorem rg_i (R : Nat) (x : Int) (c : Nat) (hx : x = (R : Int) + c) : x.toNat = R + c := by omega
theorem sqN_u {R : Nat} : sqN t R = rg t R 0 * rg t R 1 := by
  unfold sqN
  rw [rg_c t R R 0 (by omega), rg_c t R (R + 1) 1 (by omega)]
theorem sLamp_u {R : Nat} {q : Int} : sLamp t R q = ((uLamp (rg t R) q).1, pr t R (uLamp (rg t R) q).2) := by
  unfold sLamp uLamp
  rw [sqN_u, rg_c t R (R + 4) 4 (by omega), rg_c t R (R + 2) 2 (by omega), rg_i R (R + 2) 2 (by omega), up2_pr (by omega)]
  repeat' split
  all_goals first | rfl | rw [pr_rg]
theorem uLamp_c {q : Int} (hg : ct g) : ct (uLamp g q).2 := by
  unfold uLamp
  repeat' split
  · exact hg
  · exact ct_up hg (by omega)
  · exact hg
theorem uLamp_v {q : Int} (hv : vI g) : vI (uLamp g q).2 := by
  unfold uLamp
  split
  next z =>
    split
    · exact hv
    next z2 =>
      obtain ⟨v1, v2, v3, v4, v5, v6, v7, v8, v9, v10⟩ := hv
      unfold vI rdI mnI at *
      simp (disch := omega) only [up1_n, up1_s]
      exact ⟨v1, v2, z, v4, v5, Bool.eq_false_iff.mpr z2, v7, v8, v9, v10⟩
  · exact hv
def uOil (g : Nat → Int) (n : Int) : Int × (Nat → Int) := if 0 ≤ n ∧ n ≤ 12 then (g 3, up1 g 3 n) else (-2, g)
theorem sOil_u {R : Nat} {n : Int} : sOil t R n = ((uOil (rg t R) n).1, pr t R (uOil (rg t R) n).2) := by
  unfold sOil uOil
  rw [rg_c t R (R + 3) 3 (by omega), rg_i R (R + 3) 3 (by omega), up2_pr (by omega)]
  split
  · rfl
  · rw [pr_rg]
theorem uOil_c {n : Int} (hg : ct g) : ct (uOil g n).2 := by
  unfold uOil
  split
  · exact ct_up hg (by omega)
  · exact hg
theorem uOil_v {n : Int} (hv : vI g) : vI (uOil g n).2 := by
  unfold uOil
  split
  next z =>
    obtain ⟨v1, v2, v3, v4, v5, v6, v7, v8, v9, v10⟩ := hv
    unfold vI rdI mnI at *
    simp (disch := omega) only [up1_n, up1_s]
    exact ⟨v1, v2, v3, z, v5, v6, v7, v8, v9, v10⟩
  · exact hv
def uStr (g : Nat → Int) (p v : Int) : Int × (Nat → Int) := if (0 ≤ p ∧ p < g 5) ∧ (0 ≤ v ∧ v ≤ 9) then (g (26 + p.toNat), up1 g (26 + p.toNat) v) else (-2, g)
theorem sStr_u {R : Nat} {p v : Int} (h5 : rg t R 5 ≤ 5) : sStr t R p v = ((uStr (rg t R) p v).1, pr t R (uStr (rg t R) p v).2) := by
  unfold sStr uStr
  rw [rg_c t R (R + 5) 5 (by omega)]
  split
  next z => rw [rg_c t R (R + 26 + p) (26 + p.toNat) (by omega), rg_i R (R + 26 + p) (26 + p.toNat) (by omega), up2_pr (by omega)]
  next => rw [pr_rg]
theorem uStr_c {p v : Int} (hg : ct g) (h5 : g 5 ≤ 5) : ct (uStr g p v).2 := by
  unfold uStr
  split
  · exact ct_up hg (by omega)
  · exact hg
theorem uStr_v {p v : Int} (hv : vI g) : vI (uStr g p v).2 := by
  unfold uStr
  split
  next z =>
    obtain ⟨v1, v2, v3, v4, v5, v6, v7, v8, v9, v10⟩ := hv
    unfold vI mnI
    dsimp only
    simp (disch := omega) only [up1_n]
    refine ⟨v1, v2, v3, v4, v5, v6, v7, fun k h1 h2 => ?_, v9, v10⟩
    obtain ⟨w1, w2, w3, w4, w5, w6, w7, w8, w9⟩ := v8 k h1 h2
    unfold rdI
    simp (disch := omega) only [up1_n]
    refine ⟨w1, w2, w3, w4, ?_, w6, w7, w8, w9⟩
    by_cases e : k = p.toNat
    · rw [e, up1_s]; exact z.2
    · rw [up1_n (by omega)]; exact w5
  · exact hv
def uTold (g : Nat → Int) (p v : Int) : Int × (Nat → Int) := if (0 ≤ p ∧ p < g 5) ∧ (0 ≤ v ∧ v ≤ 20) then (g (41 + p.toNat), up1 g (41 + p.toNat) v) else (-2, g)
theorem uTold_c {p v : Int} (hg : ct g) (h5 : g 5 ≤ 5) : ct (uTold g p v).2 := by
  unfold uTold
  split
  · exact ct_up hg (by omega)
  · exact hg
theorem uTold_v {p v : Int} (hv : vI g) : vI (uTold g p v).2 := by
  unfold uTold
  split
  next z =>
    obtain ⟨v1, v2, v3, v4, v5, v6, v7, v8, v9, v10⟩ := hv
    unfold vI mnI
    dsimp only
    simp (disch := omega) only [up1_n]
    refine ⟨v1, v2, v3, v4, v5, v6, v7, fun k h1 h2 => ?_, v9, v10⟩
    obtain ⟨w1, w2, w3, w4, w5, w6, w7, w8, w9⟩ := v8 k h1 h2
    unfold rdI
    simp (disch := omega) only [up1_n]
    refine ⟨w1, w2, w3, w4, w5, w6, w7, ?_, w9⟩
    by_cases e : k = p.toNat
    · rw [e, up1_s]; exact z.2
    · rw [up1_n (by omega)]; exact w8
  · exact hv
end

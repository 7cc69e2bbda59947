/-! A HALL as a row of 200 numbers: shelves, readers -/
section
variable {h : xH} {a : Nat} {t : Nat → Nat → Int} {d : Nat} {g : Nat → Int}
def sitG (g : Nat → Int) (q : Int) : Nat → Int → Int → Int
  | 0, _, f => f
  | n + 1, p, f => sitG g q n (p + 1) (if g (6 + p.toNat) = q then p else f)
def sitY (g : Nat → Int) (q : Int) : Int := sitG g q (g 5).toNat 0 (-1)
theorem sitF_u {R : Nat} {q : Int} : ∀ (n : Nat) (p f : Int), 0 ≤ p → p + n ≤ 5 → sitF t R q n p f = sitG (rg t R) q n p f := by
  intro n
  induction n with
  | zero => intro p f _ _; rfl
  | succ n ih =>
    intro p f hp hn
    rw [sitF, sitG, ih _ _ (by omega) (by omega), rg_c t R (R + 6 + p) (6 + p.toNat) (by omega)]
theorem sitZ_u {R : Nat} {q : Int} (h5 : rg t R 5 ≤ 5) : sitZ t R q = sitY (rg t R) q := by
  unfold sitZ sitY
  rw [rg_c t R (R + 5) 5 (by omega), sitF_u _ _ _ (by omega) (by omega)]
theorem sitG_lt (q : Int) : ∀ (n : Nat) (p f : Int), 0 ≤ p → (sitG g q n p f < 0 ↔ f < 0 ∧ ∀ j : Nat, p ≤ j → (j : Int) < p + n → g (6 + j) ≠ q) := by
  intro n
  induction n with
  | zero => intro p f _; exact ⟨fun z => ⟨z, fun j h1 h2 => by omega⟩, fun z => z.1⟩
  | succ n ih =>
    intro p f hp
    rw [sitG, ih _ _ (by omega)]
    constructor
    · intro ⟨h1, h2⟩
      by_cases e : g (6 + p.toNat) = q
      · rw [if_pos e] at h1; omega
      · rw [if_neg e] at h1
        refine ⟨h1, fun j h3 h4 => ?_⟩
        by_cases e2 : j = p.toNat
        · rw [e2]; exact e
        · exact h2 j (by omega) (by omega)
    · intro ⟨h1, h2⟩
      rw [if_neg (h2 p.toNat (by omega) (by omega))]
      exact ⟨h1, fun j h3 h4 => h2 j (by omega) (by omega)⟩
/-- nobody sits there -/
theorem sitY_lt {q : Int} (h5 : 0 ≤ g 5) : sitY g q < 0 ↔ ∀ j : Nat, (j : Int) < g 5 → g (6 + j) ≠ q := by
  unfold sitY
  rw [sitG_lt q _ _ _ (by omega)]
  exact ⟨fun z j hj => z.2 j (by omega) (by omega), fun z => ⟨by decide, fun j _ h2 => z j (by omega)⟩⟩
theorem rOk_v {R : Nat} (hv : vI (rg t R)) : rOk t R := by
  have hq := vI_sq hv
  obtain ⟨v1, v2, v3, v4, v5, v6, v7, v8, v9, v10⟩ := hv
  unfold rOk
  rw [sqN_u, rg_c t R (R + 5) 5 (by omega), rg_c t R (R + 2) 2 (by omega), rg_c t R (R + 3) 3 (by omega)]
  refine ⟨by omega, v7, fun p h0 h1 => ?_, by omega, fun p h0 h1 => ?_, v4⟩
  · rw [rg_c t R (R + 6 + p) (6 + p.toNat) (by omega)]
    have := (v8 p.toNat (by omega) (by omega)).1
    omega
  · rw [rg_c t R (R + 26 + p) (26 + p.toNat) (by omega)]
    exact (v8 p.toNat (by omega) (by omega)).2.2.2.2.1
def uShelf (g : Nat → Int) (q : Int) (is : Bool) : Int × (Nat → Int) := if 0 ≤ q ∧ q < g 0 * g 1 then (if hasB (g 4) q = is ∨ (is = true ∧ (0 ≤ sitY g q ∨ g 2 = q)) then (-3, g) else (1, up1 (up1 g 4 (xorB (g 4) q)) 46 0)) else (-2, g)
theorem up2_pr2 {R i j : Nat} {x y : Int} (hi : i < 200) (hj : j < 200) : up2 (up2 t 1 (R + i) x) 1 (R + j) y = pr t R (up1 (up1 (rg t R) i x) j y) := by rw [up2_pr hi, pr_up hj]
theorem sShelf_u {R : Nat} {q : Int} {is : Bool} (h5 : rg t R 5 ≤ 5) : sShelf t R q is = ((uShelf (rg t R) q is).1, pr t R (uShelf (rg t R) q is).2) := by
  unfold sShelf uShelf
  rw [sqN_u, sitZ_u h5, rg_c t R (R + 4) 4 (by omega), rg_c t R (R + 2) 2 (by omega), rg_i R (R + 4) 4 (by omega), rg_i R (R + 46) 46 (by omega), up2_pr2 (by omega) (by omega)]
  repeat' split
  all_goals first | rfl | rw [pr_rg]
theorem uShelf_c {q : Int} {is : Bool} (hg : ct g) : ct (uShelf g q is).2 := by
  unfold uShelf
  repeat' split
  · exact hg
  · exact ct_up (ct_up hg (by omega)) (by omega)
  · exact hg
theorem uShelf_v {q : Int} {is : Bool} (hv : vI g) : vI (uShelf g q is).2 := by
  have hq := vI_sq hv
  unfold uShelf
  split
  next z =>
    split
    · exact hv
    next z2 =>
      obtain ⟨v1, v2, v3, v4, v5, v6, v7, v8, v9, v10⟩ := hv
      obtain ⟨k, hk⟩ : ∃ k : Nat, q = k := ⟨q.toNat, by omega⟩
      obtain ⟨l, hl⟩ : ∃ l : Nat, g 2 = l := ⟨(g 2).toNat, by omega⟩
      subst hk
      have hne : l ≠ k := by
        intro e
        cases is with
        | true => exact z2 (Or.inr ⟨rfl, Or.inr (by omega)⟩)
        | false =>
          refine z2 (Or.inl ?_)
          rw [← e, ← hl]
          exact v6
      unfold vI
      dsimp only
      simp (disch := omega) only [up1_n, up1_s]
      refine ⟨v1, v2, v3, v4, fun j h1 h2 => ?_, ?_, v7, fun j h1 h2 => ?_, by omega, fun m hm => by omega⟩
      · rw [hasB_xor (by omega) h2, v5 j h1 h2, decide_eq_false (by omega)]; rfl
      · rw [hl, hasB_xor (by omega) (by omega), ← hl, v6, decide_eq_false hne]; rfl
      · obtain ⟨w1, w2, w3, w4, w5, w6, w7, w8, w9⟩ := v8 j h1 h2
        unfold rdI
        simp (disch := omega) only [up1_n, up1_s]
        refine ⟨w1, w2, w3, w4, w5, w6, w7, w8, ?_⟩
        obtain ⟨b, hb⟩ : ∃ b : Nat, g (6 + j) = b := ⟨(g (6 + j)).toNat, by omega⟩
        rw [hb, hasB_xor (by omega) (by omega), ← hb, w9, decide_eq_false ?_]
        · rfl
        · intro e
          cases is with
          | true =>
            refine z2 (Or.inr ⟨rfl, Or.inl ?_⟩)
            refine Classical.byContradiction fun y => ?_
            exact (sitY_lt (q := (k : Int)) v7.1).mp (by omega) j h2 (by omega)
          | false =>
            refine z2 (Or.inl ?_)
            rw [← e, ← hb]
            exact w9
  · exact hv
def addG (g : Nat → Int) (p : Nat) (q k pg wo : Int) : Nat → Int := up1 (up1 (up1 (up1 (up1 (up1 (up1 (up1 (up1 (up1 g (6 + p) q) (11 + p) k) (16 + p) pg) (21 + p) wo) (26 + p) 1) (31 + p) pg) (36 + p) 0) (41 + p) 0) 5 (p + 1)) 46 0
def uRead (g : Nat → Int) (q k pg wo : Int) : Int × (Nat → Int) := if (0 ≤ q ∧ q < g 0 * g 1) ∧ (0 ≤ k ∧ k ≤ 5) ∧ (1 ≤ pg ∧ pg ≤ 20) ∧ (0 ≤ wo ∧ wo ≤ 9) then (if hasB (g 4) q = true ∨ 0 ≤ sitY g q then (-3, g) else if g 5 = 5 then (-4, g) else (g 5, addG g (g 5).toNat q k pg wo)) else (-2, g)
theorem sRead_u {R : Nat} {q k pg wo : Int} (h5 : 0 ≤ rg t R 5 ∧ rg t R 5 ≤ 5) : sRead t R q k pg wo = ((uRead (rg t R) q k pg wo).1, pr t R (uRead (rg t R) q k pg wo).2) := by
  unfold sRead uRead
  rw [sqN_u, sitZ_u h5.2, rg_c t R (R + 4) 4 (by omega), rg_c t R (R + 5) 5 (by omega)]
  have e : addT t R (rg t R 5) q k pg wo = pr t R (addG (rg t R) (rg t R 5).toNat q k pg wo) := by
    unfold addT addG
    generalize hp : rg t R 5 = p at h5
    rw [rg_i R (R + 6 + p) (6 + p.toNat) (by omega), rg_i R (R + 11 + p) (11 + p.toNat) (by omega), rg_i R (R + 16 + p) (16 + p.toNat) (by omega), rg_i R (R + 21 + p) (21 + p.toNat) (by omega), rg_i R (R + 26 + p) (26 + p.toNat) (by omega), rg_i R (R + 31 + p) (31 + p.toNat) (by omega), rg_i R (R + 36 + p) (36 + p.toNat) (by omega), rg_i R (R + 41 + p) (41 + p.toNat) (by omega), rg_i R (R + 5) 5 (by omega), rg_i R (R + 46) 46 (by omega)]
    rw [up2_pr (t := t) (j := 6 + p.toNat) (by omega), pr_up (by omega), pr_up (by omega), pr_up (by omega), pr_up (by omega), pr_up (by omega), pr_up (by omega), pr_up (by omega), pr_up (by omega), pr_up (by omega), show ((p.toNat : Nat) : Int) = p by omega]
  rw [e]
  repeat' split
  all_goals first | rfl | rw [pr_rg]
theorem uRead_c {q k pg wo : Int} (hg : ct g) (h5 : g 5 ≤ 5) : ct (uRead g q k pg wo).2 := by
  unfold uRead
  repeat' split
  · exact hg
  · exact hg
  · unfold addG
    exact ct_up (ct_up (ct_up (ct_up (ct_up (ct_up (ct_up (ct_up (ct_up (ct_up hg (by omega)) (by omega)) (by omega)) (by omega)) (by omega)) (by omega)) (by omega)) (by omega)) (by omega)) (by omega)
  · exact hg
theorem uRead_v {q k pg wo : Int} (hv : vI g) : vI (uRead g q k pg wo).2 := by
  have hq := vI_sq hv
  unfold uRead
  split
  next z =>
    split
    · exact hv
    next z2 =>
      split
      · exact hv
      next z3 =>
        obtain ⟨v1, v2, v3, v4, v5, v6, v7, v8, v9, v10⟩ := hv
        have h5 : (g 5).toNat < 5 := by omega
        unfold vI addG
        dsimp only
        generalize hp : (g 5).toNat = p at *
        simp (disch := omega) only [up1_n, up1_s]
        refine ⟨v1, v2, v3, v4, v5, v6, by omega, fun j h1 h2 => ?_, by omega, fun m hm => by omega⟩
        unfold rdI
        by_cases e : j = p
        · subst e
          simp (disch := omega) only [up1_n, up1_s]
          exact ⟨z.1, z.2.1, z.2.2.1, z.2.2.2, by omega, by omega, by omega, by omega, Bool.eq_false_iff.mpr fun y => z2 (Or.inl y)⟩
        · have := v8 j h1 (by omega)
          unfold rdI at this
          simp (disch := omega) only [up1_n, up1_s]
          exact this
  · exact hv
/-- an item told to a hall -/
def tlU (g : Nat → Int) (w : Int) (l : List Int) : Int × (Nat → Int) :=
  if w = 0 then uHall g (l.getD 0 0) (l.getD 1 0) else if w = 1 then uShelf g (l.getD 0 0) true else if w = 2 then uRead g (l.getD 0 0) (l.getD 1 0) (l.getD 2 0) (l.getD 3 0) else if w = 3 then uLamp g (l.getD 0 0) else if w = 4 then uOil g (l.getD 0 0) else uStr g (l.getD 0 0) (l.getD 1 0)
theorem tlU_v {w : Int} {l : List Int} (hv : vI g) : vI (tlU g w l).2 := by
  unfold tlU
  repeat' split
  · exact uHall_v hv
  · exact uShelf_v hv
  · exact uRead_v hv
  · exact uLamp_v hv
  · exact uOil_v hv
  · exact uStr_v hv
theorem tlU_c {w : Int} {l : List Int} (hg : ct g) (h5 : w = 0 ∨ g 5 ≤ 5) : ct (tlU g w l).2 := by
  unfold tlU
  split
  · exact uHall_c hg
  next q =>
  have h5' := h5.resolve_left q
  repeat' split
  · exact uShelf_c hg
  · exact uRead_c hg h5'
  · exact uLamp_c hg
  · exact uOil_c hg
  · exact uStr_c hg h5'
/-- all items told, the first of them number m: the number of the one refused, or the hall -/
def tlA : Int → (Nat → Int) → List (Int × List Int) → Int ⊕ (Nat → Int)
  | _, g, [] => .inr g
  | m, g, (w, l) :: L => if (tlU g w l).1 < 0 then .inl m else tlA (m + 1) (tlU g w l).2 L
theorem tlA_v : ∀ (L : List (Int × List Int)) (m : Int) (g f : Nat → Int), vI g → tlA m g L = .inr f → vI f := by
  intro L
  induction L with
  | nil => intro m g f hv e; rw [tlA] at e; exact Sum.inr.inj e ▸ hv
  | cons c L ih =>
    intro m g f hv e
    obtain ⟨w, l⟩ := c
    rw [tlA] at e
    split at e
    · cases e
    · exact ih _ _ _ (tlU_v hv) e
end

/-! ONE RELATION of both objects -/
section
variable {h : xH} {G G' F t t' : Nat → Nat → Int} {g : Nat → Int}
def cR (G t : Nat → Nat → Int) : Prop := G 0 7 = t 4 0 ∧ G 0 8 = t 4 1 ∧ G 0 9 = t 4 2
def imR (G t : Nat → Nat → Int) (i : Nat) : Prop := (0 ≤ t 2 i ∧ t 2 i ≤ 1) ∧ G 32 i = t 2 i ∧ (t 2 i ≠ 0 → hR G (61 + 15 * i) (rg t (200 * (1 + i))) ∧ vI (rg t (200 * (1 + i))) ∧ rg t (200 * (1 + i)) 199 = 0)
def oR (G t : Nat → Nat → Int) : Prop := hR G 1 (rg t 0) ∧ vI (rg t 0) ∧ rg t 0 199 = 0 ∧ cdR G t ∧ txOk t ∧ cR G t ∧ ∀ i : Nat, i < 2 → imR G t i
def sK (G G' : Nat → Nat → Int) : Prop := (∀ j, G' 32 j = G 32 j) ∧ G' 33 0 = G 33 0 ∧ (∀ j, G' 34 j = G 34 j) ∧ ∀ i j, 61 ≤ i → i < 91 → G' i j = G i j
def tK (t t' : Nat → Nat → Int) : Prop := (∀ j, t' 2 j = t 2 j) ∧ (∀ j, t' 3 j = t 3 j) ∧ t' 0 3 = t 0 3 ∧ ∀ j, 200 ≤ j → j < 600 → t' 1 j = t 1 j
theorem rg_k {r : Nat} (ht : tK t t') (h1 : 200 ≤ r) (h2 : r + 200 ≤ 600) : rg t' r = rg t r := by
  funext j
  unfold rg
  split
  · exact ht.2.2.2 _ (by omega) (by omega)
  · rfl
theorem oR_mk (ho : oR G t) (hs : sK G G') (ht : tK t t') (hr : hR G' 1 (rg t' 0)) (hv : vI (rg t' 0)) (h9 : rg t' 0 199 = 0) (hc : cR G' t') : oR G' t' := by
  obtain ⟨o1, o2, o3, o4, o5, o6, o7⟩ := ho
  refine ⟨hr, hv, h9, ⟨?_, fun j hj => ?_⟩, ⟨?_, fun j => ?_⟩, hc, fun i hi => ?_⟩
  · rw [hs.2.1, ht.2.2.1]; exact o4.1
  · rw [hs.2.2.1, ht.2.1]; exact o4.2 j hj
  · rw [ht.2.2.1]; exact o5.1
  · rw [ht.2.1]; exact o5.2 j
  · have w := o7 i hi
    unfold imR at *
    rw [ht.1, hs.1, rg_k ht (by omega) (by omega)]
    exact ⟨w.1, w.2.1, fun y => ⟨hR_k (fun a b c1 c2 => hs.2.2.2 a b (by omega) (by omega)) (w.2.2 y).1, (w.2.2 y).2⟩⟩
theorem sK_r : sK G G := ⟨fun _ => rfl, rfl, fun _ => rfl, fun _ _ _ _ => rfl⟩
theorem tK_r : tK t t := ⟨fun _ => rfl, fun _ => rfl, rfl, fun _ _ _ => rfl⟩
theorem sK_h (hk : hK G G' 1) : sK G G' := ⟨fun j => hk 32 j (by omega), hk 33 0 (by omega), fun j => hk 34 j (by omega), fun i j h1 h2 => hk i j (by omega)⟩
theorem tK_p : tK t (pr t 0 g) := ⟨fun j => pr_out (by omega), fun j => pr_out (by omega), pr_out (by omega), fun j h1 h2 => pr_out (by omega)⟩
theorem tK_L (hl : vL t t') : tK t t' := ⟨fun j => hl.1 2 j (by decide) (by decide), fun j => hl.1 3 j (by decide) (by decide), hl.2, fun j _ _ => hl.1 1 j (by decide) (by decide)⟩
theorem rg_L (hl : vL t t') : rg t' 0 = rg t 0 := by
  funext j
  unfold rg
  split
  · exact hl.1 1 _ (by decide) (by decide)
  · rfl
theorem cR_L (hc : cR G t) (hl : vL t t') (h0 : ∀ j, G' 0 j = G 0 j) : cR G' t' := by
  unfold cR at *
  rw [hl.1 4 0 (by decide) (by decide), hl.1 4 1 (by decide) (by decide), hl.1 4 2 (by decide) (by decide), h0, h0, h0]
  exact hc
theorem cR_v {v : Int} (hc : cR G t) : cR (ctT G v) (metT t v) := by
  obtain ⟨c1, c2, c3⟩ := hc
  unfold ctT metT
  by_cases z2 : v = -2
  · subst z2
    rw [if_pos rfl, if_pos (Or.inl rfl)]
    exact ⟨by rw [up2_s, c1]; exact up2_s.symm, (up2_n (by omega)).trans (c2.trans (up2_n (by decide)).symm), (up2_n (by omega)).trans (c3.trans (up2_n (by decide)).symm)⟩
  · rw [if_neg z2]
    by_cases z3 : v = -3
    · subst z3
      rw [if_pos rfl, if_pos (Or.inr (Or.inl rfl))]
      exact ⟨(up2_n (by omega)).trans (c1.trans (up2_n (by decide)).symm), by rw [up2_s, c2]; exact up2_s.symm, (up2_n (by omega)).trans (c3.trans (up2_n (by decide)).symm)⟩
    · rw [if_neg z3]
      by_cases z4 : v = -4
      · subst z4
        rw [if_pos rfl, if_pos (Or.inr (Or.inr rfl))]
        exact ⟨(up2_n (by omega)).trans (c1.trans (up2_n (by decide)).symm), (up2_n (by omega)).trans (c2.trans (up2_n (by decide)).symm), by rw [up2_s, c3]; exact up2_s.symm⟩
      · rw [if_neg z4, if_neg (by omega)]
        exact ⟨c1, c2, c3⟩
theorem metT_o {v : Int} {i j : Nat} (hi : i ≠ 4) : metT t v i j = t i j := by
  unfold metT
  split
  · exact up2_n (by omega)
  · rfl
theorem metE_o {v : Int} {i j : Nat} (hi : i ≠ 4) : metE t v i j = t i j := by
  unfold metE
  split
  · exact up2_n (by omega)
  · exact up2_n (by omega)
theorem rg_met {v : Int} {r : Nat} : rg (metT t v) r = rg t r := by
  funext j
  unfold rg
  rw [metT_o (by decide)]
theorem rg_metE {v : Int} {r : Nat} : rg (metE t v) r = rg t r := by
  funext j
  unfold rg
  rw [metE_o (by decide)]
/-- a refusal, counted by both -/
theorem oR_v {v : Int} (ho : oR G t) : oR (ctT G v) (metT t v) := oR_mk ho ⟨fun j => ctT_n (by decide), ctT_n (by decide), fun j => ctT_n (by decide), fun i j h1 h2 => ctT_n (by omega)⟩ ⟨fun j => metT_o (by decide), fun j => metT_o (by decide), metT_o (by decide), fun j _ _ => metT_o (by decide)⟩ (by rw [rg_met]; exact ctT_h (by decide) ho.1) (by rw [rg_met]; exact ho.2.1) (by rw [rg_met]; exact ho.2.2.1) (cR_v ho.2.2.2.2.2.1)
theorem metE_2 : metE t (-10) = metT t (-2) := by
  unfold metE metT
  rw [if_pos rfl, if_pos (Or.inl rfl)]
  rfl
theorem metE_3 : metE t (-20) = metT t (-3) := by
  unfold metE metT
  rw [if_neg (by decide), if_pos (Or.inr (Or.inl rfl))]
  rfl
/-- a new row for the hall -/
theorem oR_g (ho : oR G t) (hk : hK G F 1) (hr : hR F 1 g) (hv : vI g) (hc : ct g) (h9 : g 199 = 0) : oR F (pr t 0 g) := by
  have e : rg (pr t 0 g) 0 = g := rg_pr hc
  refine oR_mk ho (sK_h hk) tK_p (by rw [e]; exact hr) (by rw [e]; exact hv) (by rw [e]; exact h9) ?_
  have c := ho.2.2.2.2.2.1
  unfold cR at *
  rw [hk 0 7 (by omega), hk 0 8 (by omega), hk 0 9 (by omega), pr_out (by omega), pr_out (by omega), pr_out (by omega)]
  exact c
/-- nothing seen has changed -/
theorem oR_L (ho : oR G t) (hl : vL t t') (hk : ∀ i j, ¬ (16 ≤ i ∧ i < 31) → ¬ (37 ≤ i ∧ i < 61) → G' i j = G i j) : oR G' t' := oR_mk ho ⟨fun j => hk 32 j (by omega) (by omega), hk 33 0 (by omega) (by omega), fun j => hk 34 j (by omega) (by omega), fun i j h1 h2 => hk i j (by omega) (by omega)⟩ (tK_L hl) (by rw [rg_L hl]; exact hR_k (fun i j h1 h2 => hk i j (by omega) (by omega)) ho.1) (by rw [rg_L hl]; exact ho.2.1) (by rw [rg_L hl]; exact ho.2.2.1) (cR_L ho.2.2.2.2.2.1 hl fun j => hk 0 j (by omega) (by omega))
/-- both objects in one heap -/
theorem cm_e (h : xH) (G t : Nat → Nat → Int) : mH (cH h G) 91 t = cH (mH h 91 t) G := by
  refine x_H_ext rfl rfl fun q => ?_
  show (if 91 ≤ q ∧ q < 91 + 12 then mC 91 t (q - 91) else (if q < 91 then cC (G q) q else h.2.2 q)) = (if q < 91 then cC (G q) q else (if 91 ≤ q ∧ q < 91 + 12 then mC 91 t (q - 91) else h.2.2 q))
  by_cases z : q < 91
  · rw [if_neg (by omega), if_pos z, if_pos z]
  · rw [if_neg z, if_neg z]
def bH (h : xH) (G t : Nat → Nat → Int) : xH := mH (cH h G) 91 t
/-- a call of both: the same answer, and the relation again -/
def okC (h : xH) (kx km : Nat) (as : List Value) : Prop := ∀ G t, oR G t → ∃ G' t' v, oR G' t' ∧ x_cl 20 kx (.ref 0 :: as) (bH h G t) = some (some v, bH h G' t) ∧ x_cl 20 km (.ref 91 :: as) (bH h G' t) = some (some v, bH h G' t')
theorem okC_mk {kx km : Nat} {as : List Value} (hc : ∀ G t, oR G t → ∃ G' t' v, oR G' t' ∧ x_cl 20 kx (.ref 0 :: as) (cH (mH h 91 t) G) = some (some v, cH (mH h 91 t) G') ∧ x_cl 20 km (.ref 91 :: as) (mH (cH h G') 91 t) = some (some v, mH (cH h G') 91 t')) : okC h kx km as := fun G t ho => by
  obtain ⟨G', t', v, a, b, c⟩ := hc G t ho
  refine ⟨G', t', v, a, ?_, c⟩
  unfold bH
  rw [cm_e, cm_e]
  exact b
end

/-! A MINUTE BURNT, by rows: kept, lamp and oil, all read -/
section
variable {h : xH} {d : Nat} {g : Nat → Int} {t : Nat → Nat → Int}
/-- how many minutes stay kept below the new one -/
def kpN (g : Nat → Int) : Nat := if g 46 = 12 then 11 else (g 46).toNat
def kpS (g : Nat → Int) : Nat := if g 46 = 12 then 1 else 0
def kpC (g : Nat → Int) (c : Nat) : Int := if c = 0 then g 2 else if c = 1 then g 3 else if c < 7 then g (31 + (c - 2)) else g (36 + (c - 7))
def kpG (g : Nat → Int) : Nat → Int := fun j => if j = 46 then (kpN g : Int) + 1 else if 47 + 12 * kpN g ≤ j ∧ j < 47 + 12 * kpN g + 12 then kpC g (j - (47 + 12 * kpN g)) else if g 46 = 12 ∧ 47 ≤ j ∧ j < 179 then g (j + 12) else g j
theorem kpN_rg (h0 : 0 ≤ g 46 ∧ g 46 ≤ 12) : kpN g ≤ 11 ∧ ((kpN g + kpS g : Nat) : Int) = g 46 ∧ kpS g ≤ 1 := by
  unfold kpN kpS
  by_cases q : g 46 = 12
  · rw [if_pos q, if_pos q]; omega
  · rw [if_neg q, if_neg q]; omega
theorem kp_lo {j : Nat} (hj : j < 46) : kpG g j = g j := by
  unfold kpG
  rw [if_neg (by omega), if_neg (by omega), if_neg (by omega)]
theorem kp_46 : kpG g 46 = (kpN g : Int) + 1 := if_pos rfl
theorem kp_old {m c : Nat} (hm : m < kpN g) (hn : kpN g ≤ 11) (hc : c < 12) : kpG g (47 + 12 * m + c) = g (47 + 12 * (m + kpS g) + c) := by
  unfold kpG
  rw [if_neg (by omega), if_neg (by omega)]
  unfold kpS
  by_cases q : g 46 = 12
  · rw [if_pos ⟨q, by omega, by omega⟩, if_pos q]
    congr 1
    omega
  · rw [if_neg (fun z => q z.1), if_neg q]
    congr 1
theorem kp_new {c : Nat} (hc : c < 12) : kpG g (47 + 12 * kpN g + c) = kpC g c := by
  unfold kpG
  rw [if_neg (by omega), if_pos ⟨by omega, by omega⟩]
  congr 1
  omega
theorem kp_end {j : Nat} (hn : kpN g ≤ 11) (hj : 191 ≤ j) : kpG g j = g j := by
  unfold kpG
  rw [if_neg (by omega), if_neg (by omega), if_neg (by omega)]
theorem kp_v (hv : vI g) : vI (kpG g) := by
  have hn := kpN_rg hv.2.2.2.2.2.2.2.2.1
  obtain ⟨v1, v2, v3, v4, v5, v6, v7, v8, v9, v10⟩ := hv
  unfold vI
  rw [kp_lo (show 0 < 46 by omega), kp_lo (show 1 < 46 by omega), kp_lo (show 2 < 46 by omega), kp_lo (show 3 < 46 by omega), kp_lo (show 4 < 46 by omega), kp_lo (show 5 < 46 by omega), kp_46]
  refine ⟨v1, v2, v3, v4, v5, v6, v7, fun p p1 p2 => ?_, by omega, fun m m1 => ?_⟩
  · have := v8 p p1 p2
    unfold rdI at *
    rw [kp_lo (show 6 + p < 46 by omega), kp_lo (show 11 + p < 46 by omega), kp_lo (show 16 + p < 46 by omega), kp_lo (show 21 + p < 46 by omega), kp_lo (show 26 + p < 46 by omega), kp_lo (show 31 + p < 46 by omega), kp_lo (show 36 + p < 46 by omega), kp_lo (show 41 + p < 46 by omega), kp_lo (show 0 < 46 by omega), kp_lo (show 1 < 46 by omega), kp_lo (show 4 < 46 by omega)]
    exact this
  · unfold mnI
    rw [kp_lo (show 0 < 46 by omega), kp_lo (show 1 < 46 by omega), kp_lo (show 4 < 46 by omega), kp_lo (show 5 < 46 by omega), kp_end hn.1 (show 191 ≤ 199 by omega)]
    by_cases z : m < kpN g
    · have := v10 (m + kpS g) (by omega)
      unfold mnI at this
      rw [show 47 + 12 * m = 47 + 12 * m + 0 by omega, kp_old z hn.1 (by omega), show 48 + 12 * m = 47 + 12 * m + 1 by omega, kp_old z hn.1 (by omega)]
      refine ⟨this.1, this.2.1, ?_, fun p p1 p2 => ?_⟩
      · have e := this.2.2.1
        rw [show 48 + 12 * (m + kpS g) = 47 + 12 * (m + kpS g) + 1 by omega] at e
        exact e
      · have e := this.2.2.2 p p1 p2
        rw [show 49 + 12 * (m + kpS g) + p = 47 + 12 * (m + kpS g) + (2 + p) by omega, show 54 + 12 * (m + kpS g) + p = 47 + 12 * (m + kpS g) + (7 + p) by omega] at e
        rw [show 49 + 12 * m + p = 47 + 12 * m + (2 + p) by omega, kp_old z hn.1 (by omega), show 54 + 12 * m + p = 47 + 12 * m + (7 + p) by omega, kp_old z hn.1 (by omega)]
        exact e
    · have em : m = kpN g := by omega
      subst em
      have c0 : kpG g (47 + 12 * kpN g) = g 2 := (kp_new (c := 0) (by omega)).trans (if_pos rfl)
      have c1 : kpG g (48 + 12 * kpN g) = g 3 := by
        rw [show 48 + 12 * kpN g = 47 + 12 * kpN g + 1 by omega, kp_new (by omega)]
        exact (if_neg (by omega)).trans (if_pos rfl)
      rw [c0, c1]
      refine ⟨v3, fun _ => v6, v4, fun p p1 p2 => ?_⟩
      have e := v8 p p1 p2
      unfold rdI at e
      rw [show 49 + 12 * kpN g + p = 47 + 12 * kpN g + (2 + p) by omega, kp_new (by omega), show 54 + 12 * kpN g + p = 47 + 12 * kpN g + (7 + p) by omega, kp_new (by omega)]
      unfold kpC
      rw [if_neg (by omega), if_neg (by omega), if_pos (by omega), if_neg (by omega), if_neg (by omega), if_neg (by omega), show 2 + p - 2 = p by omega, show 7 + p - 7 = p by omega]
      exact ⟨e.2.2.2.2.2.1, e.2.2.2.2.2.2.1⟩
/-- the reference keeps a minute so -/
theorem md_g (h46 : 0 ≤ t 1 46 ∧ t 1 46 ≤ 12) : rg (mdT t) 0 = kpG (rg t 0) := by
  have e46 : rg t 0 46 = t 1 46 := rg_0 (by decide)
  have hn := kpN_rg (g := rg t 0) (by rw [e46]; exact h46)
  have r46 : rmT t 1 46 = (kpN (rg t 0) : Int) := by
    unfold rmT kpN
    rw [e46]
    by_cases q : t 1 46 = 12
    · rw [if_pos q, if_pos q, up2_s]; rfl
    · rw [if_neg q, if_neg q]; omega
  have rlo : ∀ j, j < 46 → rmT t 1 j = rg t 0 j := fun j hj => (rmT_lo hj).trans (rg_0 (by omega)).symm
  funext j
  by_cases hj : j < 200
  · rw [rg_0 hj]
    unfold mdT kpT
    rw [r46, show (47 + 12 * (kpN (rg t 0) : Int)).toNat = 47 + 12 * kpN (rg t 0) by omega]
    generalize hs : 47 + 12 * kpN (rg t 0) = s
    by_cases j46 : j = 46
    · rw [j46, up2_s, kp_46]
    · rw [up2_n (by omega)]
      by_cases js : s ≤ j ∧ j < s + 12
      · rw [show j = 47 + 12 * kpN (rg t 0) + (j - s) by omega, kp_new (by omega)]
        rw [show 47 + 12 * kpN (rg t 0) + (j - s) = j by omega]
        unfold kpC
        by_cases j0 : j - s = 0
        · rw [if_pos j0, stT_o (by omega) (by omega), up2_n (by omega), show j = s by omega, up2_s, rlo 2 (by omega)]
        · rw [if_neg j0]
          by_cases j1 : j - s = 1
          · rw [if_pos j1, stT_o (by omega) (by omega), show j = s + 1 by omega, up2_s, rlo 3 (by omega)]
          · rw [if_neg j1]
            by_cases j7 : j - s < 7
            · rw [if_pos j7, stT_a (by omega) (by omega), up2_n (by omega), up2_n (by omega), rlo _ (by omega)]
              congr 1
            · rw [if_neg j7, stT_b (by omega) (by omega), up2_n (by omega), up2_n (by omega), rlo _ (by omega)]
              congr 1
      · rw [stT_o (by omega) (by omega), up2_n (by omega), up2_n (by omega)]
        unfold kpG
        rw [if_neg j46, if_neg (by omega), e46]
        unfold rmT
        by_cases q : t 1 46 = 12
        · rw [if_pos q, up2_n (by omega)]
          by_cases z : 47 ≤ j ∧ j < 179
          · rw [shT_i (by omega) z.2, if_pos ⟨q, z⟩, rg_0 (by omega)]
          · rw [shT_o (by omega), if_neg (fun y => z y.2), rg_0 hj]
        · rw [if_neg q, if_neg (fun y => q y.1), rg_0 hj]
  · rw [kp_end hn.1 (by omega), rg_ct t 0 j (by omega), rg_ct (mdT t) 0 j (by omega)]
/-- what one reads, by a row -/
def rdG (g : Nat → Int) (L : Int → Int) (p : Int) : Int := rdS (g (11 + p.toNat)) p (L p) (fun k => g (31 + k.toNat)) (fun k => g (36 + k.toNat))
def ltG (g : Nat → Int) (L : Int → Int) (p : Int) : Int := if 0 < L p ∧ 0 < rdG g L p then 1 else 0
def miG (g : Nat → Int) (L : Int → Int) : Nat → Int := fun j => if 31 ≤ j ∧ j < 36 ∧ (j : Int) - 31 < g 5 then g j - rdG g L ((j : Int) - 31) else if 36 ≤ j ∧ j < 41 ∧ (j : Int) - 36 < g 5 then ltG g L ((j : Int) - 36) else g j
def buG (g : Nat → Int) (q : Int) : Nat → Int := up1 (up1 (kpG g) 2 q) 3 (g 3 - (if g 3 ≤ 0 then 0 else 1))
def liG (g : Nat → Int) (q : Int) : Int → Int := fun p => if g 3 ≤ 0 then 0 else lgt (g 0) (g 4) (g (6 + p.toNat)) q
theorem mi_31 {L : Int → Int} {p : Nat} (h1 : p < 5) (h2 : (p : Int) < g 5) : miG g L (31 + p) = g (31 + p) - rdG g L p := by
  unfold miG
  rw [if_pos (by omega), show ((31 + p : Nat) : Int) - 31 = p by omega]
theorem mi_36 {L : Int → Int} {p : Nat} (h1 : p < 5) (h2 : (p : Int) < g 5) : miG g L (36 + p) = ltG g L p := by
  unfold miG
  rw [if_neg (by omega), if_pos (by omega), show ((36 + p : Nat) : Int) - 36 = p by omega]
theorem mi_o {L : Int → Int} {j : Nat} (h1 : ¬ (31 ≤ j ∧ j < 41)) : miG g L j = g j := by
  unfold miG
  rw [if_neg (by omega), if_neg (by omega)]
theorem bu_lo {q : Int} {j : Nat} (hj : j < 46) (h2 : j ≠ 2) (h3 : j ≠ 3) : buG g q j = g j := by
  unfold buG
  rw [up1_n h3, up1_n h2, kp_lo hj]
theorem bu_hi {q : Int} {j : Nat} (h3 : 3 < j) : buG g q j = kpG g j := by
  unfold buG
  rw [up1_n (by omega), up1_n (by omega)]
theorem bu_v {q : Int} (hv : vI g) (h0 : 0 ≤ q ∧ q < g 0 * g 1) (hb : hasB (g 4) q = false) : vI (buG g q) := by
  have h3 := hv.2.2.2.1
  have hk := kp_v hv
  have l0 : kpG g 0 = g 0 := kp_lo (by decide)
  have l1 : kpG g 1 = g 1 := kp_lo (by decide)
  have l4 : kpG g 4 = g 4 := kp_lo (by decide)
  obtain ⟨v1, v2, v3, v4, v5, v6, v7, v8, v9, v10⟩ := hk
  unfold buG
  unfold vI rdI mnI at *
  simp (disch := omega) only [up1_n, up1_s]
  refine ⟨v1, v2, by rw [l0, l1]; exact h0, ?_, v5, by rw [l4]; exact hb, v7, v8, v9, v10⟩
  split <;> omega
theorem rdG_rg {L : Int → Int} {p : Nat} (hv : vI g) (h1 : p < 5) (h2 : (p : Int) < g 5) : 0 ≤ rdG g L p ∧ rdG g L p ≤ g (31 + p) := by
  have e := hv.2.2.2.2.2.2.2.1 p h1 h2
  unfold rdI at e
  have := rdS_rg (knd := g (11 + (p : Int).toNat)) (p := (p : Int)) (l := L p) (f := fun k => g (31 + k.toNat)) (g := fun k => g (36 + k.toNat)) (by rw [Int.toNat_natCast]; exact e.2.2.2.2.2.1.1)
  rw [Int.toNat_natCast] at this
  unfold rdG
  rw [Int.toNat_natCast]
  exact this
theorem ltG_rg {L : Int → Int} {p : Int} : 0 ≤ ltG g L p ∧ ltG g L p ≤ 1 := by
  unfold ltG
  split <;> omega
theorem mi_v {L : Int → Int} (hv : vI g) : vI (miG g L) := by
  have hv' := hv
  obtain ⟨v1, v2, v3, v4, v5, v6, v7, v8, v9, v10⟩ := hv
  unfold vI mnI
  unfold mnI at v10
  simp (disch := omega) only [mi_o]
  refine ⟨v1, v2, v3, v4, v5, v6, v7, fun p p1 p2 => ?_, v9, v10⟩
  have e := v8 p p1 p2
  unfold rdI at *
  simp (disch := omega) only [mi_o]
  rw [mi_31 p1 p2, mi_36 p1 p2]
  have r := rdG_rg (L := L) hv' p1 p2
  have r2 := ltG_rg (g := g) (L := L) (p := p)
  exact ⟨e.1, e.2.1, e.2.2.1, e.2.2.2.1, e.2.2.2.2.1, by omega, r2, e.2.2.2.2.2.2.2⟩
end

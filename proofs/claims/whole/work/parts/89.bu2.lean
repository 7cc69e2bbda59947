/-! A MINUTE BURNT: the reference's row; a minute undone -/
section
variable {h : xH} {d : Nat} {g : Nat → Int} {t : Nat → Nat → Int}
theorem br_L {q p : Int} (hv : vI (rg t 0)) (hq : 0 ≤ q) (h0 : 0 ≤ p) (h1 : p < 5) : lgL (b1T t q) (if t 1 3 ≤ 0 then -1 else q) (-1) p = liG (rg t 0) q p := by
  have h46 := hv.2.2.2.2.2.2.2.2.1
  rw [rg_0 (by decide)] at h46
  unfold lgL lg1 liG
  rw [if_neg (show ¬ (0 : Int) ≤ -1 by decide), rg_0 (show 3 < 200 by decide)]
  by_cases z : t 1 3 ≤ 0
  · rw [if_pos z, if_pos z, if_neg (by decide)]
  · rw [if_neg z, if_neg z, if_pos hq, b1T_lo h46.1 h46.2 (by omega) (by omega), b1T_lo h46.1 h46.2 (by omega) (by omega), b1T_lo h46.1 h46.2 (by omega) (by omega), rg_0 (by decide), rg_0 (by decide), rg_0 (by omega), show (6 + p).toNat = 6 + p.toNat by omega]
theorem br_rd {q p : Int} (hv : vI (rg t 0)) (hq : 0 ≤ q) (h0 : 0 ≤ p) (h1 : p < 5) : rdT (b1T t q) 0 (lgL (b1T t q) (if t 1 3 ≤ 0 then -1 else q) (-1)) p = rdG (buG (rg t 0) q) (liG (rg t 0) q) p := by
  have h46 := hv.2.2.2.2.2.2.2.2.1
  rw [rg_0 (by decide)] at h46
  unfold rdT rdG
  rw [br_L hv hq h0 h1, b1T_lo h46.1 h46.2 (by omega) (by omega), bu_lo (by omega) (by omega) (by omega), rg_0 (by omega), show (11 + p).toNat = 11 + p.toNat by omega]
  refine rdS_congr h0 (fun k k0 k1 => ?_) ?_
  · show b1T t q 7 (5 * 0 + k).toNat = buG (rg t 0) q (31 + k.toNat)
    unfold b1T
    rw [bgT_7 (by omega) (by omega), up2_n (by omega), mdT_lo h46.1 h46.2 (by omega), bu_lo (by omega) (by omega) (by omega), rg_0 (by omega)]
    congr 1
    omega
  · show b1T t q 8 (5 * 0 + p).toNat = buG (rg t 0) q (36 + p.toNat)
    unfold b1T
    rw [bgT_8 (by omega) (by omega), up2_n (by omega), mdT_lo h46.1 h46.2 (by omega), bu_lo (by omega) (by omega) (by omega), rg_0 (by omega)]
    congr 1
    omega
theorem br_g {q : Int} (hv : vI (rg t 0)) (hq : 0 ≤ q) : rg (brT t q) 0 = miG (buG (rg t 0) q) (liG (rg t 0) q) := by
  have h46 := hv.2.2.2.2.2.2.2.2.1
  have h5 := hv.2.2.2.2.2.2.1
  rw [rg_0 (by decide)] at h46 h5
  have b5 : buG (rg t 0) q 5 = t 1 5 := (bu_lo (by decide) (by decide) (by decide)).trans (rg_0 (by decide))
  have hm := md_g h46
  funext j
  by_cases hj : j < 200
  · rw [rg_0 hj]
    unfold brT miG
    rw [b5]
    by_cases zA : 31 ≤ j ∧ j < 36 ∧ (j : Int) - 31 < t 1 5
    · rw [if_pos zA, cbT_a (by omega) (by omega), up2_n (by omega)]
      unfold b2T
      rw [mnT_7h (by omega) (by omega), show ((j - 26 : Nat) : Int) - 5 - 5 * 0 = (j : Int) - 31 by omega, br_rd hv hq (by omega) (by omega)]
      congr 1
      unfold b1T
      rw [bgT_7 (by omega) (by omega), up2_n (by omega), mdT_lo h46.1 h46.2 (by omega), bu_lo (by omega) (by omega) (by omega), rg_0 (by omega)]
      congr 1
      omega
    · rw [if_neg zA]
      by_cases zB : 36 ≤ j ∧ j < 41 ∧ (j : Int) - 36 < t 1 5
      · rw [if_pos zB, cbT_b (by omega) (by omega) (by omega), up2_n (by omega)]
        unfold b2T
        rw [mnT_8h (by omega) (by omega), show ((j - 31 : Nat) : Int) - 5 - 5 * 0 = (j : Int) - 36 by omega, br_rd hv hq (by omega) (by omega), br_L hv hq (by omega) (by omega)]
        rfl
      · rw [if_neg zB, cbT_o (by omega) (by omega)]
        by_cases z3 : j = 3
        · rw [z3, up2_s]
          unfold buG
          rw [up1_s, rg_0 (by decide)]
        · rw [up2_n (by omega)]
          unfold b2T
          rw [mnT_1]
          unfold b1T
          rw [bgT_o (by omega)]
          unfold buG
          rw [up1_n z3]
          by_cases z2 : j = 2
          · rw [z2, up2_s, up1_s]
          · rw [up2_n (by omega), up1_n z2, ← hm, rg_0 hj]
  · rw [rg_ct (brT t q) 0 j (by omega), mi_o (by omega), bu_hi (by omega), ← hm, rg_ct _ 0 j (by omega)]
theorem br_a {q : Int} (hv : vI (rg t 0)) (hq : 0 ≤ q) : brT t q 0 12 = sumF (rdG (buG (rg t 0) q) (liG (rg t 0) q)) (t 1 5).toNat := by
  have h5 := hv.2.2.2.2.2.2.1
  rw [rg_0 (by decide)] at h5
  unfold brT
  rw [cbT_o (by omega) (by omega), up2_n (by omega)]
  unfold b2T
  rw [mnT_p]
  exact sumF_congr _ fun k hk => br_rd hv hq (by omega) (by omega)
/-- what burning leaves alone -/
theorem br_o {q : Int} {i j : Nat} (h46 : 0 ≤ t 1 46 ∧ t 1 46 ≤ 12) (h5 : t 1 5 ≤ 5) (hi : ¬ (i = 1 ∧ j < 200)) (h1 : i ≠ 7) (h2 : i ≠ 8) (h3 : ¬ (i = 0 ∧ j = 12)) : brT t q i j = t i j := by
  have r46 := rmT_46 h46.1 h46.2
  unfold brT
  rw [cbT_o (by omega) (by omega), up2_n (by omega)]
  unfold b2T
  rw [mnT_o h3 (by omega)]
  unfold b1T
  rw [bgT_o (by omega), up2_n (by omega)]
  unfold mdT kpT
  rw [up2_n (by omega), stT_o (by omega) (by omega), up2_n (by omega), up2_n (by omega)]
  unfold rmT
  split
  · rw [up2_n (by omega), shT_o (by omega)]
  · rfl
/-- a minute undone, by rows -/
def unG (g : Nat → Int) (m : Nat) : Nat → Int := fun j => if j = 46 then m else if j = 2 then g (47 + 12 * m) else if j = 3 then g (48 + 12 * m) else if 31 ≤ j ∧ j < 36 then g (49 + 12 * m + (j - 31)) else if 36 ≤ j ∧ j < 41 then g (54 + 12 * m + (j - 36)) else g j
theorem un_o {m j : Nat} (h1 : ¬ (31 ≤ j ∧ j < 41)) (h2 : j ≠ 2) (h3 : j ≠ 3) (h4 : j ≠ 46) : unG g m j = g j := by
  unfold unG
  rw [if_neg h4, if_neg h2, if_neg h3, if_neg (by omega), if_neg (by omega)]
theorem un_31 {m p : Nat} (h : p < 5) : unG g m (31 + p) = g (49 + 12 * m + p) := by
  unfold unG
  rw [if_neg (by omega), if_neg (by omega), if_neg (by omega), if_pos (by omega), show 31 + p - 31 = p by omega]
theorem un_36 {m p : Nat} (h : p < 5) : unG g m (36 + p) = g (54 + 12 * m + p) := by
  unfold unG
  rw [if_neg (by omega), if_neg (by omega), if_neg (by omega), if_neg (by omega), if_pos (by omega), show 36 + p - 36 = p by omega]
theorem un_46 {m : Nat} : unG g m 46 = m := rfl
theorem un_2 {m : Nat} : unG g m 2 = g (47 + 12 * m) := rfl
theorem un_3 {m : Nat} : unG g m 3 = g (48 + 12 * m) := rfl
theorem un_v {m : Nat} (hv : vI g) (h199 : g 199 = 0) (hm : (m : Int) < g 46) : vI (unG g m) := by
  obtain ⟨v1, v2, v3, v4, v5, v6, v7, v8, v9, v10⟩ := hv
  have e := v10 m hm
  unfold vI
  simp (disch := omega) only [un_o]
  rw [un_46, un_2, un_3]
  refine ⟨v1, v2, e.1, e.2.2.1, v5, e.2.1 h199, v7, fun p p1 p2 => ?_, by omega, fun k k1 => ?_⟩
  · have w := v8 p p1 p2
    have f := e.2.2.2 p p1 p2
    unfold rdI at *
    simp (disch := omega) only [un_o]
    rw [un_31 p1, un_36 p1]
    exact ⟨w.1, w.2.1, w.2.2.1, w.2.2.2.1, w.2.2.2.2.1, f.1, f.2, w.2.2.2.2.2.2.2⟩
  · have w := v10 k (by omega)
    unfold mnI at *
    simp (disch := omega) only [un_o]
    exact w
theorem un_g {m : Nat} (hm : m < 12) : rg (unT t (47 + 12 * m)) 0 = fun j => if j = 46 then t 1 46 - 1 else unG (rg t 0) m j := by
  funext j
  by_cases hj : j < 200
  · rw [rg_0 hj]
    unfold unT
    by_cases z46 : j = 46
    · rw [z46, if_pos rfl, udT_o (by omega) (by omega), up2_n (by omega), up2_n (by omega), up2_s]
    · rw [if_neg z46]
      unfold unG
      rw [if_neg z46]
      by_cases z2 : j = 2
      · rw [z2, if_pos rfl, udT_o (by omega) (by omega), up2_n (by omega), up2_s, rg_0 (by omega)]
      · rw [if_neg z2]
        by_cases z3 : j = 3
        · rw [z3, if_pos rfl, udT_o (by omega) (by omega), up2_s, rg_0 (by omega)]
          congr 1
          omega
        · rw [if_neg z3]
          by_cases zA : 31 ≤ j ∧ j < 36
          · rw [if_pos zA, udT_a (by omega) (by omega), up2_n (by omega), up2_n (by omega), up2_n (by omega), rg_0 (by omega)]
            congr 1
            omega
          · rw [if_neg zA]
            by_cases zB : 36 ≤ j ∧ j < 41
            · rw [if_pos zB, udT_b (by omega) (by omega), up2_n (by omega), up2_n (by omega), up2_n (by omega), rg_0 (by omega)]
              congr 1
              omega
            · rw [if_neg zB, udT_o (by omega) (by omega), up2_n (by omega), up2_n (by omega), up2_n (by omega), rg_0 hj]
  · rw [rg_ct _ 0 j (by omega), if_neg (by omega), un_o (by omega) (by omega) (by omega) (by omega), rg_ct t 0 j (by omega)]
theorem un_out {s i j : Nat} (hi : ¬ (i = 1 ∧ j < 200)) : unT t s i j = t i j := by
  unfold unT
  rw [udT_o (by omega) (by omega), up2_n (by omega), up2_n (by omega), up2_n (by omega)]
end

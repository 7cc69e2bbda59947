/-! A MINUTE BURNT: the component -/
section
variable {h : xH} {d o : Nat} {g : Nat → Int} {G : Nat → Nat → Int}
theorem hR_9 {T : Nat → Nat → Int} (he : ∀ i j, o ≤ i → i < o + 15 → i ≠ o + 9 → T i j = G i j) (hr : hR G o g) : hR T o g := by
  obtain ⟨e4, e5, e6, e7, e8, e9, e10, er, el, ek, em⟩ := hr
  unfold hR
  rw [he o 4 (by omega) (by omega) (by omega), he o 5 (by omega) (by omega) (by omega), he o 6 (by omega) (by omega) (by omega), he o 7 (by omega) (by omega) (by omega), he o 8 (by omega) (by omega) (by omega), he o 9 (by omega) (by omega) (by omega), he o 10 (by omega) (by omega) (by omega), he (o + 2) 1 (by omega) (by omega) (by omega), he (o + 4) 4 (by omega) (by omega) (by omega)]
  refine ⟨e4, e5, e6, e7, e8, e9, e10, fun p p1 p2 => ?_, el, ek, fun m m1 m2 => ?_⟩
  · have := er p p1 p2
    unfold rdR' at *
    rw [he (o + 10 + p) 0 (by omega) (by omega) (by omega), he (o + 10 + p) 1 (by omega) (by omega) (by omega), he (o + 10 + p) 2 (by omega) (by omega) (by omega), he (o + 10 + p) 3 (by omega) (by omega) (by omega), he (o + 10 + p) 4 (by omega) (by omega) (by omega), he (o + 10 + p) 5 (by omega) (by omega) (by omega), he (o + 3) p (by omega) (by omega) (by omega)]
    exact this
  · have := em m m1 m2
    unfold mnR at *
    rw [he (o + 5) m (by omega) (by omega) (by omega), he (o + 6) m (by omega) (by omega) (by omega), he (o + 7) m (by omega) (by omega) (by omega)]
    refine ⟨this.1, this.2.1, this.2.2.1, fun p p1 p2 => ?_⟩
    rw [he (o + 8) (5 * m + p) (by omega) (by omega) (by omega)]
    exact this.2.2.2 p p1 p2
theorem liR_c {x n : Int} {f f' : Nat → Int} (hl : liR x n f) (hf : ∀ k : Nat, k < 5 → (k : Int) < n → f' k = f k) : liR x n f' := by
  intro k hk
  rw [hl k hk]
  by_cases z : k < 5 ∧ (k : Int) < n
  · have := hf k z.1 z.2
    simp only [this]
  · rw [decide_eq_false (fun y => z ⟨y.1, y.2.1⟩), decide_eq_false (fun y => z ⟨y.1, y.2.1⟩)]
theorem ke_r {D : Nat → Nat → Int} {k f : Nat} (hr : hR G o g) (hv : vI g) (hk : kpN g = k) (hf : kpS g = f) (h1 : ∀ i j, ¬ (o + 4 ≤ i ∧ i ≤ o + 8) → D i j = G i j)
    (h2 : ∀ m, m < k → D (o + 5) m = G (o + 5) (m + f) ∧ D (o + 6) m = G (o + 6) (m + f) ∧ D (o + 7) m = G (o + 7) (m + f) ∧ ∀ p, p < 5 → D (o + 8) (5 * m + p) = G (o + 8) (5 * (m + f) + p)) : hR (keT D o k) o (kpG g) ∧ hK G (keT D o k) o := by
  have hn := kpN_rg hv.2.2.2.2.2.2.2.2.1
  have h46 := hv.2.2.2.2.2.2.2.2.1
  have h5 := hv.2.2.2.2.2.2.1
  rw [hk, hf] at hn
  have lo : ∀ i j, ¬ (o + 4 ≤ i ∧ i ≤ o + 8) → keT D o k i j = G i j := fun i j hij => by
    unfold keT
    rw [up2_n (by omega), cpU_n (by omega), up2_n (by omega), up2_n (by omega), up2_n (by omega), h1 _ _ hij]
  refine ⟨?_, fun i j hij => lo i j (by omega)⟩
  obtain ⟨e4, e5, e6, e7, e8, e9, e10, er, el, ek, em⟩ := hr
  unfold hR
  rw [lo o 4 (by omega), lo o 5 (by omega), lo o 6 (by omega), lo o 7 (by omega), lo o 8 (by omega), lo o 9 (by omega), lo o 10 (by omega), lo (o + 2) 1 (by omega), kp_lo (show 0 < 46 by omega), kp_lo (show 1 < 46 by omega), kp_lo (show 2 < 46 by omega), kp_lo (show 3 < 46 by omega), kp_lo (show 4 < 46 by omega), kp_lo (show 5 < 46 by omega), kp_46, hk]
  refine ⟨e4, e5, e6, e7, e8, e9, e10, fun p p1 p2 => ?_, ?_, ?_, fun m m1 m2 => ?_⟩
  · have := er p p1 p2
    unfold rdR' at *
    rw [lo (o + 10 + p) 0 (by omega), lo (o + 10 + p) 1 (by omega), lo (o + 10 + p) 2 (by omega), lo (o + 10 + p) 3 (by omega), lo (o + 10 + p) 4 (by omega), lo (o + 10 + p) 5 (by omega), lo (o + 3) p (by omega), kp_lo (show 6 + p < 46 by omega), kp_lo (show 11 + p < 46 by omega), kp_lo (show 16 + p < 46 by omega), kp_lo (show 21 + p < 46 by omega), kp_lo (show 26 + p < 46 by omega), kp_lo (show 41 + p < 46 by omega), kp_lo (show 31 + p < 46 by omega)]
    exact this
  · exact liR_c el fun c c1 c2 => kp_lo (by omega)
  · unfold keT
    rw [up2_s]
  · unfold mnR
    rw [kp_lo (show 5 < 46 by omega)]
    by_cases z : m < k
    · have z' : m < kpN g := by omega
      have hn' : kpN g ≤ 11 := by omega
      obtain ⟨a1, a2, a3, a4⟩ := h2 m z
      have w := em (m + f) (by omega) (by omega)
      unfold mnR at w
      have k5 : keT D o k (o + 5) m = G (o + 5) (m + f) := by
        unfold keT
        rw [up2_n (by omega), cpU_n (by omega), up2_n (by omega), up2_n (by omega), up2_n (by omega), a1]
      have k6 : keT D o k (o + 6) m = G (o + 6) (m + f) := by
        unfold keT
        rw [up2_n (by omega), cpU_n (by omega), up2_n (by omega), up2_n (by omega), up2_n (by omega), a2]
      have k7 : keT D o k (o + 7) m = G (o + 7) (m + f) := by
        unfold keT
        rw [up2_n (by omega), cpU_n (by omega), up2_n (by omega), up2_n (by omega), up2_n (by omega), a3]
      rw [k5, k6, k7]
      refine ⟨w.1.trans ?_, w.2.1.trans ?_, liR_c w.2.2.1 fun c c1 c2 => ?_, fun p p1 p2 => ?_⟩
      · rw [← hf]
        exact (kp_old (c := 0) z' hn' (by omega)).symm
      · rw [← hf, show 48 + 12 * m = 47 + 12 * m + 1 by omega, kp_old z' hn' (by omega)]
        congr 1
        omega
      · rw [← hf, show 54 + 12 * m + c = 47 + 12 * m + (7 + c) by omega, kp_old z' hn' (by omega)]
        congr 1
        omega
      · have k8 : keT D o k (o + 8) (5 * m + p) = G (o + 8) (5 * (m + f) + p) := by
          unfold keT
          rw [up2_n (by omega), cpU_n (by omega), up2_n (by omega), up2_n (by omega), up2_n (by omega), a4 p p1]
        rw [k8, w.2.2.2 p p1 p2, ← hf, show 49 + 12 * m + p = 47 + 12 * m + (2 + p) by omega, kp_old z' hn' (by omega)]
        congr 1
        omega
    · have zk : m = k := by omega
      subst zk
      have k5 : keT D o m (o + 5) m = g 2 := by
        unfold keT
        rw [up2_n (by omega), cpU_n (by omega), up2_n (by omega), up2_n (by omega), up2_s, h1 _ _ (by omega), e7]
      have k6 : keT D o m (o + 6) m = g 3 := by
        unfold keT
        rw [up2_n (by omega), cpU_n (by omega), up2_n (by omega), up2_s, h1 _ _ (by omega), e8]
      have k7 : keT D o m (o + 7) m = G (o + 2) 1 := by
        unfold keT
        rw [up2_n (by omega), cpU_n (by omega), up2_s, h1 _ _ (by omega)]
      rw [k5, k6, k7]
      have n0 := kp_new (g := g) (c := 0) (by omega)
      have n1 := kp_new (g := g) (c := 1) (by omega)
      rw [hk] at n0 n1
      refine ⟨n0.symm, ?_, liR_c el fun c c1 c2 => ?_, fun p p1 p2 => ?_⟩
      · rw [show 48 + 12 * m = 47 + 12 * m + 1 by omega, n1]
        rfl
      · have n7 := kp_new (g := g) (c := 7 + c) (by omega)
        rw [hk] at n7
        rw [show 54 + 12 * m + c = 47 + 12 * m + (7 + c) by omega, n7]
        unfold kpC
        rw [if_neg (by omega), if_neg (by omega), if_neg (by omega), show 7 + c - 7 = c by omega]
      · have n7 := kp_new (g := g) (c := 2 + p) (by omega)
        rw [hk] at n7
        have k8 : keT D o m (o + 8) (5 * m + p) = G (o + 3) p := by
          unfold keT
          rw [up2_n (by omega), cpU_s (by omega), up2_n (by omega), up2_n (by omega), up2_n (by omega), h1 _ _ (by omega)]
          congr 1
          omega
        rw [k8, (er p p1 p2).2.2.2.2.2.2, show 49 + 12 * m + p = 47 + 12 * m + (2 + p) by omega, n7]
        unfold kpC
        rw [if_neg (by omega), if_neg (by omega), if_pos (by omega), show 2 + p - 2 = p by omega]
theorem ke_all (hr : hR G o g) (hv : vI g) : hR (if G (o + 4) 4 = 12 then keT (drT G o) o 11 else keT G o (G (o + 4) 4).toNat) o (kpG g) ∧ hK G (if G (o + 4) 4 = 12 then keT (drT G o) o 11 else keT G o (G (o + 4) 4).toNat) o := by
  have ek := hr.2.2.2.2.2.2.2.2.2.1
  by_cases z : g 46 = 12
  · rw [if_pos (ek.trans z)]
    refine ke_r (f := 1) hr hv (if_pos z) (if_pos z) (fun i j hij => ?_) (fun m hm => ⟨?_, ?_, ?_, fun p hp => ?_⟩)
    · unfold drT
      rw [up2_n (by omega), cpU_n (by omega), cpU_n (by omega), cpU_n (by omega), cpU_n (by omega)]
    · unfold drT
      rw [up2_n (by omega), cpU_n (by omega), cpU_n (by omega), cpU_n (by omega), cpU_s (by omega)]
      congr 1
      omega
    · unfold drT
      rw [up2_n (by omega), cpU_n (by omega), cpU_n (by omega), cpU_s (by omega), cpU_n (by omega)]
      congr 1
      omega
    · unfold drT
      rw [up2_n (by omega), cpU_n (by omega), cpU_s (by omega), cpU_n (by omega), cpU_n (by omega)]
      congr 1
      omega
    · unfold drT
      rw [up2_n (by omega), cpU_s (by omega), cpU_n (by omega), cpU_n (by omega), cpU_n (by omega)]
      congr 1
      omega
  · rw [if_neg (fun y => z (ek.symm.trans y)), ek]
    exact ke_r (f := 0) hr hv (if_neg z) (if_neg z) (fun i j hij => rfl) (fun m hm => ⟨rfl, rfl, rfl, fun p hp => rfl⟩)
/-- lamp and oil behind it -/
theorem bu_r {q : Int} {T : Nat → Nat → Int} (hr : hR T o (kpG g)) : hR (up2 T o 7 q) o (up1 (kpG g) 2 q) := by
  obtain ⟨e4, e5, e6, e7, e8, e9, e10, er, el, ek, em⟩ := hr
  unfold hR rdR' mnR at *
  simp (disch := omega) only [up2_n, up2_s, up1_n, up1_s]
  exact ⟨e4, e5, e6, trivial, e8, e9, e10, er, el, ek, em⟩
theorem oi_r {x : Int} {T : Nat → Nat → Int} (hr : hR T o g) : hR (up2 T o 8 x) o (up1 g 3 x) := by
  obtain ⟨e4, e5, e6, e7, e8, e9, e10, er, el, ek, em⟩ := hr
  unfold hR rdR' mnR at *
  simp (disch := omega) only [up2_n, up2_s, up1_n, up1_s]
  exact ⟨e4, e5, e6, e7, trivial, e9, e10, er, el, ek, em⟩
/-- a minute undone -/
theorem gb_r {m : Nat} (hr : hR G o g) (hv : vI g) (hm : (m : Int) + 1 = g 46) : hR (gbT G o m) o (unG g m) ∧ hK G (gbT G o m) o := by
  have h46 := hv.2.2.2.2.2.2.2.2.1
  have h5 := hv.2.2.2.2.2.2.1
  have lo : ∀ i j, ¬ (i = o + 4 ∧ j = 4) → ¬ (i = o ∧ j = 7) → ¬ (i = o ∧ j = 8) → ¬ (i = o + 2 ∧ j = 1) → ¬ (i = o + 3) → gbT G o m i j = G i j := fun i j a1 a2 a3 a4 a5 => by
    unfold gbT
    rw [cpU_n (by omega), up2_n (by omega), up2_n (by omega), up2_n (by omega), up2_n (by omega)]
  refine ⟨?_, fun i j hij => lo i j (by omega) (by omega) (by omega) (by omega) (by omega)⟩
  obtain ⟨e4, e5, e6, e7, e8, e9, e10, er, el, ek, em⟩ := hr
  have w := em m (by omega) (by omega)
  unfold mnR at w
  have g7 : gbT G o m o 7 = g (47 + 12 * m) := by
    unfold gbT
    rw [cpU_n (by omega), up2_n (by omega), up2_n (by omega), up2_s, w.1]
  have g8 : gbT G o m o 8 = g (48 + 12 * m) := by
    unfold gbT
    rw [cpU_n (by omega), up2_n (by omega), up2_s, w.2.1]
  have gl : gbT G o m (o + 2) 1 = G (o + 7) m := by
    unfold gbT
    rw [cpU_n (by omega), up2_s]
  have gk : gbT G o m (o + 4) 4 = m := by
    unfold gbT
    rw [cpU_n (by omega), up2_n (by omega), up2_n (by omega), up2_n (by omega), up2_s]
  unfold hR
  rw [g7, g8, gl, gk, un_2, un_3, un_46]
  simp (disch := omega) only [lo, un_o]
  refine ⟨e4, e5, e6, trivial, trivial, e9, e10, fun p p1 p2 => ?_, liR_c w.2.2.1 fun c c1 c2 => un_36 c1, trivial, fun k k1 k2 => ?_⟩
  · have r := er p p1 p2
    unfold rdR' at *
    simp (disch := omega) only [lo, un_o]
    refine ⟨r.1, r.2.1, r.2.2.1, r.2.2.2.1, r.2.2.2.2.1, r.2.2.2.2.2.1, ?_⟩
    rw [un_31 p1, ← w.2.2.2 p p1 p2]
    unfold gbT
    rw [cpU_s (by omega), up2_n (by omega), up2_n (by omega), up2_n (by omega), up2_n (by omega)]
    congr 1
  · have r := em k k1 (by omega)
    unfold mnR at *
    simp (disch := omega) only [lo, un_o]
    exact r
end

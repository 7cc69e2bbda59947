/-! THE REFERENCE, part 10: where a lamp, where two lamps stand best -/
section
variable {h : xH} {a : Nat} {t : Nat → Nat → Int} {d : Nat}
/-- alike but for scratch -/
def vS (t t' : Nat → Nat → Int) : Prop := (∀ i j, 1 ≤ i → i ≤ 6 → t' i j = t i j) ∧ t' 0 3 = t 0 3 ∧ ∀ j, j < 5 → t' 7 j = t 7 j ∧ t' 8 j = t 8 j
theorem vS.rfl' : vS t t := ⟨fun _ _ _ _ => rfl, rfl, fun _ _ => ⟨rfl, rfl⟩⟩
theorem vS.trans {t1 t2 t3 : Nat → Nat → Int} (p : vS t1 t2) (q : vS t2 t3) : vS t1 t3 := ⟨fun i j h1 h2 => (q.1 i j h1 h2).trans (p.1 i j h1 h2), q.2.1.trans p.2.1, fun j hj => ⟨(q.2.2 j hj).1.trans (p.2.2 j hj).1, (q.2.2 j hj).2.trans (p.2.2 j hj).2⟩⟩
theorem vS.w {t' : Nat → Nat → Int} (p : vS t t') (j : Nat) : t' 1 j = t 1 j := p.1 1 j (by decide) (by decide)
theorem vS_mn {L : Int → Int} {n : Nat} : vS t (mnT t 0 L n) := by
  refine ⟨fun i j h1 h2 => mnT_o (by omega) (by omega), mnT_o (by omega) (by omega), fun j hj => ⟨mnT_7 (by omega), mnT_8 (by omega)⟩⟩
theorem vS_up {k : Nat} {x : Int} (hk : k ≠ 3) : vS t (up2 t 0 k x) := ⟨fun i j h1 h2 => up2_n (by omega), up2_n (by omega), fun j hj => ⟨up2_n (by omega), up2_n (by omega)⟩⟩
theorem sumF_congr {f g : Int → Int} : ∀ (n : Nat), (∀ k : Nat, k < n → f k = g k) → sumF f n = sumF g n := by
  intro n
  induction n with
  | zero => intro _; rfl
  | succ n ih =>
    intro hfg
    rw [sumF, sumF, ih (fun k hk => hfg k (by omega)), hfg n (by omega)]
theorem sumF_rg {f : Int → Int} {B : Int} : ∀ (n : Nat), (∀ k : Nat, k < n → 0 ≤ f k ∧ f k ≤ B) → 0 ≤ sumF f n ∧ sumF f n ≤ B * n := by
  intro n
  induction n with
  | zero => intro _; exact ⟨Int.le_refl _, by simp [sumF]⟩
  | succ n ih =>
    intro hf
    have h1 := ih (fun k hk => hf k (by omega))
    have h2 := hf n (by omega)
    rw [sumF]
    have e : B * ((n + 1 : Nat) : Int) = B * n + B := by rw [show ((n + 1 : Nat) : Int) = (n : Int) + 1 by omega, Int.mul_add, Int.mul_one]
    rw [e]
    omega
theorem lgL_vS {t' : Nat → Nat → Int} (p : vS t t') : lgL t' = lgL t := by
  funext x y z
  unfold lgL lg1
  simp only [p.w]
theorem rdT_vS {t' : Nat → Nat → Int} {L : Int → Int} {k : Int} (p : vS t t') (h0 : 0 ≤ k) (h1 : k < 5) : rdT t' 0 L k = rdT t 0 L k := by
  unfold rdT
  rw [p.w]
  exact rdS_congr h0 (fun j h2 h3 => (p.2.2 _ (by omega)).1) (p.2.2 _ (by omega)).2
theorem mnW_vS {t' : Nat → Nat → Int} {L : Int → Int} {n : Nat} (p : vS t t') (hn : n ≤ 5) : mnW t' 0 L n = mnW t 0 L n := sumF_congr n fun k hk => by rw [rdT_vS p (by omega) (by omega), p.w]
theorem mnOk_vS {t' : Nat → Nat → Int} (p : vS t t') (ho : mnOk t 0) : mnOk t' 0 := by
  obtain ⟨h1, h2, h3⟩ := ho
  refine ⟨by rw [p.w]; exact h1, by rw [p.w]; exact h2, fun k h4 h5 => ?_⟩
  rw [p.w] at h5
  have := h3 k h4 h5
  simp only [p.w]
  rw [(p.2.2 (5 * 0 + k).toNat (by omega)).1, (p.2.2 (5 * 0 + k).toNat (by omega)).2]
  exact this
theorem mnW_rg {L : Int → Int} {n : Nat} (ho : mnOk t 0) (hn : (n : Int) ≤ t 1 5) : 0 ≤ mnW t 0 L n ∧ mnW t 0 L n ≤ 900 := by
  have h5 := ho.2.1
  have := sumF_rg (f := fun p => rdT t 0 L p * t 1 (21 + p).toNat) (B := 180) n fun k hk => by
    obtain ⟨-, -, r3, r4, -⟩ := ho.2.2 k (by omega) (by omega)
    have r := rdS_rg (knd := t 1 (11 + (k : Int)).toNat) (p := k) (l := L k) (f := fun k => t 7 (5 * 0 + k).toNat) (g := fun k => t 8 (5 * 0 + k).toNat) r4.1
    have e1 : 0 ≤ rdT t 0 L k ∧ rdT t 0 L k ≤ 20 := by unfold rdT; omega
    refine ⟨Int.mul_nonneg e1.1 r3.1, ?_⟩
    have := Int.mul_le_mul e1.2 r3.2 r3.1 (by decide : (0 : Int) ≤ 20)
    omega
  refine ⟨this.1, ?_⟩
  have h6 := this.2
  have h7 : mnW t 0 L n ≤ 180 * n := h6
  omega
/-- the best of some, the first of like ones: u its worth, c its number -/
def scG (u c : Int → Int) (ok : Int → Bool) : Nat → Int → Int × Int → Int × Int
  | 0, _, s => s
  | n + 1, q, s => scG u c ok n (q + 1) (if ok q = true ∧ s.1 < u q then (u q, c q) else s)
def stV (t : Nat → Nat → Int) (q : Int) : Int := mnW t 0 (lgL t q (-1)) (t 1 5).toNat
def stS (t : Nat → Nat → Int) (s : Int × Int) : Int × Int := scG (stV t) id (fun q => !hasB (t 1 4) q) (sqN t 0).toNat 0 s
theorem stV_vS {t' : Nat → Nat → Int} {q : Int} (p : vS t t') (h5 : t 1 5 ≤ 5) : stV t' q = stV t q := by
  unfold stV
  rw [lgL_vS p, p.w, mnW_vS p (by omega)]
theorem sqN_vS {t' : Nat → Nat → Int} {r : Int} (p : vS t t') : sqN t' r = sqN t r := by
  unfold sqN
  rw [p.w, p.w]
theorem l_findStand {l3 : Value} (ha : a + 12 ≤ h.1) (hok : mnOk t 0) (hq0 : 0 ≤ sqN t 0) (hq : sqN t 0 ≤ 25) : ∀ (n : Nat) (q : Int) (s : Int × Int) (t' : Nat → Nat → Int) (l3 : Value), vS t t' → t' 0 19 = s.2 → q + n = sqN t 0 → 0 ≤ q → -1 ≤ s.1 → s.1 ≤ 900 →
    ∃ t'', vS t t'' ∧ t'' 0 19 = (scG (stV t) id (fun q => !hasB (t 1 4) q) n q s).2 ∧ x_ev (d + 3, n_X8_findStand, 4, [.ref a, .int (zI s.1), .int (zI q), l3], [], mH h a t') = some (some (.int (zI (scG (stV t) id (fun q => !hasB (t 1 4) q) n q s).1)), mH h a t'') := by
  intro n
  induction n with
  | zero =>
    intro q s t' l3 hv h19 hqn h0 hs0 hs1
    refine ⟨t', hv, h19, ?_⟩
    have e0 : t' 1 0 * t' 1 1 = sqN t 0 := by rw [hv.w, hv.w]; rfl
    rw [s_X8_findStand_4]
    simp (disch := first | omega | assumption) only [s_X8_findStand_5, s_X8_findStand_6, s_X8_findStand_7, s_X8_findStand_10, mH_obj ha, m_g0 ha, m_g1 ha, m_g2 ha, m_g3 ha, m_g4 ha, m_g5 ha, m_g6 ha, m_g7 ha, m_g8 ha, m_g9 ha, m_g10 ha, m_g11 ha, m_g12 ha, m_g13 ha, m_g14 ha, m_g15 ha, m_g16 ha, m_g17 ha, m_g18 ha, m_g19 ha, m_g20 ha, m_p3 ha, m_p7 ha, m_p8 ha, m_p9 ha, m_p12 ha, m_p16 ha, m_p17 ha, m_p18 ha, m_p19 ha, m_p20 ha, m_r1 ha, m_r2 ha, m_r3 ha, m_r4 ha, m_r5 ha, m_r6 ha, m_r7 ha, m_r8 ha, m_r9 ha, m_r10 ha, m_r11 ha, m_s1 ha, m_s2 ha, m_s3 ha, m_s4 ha, m_s5 ha, m_s6 ha, m_s7 ha, m_s8 ha, m_s9 ha, m_s10 ha, m_s11 ha, zI_add, zI_sub, zI_mul, zI_neg, zL_add, zL_sub, zL_mul, Option.bind_some, Option.toList_some, Option.toList_none, List.cons_append, List.nil_append, zI_lt, zI_le, zI_eq, zI_eq0, zI_lt0, zI_le0, zI_0lt, zI_0le, bZ_e0, Int.add_zero, Int.zero_add, c_squaresOf ha, Int.reduceToNat, Int.reduceAdd, e0]
    rw [if_pos (by omega)]
    simp (disch := first | omega | assumption) only [s_X8_findStand_67, s_X8_findStand_68, mH_obj ha, m_g0 ha, m_g1 ha, m_g2 ha, m_g3 ha, m_g4 ha, m_g5 ha, m_g6 ha, m_g7 ha, m_g8 ha, m_g9 ha, m_g10 ha, m_g11 ha, m_g12 ha, m_g13 ha, m_g14 ha, m_g15 ha, m_g16 ha, m_g17 ha, m_g18 ha, m_g19 ha, m_g20 ha, m_p3 ha, m_p7 ha, m_p8 ha, m_p9 ha, m_p12 ha, m_p16 ha, m_p17 ha, m_p18 ha, m_p19 ha, m_p20 ha, m_r1 ha, m_r2 ha, m_r3 ha, m_r4 ha, m_r5 ha, m_r6 ha, m_r7 ha, m_r8 ha, m_r9 ha, m_r10 ha, m_r11 ha, m_s1 ha, m_s2 ha, m_s3 ha, m_s4 ha, m_s5 ha, m_s6 ha, m_s7 ha, m_s8 ha, m_s9 ha, m_s10 ha, m_s11 ha, zI_add, zI_sub, zI_mul, zI_neg, zL_add, zL_sub, zL_mul, Option.bind_some, Option.toList_some, Option.toList_none, List.cons_append, List.nil_append, zI_lt, zI_le, zI_eq, zI_eq0, zI_lt0, zI_le0, zI_0lt, zI_0le, bZ_e0, Int.add_zero, Int.zero_add]
    rfl
  | succ n ih =>
    intro q s t' l3 hv h19 hqn h0 hs0 hs1
    have e0 : t' 1 0 * t' 1 1 = sqN t 0 := by rw [hv.w, hv.w]; rfl
    have h5 := hok.2.1
    rw [s_X8_findStand_4]
    simp (disch := first | omega | assumption) only [s_X8_findStand_5, s_X8_findStand_6, s_X8_findStand_7, s_X8_findStand_10, mH_obj ha, m_g0 ha, m_g1 ha, m_g2 ha, m_g3 ha, m_g4 ha, m_g5 ha, m_g6 ha, m_g7 ha, m_g8 ha, m_g9 ha, m_g10 ha, m_g11 ha, m_g12 ha, m_g13 ha, m_g14 ha, m_g15 ha, m_g16 ha, m_g17 ha, m_g18 ha, m_g19 ha, m_g20 ha, m_p3 ha, m_p7 ha, m_p8 ha, m_p9 ha, m_p12 ha, m_p16 ha, m_p17 ha, m_p18 ha, m_p19 ha, m_p20 ha, m_r1 ha, m_r2 ha, m_r3 ha, m_r4 ha, m_r5 ha, m_r6 ha, m_r7 ha, m_r8 ha, m_r9 ha, m_r10 ha, m_r11 ha, m_s1 ha, m_s2 ha, m_s3 ha, m_s4 ha, m_s5 ha, m_s6 ha, m_s7 ha, m_s8 ha, m_s9 ha, m_s10 ha, m_s11 ha, zI_add, zI_sub, zI_mul, zI_neg, zL_add, zL_sub, zL_mul, Option.bind_some, Option.toList_some, Option.toList_none, List.cons_append, List.nil_append, zI_lt, zI_le, zI_eq, zI_eq0, zI_lt0, zI_le0, zI_0lt, zI_0le, bZ_e0, Int.add_zero, Int.zero_add, c_squaresOf ha, Int.reduceToNat, Int.reduceAdd, e0]
    rw [if_neg (by omega)]
    simp (disch := first | omega | assumption) only [s_X8_findStand_13, s_X8_findStand_14, s_X8_findStand_17, s_X8_findStand_18, s_X8_findStand_19, s_X8_findStand_20, s_X8_findStand_23, mH_obj ha, m_g0 ha, m_g1 ha, m_g2 ha, m_g3 ha, m_g4 ha, m_g5 ha, m_g6 ha, m_g7 ha, m_g8 ha, m_g9 ha, m_g10 ha, m_g11 ha, m_g12 ha, m_g13 ha, m_g14 ha, m_g15 ha, m_g16 ha, m_g17 ha, m_g18 ha, m_g19 ha, m_g20 ha, m_p3 ha, m_p7 ha, m_p8 ha, m_p9 ha, m_p12 ha, m_p16 ha, m_p17 ha, m_p18 ha, m_p19 ha, m_p20 ha, m_r1 ha, m_r2 ha, m_r3 ha, m_r4 ha, m_r5 ha, m_r6 ha, m_r7 ha, m_r8 ha, m_r9 ha, m_r10 ha, m_r11 ha, m_s1 ha, m_s2 ha, m_s3 ha, m_s4 ha, m_s5 ha, m_s6 ha, m_s7 ha, m_s8 ha, m_s9 ha, m_s10 ha, m_s11 ha, zI_add, zI_sub, zI_mul, zI_neg, zL_add, zL_sub, zL_mul, Option.bind_some, Option.toList_some, Option.toList_none, List.cons_append, List.nil_append, zI_lt, zI_le, zI_eq, zI_eq0, zI_lt0, zI_le0, zI_0lt, zI_0le, bZ_e0, Int.add_zero, Int.zero_add, c_has, Int.reduceToNat, hv.w, ite_not]
    rw [scG]
    by_cases z : hasB (t 1 4) q = true
    · rw [if_pos z, if_neg (by rw [z]; simp)]
      simp (disch := first | omega | assumption) only [s_X8_findStand_26, s_X8_findStand_27, s_X8_findStand_30, s_X8_findStand_31, s_X8_findStand_32, s_X8_findStand_33, s_X8_findStand_34, s_X8_findStand_37, s_X8_findStand_38, s_X8_findStand_39, s_X8_findStand_40, s_X8_findStand_41, s_X8_findStand_44, s_X8_findStand_45, s_X8_findStand_48, s_X8_findStand_49, mH_obj ha, m_g0 ha, m_g1 ha, m_g2 ha, m_g3 ha, m_g4 ha, m_g5 ha, m_g6 ha, m_g7 ha, m_g8 ha, m_g9 ha, m_g10 ha, m_g11 ha, m_g12 ha, m_g13 ha, m_g14 ha, m_g15 ha, m_g16 ha, m_g17 ha, m_g18 ha, m_g19 ha, m_g20 ha, m_p3 ha, m_p7 ha, m_p8 ha, m_p9 ha, m_p12 ha, m_p16 ha, m_p17 ha, m_p18 ha, m_p19 ha, m_p20 ha, m_r1 ha, m_r2 ha, m_r3 ha, m_r4 ha, m_r5 ha, m_r6 ha, m_r7 ha, m_r8 ha, m_r9 ha, m_r10 ha, m_r11 ha, m_s1 ha, m_s2 ha, m_s3 ha, m_s4 ha, m_s5 ha, m_s6 ha, m_s7 ha, m_s8 ha, m_s9 ha, m_s10 ha, m_s11 ha, zI_add, zI_sub, zI_mul, zI_neg, zL_add, zL_sub, zL_mul, Option.bind_some, Option.toList_some, Option.toList_none, List.cons_append, List.nil_append, zI_lt, zI_le, zI_eq, zI_eq0, zI_lt0, zI_le0, zI_0lt, zI_0le, bZ_e0, Int.add_zero, Int.zero_add]
      rw [if_pos (by omega)]
      simp (disch := first | omega | assumption) only [s_X8_findStand_52, s_X8_findStand_55, s_X8_findStand_56, s_X8_findStand_57, s_X8_findStand_60, s_X8_findStand_61, s_X8_findStand_64, mH_obj ha, m_g0 ha, m_g1 ha, m_g2 ha, m_g3 ha, m_g4 ha, m_g5 ha, m_g6 ha, m_g7 ha, m_g8 ha, m_g9 ha, m_g10 ha, m_g11 ha, m_g12 ha, m_g13 ha, m_g14 ha, m_g15 ha, m_g16 ha, m_g17 ha, m_g18 ha, m_g19 ha, m_g20 ha, m_p3 ha, m_p7 ha, m_p8 ha, m_p9 ha, m_p12 ha, m_p16 ha, m_p17 ha, m_p18 ha, m_p19 ha, m_p20 ha, m_r1 ha, m_r2 ha, m_r3 ha, m_r4 ha, m_r5 ha, m_r6 ha, m_r7 ha, m_r8 ha, m_r9 ha, m_r10 ha, m_r11 ha, m_s1 ha, m_s2 ha, m_s3 ha, m_s4 ha, m_s5 ha, m_s6 ha, m_s7 ha, m_s8 ha, m_s9 ha, m_s10 ha, m_s11 ha, zI_add, zI_sub, zI_mul, zI_neg, zL_add, zL_sub, zL_mul, Option.bind_some, Option.toList_some, Option.toList_none, List.cons_append, List.nil_append, zI_lt, zI_le, zI_eq, zI_eq0, zI_lt0, zI_le0, zI_0lt, zI_0le, bZ_e0, Int.add_zero, Int.zero_add, c_greater]
      rw [show max s.1 (-1) = s.1 by omega, h19]
      exact ih (q + 1) s (up2 t' 0 19 s.2) _ (hv.trans (vS_up (by decide))) up2_s (by omega) (by omega) hs0 hs1
    · rw [if_neg z]
      have hmn := c_minute (d := d) (t := t') (lev := 0) (one := q) (other := -1) ha (by decide) (mnOk_vS hv hok) (by omega) (by decide)
      rw [hv.w] at hmn
      have ev : mnW t' 0 (lgL t' q (-1)) (t 1 5).toNat = stV t q := by
        rw [lgL_vS hv, mnW_vS hv (by omega)]
        rfl
      rw [ev] at hmn
      have hvm : vS t (mnT t' 0 (lgL t' q (-1)) (t 1 5).toNat) := hv.trans vS_mn
      have hrg : 0 ≤ stV t q ∧ stV t q ≤ 900 := mnW_rg hok (by omega)
      have h19m : mnT t' 0 (lgL t' q (-1)) (t 1 5).toNat 0 19 = s.2 := by rw [mnT_o (by omega) (by omega)]; exact h19
      generalize mnT t' 0 (lgL t' q (-1)) (t 1 5).toNat = t2 at *
      simp (disch := first | omega | assumption) only [s_X8_findStand_30, s_X8_findStand_31, s_X8_findStand_32, s_X8_findStand_33, s_X8_findStand_34, s_X8_findStand_37, s_X8_findStand_38, s_X8_findStand_39, s_X8_findStand_40, s_X8_findStand_41, s_X8_findStand_44, s_X8_findStand_45, s_X8_findStand_48, s_X8_findStand_49, mH_obj ha, m_g0 ha, m_g1 ha, m_g2 ha, m_g3 ha, m_g4 ha, m_g5 ha, m_g6 ha, m_g7 ha, m_g8 ha, m_g9 ha, m_g10 ha, m_g11 ha, m_g12 ha, m_g13 ha, m_g14 ha, m_g15 ha, m_g16 ha, m_g17 ha, m_g18 ha, m_g19 ha, m_g20 ha, m_p3 ha, m_p7 ha, m_p8 ha, m_p9 ha, m_p12 ha, m_p16 ha, m_p17 ha, m_p18 ha, m_p19 ha, m_p20 ha, m_r1 ha, m_r2 ha, m_r3 ha, m_r4 ha, m_r5 ha, m_r6 ha, m_r7 ha, m_r8 ha, m_r9 ha, m_r10 ha, m_r11 ha, m_s1 ha, m_s2 ha, m_s3 ha, m_s4 ha, m_s5 ha, m_s6 ha, m_s7 ha, m_s8 ha, m_s9 ha, m_s10 ha, m_s11 ha, zI_add, zI_sub, zI_mul, zI_neg, zL_add, zL_sub, zL_mul, Option.bind_some, Option.toList_some, Option.toList_none, List.cons_append, List.nil_append, zI_lt, zI_le, zI_eq, zI_eq0, zI_lt0, zI_le0, zI_0lt, zI_0le, bZ_e0, Int.add_zero, Int.zero_add, hmn, h19m, x_j1]
      by_cases z2 : s.1 < stV t q
      · rw [if_neg (show ¬ stV t q ≤ s.1 by omega), if_pos (show (!hasB (t 1 4) q) = true ∧ s.1 < stV t q from ⟨by simpa using z, z2⟩)]
        simp (disch := first | omega | assumption) only [s_X8_findStand_52, s_X8_findStand_55, s_X8_findStand_56, s_X8_findStand_57, s_X8_findStand_60, s_X8_findStand_61, s_X8_findStand_64, mH_obj ha, m_g0 ha, m_g1 ha, m_g2 ha, m_g3 ha, m_g4 ha, m_g5 ha, m_g6 ha, m_g7 ha, m_g8 ha, m_g9 ha, m_g10 ha, m_g11 ha, m_g12 ha, m_g13 ha, m_g14 ha, m_g15 ha, m_g16 ha, m_g17 ha, m_g18 ha, m_g19 ha, m_g20 ha, m_p3 ha, m_p7 ha, m_p8 ha, m_p9 ha, m_p12 ha, m_p16 ha, m_p17 ha, m_p18 ha, m_p19 ha, m_p20 ha, m_r1 ha, m_r2 ha, m_r3 ha, m_r4 ha, m_r5 ha, m_r6 ha, m_r7 ha, m_r8 ha, m_r9 ha, m_r10 ha, m_r11 ha, m_s1 ha, m_s2 ha, m_s3 ha, m_s4 ha, m_s5 ha, m_s6 ha, m_s7 ha, m_s8 ha, m_s9 ha, m_s10 ha, m_s11 ha, zI_add, zI_sub, zI_mul, zI_neg, zL_add, zL_sub, zL_mul, Option.bind_some, Option.toList_some, Option.toList_none, List.cons_append, List.nil_append, zI_lt, zI_le, zI_eq, zI_eq0, zI_lt0, zI_le0, zI_0lt, zI_0le, bZ_e0, Int.add_zero, Int.zero_add, c_greater]
        rw [show max s.1 (stV t q) = stV t q by omega]
        exact ih (q + 1) (stV t q, q) (up2 t2 0 19 q) _ (hvm.trans (vS_up (by decide))) up2_s (by omega) (by omega) (by dsimp only; omega) (by dsimp only; omega)
      · rw [if_pos (show stV t q ≤ s.1 by omega), if_neg (show ¬ ((!hasB (t 1 4) q) = true ∧ s.1 < stV t q) from fun w => z2 w.2)]
        simp (disch := first | omega | assumption) only [s_X8_findStand_52, s_X8_findStand_55, s_X8_findStand_56, s_X8_findStand_57, s_X8_findStand_60, s_X8_findStand_61, s_X8_findStand_64, mH_obj ha, m_g0 ha, m_g1 ha, m_g2 ha, m_g3 ha, m_g4 ha, m_g5 ha, m_g6 ha, m_g7 ha, m_g8 ha, m_g9 ha, m_g10 ha, m_g11 ha, m_g12 ha, m_g13 ha, m_g14 ha, m_g15 ha, m_g16 ha, m_g17 ha, m_g18 ha, m_g19 ha, m_g20 ha, m_p3 ha, m_p7 ha, m_p8 ha, m_p9 ha, m_p12 ha, m_p16 ha, m_p17 ha, m_p18 ha, m_p19 ha, m_p20 ha, m_r1 ha, m_r2 ha, m_r3 ha, m_r4 ha, m_r5 ha, m_r6 ha, m_r7 ha, m_r8 ha, m_r9 ha, m_r10 ha, m_r11 ha, m_s1 ha, m_s2 ha, m_s3 ha, m_s4 ha, m_s5 ha, m_s6 ha, m_s7 ha, m_s8 ha, m_s9 ha, m_s10 ha, m_s11 ha, zI_add, zI_sub, zI_mul, zI_neg, zL_add, zL_sub, zL_mul, Option.bind_some, Option.toList_some, Option.toList_none, List.cons_append, List.nil_append, zI_lt, zI_le, zI_eq, zI_eq0, zI_lt0, zI_le0, zI_0lt, zI_0le, bZ_e0, Int.add_zero, Int.zero_add, c_greater]
        rw [show max s.1 (stV t q) = s.1 by omega]
        exact ih (q + 1) s (up2 t2 0 19 s.2) _ (hvm.trans (vS_up (by decide))) up2_s (by omega) (by omega) hs0 hs1
theorem c_findStand (ha : a + 12 ≤ h.1) (hok : mnOk t 0) (hq0 : 0 ≤ sqN t 0) (hq : sqN t 0 ≤ 25) : ∃ t'', vS t t'' ∧ t'' 0 19 = (stS t (-1, t 0 19)).2 ∧ x_cl (d + 3) n_X8_findStand [.ref a] (mH h a t) = some (some (.int (zI (stS t (-1, t 0 19)).1)), mH h a t'') := by
  simp only [e_X8_findStand, s_X8_findStand_0, s_X8_findStand_1, s_X8_findStand_2, s_X8_findStand_3]
  exact l_findStand (l3 := .null) ha hok hq0 hq (sqN t 0).toNat 0 (-1, t 0 19) t .null vS.rfl' rfl (by omega) (by decide) (by dsimp only; omega) (by dsimp only; omega)
theorem scG_1 (u c : Int → Int) (ok : Int → Bool) : ∀ (n : Nat) (q : Int) (s s' : Int × Int), s.1 = s'.1 → (scG u c ok n q s).1 = (scG u c ok n q s').1 := by
  intro n
  induction n with
  | zero => intro q s s' e; exact e
  | succ n ih =>
    intro q s s' e
    rw [scG, scG, e]
    split
    · exact ih _ _ _ rfl
    · exact ih _ _ _ e
theorem scG_rg {u c : Int → Int} {ok : Int → Bool} {B : Int} (hu : ∀ q, u q ≤ B) : ∀ (n : Nat) (q : Int) (s : Int × Int), s.1 ≤ B → s.1 ≤ (scG u c ok n q s).1 ∧ (scG u c ok n q s).1 ≤ B := by
  intro n
  induction n with
  | zero => intro q s hs; exact ⟨Int.le_refl _, hs⟩
  | succ n ih =>
    intro q s hs
    rw [scG]
    split
    · rename_i z
      have := ih (q + 1) (u q, c q) (hu q)
      exact ⟨by have := this.1; dsimp only at this; omega, this.2⟩
    · exact ih _ _ hs
/-- the worth of STAND -/
def stB (t : Nat → Nat → Int) : Int := (stS t (-1, 0)).1
theorem stS_1 {s : Int} : (stS t (-1, s)).1 = stB t := scG_1 _ _ _ _ _ _ _ rfl
theorem stV_rg {q : Int} (hok : mnOk t 0) : 0 ≤ stV t q ∧ stV t q ≤ 900 := mnW_rg hok (by have := hok.2.1; omega)
theorem stB_rg (hok : mnOk t 0) : -1 ≤ stB t ∧ stB t ≤ 900 := by
  have := scG_rg (u := stV t) (c := id) (ok := fun q => !hasB (t 1 4) q) (B := 900) (fun q => (stV_rg hok).2) (sqN t 0).toNat 0 (-1, 0) (by decide)
  exact this
theorem stB_vS {t' : Nat → Nat → Int} (p : vS t t') (h5 : t 1 5 ≤ 5) : stB t' = stB t := by
  unfold stB stS
  rw [p.w, sqN_vS p, show stV t' = stV t from funext fun q => stV_vS p h5]
theorem bg_ok (ho : nowOk t) : mnOk (bgT t 0) 0 := by
  obtain ⟨ho, hW, h46, hR⟩ := ho
  have o5 : 0 ≤ t 1 5 ∧ t 1 5 ≤ 5 := ho.2.1
  have e : ∀ j, bgT t 0 1 j = t 1 j := fun j => bgT_o (by omega)
  refine ⟨by rw [e]; exact hW, by rw [e]; exact o5, fun p h0 h1 => ?_⟩
  rw [e] at h1
  obtain ⟨r1, r2, r3, r4, -, -⟩ := hR p h0 h1
  have r0 := ho.2.2.1 p h0 h1
  rw [show (0 + 6 + p).toNat = (6 + p).toNat by omega] at r0
  rw [e, e, e, bgT_7 (by omega) (by omega), bgT_8 (by omega) (by omega), show 31 + (5 * 0 + p).toNat = (31 + p).toNat by omega, show 36 + (5 * 0 + p).toNat = (36 + p).toNat by omega]
  exact ⟨r0, r1, r2, r3, r4⟩
theorem bg_1 {j : Nat} : bgT t 0 1 j = t 1 j := bgT_o (by omega)
/-- alike for all that lasts -/
def vL (t t' : Nat → Nat → Int) : Prop := (∀ i j, 1 ≤ i → i ≤ 4 → t' i j = t i j) ∧ t' 0 3 = t 0 3
theorem vL.rfl' : vL t t := ⟨fun _ _ _ _ => rfl, rfl⟩
theorem vL.trans {t1 t2 t3 : Nat → Nat → Int} (p : vL t1 t2) (q : vL t2 t3) : vL t1 t3 := ⟨fun i j h1 h2 => (q.1 i j h1 h2).trans (p.1 i j h1 h2), q.2.trans p.2⟩
theorem vS.L {t' : Nat → Nat → Int} (p : vS t t') : vL t t' := ⟨fun i j h1 h2 => p.1 i j h1 (by omega), p.2.1⟩
theorem vL_bg : vL t (bgT t 0) := ⟨fun i j h1 h2 => bgT_o (by omega), bgT_o (by omega)⟩
def aStand (t : Nat → Nat → Int) (w : Int) : Int := if w = 0 then (stS (bgT t 0) (-1, t 0 19)).2 else stB (bgT t 0)
theorem m_stand {w : Int} (ha : a + 12 ≤ h.1) (h2 : -2147483648 ≤ w) (h3 : w < 2147483648) (ho : nowOk t) : ∃ t', (if 0 ≤ w ∧ w ≤ 1 then vL t t' else t' = metT t (-2)) ∧ x_cl (d + 4) n_X8_stand [.ref a, .int (zI w)] (mH h a t) = some (some (.int (zI (if 0 ≤ w ∧ w ≤ 1 then aStand t w else -2))), mH h a t') := by
  by_cases z : 0 ≤ w ∧ w ≤ 1
  · obtain ⟨t', hv, h19, hcl⟩ := c_findStand (d := d) (t := bgT t 0) (h := h) (a := a) ha (bg_ok ho) (by show 0 ≤ bgT t 0 1 0 * bgT t 0 1 1; rw [bg_1, bg_1]; exact ho.1.1.1) (by show bgT t 0 1 0 * bgT t 0 1 1 ≤ 25; rw [bg_1, bg_1]; exact ho.1.1.2)
    rw [stS_1] at hcl
    rw [show bgT t 0 0 19 = t 0 19 from bgT_o (by omega)] at h19
    refine ⟨t', by rw [if_pos z]; exact vL_bg.trans hv.L, ?_⟩
    simp (disch := first | omega | assumption) only [e_X8_stand, s_X8_stand_0, s_X8_stand_1, s_X8_stand_2, s_X8_stand_3, s_X8_stand_4, s_X8_stand_7, mH_obj ha, m_g0 ha, m_g1 ha, m_g2 ha, m_g3 ha, m_g4 ha, m_g5 ha, m_g6 ha, m_g7 ha, m_g8 ha, m_g9 ha, m_g10 ha, m_g11 ha, m_g12 ha, m_g13 ha, m_g14 ha, m_g15 ha, m_g16 ha, m_g17 ha, m_g18 ha, m_g19 ha, m_g20 ha, m_p3 ha, m_p7 ha, m_p8 ha, m_p9 ha, m_p12 ha, m_p16 ha, m_p17 ha, m_p18 ha, m_p19 ha, m_p20 ha, m_r1 ha, m_r2 ha, m_r3 ha, m_r4 ha, m_r5 ha, m_r6 ha, m_r7 ha, m_r8 ha, m_r9 ha, m_r10 ha, m_r11 ha, m_s1 ha, m_s2 ha, m_s3 ha, m_s4 ha, m_s5 ha, m_s6 ha, m_s7 ha, m_s8 ha, m_s9 ha, m_s10 ha, m_s11 ha, zI_add, zI_sub, zI_mul, zI_neg, zL_add, zL_sub, zL_mul, Option.bind_some, Option.toList_some, Option.toList_none, List.cons_append, List.nil_append, zI_lt, zI_le, zI_eq, zI_eq0, zI_lt0, zI_le0, zI_0lt, zI_0le, bZ_e0, Int.add_zero, Int.zero_add, zI_64, c_in, ite_not]
    rw [if_pos z, if_pos z]
    simp (disch := first | omega | assumption) only [s_X8_stand_17, s_X8_stand_18, s_X8_stand_21, s_X8_stand_22, s_X8_stand_25, s_X8_stand_26, s_X8_stand_27, s_X8_stand_30, s_X8_stand_31, s_X8_stand_34, s_X8_stand_37, s_X8_stand_38, mH_obj ha, m_g0 ha, m_g1 ha, m_g2 ha, m_g3 ha, m_g4 ha, m_g5 ha, m_g6 ha, m_g7 ha, m_g8 ha, m_g9 ha, m_g10 ha, m_g11 ha, m_g12 ha, m_g13 ha, m_g14 ha, m_g15 ha, m_g16 ha, m_g17 ha, m_g18 ha, m_g19 ha, m_g20 ha, m_p3 ha, m_p7 ha, m_p8 ha, m_p9 ha, m_p12 ha, m_p16 ha, m_p17 ha, m_p18 ha, m_p19 ha, m_p20 ha, m_r1 ha, m_r2 ha, m_r3 ha, m_r4 ha, m_r5 ha, m_r6 ha, m_r7 ha, m_r8 ha, m_r9 ha, m_r10 ha, m_r11 ha, m_s1 ha, m_s2 ha, m_s3 ha, m_s4 ha, m_s5 ha, m_s6 ha, m_s7 ha, m_s8 ha, m_s9 ha, m_s10 ha, m_s11 ha, zI_add, zI_sub, zI_mul, zI_neg, zL_add, zL_sub, zL_mul, Option.bind_some, Option.toList_some, Option.toList_none, List.cons_append, List.nil_append, zI_lt, zI_le, zI_eq, zI_eq0, zI_lt0, zI_le0, zI_0lt, zI_0le, bZ_e0, Int.add_zero, Int.zero_add, c_beginNow ha, hcl]
    unfold aStand
    rw [h19]
    by_cases z2 : w = 0
    · rw [if_pos z2, if_pos z2]
    · rw [if_neg z2, if_neg z2]
  · refine ⟨metT t (-2), by rw [if_neg z], ?_⟩
    simp (disch := first | omega | assumption) only [e_X8_stand, s_X8_stand_0, s_X8_stand_1, s_X8_stand_2, s_X8_stand_3, s_X8_stand_4, s_X8_stand_7, s_X8_stand_10, s_X8_stand_11, s_X8_stand_13, s_X8_stand_16, mH_obj ha, m_g0 ha, m_g1 ha, m_g2 ha, m_g3 ha, m_g4 ha, m_g5 ha, m_g6 ha, m_g7 ha, m_g8 ha, m_g9 ha, m_g10 ha, m_g11 ha, m_g12 ha, m_g13 ha, m_g14 ha, m_g15 ha, m_g16 ha, m_g17 ha, m_g18 ha, m_g19 ha, m_g20 ha, m_p3 ha, m_p7 ha, m_p8 ha, m_p9 ha, m_p12 ha, m_p16 ha, m_p17 ha, m_p18 ha, m_p19 ha, m_p20 ha, m_r1 ha, m_r2 ha, m_r3 ha, m_r4 ha, m_r5 ha, m_r6 ha, m_r7 ha, m_r8 ha, m_r9 ha, m_r10 ha, m_r11 ha, m_s1 ha, m_s2 ha, m_s3 ha, m_s4 ha, m_s5 ha, m_s6 ha, m_s7 ha, m_s8 ha, m_s9 ha, m_s10 ha, m_s11 ha, zI_add, zI_sub, zI_mul, zI_neg, zL_add, zL_sub, zL_mul, Option.bind_some, Option.toList_some, Option.toList_none, List.cons_append, List.nil_append, zI_lt, zI_le, zI_eq, zI_eq0, zI_lt0, zI_le0, zI_0lt, zI_0le, bZ_e0, Int.add_zero, Int.zero_add, zI_64, c_in, c_met ha, ite_not]
    rw [if_neg z, if_neg z]
end

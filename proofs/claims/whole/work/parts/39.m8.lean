/-! THE REFERENCE, part 8: a minute for all, minutes kept, burnt, undone -/
section
variable {h : xH} {a : Nat} {t : Nat → Nat → Int} {d : Nat}
theorem dutF_congr {f g : Int → Int} : ∀ (n : Nat) (k v : Int), (∀ j, k ≤ j → j < k + n → f j = g j) → dutF f n k v = dutF g n k v := by
  intro n
  induction n with
  | zero => intro k v _; rfl
  | succ n ih =>
    intro k v hfg
    rw [dutF, dutF, hfg k (by omega) (by omega)]
    exact ih _ _ fun j h1 h2 => hfg j (by omega) (by omega)
theorem rdS_congr {knd p l : Int} {f f' g g' : Int → Int} (hp : 0 ≤ p) (h1 : ∀ k, 0 ≤ k → k ≤ p → f k = f' k) (h2 : g p = g' p) : rdS knd p l f g = rdS knd p l f' g' := by
  unfold rdS
  rw [h2, h1 p hp (by omega), dutF_congr (g := f') p.toNat 0 (l / 4) fun j h3 h4 => h1 j h3 (by omega)]
theorem rdS_rg {knd p l : Int} {f g : Int → Int} (h0 : 0 ≤ f p) : 0 ≤ rdS knd p l f g ∧ rdS knd p l f g ≤ f p := by
  unfold rdS
  omega
theorem mnT_1 {lev : Int} {L : Int → Int} {n j : Nat} : mnT t lev L n 1 j = t 1 j := by
  unfold mnT
  rw [if_neg (by omega), if_neg (by omega), if_neg (by omega)]
theorem mnT_7 {lev : Int} {L : Int → Int} {n j : Nat} (hj : (j : Int) < 5 * lev + 5) : mnT t lev L n 7 j = t 7 j := by
  unfold mnT
  rw [if_neg (by omega), if_neg (by omega), if_neg (by omega)]
theorem mnT_8 {lev : Int} {L : Int → Int} {n j : Nat} (hj : (j : Int) < 5 * lev + 5) : mnT t lev L n 8 j = t 8 j := by
  unfold mnT
  rw [if_neg (by omega), if_neg (by omega), if_neg (by omega)]
theorem mnT_p {lev : Int} {L : Int → Int} {n : Nat} : mnT t lev L n 0 12 = sumF (rdT t lev L) n := by
  unfold mnT
  rw [if_neg (by omega), if_neg (by omega), if_pos ⟨rfl, rfl⟩]
/-- what a minute of a level needs -/
def mnOk (t : Nat → Nat → Int) (lev : Int) : Prop := (2 ≤ t 1 0 ∧ t 1 0 ≤ 5) ∧ (0 ≤ t 1 5 ∧ t 1 5 ≤ 5) ∧ ∀ p, 0 ≤ p → p < t 1 5 → (0 ≤ t 1 (6 + p).toNat ∧ t 1 (6 + p).toNat < 25) ∧ (0 ≤ t 1 (11 + p).toNat ∧ t 1 (11 + p).toNat ≤ 5) ∧ (0 ≤ t 1 (21 + p).toNat ∧ t 1 (21 + p).toNat ≤ 9) ∧ (0 ≤ t 7 (5 * lev + p).toNat ∧ t 7 (5 * lev + p).toNat ≤ 20) ∧ (0 ≤ t 8 (5 * lev + p).toNat ∧ t 8 (5 * lev + p).toNat ≤ 1)
theorem g_minute {lev one other p : Int} {w4 l6 l7 : Value} (ha : a + 12 ≤ h.1) (h1 : 2 ≤ t 1 0 ∧ t 1 0 ≤ 5) (h0 : 0 ≤ p) (h5 : p < 5) (hs : 0 ≤ t 1 (6 + p).toNat ∧ t 1 (6 + p).toNat < 25) (ho : -1 ≤ one ∧ one < 25) (hp : -1 ≤ other ∧ other < 25) :
    x_ev (d + 2, n_X8_minute, 22, [.ref a, .int (zI lev), .int (zI one), .int (zI other), w4, .int (zI p), l6, l7], [], mH h a t) = x_ev (d + 2, n_X8_minute, 81, [.ref a, .int (zI lev), .int (zI one), .int (zI other), w4, .int (zI p), .int (zI (lgL t one other p)), l7], [], mH h a t) := by
  have s1 : x_ev (d + 2, n_X8_minute, 22, [.ref a, .int (zI lev), .int (zI one), .int (zI other), w4, .int (zI p), l6, l7], [], mH h a t) = x_ev (d + 2, n_X8_minute, 45, [.ref a, .int (zI lev), .int (zI one), .int (zI other), w4, .int (zI p), l6, l7], [.int (zI (lg1 t one p))], mH h a t) := by
    unfold lg1
    simp (disch := first | omega | assumption) only [s_X8_minute_22, s_X8_minute_23, mH_obj ha, m_g0 ha, m_g1 ha, m_g2 ha, m_g3 ha, m_g4 ha, m_g5 ha, m_g6 ha, m_g7 ha, m_g8 ha, m_g9 ha, m_g10 ha, m_g11 ha, m_g12 ha, m_g13 ha, m_g14 ha, m_g15 ha, m_g16 ha, m_g17 ha, m_g18 ha, m_g19 ha, m_g20 ha, m_p3 ha, m_p7 ha, m_p8 ha, m_p9 ha, m_p12 ha, m_p16 ha, m_p17 ha, m_p18 ha, m_p19 ha, m_p20 ha, m_r1 ha, m_r2 ha, m_r3 ha, m_r4 ha, m_r5 ha, m_r6 ha, m_r7 ha, m_r8 ha, m_r9 ha, m_r10 ha, m_r11 ha, m_s1 ha, m_s2 ha, m_s3 ha, m_s4 ha, m_s5 ha, m_s6 ha, m_s7 ha, m_s8 ha, m_s9 ha, m_s10 ha, m_s11 ha, zI_add, zI_sub, zI_mul, zI_neg, zL_add, zL_sub, zL_mul, Option.bind_some, Option.toList_some, Option.toList_none, List.cons_append, List.nil_append, zI_lt, zI_le, zI_eq, zI_eq0, zI_lt0, zI_le0, zI_0lt, zI_0le, bZ_e0, Int.add_zero, Int.zero_add]
    by_cases q : 0 ≤ one
    · rw [if_pos q, if_pos q]
      simp (disch := first | omega | assumption) only [s_X8_minute_30, s_X8_minute_31, s_X8_minute_32, s_X8_minute_35, s_X8_minute_37, s_X8_minute_39, s_X8_minute_40, s_X8_minute_41, s_X8_minute_42, mH_obj ha, m_g0 ha, m_g1 ha, m_g2 ha, m_g3 ha, m_g4 ha, m_g5 ha, m_g6 ha, m_g7 ha, m_g8 ha, m_g9 ha, m_g10 ha, m_g11 ha, m_g12 ha, m_g13 ha, m_g14 ha, m_g15 ha, m_g16 ha, m_g17 ha, m_g18 ha, m_g19 ha, m_g20 ha, m_p3 ha, m_p7 ha, m_p8 ha, m_p9 ha, m_p12 ha, m_p16 ha, m_p17 ha, m_p18 ha, m_p19 ha, m_p20 ha, m_r1 ha, m_r2 ha, m_r3 ha, m_r4 ha, m_r5 ha, m_r6 ha, m_r7 ha, m_r8 ha, m_r9 ha, m_r10 ha, m_r11 ha, m_s1 ha, m_s2 ha, m_s3 ha, m_s4 ha, m_s5 ha, m_s6 ha, m_s7 ha, m_s8 ha, m_s9 ha, m_s10 ha, m_s11 ha, zI_add, zI_sub, zI_mul, zI_neg, zL_add, zL_sub, zL_mul, Option.bind_some, Option.toList_some, Option.toList_none, List.cons_append, List.nil_append, zI_lt, zI_le, zI_eq, zI_eq0, zI_lt0, zI_le0, zI_0lt, zI_0le, bZ_e0, Int.add_zero, Int.zero_add, c_lightOf ha]
    · rw [if_neg q, if_neg q]
      simp (disch := first | omega | assumption) only [s_X8_minute_26, s_X8_minute_27, mH_obj ha, m_g0 ha, m_g1 ha, m_g2 ha, m_g3 ha, m_g4 ha, m_g5 ha, m_g6 ha, m_g7 ha, m_g8 ha, m_g9 ha, m_g10 ha, m_g11 ha, m_g12 ha, m_g13 ha, m_g14 ha, m_g15 ha, m_g16 ha, m_g17 ha, m_g18 ha, m_g19 ha, m_g20 ha, m_p3 ha, m_p7 ha, m_p8 ha, m_p9 ha, m_p12 ha, m_p16 ha, m_p17 ha, m_p18 ha, m_p19 ha, m_p20 ha, m_r1 ha, m_r2 ha, m_r3 ha, m_r4 ha, m_r5 ha, m_r6 ha, m_r7 ha, m_r8 ha, m_r9 ha, m_r10 ha, m_r11 ha, m_s1 ha, m_s2 ha, m_s3 ha, m_s4 ha, m_s5 ha, m_s6 ha, m_s7 ha, m_s8 ha, m_s9 ha, m_s10 ha, m_s11 ha, zI_add, zI_sub, zI_mul, zI_neg, zL_add, zL_sub, zL_mul, Option.bind_some, Option.toList_some, Option.toList_none, List.cons_append, List.nil_append, zI_lt, zI_le, zI_eq, zI_eq0, zI_lt0, zI_le0, zI_0lt, zI_0le, bZ_e0, Int.add_zero, Int.zero_add]
  rw [s1]
  have e1 : 0 ≤ lg1 t one p ∧ lg1 t one p ≤ 12 := by
    have := lgt_rg (t 1 0) (t 1 4) (t 1 (6 + p).toNat) one
    unfold lg1
    split <;> omega
  have e2 := lgt_rg (t 1 0) (t 1 4) (t 1 (6 + p).toNat) other
  unfold lgL
  generalize lg1 t one p = l1 at *
  simp (disch := first | omega | assumption) only [s_X8_minute_45, s_X8_minute_47, s_X8_minute_48, mH_obj ha, m_g0 ha, m_g1 ha, m_g2 ha, m_g3 ha, m_g4 ha, m_g5 ha, m_g6 ha, m_g7 ha, m_g8 ha, m_g9 ha, m_g10 ha, m_g11 ha, m_g12 ha, m_g13 ha, m_g14 ha, m_g15 ha, m_g16 ha, m_g17 ha, m_g18 ha, m_g19 ha, m_g20 ha, m_p3 ha, m_p7 ha, m_p8 ha, m_p9 ha, m_p12 ha, m_p16 ha, m_p17 ha, m_p18 ha, m_p19 ha, m_p20 ha, m_r1 ha, m_r2 ha, m_r3 ha, m_r4 ha, m_r5 ha, m_r6 ha, m_r7 ha, m_r8 ha, m_r9 ha, m_r10 ha, m_r11 ha, m_s1 ha, m_s2 ha, m_s3 ha, m_s4 ha, m_s5 ha, m_s6 ha, m_s7 ha, m_s8 ha, m_s9 ha, m_s10 ha, m_s11 ha, zI_add, zI_sub, zI_mul, zI_neg, zL_add, zL_sub, zL_mul, Option.bind_some, Option.toList_some, Option.toList_none, List.cons_append, List.nil_append, zI_lt, zI_le, zI_eq, zI_eq0, zI_lt0, zI_le0, zI_0lt, zI_0le, bZ_e0, Int.add_zero, Int.zero_add]
  by_cases q : 0 ≤ other
  · rw [if_pos q, if_pos q]
    simp (disch := first | omega | assumption) only [s_X8_minute_56, s_X8_minute_58, s_X8_minute_60, s_X8_minute_61, s_X8_minute_62, s_X8_minute_65, s_X8_minute_67, s_X8_minute_69, s_X8_minute_70, s_X8_minute_71, s_X8_minute_72, s_X8_minute_75, s_X8_minute_76, s_X8_minute_79, mH_obj ha, m_g0 ha, m_g1 ha, m_g2 ha, m_g3 ha, m_g4 ha, m_g5 ha, m_g6 ha, m_g7 ha, m_g8 ha, m_g9 ha, m_g10 ha, m_g11 ha, m_g12 ha, m_g13 ha, m_g14 ha, m_g15 ha, m_g16 ha, m_g17 ha, m_g18 ha, m_g19 ha, m_g20 ha, m_p3 ha, m_p7 ha, m_p8 ha, m_p9 ha, m_p12 ha, m_p16 ha, m_p17 ha, m_p18 ha, m_p19 ha, m_p20 ha, m_r1 ha, m_r2 ha, m_r3 ha, m_r4 ha, m_r5 ha, m_r6 ha, m_r7 ha, m_r8 ha, m_r9 ha, m_r10 ha, m_r11 ha, m_s1 ha, m_s2 ha, m_s3 ha, m_s4 ha, m_s5 ha, m_s6 ha, m_s7 ha, m_s8 ha, m_s9 ha, m_s10 ha, m_s11 ha, zI_add, zI_sub, zI_mul, zI_neg, zL_add, zL_sub, zL_mul, Option.bind_some, Option.toList_some, Option.toList_none, List.cons_append, List.nil_append, zI_lt, zI_le, zI_eq, zI_eq0, zI_lt0, zI_le0, zI_0lt, zI_0le, bZ_e0, Int.add_zero, Int.zero_add, c_lightOf ha, c_lesser]
  · rw [if_neg q, if_neg q]
    simp (disch := first | omega | assumption) only [s_X8_minute_51, s_X8_minute_53, s_X8_minute_79, mH_obj ha, m_g0 ha, m_g1 ha, m_g2 ha, m_g3 ha, m_g4 ha, m_g5 ha, m_g6 ha, m_g7 ha, m_g8 ha, m_g9 ha, m_g10 ha, m_g11 ha, m_g12 ha, m_g13 ha, m_g14 ha, m_g15 ha, m_g16 ha, m_g17 ha, m_g18 ha, m_g19 ha, m_g20 ha, m_p3 ha, m_p7 ha, m_p8 ha, m_p9 ha, m_p12 ha, m_p16 ha, m_p17 ha, m_p18 ha, m_p19 ha, m_p20 ha, m_r1 ha, m_r2 ha, m_r3 ha, m_r4 ha, m_r5 ha, m_r6 ha, m_r7 ha, m_r8 ha, m_r9 ha, m_r10 ha, m_r11 ha, m_s1 ha, m_s2 ha, m_s3 ha, m_s4 ha, m_s5 ha, m_s6 ha, m_s7 ha, m_s8 ha, m_s9 ha, m_s10 ha, m_s11 ha, zI_add, zI_sub, zI_mul, zI_neg, zL_add, zL_sub, zL_mul, Option.bind_some, Option.toList_some, Option.toList_none, List.cons_append, List.nil_append, zI_lt, zI_le, zI_eq, zI_eq0, zI_lt0, zI_le0, zI_0lt, zI_0le, bZ_e0, Int.add_zero, Int.zero_add]
theorem mnT_7h {lev : Int} {L : Int → Int} {n j : Nat} (h1 : 5 * lev + 5 ≤ j) (h2 : (j : Int) < 5 * lev + 5 + n) : mnT t lev L n 7 j = t 7 (j - 5) - rdT t lev L ((j : Int) - 5 - 5 * lev) := by
  unfold mnT
  exact if_pos ⟨rfl, h1, h2⟩
theorem mnT_8h {lev : Int} {L : Int → Int} {n j : Nat} (h1 : 5 * lev + 5 ≤ j) (h2 : (j : Int) < 5 * lev + 5 + n) : mnT t lev L n 8 j = (if 0 < L ((j : Int) - 5 - 5 * lev) ∧ 0 < rdT t lev L ((j : Int) - 5 - 5 * lev) then 1 else 0) := by
  unfold mnT
  exact (if_neg (by omega)).trans (if_pos ⟨rfl, h1, h2⟩)
theorem mnT_o {lev : Int} {L : Int → Int} {n i j : Nat} (h0 : ¬ (i = 0 ∧ j = 12)) (h1 : ¬ ((i = 7 ∨ i = 8) ∧ 5 * lev + 5 ≤ j ∧ (j : Int) < 5 * lev + 5 + n)) : mnT t lev L n i j = t i j := by
  unfold mnT
  exact (if_neg (fun z => h1 ⟨Or.inl z.1, z.2⟩)).trans ((if_neg (fun z => h1 ⟨Or.inr z.1, z.2⟩)).trans (if_neg h0))
theorem mnT_next {lev : Int} {L : Int → Int} {k : Nat} (h1 : 0 ≤ lev) (h2 : (k : Int) < 5) : up2 (up2 (up2 (mnT t lev L k) 7 (5 * lev + 5 + (k : Int)).toNat (t 7 (5 * lev + (k : Int)).toNat - rdT t lev L k)) 8 (5 * lev + 5 + (k : Int)).toNat (if 0 < L k ∧ 0 < rdT t lev L k then 1 else 0)) 0 12 (sumF (rdT t lev L) k + rdT t lev L k) = mnT t lev L (k + 1) := by
  funext i j
  by_cases q0 : i = 0 ∧ j = 12
  · rw [q0.1, q0.2, up2_s, mnT_p]; rfl
  · rw [up2_n q0]
    by_cases q8 : i = 8 ∧ j = (5 * lev + 5 + (k : Int)).toNat
    · rw [q8.1, q8.2, up2_s, mnT_8h (by omega) (by omega), show (((5 * lev + 5 + (k : Int)).toNat : Nat) : Int) - 5 - 5 * lev = k by omega]
    · rw [up2_n q8]
      by_cases q7 : i = 7 ∧ j = (5 * lev + 5 + (k : Int)).toNat
      · rw [q7.1, q7.2, up2_s, mnT_7h (by omega) (by omega), show (((5 * lev + 5 + (k : Int)).toNat : Nat) : Int) - 5 - 5 * lev = k by omega, show (5 * lev + 5 + (k : Int)).toNat - 5 = (5 * lev + (k : Int)).toNat by omega]
      · rw [up2_n q7]
        by_cases z7 : i = 7 ∧ 5 * lev + 5 ≤ j ∧ (j : Int) < 5 * lev + 5 + k
        · rw [z7.1, mnT_7h z7.2.1 z7.2.2, mnT_7h z7.2.1 (by omega)]
        · by_cases z8 : i = 8 ∧ 5 * lev + 5 ≤ j ∧ (j : Int) < 5 * lev + 5 + k
          · rw [z8.1, mnT_8h z8.2.1 z8.2.2, mnT_8h z8.2.1 (by omega)]
          · rw [mnT_o q0 (by omega), mnT_o q0 (by omega)]
theorem l_minute {lev one other : Int} (ha : a + 12 ≤ h.1) (hlev : 0 ≤ lev ∧ lev ≤ 6) (hok : mnOk t lev) (ho : -1 ≤ one ∧ one < 25) (hp : -1 ≤ other ∧ other < 25) : ∀ (n k : Nat) (l6 l7 : Value), (k : Int) + n = t 1 5 →
    x_ev (d + 2, n_X8_minute, 11, [.ref a, .int (zI lev), .int (zI one), .int (zI other), .int (zI (mnW t lev (lgL t one other) k)), .int (zI k), l6, l7], [], mH h a (mnT t lev (lgL t one other) k)) = some (some (.int (zI (mnW t lev (lgL t one other) (k + n)))), mH h a (mnT t lev (lgL t one other) (k + n))) := by
  obtain ⟨hW, hN, hR⟩ := hok
  intro n
  induction n with
  | zero =>
    intro k l6 l7 hk
    rw [s_X8_minute_11]
    simp (disch := first | omega | assumption) only [s_X8_minute_13, s_X8_minute_14, s_X8_minute_17, s_X8_minute_18, s_X8_minute_19, mH_obj ha, m_g0 ha, m_g1 ha, m_g2 ha, m_g3 ha, m_g4 ha, m_g5 ha, m_g6 ha, m_g7 ha, m_g8 ha, m_g9 ha, m_g10 ha, m_g11 ha, m_g12 ha, m_g13 ha, m_g14 ha, m_g15 ha, m_g16 ha, m_g17 ha, m_g18 ha, m_g19 ha, m_g20 ha, m_p3 ha, m_p7 ha, m_p8 ha, m_p9 ha, m_p12 ha, m_p16 ha, m_p17 ha, m_p18 ha, m_p19 ha, m_p20 ha, m_r1 ha, m_r2 ha, m_r3 ha, m_r4 ha, m_r5 ha, m_r6 ha, m_r7 ha, m_r8 ha, m_r9 ha, m_r10 ha, m_r11 ha, m_s1 ha, m_s2 ha, m_s3 ha, m_s4 ha, m_s5 ha, m_s6 ha, m_s7 ha, m_s8 ha, m_s9 ha, m_s10 ha, m_s11 ha, zI_add, zI_sub, zI_mul, zI_neg, zL_add, zL_sub, zL_mul, Option.bind_some, Option.toList_some, Option.toList_none, List.cons_append, List.nil_append, zI_lt, zI_le, zI_eq, zI_eq0, zI_lt0, zI_le0, zI_0lt, zI_0le, bZ_e0, Int.add_zero, Int.zero_add, mnT_1, Int.reduceToNat]
    rw [if_pos (by omega)]
    simp (disch := first | omega | assumption) only [s_X8_minute_182, s_X8_minute_184, mH_obj ha, m_g0 ha, m_g1 ha, m_g2 ha, m_g3 ha, m_g4 ha, m_g5 ha, m_g6 ha, m_g7 ha, m_g8 ha, m_g9 ha, m_g10 ha, m_g11 ha, m_g12 ha, m_g13 ha, m_g14 ha, m_g15 ha, m_g16 ha, m_g17 ha, m_g18 ha, m_g19 ha, m_g20 ha, m_p3 ha, m_p7 ha, m_p8 ha, m_p9 ha, m_p12 ha, m_p16 ha, m_p17 ha, m_p18 ha, m_p19 ha, m_p20 ha, m_r1 ha, m_r2 ha, m_r3 ha, m_r4 ha, m_r5 ha, m_r6 ha, m_r7 ha, m_r8 ha, m_r9 ha, m_r10 ha, m_r11 ha, m_s1 ha, m_s2 ha, m_s3 ha, m_s4 ha, m_s5 ha, m_s6 ha, m_s7 ha, m_s8 ha, m_s9 ha, m_s10 ha, m_s11 ha, zI_add, zI_sub, zI_mul, zI_neg, zL_add, zL_sub, zL_mul, Option.bind_some, Option.toList_some, Option.toList_none, List.cons_append, List.nil_append, zI_lt, zI_le, zI_eq, zI_eq0, zI_lt0, zI_le0, zI_0lt, zI_0le, bZ_e0, Int.add_zero, Int.zero_add]
    rfl
  | succ n ih =>
    intro k l6 l7 hk
    obtain ⟨r1, r2, r3, r4, r5⟩ := hR k (by omega) (by omega)
    have hL := lgL_rg t one other k
    rw [s_X8_minute_11]
    simp (disch := first | omega | assumption) only [s_X8_minute_13, s_X8_minute_14, s_X8_minute_17, s_X8_minute_18, s_X8_minute_19, mH_obj ha, m_g0 ha, m_g1 ha, m_g2 ha, m_g3 ha, m_g4 ha, m_g5 ha, m_g6 ha, m_g7 ha, m_g8 ha, m_g9 ha, m_g10 ha, m_g11 ha, m_g12 ha, m_g13 ha, m_g14 ha, m_g15 ha, m_g16 ha, m_g17 ha, m_g18 ha, m_g19 ha, m_g20 ha, m_p3 ha, m_p7 ha, m_p8 ha, m_p9 ha, m_p12 ha, m_p16 ha, m_p17 ha, m_p18 ha, m_p19 ha, m_p20 ha, m_r1 ha, m_r2 ha, m_r3 ha, m_r4 ha, m_r5 ha, m_r6 ha, m_r7 ha, m_r8 ha, m_r9 ha, m_r10 ha, m_r11 ha, m_s1 ha, m_s2 ha, m_s3 ha, m_s4 ha, m_s5 ha, m_s6 ha, m_s7 ha, m_s8 ha, m_s9 ha, m_s10 ha, m_s11 ha, zI_add, zI_sub, zI_mul, zI_neg, zL_add, zL_sub, zL_mul, Option.bind_some, Option.toList_some, Option.toList_none, List.cons_append, List.nil_append, zI_lt, zI_le, zI_eq, zI_eq0, zI_lt0, zI_le0, zI_0lt, zI_0le, bZ_e0, Int.add_zero, Int.zero_add, mnT_1, Int.reduceToNat]
    rw [if_neg (by omega)]
    rw [g_minute ha (by rw [mnT_1]; exact hW) (by omega) (by omega) (by rw [mnT_1]; exact r1) ho hp]
    have eL : lgL (mnT t lev (lgL t one other) k) one other k = lgL t one other k := by
      unfold lgL lg1
      simp only [mnT_1]
    rw [eL]
    have hrd : x_cl (d + 1) n_X8_readsBy [.ref a, .int (zI k), .int (zI (lgL t one other k)), .int (zI lev)] (mH h a (mnT t lev (lgL t one other) k)) = some (some (.int (zI (rdT t lev (lgL t one other) k))), mH h a (mnT t lev (lgL t one other) k)) := by
      rw [c_readsBy (t := mnT t lev (lgL t one other) k) ha (by omega) (by omega) (by omega) (by omega) hlev.1 hlev.2 (by rw [mnT_1]; exact r2) (fun j h1 h2 => by rw [mnT_7 (by omega)]; exact (hR j h1 (by omega)).2.2.2.1) (by rw [mnT_8 (by omega)]; exact r5)]
      rw [mnT_1]
      unfold rdT
      rw [rdS_congr (f' := fun k => t 7 (5 * lev + k).toNat) (g' := fun k => t 8 (5 * lev + k).toNat) (by omega) (fun j h1 h2 => mnT_7 (by omega)) (mnT_8 (by omega))]
    have hrr : 0 ≤ rdT t lev (lgL t one other) k ∧ rdT t lev (lgL t one other) k ≤ 20 := by
      have := rdS_rg (knd := t 1 (11 + (k : Int)).toNat) (p := k) (l := lgL t one other k) (f := fun k => t 7 (5 * lev + k).toNat) (g := fun k => t 8 (5 * lev + k).toNat) r4.1
      unfold rdT
      omega
    have e7 : ((5 * lev + (k : Int)).toNat : Int) < 5 * lev + 5 := by omega
    simp (disch := first | omega | assumption) only [s_X8_minute_81, s_X8_minute_82, s_X8_minute_84, s_X8_minute_86, s_X8_minute_87, s_X8_minute_90, s_X8_minute_92, s_X8_minute_93, s_X8_minute_96, s_X8_minute_97, s_X8_minute_98, s_X8_minute_99, s_X8_minute_100, s_X8_minute_101, s_X8_minute_103, s_X8_minute_104, s_X8_minute_105, s_X8_minute_108, s_X8_minute_109, s_X8_minute_110, s_X8_minute_111, s_X8_minute_113, s_X8_minute_114, s_X8_minute_115, s_X8_minute_117, s_X8_minute_118, s_X8_minute_119, s_X8_minute_120, s_X8_minute_123, s_X8_minute_124, s_X8_minute_125, s_X8_minute_126, s_X8_minute_127, s_X8_minute_128, s_X8_minute_130, s_X8_minute_131, s_X8_minute_133, s_X8_minute_136, s_X8_minute_138, s_X8_minute_141, s_X8_minute_142, s_X8_minute_145, mH_obj ha, m_g0 ha, m_g1 ha, m_g2 ha, m_g3 ha, m_g4 ha, m_g5 ha, m_g6 ha, m_g7 ha, m_g8 ha, m_g9 ha, m_g10 ha, m_g11 ha, m_g12 ha, m_g13 ha, m_g14 ha, m_g15 ha, m_g16 ha, m_g17 ha, m_g18 ha, m_g19 ha, m_g20 ha, m_p3 ha, m_p7 ha, m_p8 ha, m_p9 ha, m_p12 ha, m_p16 ha, m_p17 ha, m_p18 ha, m_p19 ha, m_p20 ha, m_r1 ha, m_r2 ha, m_r3 ha, m_r4 ha, m_r5 ha, m_r6 ha, m_r7 ha, m_r8 ha, m_r9 ha, m_r10 ha, m_r11 ha, m_s1 ha, m_s2 ha, m_s3 ha, m_s4 ha, m_s5 ha, m_s6 ha, m_s7 ha, m_s8 ha, m_s9 ha, m_s10 ha, m_s11 ha, zI_add, zI_sub, zI_mul, zI_neg, zL_add, zL_sub, zL_mul, Option.bind_some, Option.toList_some, Option.toList_none, List.cons_append, List.nil_append, zI_lt, zI_le, zI_eq, zI_eq0, zI_lt0, zI_le0, zI_0lt, zI_0le, bZ_e0, Int.add_zero, Int.zero_add, hrd, mnT_7, x_j1]
    have e0 : (if lgL t one other k ≤ 0 then (0 : Int) else if rdT t lev (lgL t one other) k ≤ 0 then 0 else 1) = (if 0 < lgL t one other k ∧ 0 < rdT t lev (lgL t one other) k then 1 else 0) := by
      by_cases z1 : lgL t one other k ≤ 0
      · rw [if_pos z1, if_neg (by omega)]
      · rw [if_neg z1]
        by_cases z2 : rdT t lev (lgL t one other) k ≤ 0
        · rw [if_pos z2, if_neg (by omega)]
        · rw [if_neg z2, if_pos (by omega)]
    rw [e0]
    simp (disch := first | omega | assumption) only [s_X8_minute_146, s_X8_minute_147, s_X8_minute_149, s_X8_minute_151, s_X8_minute_152, s_X8_minute_155, s_X8_minute_157, s_X8_minute_159, s_X8_minute_160, s_X8_minute_161, s_X8_minute_162, s_X8_minute_163, s_X8_minute_165, s_X8_minute_166, s_X8_minute_167, s_X8_minute_170, s_X8_minute_172, s_X8_minute_173, s_X8_minute_176, s_X8_minute_179, mH_obj ha, m_g0 ha, m_g1 ha, m_g2 ha, m_g3 ha, m_g4 ha, m_g5 ha, m_g6 ha, m_g7 ha, m_g8 ha, m_g9 ha, m_g10 ha, m_g11 ha, m_g12 ha, m_g13 ha, m_g14 ha, m_g15 ha, m_g16 ha, m_g17 ha, m_g18 ha, m_g19 ha, m_g20 ha, m_p3 ha, m_p7 ha, m_p8 ha, m_p9 ha, m_p12 ha, m_p16 ha, m_p17 ha, m_p18 ha, m_p19 ha, m_p20 ha, m_r1 ha, m_r2 ha, m_r3 ha, m_r4 ha, m_r5 ha, m_r6 ha, m_r7 ha, m_r8 ha, m_r9 ha, m_r10 ha, m_r11 ha, m_s1 ha, m_s2 ha, m_s3 ha, m_s4 ha, m_s5 ha, m_s6 ha, m_s7 ha, m_s8 ha, m_s9 ha, m_s10 ha, m_s11 ha, zI_add, zI_sub, zI_mul, zI_neg, zL_add, zL_sub, zL_mul, Option.bind_some, Option.toList_some, Option.toList_none, List.cons_append, List.nil_append, zI_lt, zI_le, zI_eq, zI_eq0, zI_lt0, zI_le0, zI_0lt, zI_0le, bZ_e0, Int.add_zero, Int.zero_add, up2_n, mnT_1, mnT_p, mnT_next hlev.1]
    have e9 : mnW t lev (lgL t one other) k + rdT t lev (lgL t one other) k * t 1 (21 + (k : Int)).toNat = mnW t lev (lgL t one other) (k + 1) := rfl
    have e10 : (k : Int) + 1 = ((k + 1 : Nat) : Int) := by omega
    rw [e9, e10, ih (k + 1) _ _ (by omega)]
    rw [show k + 1 + n = k + (n + 1) by omega]
theorem c_minute {lev one other : Int} (ha : a + 12 ≤ h.1) (hlev : 0 ≤ lev ∧ lev ≤ 6) (hok : mnOk t lev) (ho : -1 ≤ one ∧ one < 25) (hp : -1 ≤ other ∧ other < 25) : x_cl (d + 2) n_X8_minute [.ref a, .int (zI lev), .int (zI one), .int (zI other)] (mH h a t) = some (some (.int (zI (mnW t lev (lgL t one other) (t 1 5).toNat))), mH h a (mnT t lev (lgL t one other) (t 1 5).toNat)) := by
  have e0 : up2 t 0 12 0 = mnT t lev (lgL t one other) 0 := by
    funext i j
    unfold mnT
    rw [if_neg (by omega), if_neg (by omega)]
    rfl
  simp (disch := first | omega | assumption) only [e_X8_minute, s_X8_minute_0, s_X8_minute_1, s_X8_minute_3, s_X8_minute_4, s_X8_minute_5, s_X8_minute_8, s_X8_minute_9, mH_obj ha, m_g0 ha, m_g1 ha, m_g2 ha, m_g3 ha, m_g4 ha, m_g5 ha, m_g6 ha, m_g7 ha, m_g8 ha, m_g9 ha, m_g10 ha, m_g11 ha, m_g12 ha, m_g13 ha, m_g14 ha, m_g15 ha, m_g16 ha, m_g17 ha, m_g18 ha, m_g19 ha, m_g20 ha, m_p3 ha, m_p7 ha, m_p8 ha, m_p9 ha, m_p12 ha, m_p16 ha, m_p17 ha, m_p18 ha, m_p19 ha, m_p20 ha, m_r1 ha, m_r2 ha, m_r3 ha, m_r4 ha, m_r5 ha, m_r6 ha, m_r7 ha, m_r8 ha, m_r9 ha, m_r10 ha, m_r11 ha, m_s1 ha, m_s2 ha, m_s3 ha, m_s4 ha, m_s5 ha, m_s6 ha, m_s7 ha, m_s8 ha, m_s9 ha, m_s10 ha, m_s11 ha, zI_add, zI_sub, zI_mul, zI_neg, zL_add, zL_sub, zL_mul, Option.bind_some, Option.toList_some, Option.toList_none, List.cons_append, List.nil_append, zI_lt, zI_le, zI_eq, zI_eq0, zI_lt0, zI_le0, zI_0lt, zI_0le, bZ_e0, Int.add_zero, Int.zero_add, e0]
  have := l_minute (d := d) ha hlev hok ho hp (t 1 5).toNat 0 .null .null (by have := hok.2.1; omega)
  rw [Nat.zero_add] at this
  exact this
/-- now is the first level -/
def bgT (t : Nat → Nat → Int) (k : Nat) : Nat → Nat → Int := fun i j => if i = 7 ∧ k ≤ j ∧ j < 5 then t 1 (31 + j) else if i = 8 ∧ k ≤ j ∧ j < 5 then t 1 (36 + j) else t i j
theorem bgT_7 {k j : Nat} (h1 : k ≤ j) (h2 : j < 5) : bgT t k 7 j = t 1 (31 + j) := by
  unfold bgT
  exact if_pos ⟨rfl, h1, h2⟩
theorem bgT_8 {k j : Nat} (h1 : k ≤ j) (h2 : j < 5) : bgT t k 8 j = t 1 (36 + j) := by
  unfold bgT
  exact (if_neg (by omega)).trans (if_pos ⟨rfl, h1, h2⟩)
theorem bgT_o {k i j : Nat} (h1 : ¬ ((i = 7 ∨ i = 8) ∧ k ≤ j ∧ j < 5)) : bgT t k i j = t i j := by
  unfold bgT
  exact (if_neg (fun z => h1 ⟨Or.inl z.1, z.2⟩)).trans (if_neg (fun z => h1 ⟨Or.inr z.1, z.2⟩))
theorem l_beginNow (ha : a + 12 ≤ h.1) : ∀ (n k : Nat) (t : Nat → Nat → Int), k + n = 5 → x_ev (d, n_X8_beginNow, 2, [.ref a, .int (zI k)], [], mH h a t) = some (none, mH h a (bgT t k)) := by
  intro n
  induction n with
  | zero =>
    intro k t hk
    rw [s_X8_beginNow_2]
    simp (disch := first | omega | assumption) only [s_X8_beginNow_3, s_X8_beginNow_4, mH_obj ha, m_g0 ha, m_g1 ha, m_g2 ha, m_g3 ha, m_g4 ha, m_g5 ha, m_g6 ha, m_g7 ha, m_g8 ha, m_g9 ha, m_g10 ha, m_g11 ha, m_g12 ha, m_g13 ha, m_g14 ha, m_g15 ha, m_g16 ha, m_g17 ha, m_g18 ha, m_g19 ha, m_g20 ha, m_p3 ha, m_p7 ha, m_p8 ha, m_p9 ha, m_p12 ha, m_p16 ha, m_p17 ha, m_p18 ha, m_p19 ha, m_p20 ha, m_r1 ha, m_r2 ha, m_r3 ha, m_r4 ha, m_r5 ha, m_r6 ha, m_r7 ha, m_r8 ha, m_r9 ha, m_r10 ha, m_r11 ha, m_s1 ha, m_s2 ha, m_s3 ha, m_s4 ha, m_s5 ha, m_s6 ha, m_s7 ha, m_s8 ha, m_s9 ha, m_s10 ha, m_s11 ha, zI_add, zI_sub, zI_mul, zI_neg, zL_add, zL_sub, zL_mul, Option.bind_some, Option.toList_some, Option.toList_none, List.cons_append, List.nil_append, zI_lt, zI_le, zI_eq, zI_eq0, zI_lt0, zI_le0, zI_0lt, zI_0le, bZ_e0, Int.add_zero, Int.zero_add]
    rw [if_pos (by omega)]
    simp only [s_X8_beginNow_43]
    congr 3
    funext i j
    rw [bgT_o (by omega)]
  | succ n ih =>
    intro k t hk
    rw [s_X8_beginNow_2]
    simp (disch := first | omega | assumption) only [s_X8_beginNow_3, s_X8_beginNow_4, mH_obj ha, m_g0 ha, m_g1 ha, m_g2 ha, m_g3 ha, m_g4 ha, m_g5 ha, m_g6 ha, m_g7 ha, m_g8 ha, m_g9 ha, m_g10 ha, m_g11 ha, m_g12 ha, m_g13 ha, m_g14 ha, m_g15 ha, m_g16 ha, m_g17 ha, m_g18 ha, m_g19 ha, m_g20 ha, m_p3 ha, m_p7 ha, m_p8 ha, m_p9 ha, m_p12 ha, m_p16 ha, m_p17 ha, m_p18 ha, m_p19 ha, m_p20 ha, m_r1 ha, m_r2 ha, m_r3 ha, m_r4 ha, m_r5 ha, m_r6 ha, m_r7 ha, m_r8 ha, m_r9 ha, m_r10 ha, m_r11 ha, m_s1 ha, m_s2 ha, m_s3 ha, m_s4 ha, m_s5 ha, m_s6 ha, m_s7 ha, m_s8 ha, m_s9 ha, m_s10 ha, m_s11 ha, zI_add, zI_sub, zI_mul, zI_neg, zL_add, zL_sub, zL_mul, Option.bind_some, Option.toList_some, Option.toList_none, List.cons_append, List.nil_append, zI_lt, zI_le, zI_eq, zI_eq0, zI_lt0, zI_le0, zI_0lt, zI_0le, bZ_e0, Int.add_zero, Int.zero_add]
    rw [if_neg (by omega)]
    simp (disch := first | omega | assumption) only [s_X8_beginNow_7, s_X8_beginNow_8, s_X8_beginNow_11, s_X8_beginNow_12, s_X8_beginNow_13, s_X8_beginNow_16, s_X8_beginNow_18, s_X8_beginNow_19, s_X8_beginNow_20, s_X8_beginNow_21, s_X8_beginNow_22, s_X8_beginNow_23, s_X8_beginNow_26, s_X8_beginNow_27, s_X8_beginNow_28, s_X8_beginNow_31, s_X8_beginNow_33, s_X8_beginNow_34, s_X8_beginNow_35, s_X8_beginNow_36, s_X8_beginNow_37, s_X8_beginNow_40, mH_obj ha, m_g0 ha, m_g1 ha, m_g2 ha, m_g3 ha, m_g4 ha, m_g5 ha, m_g6 ha, m_g7 ha, m_g8 ha, m_g9 ha, m_g10 ha, m_g11 ha, m_g12 ha, m_g13 ha, m_g14 ha, m_g15 ha, m_g16 ha, m_g17 ha, m_g18 ha, m_g19 ha, m_g20 ha, m_p3 ha, m_p7 ha, m_p8 ha, m_p9 ha, m_p12 ha, m_p16 ha, m_p17 ha, m_p18 ha, m_p19 ha, m_p20 ha, m_r1 ha, m_r2 ha, m_r3 ha, m_r4 ha, m_r5 ha, m_r6 ha, m_r7 ha, m_r8 ha, m_r9 ha, m_r10 ha, m_r11 ha, m_s1 ha, m_s2 ha, m_s3 ha, m_s4 ha, m_s5 ha, m_s6 ha, m_s7 ha, m_s8 ha, m_s9 ha, m_s10 ha, m_s11 ha, zI_add, zI_sub, zI_mul, zI_neg, zL_add, zL_sub, zL_mul, Option.bind_some, Option.toList_some, Option.toList_none, List.cons_append, List.nil_append, zI_lt, zI_le, zI_eq, zI_eq0, zI_lt0, zI_le0, zI_0lt, zI_0le, bZ_e0, Int.add_zero, Int.zero_add, up2_n]
    have e1 : (k : Int) + 1 = ((k + 1 : Nat) : Int) := by omega
    have e2 : (31 + (k : Int)).toNat = 31 + k := by omega
    have e3 : (36 + (k : Int)).toNat = 36 + k := by omega
    rw [e1, e2, e3, Int.toNat_natCast, ih (k + 1) _ (by omega)]
    congr 3
    funext i j
    by_cases q7 : i = 7 ∧ k ≤ j ∧ j < 5
    · rw [q7.1, bgT_7 q7.2.1 q7.2.2]
      by_cases q1 : j = k
      · rw [q1, bgT_o (by omega), up2_n (by omega), up2_s]
      · rw [bgT_7 (by omega) q7.2.2, up2_n (by omega), up2_n (by omega)]
    · by_cases q8 : i = 8 ∧ k ≤ j ∧ j < 5
      · rw [q8.1, bgT_8 q8.2.1 q8.2.2]
        by_cases q1 : j = k
        · rw [q1, bgT_o (by omega), up2_s]
        · rw [bgT_8 (by omega) q8.2.2, up2_n (by omega), up2_n (by omega)]
      · rw [bgT_o (by omega), bgT_o (by omega), up2_n (by omega), up2_n (by omega)]
theorem c_beginNow (ha : a + 12 ≤ h.1) : x_cl d n_X8_beginNow [.ref a] (mH h a t) = some (none, mH h a (bgT t 0)) := by
  simp only [e_X8_beginNow, s_X8_beginNow_0, s_X8_beginNow_1]
  exact l_beginNow ha 5 0 t rfl
end

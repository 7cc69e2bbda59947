/-! THE REFERENCE, part 2: regions -/
section
variable {h : xH} {a : Nat} {t : Nat → Nat → Int} {d : Nat}
def metE (t : Nat → Nat → Int) (v : Int) : Nat → Nat → Int := if v = -10 then up2 t 4 0 (t 4 0 + 1) else up2 t 4 1 (t 4 1 + 1)
theorem c_metElse {v : Int} (ha : a + 12 ≤ h.1) (h1 : -2147483648 ≤ v) (h2 : v < 2147483648) : x_cl d n_X8_metElse [.ref a, .int (zI v)] (mH h a t) = some (some (.int (zI v)), mH h a (metE t v)) := by
  unfold metE
  simp (disch := omega) only [e_X8_metElse, s_X8_metElse_0, s_X8_metElse_1, s_X8_metElse_4, s_X8_metElse_5, s_X8_metElse_7, s_X8_metElse_10, s_X8_metElse_11, s_X8_metElse_14, s_X8_metElse_15, s_X8_metElse_16, s_X8_metElse_17, s_X8_metElse_18, s_X8_metElse_19, s_X8_metElse_20, s_X8_metElse_21, mH_obj ha, m_g0 ha, m_g1 ha, m_g2 ha, m_g3 ha, m_g4 ha, m_g5 ha, m_g6 ha, m_g7 ha, m_g8 ha, m_g9 ha, m_g10 ha, m_g11 ha, m_g12 ha, m_g13 ha, m_g14 ha, m_g15 ha, m_g16 ha, m_g17 ha, m_g18 ha, m_g19 ha, m_g20 ha, m_p3 ha, m_p7 ha, m_p8 ha, m_p9 ha, m_p12 ha, m_p16 ha, m_p17 ha, m_p18 ha, m_p19 ha, m_p20 ha, m_r1 ha, m_r2 ha, m_r3 ha, m_r4 ha, m_r5 ha, m_r6 ha, m_r7 ha, m_r8 ha, m_r9 ha, m_r10 ha, m_r11 ha, m_s1 ha, m_s2 ha, m_s3 ha, m_s4 ha, m_s5 ha, m_s6 ha, m_s7 ha, m_s8 ha, m_s9 ha, m_s10 ha, m_s11 ha, zI_add, zI_sub, zI_mul, zI_neg, zL_add, zL_sub, zL_mul, Option.bind_some, Option.toList_some, Option.toList_none, List.cons_append, List.nil_append, zI_lt, zI_le, zI_eq, zI_eq0, zI_lt0, zI_le0, zI_0lt, zI_0le, bZ_e0, Int.add_zero, Int.zero_add]
  by_cases q : v = -10
  · rw [if_pos q, if_pos q]; rfl
  · rw [if_neg q, if_neg q]; rfl
theorem c_isSquare {r q : Int} (ha : a + 12 ≤ h.1) (h0 : 0 ≤ r) (h1 : r < 700) (h2 : -2147483648 ≤ q) (h3 : q < 2147483648) (h4 : 0 ≤ t 1 r.toNat * t 1 (r + 1).toNat) (h5 : t 1 r.toNat * t 1 (r + 1).toNat ≤ 25) : x_cl (d + 1) n_X8_isSquare [.ref a, .int (zI r), .int (zI q)] (mH h a t) = some (some (.int (zI (bZ (0 ≤ q ∧ q ≤ t 1 r.toNat * t 1 (r + 1).toNat - 1)))), mH h a t) := by
  simp (disch := first | omega | exact bZ_b _) only [e_X8_isSquare, s_X8_isSquare_0, s_X8_isSquare_1, s_X8_isSquare_2, s_X8_isSquare_3, s_X8_isSquare_4, s_X8_isSquare_5, s_X8_isSquare_8, s_X8_isSquare_9, s_X8_isSquare_10, s_X8_isSquare_11, s_X8_isSquare_14_0, s_X8_isSquare_14_1, s_X8_isSquare_14_b, mH_obj ha, m_g0 ha, m_g1 ha, m_g2 ha, m_g3 ha, m_g4 ha, m_g5 ha, m_g6 ha, m_g7 ha, m_g8 ha, m_g9 ha, m_g10 ha, m_g11 ha, m_g12 ha, m_g13 ha, m_g14 ha, m_g15 ha, m_g16 ha, m_g17 ha, m_g18 ha, m_g19 ha, m_g20 ha, m_p3 ha, m_p7 ha, m_p8 ha, m_p9 ha, m_p12 ha, m_p16 ha, m_p17 ha, m_p18 ha, m_p19 ha, m_p20 ha, m_r1 ha, m_r2 ha, m_r3 ha, m_r4 ha, m_r5 ha, m_r6 ha, m_r7 ha, m_r8 ha, m_r9 ha, m_r10 ha, m_r11 ha, m_s1 ha, m_s2 ha, m_s3 ha, m_s4 ha, m_s5 ha, m_s6 ha, m_s7 ha, m_s8 ha, m_s9 ha, m_s10 ha, m_s11 ha, zI_add, zI_sub, zI_mul, zI_neg, zL_add, zL_sub, zL_mul, Option.bind_some, Option.toList_some, Option.toList_none, List.cons_append, List.nil_append, zI_lt, zI_le, zI_eq, zI_eq0, zI_lt0, zI_le0, zI_0lt, zI_0le, bZ_e0, Int.add_zero, Int.zero_add, c_squaresOf ha, zI_64, c_in]
theorem c_isOne {p : Int} (ha : a + 12 ≤ h.1) (h2 : -2147483648 ≤ p) (h3 : p < 2147483648) (h4 : 0 ≤ t 1 5) (h5 : t 1 5 ≤ 5) : x_cl (d + 1) n_X8_isOne [.ref a, .int (zI p)] (mH h a t) = some (some (.int (zI (bZ (0 ≤ p ∧ p ≤ t 1 5 - 1)))), mH h a t) := by
  simp (disch := first | omega | exact bZ_b _) only [e_X8_isOne, s_X8_isOne_0, s_X8_isOne_1, s_X8_isOne_2, s_X8_isOne_3, s_X8_isOne_4, s_X8_isOne_7, s_X8_isOne_8, s_X8_isOne_9, s_X8_isOne_10, s_X8_isOne_11, s_X8_isOne_12, s_X8_isOne_15_0, s_X8_isOne_15_1, s_X8_isOne_15_b, mH_obj ha, m_g0 ha, m_g1 ha, m_g2 ha, m_g3 ha, m_g4 ha, m_g5 ha, m_g6 ha, m_g7 ha, m_g8 ha, m_g9 ha, m_g10 ha, m_g11 ha, m_g12 ha, m_g13 ha, m_g14 ha, m_g15 ha, m_g16 ha, m_g17 ha, m_g18 ha, m_g19 ha, m_g20 ha, m_p3 ha, m_p7 ha, m_p8 ha, m_p9 ha, m_p12 ha, m_p16 ha, m_p17 ha, m_p18 ha, m_p19 ha, m_p20 ha, m_r1 ha, m_r2 ha, m_r3 ha, m_r4 ha, m_r5 ha, m_r6 ha, m_r7 ha, m_r8 ha, m_r9 ha, m_r10 ha, m_r11 ha, m_s1 ha, m_s2 ha, m_s3 ha, m_s4 ha, m_s5 ha, m_s6 ha, m_s7 ha, m_s8 ha, m_s9 ha, m_s10 ha, m_s11 ha, zI_add, zI_sub, zI_mul, zI_neg, zL_add, zL_sub, zL_mul, Option.bind_some, Option.toList_some, Option.toList_none, List.cons_append, List.nil_append, zI_lt, zI_le, zI_eq, zI_eq0, zI_lt0, zI_le0, zI_0lt, zI_0le, bZ_e0, Int.add_zero, Int.zero_add, zI_64, c_in, Int.reduceToNat]
def sitF (t : Nat → Nat → Int) (r q : Int) : Nat → Int → Int → Int
  | 0, _, f => f
  | n + 1, p, f => sitF t r q n (p + 1) (if t 1 (r + 6 + p).toNat = q then p else f)
theorem l_sitsAt {r q : Int} (ha : a + 12 ≤ h.1) (h0 : 0 ≤ r) (h1 : r < 700) (h2 : -2147483648 ≤ q) (h3 : q < 2147483648) (h5 : t 1 (r + 5).toNat ≤ 5) (hs : ∀ p, 0 ≤ p → p < t 1 (r + 5).toNat → 0 ≤ t 1 (r + 6 + p).toNat ∧ t 1 (r + 6 + p).toNat < 25) :
    ∀ (n : Nat) (p f : Int), p + n = t 1 (r + 5).toNat → 0 ≤ p → x_ev (d, n_X8_sitsAt, 5, [.ref a, .int (zI r), .int (zI q), .int (zI f), .int (zI p)], [], mH h a t) = some (some (.int (zI (sitF t r q n p f))), mH h a t) := by
  intro n
  induction n with
  | zero =>
    intro p f hp h6
    rw [s_X8_sitsAt_5]
    simp (disch := omega) only [s_X8_sitsAt_7, s_X8_sitsAt_8, s_X8_sitsAt_11, s_X8_sitsAt_12, s_X8_sitsAt_13, s_X8_sitsAt_14, s_X8_sitsAt_15, mH_obj ha, m_g0 ha, m_g1 ha, m_g2 ha, m_g3 ha, m_g4 ha, m_g5 ha, m_g6 ha, m_g7 ha, m_g8 ha, m_g9 ha, m_g10 ha, m_g11 ha, m_g12 ha, m_g13 ha, m_g14 ha, m_g15 ha, m_g16 ha, m_g17 ha, m_g18 ha, m_g19 ha, m_g20 ha, m_p3 ha, m_p7 ha, m_p8 ha, m_p9 ha, m_p12 ha, m_p16 ha, m_p17 ha, m_p18 ha, m_p19 ha, m_p20 ha, m_r1 ha, m_r2 ha, m_r3 ha, m_r4 ha, m_r5 ha, m_r6 ha, m_r7 ha, m_r8 ha, m_r9 ha, m_r10 ha, m_r11 ha, m_s1 ha, m_s2 ha, m_s3 ha, m_s4 ha, m_s5 ha, m_s6 ha, m_s7 ha, m_s8 ha, m_s9 ha, m_s10 ha, m_s11 ha, zI_add, zI_sub, zI_mul, zI_neg, zL_add, zL_sub, zL_mul, Option.bind_some, Option.toList_some, Option.toList_none, List.cons_append, List.nil_append, zI_lt, zI_le, zI_eq, zI_eq0, zI_lt0, zI_le0, zI_0lt, zI_0le, bZ_e0, Int.add_zero, Int.zero_add]
    rw [if_pos (by omega)]
    simp only [s_X8_sitsAt_47, s_X8_sitsAt_48]
    rfl
  | succ n ih =>
    intro p f hp h6
    have hs1 := hs p h6 (by omega)
    rw [s_X8_sitsAt_5]
    simp (disch := omega) only [s_X8_sitsAt_7, s_X8_sitsAt_8, s_X8_sitsAt_11, s_X8_sitsAt_12, s_X8_sitsAt_13, s_X8_sitsAt_14, s_X8_sitsAt_15, mH_obj ha, m_g0 ha, m_g1 ha, m_g2 ha, m_g3 ha, m_g4 ha, m_g5 ha, m_g6 ha, m_g7 ha, m_g8 ha, m_g9 ha, m_g10 ha, m_g11 ha, m_g12 ha, m_g13 ha, m_g14 ha, m_g15 ha, m_g16 ha, m_g17 ha, m_g18 ha, m_g19 ha, m_g20 ha, m_p3 ha, m_p7 ha, m_p8 ha, m_p9 ha, m_p12 ha, m_p16 ha, m_p17 ha, m_p18 ha, m_p19 ha, m_p20 ha, m_r1 ha, m_r2 ha, m_r3 ha, m_r4 ha, m_r5 ha, m_r6 ha, m_r7 ha, m_r8 ha, m_r9 ha, m_r10 ha, m_r11 ha, m_s1 ha, m_s2 ha, m_s3 ha, m_s4 ha, m_s5 ha, m_s6 ha, m_s7 ha, m_s8 ha, m_s9 ha, m_s10 ha, m_s11 ha, zI_add, zI_sub, zI_mul, zI_neg, zL_add, zL_sub, zL_mul, Option.bind_some, Option.toList_some, Option.toList_none, List.cons_append, List.nil_append, zI_lt, zI_le, zI_eq, zI_eq0, zI_lt0, zI_le0, zI_0lt, zI_0le, bZ_e0, Int.add_zero, Int.zero_add]
    rw [if_neg (by omega)]
    simp (disch := omega) only [s_X8_sitsAt_18, s_X8_sitsAt_19, s_X8_sitsAt_22, s_X8_sitsAt_23, s_X8_sitsAt_25, s_X8_sitsAt_26, s_X8_sitsAt_28, s_X8_sitsAt_29, s_X8_sitsAt_30, s_X8_sitsAt_31, s_X8_sitsAt_34, s_X8_sitsAt_36, s_X8_sitsAt_39, s_X8_sitsAt_40, s_X8_sitsAt_41, s_X8_sitsAt_44, mH_obj ha, m_g0 ha, m_g1 ha, m_g2 ha, m_g3 ha, m_g4 ha, m_g5 ha, m_g6 ha, m_g7 ha, m_g8 ha, m_g9 ha, m_g10 ha, m_g11 ha, m_g12 ha, m_g13 ha, m_g14 ha, m_g15 ha, m_g16 ha, m_g17 ha, m_g18 ha, m_g19 ha, m_g20 ha, m_p3 ha, m_p7 ha, m_p8 ha, m_p9 ha, m_p12 ha, m_p16 ha, m_p17 ha, m_p18 ha, m_p19 ha, m_p20 ha, m_r1 ha, m_r2 ha, m_r3 ha, m_r4 ha, m_r5 ha, m_r6 ha, m_r7 ha, m_r8 ha, m_r9 ha, m_r10 ha, m_r11 ha, m_s1 ha, m_s2 ha, m_s3 ha, m_s4 ha, m_s5 ha, m_s6 ha, m_s7 ha, m_s8 ha, m_s9 ha, m_s10 ha, m_s11 ha, zI_add, zI_sub, zI_mul, zI_neg, zL_add, zL_sub, zL_mul, Option.bind_some, Option.toList_some, Option.toList_none, List.cons_append, List.nil_append, zI_lt, zI_le, zI_eq, zI_eq0, zI_lt0, zI_le0, zI_0lt, zI_0le, bZ_e0, Int.add_zero, Int.zero_add]
    rw [sitF]
    by_cases q1 : t 1 (r + 6 + p).toNat = q
    · rw [if_pos q1, if_pos q1]; exact ih _ _ (by omega) (by omega)
    · rw [if_neg q1, if_neg q1]; exact ih _ _ (by omega) (by omega)
theorem c_sitsAt {r q : Int} (ha : a + 12 ≤ h.1) (h0 : 0 ≤ r) (h1 : r < 700) (h2 : -2147483648 ≤ q) (h3 : q < 2147483648) (h4 : 0 ≤ t 1 (r + 5).toNat) (h5 : t 1 (r + 5).toNat ≤ 5) (hs : ∀ p, 0 ≤ p → p < t 1 (r + 5).toNat → 0 ≤ t 1 (r + 6 + p).toNat ∧ t 1 (r + 6 + p).toNat < 25) : x_cl d n_X8_sitsAt [.ref a, .int (zI r), .int (zI q)] (mH h a t) = some (some (.int (zI (sitF t r q (t 1 (r + 5).toNat).toNat 0 (-1)))), mH h a t) := by
  simp only [e_X8_sitsAt, s_X8_sitsAt_0, s_X8_sitsAt_1, s_X8_sitsAt_2, s_X8_sitsAt_3]
  exact l_sitsAt ha h0 h1 h2 h3 h5 hs _ 0 (-1) (by omega) (by omega)
/-- somebody sits there -/
def sits (t : Nat → Nat → Int) (r q : Int) : Prop := ∃ p, 0 ≤ p ∧ p < t 1 (r + 5).toNat ∧ t 1 (r + 6 + p).toNat = q
theorem sitF_lt (r q : Int) : ∀ (n : Nat) (p f : Int), 0 ≤ p → (sitF t r q n p f < 0 ↔ f < 0 ∧ ∀ j, p ≤ j → j < p + n → t 1 (r + 6 + j).toNat ≠ q) := by
  intro n
  induction n with
  | zero => intro p f _; exact ⟨fun z => ⟨z, fun j h1 h2 => by omega⟩, fun z => z.1⟩
  | succ n ih =>
    intro p f hp
    rw [sitF, ih _ _ (by omega)]
    constructor
    · intro ⟨h1, h2⟩
      by_cases e : t 1 (r + 6 + p).toNat = q
      · rw [if_pos e] at h1; omega
      · rw [if_neg e] at h1
        refine ⟨h1, fun j h3 h4 => ?_⟩
        by_cases e2 : j = p
        · rw [e2]; exact e
        · exact h2 j (by omega) (by omega)
    · intro ⟨h1, h2⟩
      rw [if_neg (h2 p (by omega) (by omega))]
      exact ⟨h1, fun j h3 h4 => h2 j (by omega) (by omega)⟩
theorem sitF_sits {r q : Int} (h4 : 0 ≤ t 1 (r + 5).toNat) : sitF t r q (t 1 (r + 5).toNat).toNat 0 (-1) < 0 ↔ ¬ sits t r q := by
  rw [sitF_lt r q _ _ _ (by omega)]
  constructor
  · intro ⟨_, h2⟩ ⟨p, h5, h6, h7⟩
    exact h2 p h5 (by omega) h7
  · intro h1
    exact ⟨by omega, fun j h2 h3 h5 => h1 ⟨j, h2, by omega, h5⟩⟩
/-- a region written over another one, from place k on -/
def cpT (t : Nat → Nat → Int) (fr to k : Nat) : Nat → Nat → Int := fun i j => if i = 1 ∧ to + k ≤ j ∧ j < to + 200 then t 1 (fr + (j - to)) else t i j
theorem l_copy {fr to : Nat} (ha : a + 12 ≤ h.1) (hf : fr ≤ 600) (ht : to ≤ 600) (hd : fr + 200 ≤ to ∨ to + 200 ≤ fr) : ∀ (n k : Nat) (t : Nat → Nat → Int), k + n = 200 → x_ev (d, n_X8_copy, 2, [.ref a, .int (zI fr), .int (zI to), .int (zI k)], [], mH h a t) = some (none, mH h a (cpT t fr to k)) := by
  intro n
  induction n with
  | zero =>
    intro k t hk
    rw [s_X8_copy_2]
    simp (disch := omega) only [s_X8_copy_3, s_X8_copy_6, mH_obj ha, m_g0 ha, m_g1 ha, m_g2 ha, m_g3 ha, m_g4 ha, m_g5 ha, m_g6 ha, m_g7 ha, m_g8 ha, m_g9 ha, m_g10 ha, m_g11 ha, m_g12 ha, m_g13 ha, m_g14 ha, m_g15 ha, m_g16 ha, m_g17 ha, m_g18 ha, m_g19 ha, m_g20 ha, m_p3 ha, m_p7 ha, m_p8 ha, m_p9 ha, m_p12 ha, m_p16 ha, m_p17 ha, m_p18 ha, m_p19 ha, m_p20 ha, m_r1 ha, m_r2 ha, m_r3 ha, m_r4 ha, m_r5 ha, m_r6 ha, m_r7 ha, m_r8 ha, m_r9 ha, m_r10 ha, m_r11 ha, m_s1 ha, m_s2 ha, m_s3 ha, m_s4 ha, m_s5 ha, m_s6 ha, m_s7 ha, m_s8 ha, m_s9 ha, m_s10 ha, m_s11 ha, zI_add, zI_sub, zI_mul, zI_neg, zL_add, zL_sub, zL_mul, Option.bind_some, Option.toList_some, Option.toList_none, List.cons_append, List.nil_append, zI_lt, zI_le, zI_eq, zI_eq0, zI_lt0, zI_le0, zI_0lt, zI_0le, bZ_e0, Int.add_zero, Int.zero_add]
    rw [if_pos (by omega)]
    simp only [s_X8_copy_31]
    congr 3
    funext i j
    unfold cpT
    rw [if_neg (by omega)]
  | succ n ih =>
    intro k t hk
    rw [s_X8_copy_2]
    simp (disch := omega) only [s_X8_copy_3, s_X8_copy_6, mH_obj ha, m_g0 ha, m_g1 ha, m_g2 ha, m_g3 ha, m_g4 ha, m_g5 ha, m_g6 ha, m_g7 ha, m_g8 ha, m_g9 ha, m_g10 ha, m_g11 ha, m_g12 ha, m_g13 ha, m_g14 ha, m_g15 ha, m_g16 ha, m_g17 ha, m_g18 ha, m_g19 ha, m_g20 ha, m_p3 ha, m_p7 ha, m_p8 ha, m_p9 ha, m_p12 ha, m_p16 ha, m_p17 ha, m_p18 ha, m_p19 ha, m_p20 ha, m_r1 ha, m_r2 ha, m_r3 ha, m_r4 ha, m_r5 ha, m_r6 ha, m_r7 ha, m_r8 ha, m_r9 ha, m_r10 ha, m_r11 ha, m_s1 ha, m_s2 ha, m_s3 ha, m_s4 ha, m_s5 ha, m_s6 ha, m_s7 ha, m_s8 ha, m_s9 ha, m_s10 ha, m_s11 ha, zI_add, zI_sub, zI_mul, zI_neg, zL_add, zL_sub, zL_mul, Option.bind_some, Option.toList_some, Option.toList_none, List.cons_append, List.nil_append, zI_lt, zI_le, zI_eq, zI_eq0, zI_lt0, zI_le0, zI_0lt, zI_0le, bZ_e0, Int.add_zero, Int.zero_add]
    rw [if_neg (by omega)]
    simp (disch := omega) only [s_X8_copy_9, s_X8_copy_10, s_X8_copy_13, s_X8_copy_14, s_X8_copy_15, s_X8_copy_16, s_X8_copy_17, s_X8_copy_20, s_X8_copy_21, s_X8_copy_22, s_X8_copy_23, s_X8_copy_24, s_X8_copy_25, s_X8_copy_28, mH_obj ha, m_g0 ha, m_g1 ha, m_g2 ha, m_g3 ha, m_g4 ha, m_g5 ha, m_g6 ha, m_g7 ha, m_g8 ha, m_g9 ha, m_g10 ha, m_g11 ha, m_g12 ha, m_g13 ha, m_g14 ha, m_g15 ha, m_g16 ha, m_g17 ha, m_g18 ha, m_g19 ha, m_g20 ha, m_p3 ha, m_p7 ha, m_p8 ha, m_p9 ha, m_p12 ha, m_p16 ha, m_p17 ha, m_p18 ha, m_p19 ha, m_p20 ha, m_r1 ha, m_r2 ha, m_r3 ha, m_r4 ha, m_r5 ha, m_r6 ha, m_r7 ha, m_r8 ha, m_r9 ha, m_r10 ha, m_r11 ha, m_s1 ha, m_s2 ha, m_s3 ha, m_s4 ha, m_s5 ha, m_s6 ha, m_s7 ha, m_s8 ha, m_s9 ha, m_s10 ha, m_s11 ha, zI_add, zI_sub, zI_mul, zI_neg, zL_add, zL_sub, zL_mul, Option.bind_some, Option.toList_some, Option.toList_none, List.cons_append, List.nil_append, zI_lt, zI_le, zI_eq, zI_eq0, zI_lt0, zI_le0, zI_0lt, zI_0le, bZ_e0, Int.add_zero, Int.zero_add]
    have e1 : ((k : Int) + 1) = ((k + 1 : Nat) : Int) := by omega
    have e2 : ((to : Int) + (k : Int)).toNat = to + k := by omega
    have e3 : ((fr : Int) + (k : Int)).toNat = fr + k := by omega
    rw [e1, e2, e3, ih (k + 1) _ (by omega)]
    congr 3
    funext i j
    unfold cpT
    by_cases q1 : i = 1 ∧ to + (k + 1) ≤ j ∧ j < to + 200
    · rw [if_pos q1, if_pos (by omega), up2_n (by omega)]
    · rw [if_neg q1]
      by_cases q2 : i = 1 ∧ j = to + k
      · rw [q2.1, q2.2, up2_s, if_pos (by omega)]
        congr 1
        omega
      · rw [up2_n q2, if_neg (by omega)]
theorem c_copy {fr to : Int} (ha : a + 12 ≤ h.1) (h0 : 0 ≤ fr) (h1 : 0 ≤ to) (hf : fr ≤ 600) (ht : to ≤ 600) (hd : fr + 200 ≤ to ∨ to + 200 ≤ fr) : x_cl d n_X8_copy [.ref a, .int (zI fr), .int (zI to)] (mH h a t) = some (none, mH h a (cpT t fr.toNat to.toNat 0)) := by
  simp only [e_X8_copy, s_X8_copy_0, s_X8_copy_1]
  have := l_copy (d := d) (fr := fr.toNat) (to := to.toNat) ha (by omega) (by omega) (by omega) 200 0 t rfl
  rw [show ((fr.toNat : Nat) : Int) = fr by omega, show ((to.toNat : Nat) : Int) = to by omega] at this
  exact this
/-- a region's first state -/
def anT (t : Nat → Nat → Int) (r : Nat) (w hh : Int) : Nat → Nat → Int := fun i j => if i = 1 ∧ r ≤ j ∧ j < r + 200 then (if j = r then w else if j = r + 1 then hh else if j = r + 3 then 8 else 0) else t i j
def zrT (t : Nat → Nat → Int) (r k : Nat) : Nat → Nat → Int := fun i j => if i = 1 ∧ r + k ≤ j ∧ j < r + 200 then 0 else t i j
theorem l_makeAnew {r : Nat} {w hh : Int} (ha : a + 12 ≤ h.1) (hf : r ≤ 600) : ∀ (n k : Nat) (t : Nat → Nat → Int), k + n = 200 → x_ev (d, n_X8_makeAnew, 3, [.ref a, .int (zI r), .int (zI w), .int (zI hh), .int (zI k)], [], mH h a t) = some (none, mH h a (up2 (up2 (up2 (zrT t r k) 1 r w) 1 (r + 1) hh) 1 (r + 3) 8)) := by
  intro n
  induction n with
  | zero =>
    intro k t hk
    rw [s_X8_makeAnew_3]
    simp (disch := omega) only [s_X8_makeAnew_5, s_X8_makeAnew_8, mH_obj ha, m_g0 ha, m_g1 ha, m_g2 ha, m_g3 ha, m_g4 ha, m_g5 ha, m_g6 ha, m_g7 ha, m_g8 ha, m_g9 ha, m_g10 ha, m_g11 ha, m_g12 ha, m_g13 ha, m_g14 ha, m_g15 ha, m_g16 ha, m_g17 ha, m_g18 ha, m_g19 ha, m_g20 ha, m_p3 ha, m_p7 ha, m_p8 ha, m_p9 ha, m_p12 ha, m_p16 ha, m_p17 ha, m_p18 ha, m_p19 ha, m_p20 ha, m_r1 ha, m_r2 ha, m_r3 ha, m_r4 ha, m_r5 ha, m_r6 ha, m_r7 ha, m_r8 ha, m_r9 ha, m_r10 ha, m_r11 ha, m_s1 ha, m_s2 ha, m_s3 ha, m_s4 ha, m_s5 ha, m_s6 ha, m_s7 ha, m_s8 ha, m_s9 ha, m_s10 ha, m_s11 ha, zI_add, zI_sub, zI_mul, zI_neg, zL_add, zL_sub, zL_mul, Option.bind_some, Option.toList_some, Option.toList_none, List.cons_append, List.nil_append, zI_lt, zI_le, zI_eq, zI_eq0, zI_lt0, zI_le0, zI_0lt, zI_0le, bZ_e0, Int.add_zero, Int.zero_add]
    rw [if_pos (by omega)]
    simp (disch := omega) only [s_X8_makeAnew_27, s_X8_makeAnew_28, s_X8_makeAnew_31, s_X8_makeAnew_32, s_X8_makeAnew_33, s_X8_makeAnew_34, s_X8_makeAnew_35, s_X8_makeAnew_36, s_X8_makeAnew_37, s_X8_makeAnew_40, s_X8_makeAnew_41, s_X8_makeAnew_42, s_X8_makeAnew_43, s_X8_makeAnew_44, s_X8_makeAnew_45, s_X8_makeAnew_46, s_X8_makeAnew_49, s_X8_makeAnew_50, s_X8_makeAnew_51, s_X8_makeAnew_52, s_X8_makeAnew_54, s_X8_makeAnew_55, mH_obj ha, m_g0 ha, m_g1 ha, m_g2 ha, m_g3 ha, m_g4 ha, m_g5 ha, m_g6 ha, m_g7 ha, m_g8 ha, m_g9 ha, m_g10 ha, m_g11 ha, m_g12 ha, m_g13 ha, m_g14 ha, m_g15 ha, m_g16 ha, m_g17 ha, m_g18 ha, m_g19 ha, m_g20 ha, m_p3 ha, m_p7 ha, m_p8 ha, m_p9 ha, m_p12 ha, m_p16 ha, m_p17 ha, m_p18 ha, m_p19 ha, m_p20 ha, m_r1 ha, m_r2 ha, m_r3 ha, m_r4 ha, m_r5 ha, m_r6 ha, m_r7 ha, m_r8 ha, m_r9 ha, m_r10 ha, m_r11 ha, m_s1 ha, m_s2 ha, m_s3 ha, m_s4 ha, m_s5 ha, m_s6 ha, m_s7 ha, m_s8 ha, m_s9 ha, m_s10 ha, m_s11 ha, zI_add, zI_sub, zI_mul, zI_neg, zL_add, zL_sub, zL_mul, Option.bind_some, Option.toList_some, Option.toList_none, List.cons_append, List.nil_append, zI_lt, zI_le, zI_eq, zI_eq0, zI_lt0, zI_le0, zI_0lt, zI_0le, bZ_e0, Int.add_zero, Int.zero_add]
    have e1 : ((r : Int) + 1).toNat = r + 1 := by omega
    have e3 : ((r : Int) + 3).toNat = r + 3 := by omega
    have e0 : zrT t r k = t := by
      funext i j
      unfold zrT
      rw [if_neg (by omega)]
    rw [e0, e1, e3, Int.toNat_natCast]
  | succ n ih =>
    intro k t hk
    rw [s_X8_makeAnew_3]
    simp (disch := omega) only [s_X8_makeAnew_5, s_X8_makeAnew_8, mH_obj ha, m_g0 ha, m_g1 ha, m_g2 ha, m_g3 ha, m_g4 ha, m_g5 ha, m_g6 ha, m_g7 ha, m_g8 ha, m_g9 ha, m_g10 ha, m_g11 ha, m_g12 ha, m_g13 ha, m_g14 ha, m_g15 ha, m_g16 ha, m_g17 ha, m_g18 ha, m_g19 ha, m_g20 ha, m_p3 ha, m_p7 ha, m_p8 ha, m_p9 ha, m_p12 ha, m_p16 ha, m_p17 ha, m_p18 ha, m_p19 ha, m_p20 ha, m_r1 ha, m_r2 ha, m_r3 ha, m_r4 ha, m_r5 ha, m_r6 ha, m_r7 ha, m_r8 ha, m_r9 ha, m_r10 ha, m_r11 ha, m_s1 ha, m_s2 ha, m_s3 ha, m_s4 ha, m_s5 ha, m_s6 ha, m_s7 ha, m_s8 ha, m_s9 ha, m_s10 ha, m_s11 ha, zI_add, zI_sub, zI_mul, zI_neg, zL_add, zL_sub, zL_mul, Option.bind_some, Option.toList_some, Option.toList_none, List.cons_append, List.nil_append, zI_lt, zI_le, zI_eq, zI_eq0, zI_lt0, zI_le0, zI_0lt, zI_0le, bZ_e0, Int.add_zero, Int.zero_add]
    rw [if_neg (by omega)]
    simp (disch := omega) only [s_X8_makeAnew_11, s_X8_makeAnew_12, s_X8_makeAnew_15, s_X8_makeAnew_16, s_X8_makeAnew_18, s_X8_makeAnew_19, s_X8_makeAnew_20, s_X8_makeAnew_21, s_X8_makeAnew_24, mH_obj ha, m_g0 ha, m_g1 ha, m_g2 ha, m_g3 ha, m_g4 ha, m_g5 ha, m_g6 ha, m_g7 ha, m_g8 ha, m_g9 ha, m_g10 ha, m_g11 ha, m_g12 ha, m_g13 ha, m_g14 ha, m_g15 ha, m_g16 ha, m_g17 ha, m_g18 ha, m_g19 ha, m_g20 ha, m_p3 ha, m_p7 ha, m_p8 ha, m_p9 ha, m_p12 ha, m_p16 ha, m_p17 ha, m_p18 ha, m_p19 ha, m_p20 ha, m_r1 ha, m_r2 ha, m_r3 ha, m_r4 ha, m_r5 ha, m_r6 ha, m_r7 ha, m_r8 ha, m_r9 ha, m_r10 ha, m_r11 ha, m_s1 ha, m_s2 ha, m_s3 ha, m_s4 ha, m_s5 ha, m_s6 ha, m_s7 ha, m_s8 ha, m_s9 ha, m_s10 ha, m_s11 ha, zI_add, zI_sub, zI_mul, zI_neg, zL_add, zL_sub, zL_mul, Option.bind_some, Option.toList_some, Option.toList_none, List.cons_append, List.nil_append, zI_lt, zI_le, zI_eq, zI_eq0, zI_lt0, zI_le0, zI_0lt, zI_0le, bZ_e0, Int.add_zero, Int.zero_add]
    have e1 : ((k : Int) + 1) = ((k + 1 : Nat) : Int) := by omega
    have e2 : ((r : Int) + (k : Int)).toNat = r + k := by omega
    rw [e1, e2, ih (k + 1) _ (by omega)]
    have e0 : zrT (up2 t 1 (r + k) 0) r (k + 1) = zrT t r k := by
      funext i j
      unfold zrT
      by_cases q1 : i = 1 ∧ r + (k + 1) ≤ j ∧ j < r + 200
      · rw [if_pos q1, if_pos (by omega)]
      · rw [if_neg q1]
        by_cases q2 : i = 1 ∧ j = r + k
        · rw [q2.1, q2.2, up2_s, if_pos (by omega)]
        · rw [up2_n q2, if_neg (by omega)]
    rw [e0]
theorem c_makeAnew {r w hh : Int} (ha : a + 12 ≤ h.1) (h0 : 0 ≤ r) (hf : r ≤ 600) : x_cl d n_X8_makeAnew [.ref a, .int (zI r), .int (zI w), .int (zI hh)] (mH h a t) = some (none, mH h a (anT t r.toNat w hh)) := by
  simp only [e_X8_makeAnew, s_X8_makeAnew_0, s_X8_makeAnew_1]
  have := l_makeAnew (d := d) (w := w) (hh := hh) (r := r.toNat) ha (by omega) 200 0 t rfl
  rw [show ((r.toNat : Nat) : Int) = r by omega] at this
  refine this.trans ?_
  congr 3
  funext i j
  unfold anT up2 zrT
  by_cases q : i = 1 ∧ r.toNat ≤ j ∧ j < r.toNat + 200
  · rw [if_pos q]
    by_cases q3 : j = r.toNat + 3
    · rw [if_pos ⟨q.1, q3⟩, if_neg (by omega), if_neg (by omega), if_pos q3]
    · rw [if_neg (fun z => q3 z.2)]
      by_cases q1 : j = r.toNat + 1
      · rw [if_pos ⟨q.1, q1⟩, if_neg (by omega), if_pos q1]
      · rw [if_neg (fun z => q1 z.2)]
        by_cases q0 : j = r.toNat
        · rw [if_pos ⟨q.1, q0⟩, if_pos q0]
        · rw [if_neg (fun z => q0 z.2), if_pos (by omega), if_neg q0, if_neg q1, if_neg q3]
  · rw [if_neg q, if_neg (by omega), if_neg (by omega), if_neg (by omega), if_neg (by omega)]
end

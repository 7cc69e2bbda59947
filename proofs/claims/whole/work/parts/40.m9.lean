/-! THE REFERENCE, part 9: minutes kept, burnt, undone -/
section
variable {h : xH} {a : Nat} {t : Nat → Nat → Int} {d : Nat}
def shT (t : Nat → Nat → Int) (k : Nat) : Nat → Nat → Int := fun i j => if i = 1 ∧ 47 + k ≤ j ∧ j < 179 then t 1 (j + 12) else t i j
theorem shT_i {k j : Nat} (h1 : 47 + k ≤ j) (h2 : j < 179) : shT t k 1 j = t 1 (j + 12) := by
  unfold shT
  exact if_pos ⟨rfl, h1, h2⟩
theorem shT_o {k i j : Nat} (h1 : ¬ (i = 1 ∧ 47 + k ≤ j ∧ j < 179)) : shT t k i j = t i j := by
  unfold shT
  exact if_neg h1
theorem l_minds1 {l2 : Value} (ha : a + 12 ≤ h.1) : ∀ (n k : Nat) (t : Nat → Nat → Int), k + n = 132 → x_ev (d, n_X8_minds, 14, [.ref a, .int (zI k), l2], [], mH h a t) = x_ev (d, n_X8_minds, 48, [.ref a, .int (zI 132), l2], [], mH h a (shT t k)) := by
  intro n
  induction n with
  | zero =>
    intro k t hk
    rw [s_X8_minds_14]
    simp (disch := first | omega | assumption) only [s_X8_minds_15, s_X8_minds_18, mH_obj ha, m_g0 ha, m_g1 ha, m_g2 ha, m_g3 ha, m_g4 ha, m_g5 ha, m_g6 ha, m_g7 ha, m_g8 ha, m_g9 ha, m_g10 ha, m_g11 ha, m_g12 ha, m_g13 ha, m_g14 ha, m_g15 ha, m_g16 ha, m_g17 ha, m_g18 ha, m_g19 ha, m_g20 ha, m_p3 ha, m_p7 ha, m_p8 ha, m_p9 ha, m_p12 ha, m_p16 ha, m_p17 ha, m_p18 ha, m_p19 ha, m_p20 ha, m_r1 ha, m_r2 ha, m_r3 ha, m_r4 ha, m_r5 ha, m_r6 ha, m_r7 ha, m_r8 ha, m_r9 ha, m_r10 ha, m_r11 ha, m_s1 ha, m_s2 ha, m_s3 ha, m_s4 ha, m_s5 ha, m_s6 ha, m_s7 ha, m_s8 ha, m_s9 ha, m_s10 ha, m_s11 ha, zI_add, zI_sub, zI_mul, zI_neg, zL_add, zL_sub, zL_mul, Option.bind_some, Option.toList_some, Option.toList_none, List.cons_append, List.nil_append, zI_lt, zI_le, zI_eq, zI_eq0, zI_lt0, zI_le0, zI_0lt, zI_0le, bZ_e0, Int.add_zero, Int.zero_add]
    rw [if_pos (by omega), show (k : Int) = 132 by omega]
    congr 7
    funext i j
    rw [shT_o (by omega)]
  | succ n ih =>
    intro k t hk
    rw [s_X8_minds_14]
    simp (disch := first | omega | assumption) only [s_X8_minds_15, s_X8_minds_18, mH_obj ha, m_g0 ha, m_g1 ha, m_g2 ha, m_g3 ha, m_g4 ha, m_g5 ha, m_g6 ha, m_g7 ha, m_g8 ha, m_g9 ha, m_g10 ha, m_g11 ha, m_g12 ha, m_g13 ha, m_g14 ha, m_g15 ha, m_g16 ha, m_g17 ha, m_g18 ha, m_g19 ha, m_g20 ha, m_p3 ha, m_p7 ha, m_p8 ha, m_p9 ha, m_p12 ha, m_p16 ha, m_p17 ha, m_p18 ha, m_p19 ha, m_p20 ha, m_r1 ha, m_r2 ha, m_r3 ha, m_r4 ha, m_r5 ha, m_r6 ha, m_r7 ha, m_r8 ha, m_r9 ha, m_r10 ha, m_r11 ha, m_s1 ha, m_s2 ha, m_s3 ha, m_s4 ha, m_s5 ha, m_s6 ha, m_s7 ha, m_s8 ha, m_s9 ha, m_s10 ha, m_s11 ha, zI_add, zI_sub, zI_mul, zI_neg, zL_add, zL_sub, zL_mul, Option.bind_some, Option.toList_some, Option.toList_none, List.cons_append, List.nil_append, zI_lt, zI_le, zI_eq, zI_eq0, zI_lt0, zI_le0, zI_0lt, zI_0le, bZ_e0, Int.add_zero, Int.zero_add]
    rw [if_neg (by omega)]
    simp (disch := first | omega | assumption) only [s_X8_minds_21, s_X8_minds_22, s_X8_minds_25, s_X8_minds_27, s_X8_minds_28, s_X8_minds_29, s_X8_minds_30, s_X8_minds_33, s_X8_minds_35, s_X8_minds_36, s_X8_minds_37, s_X8_minds_39, s_X8_minds_40, s_X8_minds_41, s_X8_minds_42, s_X8_minds_45, mH_obj ha, m_g0 ha, m_g1 ha, m_g2 ha, m_g3 ha, m_g4 ha, m_g5 ha, m_g6 ha, m_g7 ha, m_g8 ha, m_g9 ha, m_g10 ha, m_g11 ha, m_g12 ha, m_g13 ha, m_g14 ha, m_g15 ha, m_g16 ha, m_g17 ha, m_g18 ha, m_g19 ha, m_g20 ha, m_p3 ha, m_p7 ha, m_p8 ha, m_p9 ha, m_p12 ha, m_p16 ha, m_p17 ha, m_p18 ha, m_p19 ha, m_p20 ha, m_r1 ha, m_r2 ha, m_r3 ha, m_r4 ha, m_r5 ha, m_r6 ha, m_r7 ha, m_r8 ha, m_r9 ha, m_r10 ha, m_r11 ha, m_s1 ha, m_s2 ha, m_s3 ha, m_s4 ha, m_s5 ha, m_s6 ha, m_s7 ha, m_s8 ha, m_s9 ha, m_s10 ha, m_s11 ha, zI_add, zI_sub, zI_mul, zI_neg, zL_add, zL_sub, zL_mul, Option.bind_some, Option.toList_some, Option.toList_none, List.cons_append, List.nil_append, zI_lt, zI_le, zI_eq, zI_eq0, zI_lt0, zI_le0, zI_0lt, zI_0le, bZ_e0, Int.add_zero, Int.zero_add]
    have e1 : (k : Int) + 1 = ((k + 1 : Nat) : Int) := by omega
    have e2 : (47 + (k : Int)).toNat = 47 + k := by omega
    have e3 : (47 + (k : Int) + 12).toNat = 47 + k + 12 := by omega
    rw [e1, e2, e3, ih (k + 1) _ (by omega)]
    congr 7
    funext i j
    by_cases q : i = 1 ∧ 47 + k ≤ j ∧ j < 179
    · rw [q.1, shT_i q.2.1 q.2.2]
      by_cases q1 : j = 47 + k
      · rw [q1, shT_o (by omega), up2_s]
      · rw [shT_i (by omega) q.2.2, up2_n (by omega)]
    · rw [shT_o q, shT_o (by omega), up2_n (by omega)]
/-- a minute written down at a place, its last five pairs from k on -/
def stT (t : Nat → Nat → Int) (s k : Nat) : Nat → Nat → Int := fun i j => if i = 1 ∧ s + 2 + k ≤ j ∧ j < s + 7 then t 1 (31 + (j - (s + 2))) else if i = 1 ∧ s + 7 + k ≤ j ∧ j < s + 12 then t 1 (36 + (j - (s + 7))) else t i j
theorem stT_a {s k j : Nat} (h1 : s + 2 + k ≤ j) (h2 : j < s + 7) : stT t s k 1 j = t 1 (31 + (j - (s + 2))) := by
  unfold stT
  exact if_pos ⟨rfl, h1, h2⟩
theorem stT_b {s k j : Nat} (h1 : s + 7 + k ≤ j) (h2 : j < s + 12) : stT t s k 1 j = t 1 (36 + (j - (s + 7))) := by
  unfold stT
  exact (if_neg (by omega)).trans (if_pos ⟨rfl, h1, h2⟩)
theorem stT_o {s k i j : Nat} (h1 : ¬ (i = 1 ∧ s + 2 + k ≤ j ∧ j < s + 7)) (h2 : ¬ (i = 1 ∧ s + 7 + k ≤ j ∧ j < s + 12)) : stT t s k i j = t i j := by
  unfold stT
  exact (if_neg h1).trans (if_neg h2)
theorem l_minds2 {s : Nat} (ha : a + 12 ≤ h.1) (hs0 : 47 ≤ s) (hs : s ≤ 179) : ∀ (n k : Nat) (t : Nat → Nat → Int), k + n = 5 → x_ev (d, n_X8_minds, 101, [.ref a, .int (zI s), .int (zI k)], [], mH h a t) = some (none, mH h a (up2 (stT t s k) 1 46 (t 1 46 + 1))) := by
  intro n
  induction n with
  | zero =>
    intro k t hk
    rw [s_X8_minds_101]
    simp (disch := first | omega | assumption) only [s_X8_minds_102, s_X8_minds_103, mH_obj ha, m_g0 ha, m_g1 ha, m_g2 ha, m_g3 ha, m_g4 ha, m_g5 ha, m_g6 ha, m_g7 ha, m_g8 ha, m_g9 ha, m_g10 ha, m_g11 ha, m_g12 ha, m_g13 ha, m_g14 ha, m_g15 ha, m_g16 ha, m_g17 ha, m_g18 ha, m_g19 ha, m_g20 ha, m_p3 ha, m_p7 ha, m_p8 ha, m_p9 ha, m_p12 ha, m_p16 ha, m_p17 ha, m_p18 ha, m_p19 ha, m_p20 ha, m_r1 ha, m_r2 ha, m_r3 ha, m_r4 ha, m_r5 ha, m_r6 ha, m_r7 ha, m_r8 ha, m_r9 ha, m_r10 ha, m_r11 ha, m_s1 ha, m_s2 ha, m_s3 ha, m_s4 ha, m_s5 ha, m_s6 ha, m_s7 ha, m_s8 ha, m_s9 ha, m_s10 ha, m_s11 ha, zI_add, zI_sub, zI_mul, zI_neg, zL_add, zL_sub, zL_mul, Option.bind_some, Option.toList_some, Option.toList_none, List.cons_append, List.nil_append, zI_lt, zI_le, zI_eq, zI_eq0, zI_lt0, zI_le0, zI_0lt, zI_0le, bZ_e0, Int.add_zero, Int.zero_add]
    rw [if_pos (by omega)]
    simp (disch := first | omega | assumption) only [s_X8_minds_151, s_X8_minds_152, s_X8_minds_155, s_X8_minds_157, s_X8_minds_158, s_X8_minds_159, s_X8_minds_160, s_X8_minds_161, s_X8_minds_162, mH_obj ha, m_g0 ha, m_g1 ha, m_g2 ha, m_g3 ha, m_g4 ha, m_g5 ha, m_g6 ha, m_g7 ha, m_g8 ha, m_g9 ha, m_g10 ha, m_g11 ha, m_g12 ha, m_g13 ha, m_g14 ha, m_g15 ha, m_g16 ha, m_g17 ha, m_g18 ha, m_g19 ha, m_g20 ha, m_p3 ha, m_p7 ha, m_p8 ha, m_p9 ha, m_p12 ha, m_p16 ha, m_p17 ha, m_p18 ha, m_p19 ha, m_p20 ha, m_r1 ha, m_r2 ha, m_r3 ha, m_r4 ha, m_r5 ha, m_r6 ha, m_r7 ha, m_r8 ha, m_r9 ha, m_r10 ha, m_r11 ha, m_s1 ha, m_s2 ha, m_s3 ha, m_s4 ha, m_s5 ha, m_s6 ha, m_s7 ha, m_s8 ha, m_s9 ha, m_s10 ha, m_s11 ha, zI_add, zI_sub, zI_mul, zI_neg, zL_add, zL_sub, zL_mul, Option.bind_some, Option.toList_some, Option.toList_none, List.cons_append, List.nil_append, zI_lt, zI_le, zI_eq, zI_eq0, zI_lt0, zI_le0, zI_0lt, zI_0le, bZ_e0, Int.add_zero, Int.zero_add, Int.reduceToNat]
    have e0 : stT t s k = t := by
      funext i j
      rw [stT_o (by omega) (by omega)]
    rw [e0]
  | succ n ih =>
    intro k t hk
    rw [s_X8_minds_101]
    simp (disch := first | omega | assumption) only [s_X8_minds_102, s_X8_minds_103, mH_obj ha, m_g0 ha, m_g1 ha, m_g2 ha, m_g3 ha, m_g4 ha, m_g5 ha, m_g6 ha, m_g7 ha, m_g8 ha, m_g9 ha, m_g10 ha, m_g11 ha, m_g12 ha, m_g13 ha, m_g14 ha, m_g15 ha, m_g16 ha, m_g17 ha, m_g18 ha, m_g19 ha, m_g20 ha, m_p3 ha, m_p7 ha, m_p8 ha, m_p9 ha, m_p12 ha, m_p16 ha, m_p17 ha, m_p18 ha, m_p19 ha, m_p20 ha, m_r1 ha, m_r2 ha, m_r3 ha, m_r4 ha, m_r5 ha, m_r6 ha, m_r7 ha, m_r8 ha, m_r9 ha, m_r10 ha, m_r11 ha, m_s1 ha, m_s2 ha, m_s3 ha, m_s4 ha, m_s5 ha, m_s6 ha, m_s7 ha, m_s8 ha, m_s9 ha, m_s10 ha, m_s11 ha, zI_add, zI_sub, zI_mul, zI_neg, zL_add, zL_sub, zL_mul, Option.bind_some, Option.toList_some, Option.toList_none, List.cons_append, List.nil_append, zI_lt, zI_le, zI_eq, zI_eq0, zI_lt0, zI_le0, zI_0lt, zI_0le, bZ_e0, Int.add_zero, Int.zero_add]
    rw [if_neg (by omega)]
    simp (disch := first | omega | assumption) only [s_X8_minds_106, s_X8_minds_107, s_X8_minds_110, s_X8_minds_111, s_X8_minds_112, s_X8_minds_113, s_X8_minds_114, s_X8_minds_115, s_X8_minds_116, s_X8_minds_119, s_X8_minds_121, s_X8_minds_122, s_X8_minds_123, s_X8_minds_124, s_X8_minds_125, s_X8_minds_126, s_X8_minds_129, s_X8_minds_130, s_X8_minds_132, s_X8_minds_133, s_X8_minds_134, s_X8_minds_135, s_X8_minds_136, s_X8_minds_139, s_X8_minds_141, s_X8_minds_142, s_X8_minds_143, s_X8_minds_144, s_X8_minds_145, s_X8_minds_148, mH_obj ha, m_g0 ha, m_g1 ha, m_g2 ha, m_g3 ha, m_g4 ha, m_g5 ha, m_g6 ha, m_g7 ha, m_g8 ha, m_g9 ha, m_g10 ha, m_g11 ha, m_g12 ha, m_g13 ha, m_g14 ha, m_g15 ha, m_g16 ha, m_g17 ha, m_g18 ha, m_g19 ha, m_g20 ha, m_p3 ha, m_p7 ha, m_p8 ha, m_p9 ha, m_p12 ha, m_p16 ha, m_p17 ha, m_p18 ha, m_p19 ha, m_p20 ha, m_r1 ha, m_r2 ha, m_r3 ha, m_r4 ha, m_r5 ha, m_r6 ha, m_r7 ha, m_r8 ha, m_r9 ha, m_r10 ha, m_r11 ha, m_s1 ha, m_s2 ha, m_s3 ha, m_s4 ha, m_s5 ha, m_s6 ha, m_s7 ha, m_s8 ha, m_s9 ha, m_s10 ha, m_s11 ha, zI_add, zI_sub, zI_mul, zI_neg, zL_add, zL_sub, zL_mul, Option.bind_some, Option.toList_some, Option.toList_none, List.cons_append, List.nil_append, zI_lt, zI_le, zI_eq, zI_eq0, zI_lt0, zI_le0, zI_0lt, zI_0le, bZ_e0, Int.add_zero, Int.zero_add, up2_n]
    have e1 : (k : Int) + 1 = ((k + 1 : Nat) : Int) := by omega
    have e2 : ((s : Int) + 2 + (k : Int)).toNat = s + 2 + k := by omega
    have e3 : ((s : Int) + 7 + (k : Int)).toNat = s + 7 + k := by omega
    have e4 : (31 + (k : Int)).toNat = 31 + k := by omega
    have e5 : (36 + (k : Int)).toNat = 36 + k := by omega
    rw [e1, e2, e3, e4, e5, ih (k + 1) _ (by omega), up2_n (by omega), up2_n (by omega)]
    congr 4
    funext i j
    by_cases qa : i = 1 ∧ s + 2 + k ≤ j ∧ j < s + 7
    · rw [qa.1, stT_a qa.2.1 qa.2.2]
      by_cases q1 : j = s + 2 + k
      · rw [q1, stT_o (by omega) (by omega), up2_n (by omega), up2_s, show s + 2 + k - (s + 2) = k by omega]
      · rw [stT_a (by omega) qa.2.2, up2_n (by omega), up2_n (by omega)]
    · by_cases qb : i = 1 ∧ s + 7 + k ≤ j ∧ j < s + 12
      · rw [qb.1, stT_b qb.2.1 qb.2.2]
        by_cases q1 : j = s + 7 + k
        · rw [q1, stT_o (by omega) (by omega), up2_s, show s + 7 + k - (s + 7) = k by omega]
        · rw [stT_b (by omega) qb.2.2, up2_n (by omega), up2_n (by omega)]
      · rw [stT_o (by omega) (by omega), stT_o qa qb, up2_n (by omega), up2_n (by omega)]
/-- room for a minute -/
def rmT (t : Nat → Nat → Int) : Nat → Nat → Int := if t 1 46 = 12 then up2 (shT t 0) 1 46 11 else t
def kpT (t : Nat → Nat → Int) (s : Nat) : Nat → Nat → Int := up2 (stT (up2 (up2 t 1 s (t 1 2)) 1 (s + 1) (t 1 3)) s 0) 1 46 (t 1 46 + 1)
def mdT (t : Nat → Nat → Int) : Nat → Nat → Int := kpT (rmT t) (47 + 12 * rmT t 1 46).toNat
theorem g_minds {l1 l2 : Value} (ha : a + 12 ≤ h.1) (h0 : 0 ≤ t 1 46) (h1 : t 1 46 ≤ 11) : x_ev (d, n_X8_minds, 59, [.ref a, l1, l2], [], mH h a t) = some (none, mH h a (kpT t (47 + 12 * t 1 46).toNat)) := by
  simp (disch := first | omega | assumption) only [s_X8_minds_59, s_X8_minds_61, s_X8_minds_63, s_X8_minds_64, s_X8_minds_67, s_X8_minds_69, s_X8_minds_70, s_X8_minds_71, s_X8_minds_72, s_X8_minds_73, s_X8_minds_74, s_X8_minds_77, s_X8_minds_78, s_X8_minds_79, s_X8_minds_82, s_X8_minds_83, s_X8_minds_84, s_X8_minds_85, s_X8_minds_86, s_X8_minds_89, s_X8_minds_90, s_X8_minds_91, s_X8_minds_92, s_X8_minds_93, s_X8_minds_96, s_X8_minds_97, s_X8_minds_98, s_X8_minds_99, s_X8_minds_100, mH_obj ha, m_g0 ha, m_g1 ha, m_g2 ha, m_g3 ha, m_g4 ha, m_g5 ha, m_g6 ha, m_g7 ha, m_g8 ha, m_g9 ha, m_g10 ha, m_g11 ha, m_g12 ha, m_g13 ha, m_g14 ha, m_g15 ha, m_g16 ha, m_g17 ha, m_g18 ha, m_g19 ha, m_g20 ha, m_p3 ha, m_p7 ha, m_p8 ha, m_p9 ha, m_p12 ha, m_p16 ha, m_p17 ha, m_p18 ha, m_p19 ha, m_p20 ha, m_r1 ha, m_r2 ha, m_r3 ha, m_r4 ha, m_r5 ha, m_r6 ha, m_r7 ha, m_r8 ha, m_r9 ha, m_r10 ha, m_r11 ha, m_s1 ha, m_s2 ha, m_s3 ha, m_s4 ha, m_s5 ha, m_s6 ha, m_s7 ha, m_s8 ha, m_s9 ha, m_s10 ha, m_s11 ha, zI_add, zI_sub, zI_mul, zI_neg, zL_add, zL_sub, zL_mul, Option.bind_some, Option.toList_some, Option.toList_none, List.cons_append, List.nil_append, zI_lt, zI_le, zI_eq, zI_eq0, zI_lt0, zI_le0, zI_0lt, zI_0le, bZ_e0, Int.add_zero, Int.zero_add, up2_n, Int.reduceToNat]
  have := l_minds2 (d := d) (s := (47 + 12 * t 1 46).toNat) ha (by omega) (by omega) 5 0 (up2 (up2 t 1 (47 + 12 * t 1 46).toNat (t 1 2)) 1 (47 + 12 * t 1 46 + 1).toNat (t 1 3)) rfl
  rw [show (((47 + 12 * t 1 46).toNat : Nat) : Int) = 47 + 12 * t 1 46 by omega] at this
  refine this.trans ?_
  unfold kpT
  rw [up2_n (by omega), up2_n (by omega), show (47 + 12 * t 1 46 + 1).toNat = (47 + 12 * t 1 46).toNat + 1 by omega]
theorem c_minds (ha : a + 12 ≤ h.1) (h0 : 0 ≤ t 1 46) (h1 : t 1 46 ≤ 12) : x_cl d n_X8_minds [.ref a] (mH h a t) = some (none, mH h a (mdT t)) := by
  simp (disch := first | omega | assumption) only [e_X8_minds, s_X8_minds_0, s_X8_minds_1, s_X8_minds_4, s_X8_minds_6, s_X8_minds_7, s_X8_minds_9, mH_obj ha, m_g0 ha, m_g1 ha, m_g2 ha, m_g3 ha, m_g4 ha, m_g5 ha, m_g6 ha, m_g7 ha, m_g8 ha, m_g9 ha, m_g10 ha, m_g11 ha, m_g12 ha, m_g13 ha, m_g14 ha, m_g15 ha, m_g16 ha, m_g17 ha, m_g18 ha, m_g19 ha, m_g20 ha, m_p3 ha, m_p7 ha, m_p8 ha, m_p9 ha, m_p12 ha, m_p16 ha, m_p17 ha, m_p18 ha, m_p19 ha, m_p20 ha, m_r1 ha, m_r2 ha, m_r3 ha, m_r4 ha, m_r5 ha, m_r6 ha, m_r7 ha, m_r8 ha, m_r9 ha, m_r10 ha, m_r11 ha, m_s1 ha, m_s2 ha, m_s3 ha, m_s4 ha, m_s5 ha, m_s6 ha, m_s7 ha, m_s8 ha, m_s9 ha, m_s10 ha, m_s11 ha, zI_add, zI_sub, zI_mul, zI_neg, zL_add, zL_sub, zL_mul, Option.bind_some, Option.toList_some, Option.toList_none, List.cons_append, List.nil_append, zI_lt, zI_le, zI_eq, zI_eq0, zI_lt0, zI_le0, zI_0lt, zI_0le, bZ_e0, Int.add_zero, Int.zero_add, Int.reduceToNat]
  unfold mdT rmT
  by_cases q : t 1 46 = 12
  · rw [if_pos q, if_pos q]
    simp (disch := first | omega | assumption) only [s_X8_minds_12, s_X8_minds_13, mH_obj ha, m_g0 ha, m_g1 ha, m_g2 ha, m_g3 ha, m_g4 ha, m_g5 ha, m_g6 ha, m_g7 ha, m_g8 ha, m_g9 ha, m_g10 ha, m_g11 ha, m_g12 ha, m_g13 ha, m_g14 ha, m_g15 ha, m_g16 ha, m_g17 ha, m_g18 ha, m_g19 ha, m_g20 ha, m_p3 ha, m_p7 ha, m_p8 ha, m_p9 ha, m_p12 ha, m_p16 ha, m_p17 ha, m_p18 ha, m_p19 ha, m_p20 ha, m_r1 ha, m_r2 ha, m_r3 ha, m_r4 ha, m_r5 ha, m_r6 ha, m_r7 ha, m_r8 ha, m_r9 ha, m_r10 ha, m_r11 ha, m_s1 ha, m_s2 ha, m_s3 ha, m_s4 ha, m_s5 ha, m_s6 ha, m_s7 ha, m_s8 ha, m_s9 ha, m_s10 ha, m_s11 ha, zI_add, zI_sub, zI_mul, zI_neg, zL_add, zL_sub, zL_mul, Option.bind_some, Option.toList_some, Option.toList_none, List.cons_append, List.nil_append, zI_lt, zI_le, zI_eq, zI_eq0, zI_lt0, zI_le0, zI_0lt, zI_0le, bZ_e0, Int.add_zero, Int.zero_add]
    refine Eq.trans (l_minds1 ha 132 0 t rfl) ?_
    have e0 : shT t 0 1 46 = 12 := by rw [shT_o (by omega)]; exact q
    simp (disch := first | omega | assumption) only [s_X8_minds_48, s_X8_minds_49, s_X8_minds_52, s_X8_minds_54, s_X8_minds_55, s_X8_minds_56, s_X8_minds_57, s_X8_minds_58, mH_obj ha, m_g0 ha, m_g1 ha, m_g2 ha, m_g3 ha, m_g4 ha, m_g5 ha, m_g6 ha, m_g7 ha, m_g8 ha, m_g9 ha, m_g10 ha, m_g11 ha, m_g12 ha, m_g13 ha, m_g14 ha, m_g15 ha, m_g16 ha, m_g17 ha, m_g18 ha, m_g19 ha, m_g20 ha, m_p3 ha, m_p7 ha, m_p8 ha, m_p9 ha, m_p12 ha, m_p16 ha, m_p17 ha, m_p18 ha, m_p19 ha, m_p20 ha, m_r1 ha, m_r2 ha, m_r3 ha, m_r4 ha, m_r5 ha, m_r6 ha, m_r7 ha, m_r8 ha, m_r9 ha, m_r10 ha, m_r11 ha, m_s1 ha, m_s2 ha, m_s3 ha, m_s4 ha, m_s5 ha, m_s6 ha, m_s7 ha, m_s8 ha, m_s9 ha, m_s10 ha, m_s11 ha, zI_add, zI_sub, zI_mul, zI_neg, zL_add, zL_sub, zL_mul, Option.bind_some, Option.toList_some, Option.toList_none, List.cons_append, List.nil_append, zI_lt, zI_le, zI_eq, zI_eq0, zI_lt0, zI_le0, zI_0lt, zI_0le, bZ_e0, Int.add_zero, Int.zero_add, Int.reduceToNat, e0]
    exact g_minds (t := up2 (shT t 0) 1 46 (12 - 1)) ha (by rw [up2_s]; decide) (by rw [up2_s]; decide)
  · rw [if_neg q, if_neg q]
    exact g_minds ha h0 (by omega)
/-- what was read comes back to now, from reader k on -/
def cbT (t : Nat → Nat → Int) (k n : Nat) : Nat → Nat → Int := fun i j => if i = 1 ∧ 31 + k ≤ j ∧ j < 31 + n then t 7 (j - 26) else if i = 1 ∧ 36 + k ≤ j ∧ j < 36 + n then t 8 (j - 31) else t i j
theorem cbT_a {k n j : Nat} (h1 : 31 + k ≤ j) (h2 : j < 31 + n) : cbT t k n 1 j = t 7 (j - 26) := by
  unfold cbT
  exact if_pos ⟨rfl, h1, h2⟩
theorem cbT_b {k n j : Nat} (hn : n ≤ 5) (h1 : 36 + k ≤ j) (h2 : j < 36 + n) : cbT t k n 1 j = t 8 (j - 31) := by
  unfold cbT
  exact (if_neg (by omega)).trans (if_pos ⟨rfl, h1, h2⟩)
theorem cbT_o {k n i j : Nat} (h1 : ¬ (i = 1 ∧ 31 + k ≤ j ∧ j < 31 + n)) (h2 : ¬ (i = 1 ∧ 36 + k ≤ j ∧ j < 36 + n)) : cbT t k n i j = t i j := by
  unfold cbT
  exact (if_neg h1).trans (if_neg h2)
theorem l_burn {q : Int} (ha : a + 12 ≤ h.1) : ∀ (n k : Nat) (t : Nat → Nat → Int), (k : Int) + n = t 1 5 → t 1 5 ≤ 5 → x_ev (d, n_X8_burn, 98, [.ref a, .int (zI q), .int (zI k)], [], mH h a t) = some (some (.int (zI (t 0 12))), mH h a (cbT t k (k + n))) := by
  intro n
  induction n with
  | zero =>
    intro k t hk h5
    rw [s_X8_burn_98]
    simp (disch := first | omega | assumption) only [s_X8_burn_99, s_X8_burn_100, s_X8_burn_103, s_X8_burn_104, s_X8_burn_105, mH_obj ha, m_g0 ha, m_g1 ha, m_g2 ha, m_g3 ha, m_g4 ha, m_g5 ha, m_g6 ha, m_g7 ha, m_g8 ha, m_g9 ha, m_g10 ha, m_g11 ha, m_g12 ha, m_g13 ha, m_g14 ha, m_g15 ha, m_g16 ha, m_g17 ha, m_g18 ha, m_g19 ha, m_g20 ha, m_p3 ha, m_p7 ha, m_p8 ha, m_p9 ha, m_p12 ha, m_p16 ha, m_p17 ha, m_p18 ha, m_p19 ha, m_p20 ha, m_r1 ha, m_r2 ha, m_r3 ha, m_r4 ha, m_r5 ha, m_r6 ha, m_r7 ha, m_r8 ha, m_r9 ha, m_r10 ha, m_r11 ha, m_s1 ha, m_s2 ha, m_s3 ha, m_s4 ha, m_s5 ha, m_s6 ha, m_s7 ha, m_s8 ha, m_s9 ha, m_s10 ha, m_s11 ha, zI_add, zI_sub, zI_mul, zI_neg, zL_add, zL_sub, zL_mul, Option.bind_some, Option.toList_some, Option.toList_none, List.cons_append, List.nil_append, zI_lt, zI_le, zI_eq, zI_eq0, zI_lt0, zI_le0, zI_0lt, zI_0le, bZ_e0, Int.add_zero, Int.zero_add, Int.reduceToNat]
    rw [if_pos (by omega)]
    simp (disch := first | omega | assumption) only [s_X8_burn_148, s_X8_burn_149, s_X8_burn_152, mH_obj ha, m_g0 ha, m_g1 ha, m_g2 ha, m_g3 ha, m_g4 ha, m_g5 ha, m_g6 ha, m_g7 ha, m_g8 ha, m_g9 ha, m_g10 ha, m_g11 ha, m_g12 ha, m_g13 ha, m_g14 ha, m_g15 ha, m_g16 ha, m_g17 ha, m_g18 ha, m_g19 ha, m_g20 ha, m_p3 ha, m_p7 ha, m_p8 ha, m_p9 ha, m_p12 ha, m_p16 ha, m_p17 ha, m_p18 ha, m_p19 ha, m_p20 ha, m_r1 ha, m_r2 ha, m_r3 ha, m_r4 ha, m_r5 ha, m_r6 ha, m_r7 ha, m_r8 ha, m_r9 ha, m_r10 ha, m_r11 ha, m_s1 ha, m_s2 ha, m_s3 ha, m_s4 ha, m_s5 ha, m_s6 ha, m_s7 ha, m_s8 ha, m_s9 ha, m_s10 ha, m_s11 ha, zI_add, zI_sub, zI_mul, zI_neg, zL_add, zL_sub, zL_mul, Option.bind_some, Option.toList_some, Option.toList_none, List.cons_append, List.nil_append, zI_lt, zI_le, zI_eq, zI_eq0, zI_lt0, zI_le0, zI_0lt, zI_0le, bZ_e0, Int.add_zero, Int.zero_add]
    congr 3
    funext i j
    rw [cbT_o (by omega) (by omega)]
  | succ n ih =>
    intro k t hk h5
    rw [s_X8_burn_98]
    simp (disch := first | omega | assumption) only [s_X8_burn_99, s_X8_burn_100, s_X8_burn_103, s_X8_burn_104, s_X8_burn_105, mH_obj ha, m_g0 ha, m_g1 ha, m_g2 ha, m_g3 ha, m_g4 ha, m_g5 ha, m_g6 ha, m_g7 ha, m_g8 ha, m_g9 ha, m_g10 ha, m_g11 ha, m_g12 ha, m_g13 ha, m_g14 ha, m_g15 ha, m_g16 ha, m_g17 ha, m_g18 ha, m_g19 ha, m_g20 ha, m_p3 ha, m_p7 ha, m_p8 ha, m_p9 ha, m_p12 ha, m_p16 ha, m_p17 ha, m_p18 ha, m_p19 ha, m_p20 ha, m_r1 ha, m_r2 ha, m_r3 ha, m_r4 ha, m_r5 ha, m_r6 ha, m_r7 ha, m_r8 ha, m_r9 ha, m_r10 ha, m_r11 ha, m_s1 ha, m_s2 ha, m_s3 ha, m_s4 ha, m_s5 ha, m_s6 ha, m_s7 ha, m_s8 ha, m_s9 ha, m_s10 ha, m_s11 ha, zI_add, zI_sub, zI_mul, zI_neg, zL_add, zL_sub, zL_mul, Option.bind_some, Option.toList_some, Option.toList_none, List.cons_append, List.nil_append, zI_lt, zI_le, zI_eq, zI_eq0, zI_lt0, zI_le0, zI_0lt, zI_0le, bZ_e0, Int.add_zero, Int.zero_add, Int.reduceToNat]
    rw [if_neg (by omega)]
    simp (disch := first | omega | assumption) only [s_X8_burn_108, s_X8_burn_109, s_X8_burn_112, s_X8_burn_114, s_X8_burn_115, s_X8_burn_116, s_X8_burn_117, s_X8_burn_120, s_X8_burn_121, s_X8_burn_122, s_X8_burn_123, s_X8_burn_124, s_X8_burn_125, s_X8_burn_126, s_X8_burn_129, s_X8_burn_131, s_X8_burn_132, s_X8_burn_133, s_X8_burn_134, s_X8_burn_137, s_X8_burn_138, s_X8_burn_139, s_X8_burn_140, s_X8_burn_141, s_X8_burn_142, s_X8_burn_145, mH_obj ha, m_g0 ha, m_g1 ha, m_g2 ha, m_g3 ha, m_g4 ha, m_g5 ha, m_g6 ha, m_g7 ha, m_g8 ha, m_g9 ha, m_g10 ha, m_g11 ha, m_g12 ha, m_g13 ha, m_g14 ha, m_g15 ha, m_g16 ha, m_g17 ha, m_g18 ha, m_g19 ha, m_g20 ha, m_p3 ha, m_p7 ha, m_p8 ha, m_p9 ha, m_p12 ha, m_p16 ha, m_p17 ha, m_p18 ha, m_p19 ha, m_p20 ha, m_r1 ha, m_r2 ha, m_r3 ha, m_r4 ha, m_r5 ha, m_r6 ha, m_r7 ha, m_r8 ha, m_r9 ha, m_r10 ha, m_r11 ha, m_s1 ha, m_s2 ha, m_s3 ha, m_s4 ha, m_s5 ha, m_s6 ha, m_s7 ha, m_s8 ha, m_s9 ha, m_s10 ha, m_s11 ha, zI_add, zI_sub, zI_mul, zI_neg, zL_add, zL_sub, zL_mul, Option.bind_some, Option.toList_some, Option.toList_none, List.cons_append, List.nil_append, zI_lt, zI_le, zI_eq, zI_eq0, zI_lt0, zI_le0, zI_0lt, zI_0le, bZ_e0, Int.add_zero, Int.zero_add, up2_n]
    have e1 : (k : Int) + 1 = ((k + 1 : Nat) : Int) := by omega
    have e4 : (31 + (k : Int)).toNat = 31 + k := by omega
    have e5 : (36 + (k : Int)).toNat = 36 + k := by omega
    have e6 : (5 + (k : Int)).toNat = 5 + k := by omega
    rw [e1, e4, e5, e6, ih (k + 1) _ (by rw [up2_n (by omega), up2_n (by omega)]; omega) (by rw [up2_n (by omega), up2_n (by omega)]; exact h5), up2_n (by omega), up2_n (by omega), show k + 1 + n = k + (n + 1) by omega]
    congr 3
    funext i j
    by_cases qa : i = 1 ∧ 31 + k ≤ j ∧ j < 31 + (k + (n + 1))
    · rw [qa.1, cbT_a qa.2.1 qa.2.2]
      by_cases q1 : j = 31 + k
      · rw [q1, cbT_o (by omega) (by omega), up2_n (by omega), up2_s, show 31 + k - 26 = 5 + k by omega]
      · rw [cbT_a (by omega) qa.2.2, up2_n (by omega), up2_n (by omega)]
    · by_cases qb : i = 1 ∧ 36 + k ≤ j ∧ j < 36 + (k + (n + 1))
      · rw [qb.1, cbT_b (by omega) qb.2.1 qb.2.2]
        by_cases q1 : j = 36 + k
        · rw [q1, cbT_o (by omega) (by omega), up2_s, show 36 + k - 31 = 5 + k by omega]
        · rw [cbT_b (by omega) (by omega) qb.2.2, up2_n (by omega), up2_n (by omega)]
      · rw [cbT_o (by omega) (by omega), cbT_o qa qb, up2_n (by omega), up2_n (by omega)]
/-- a minute from how all is now, the lamp at q -/
def b1T (t : Nat → Nat → Int) (q : Int) : Nat → Nat → Int := bgT (up2 (mdT t) 1 2 q) 0
def b2T (t : Nat → Nat → Int) (q : Int) : Nat → Nat → Int := mnT (b1T t q) 0 (lgL (b1T t q) (if t 1 3 ≤ 0 then -1 else q) (-1)) (t 1 5).toNat
def brT (t : Nat → Nat → Int) (q : Int) : Nat → Nat → Int := cbT (up2 (b2T t q) 1 3 (t 1 3 - (if t 1 3 ≤ 0 then 0 else 1))) 0 (t 1 5).toNat
theorem rmT_lo {j : Nat} (hj : j < 46) : rmT t 1 j = t 1 j := by
  unfold rmT
  split
  · rw [up2_n (by omega), shT_o (by omega)]
  · rfl
theorem kpT_lo {s j : Nat} (hs : 47 ≤ s) (hj : j < 46) : kpT t s 1 j = t 1 j := by
  unfold kpT
  rw [up2_n (by omega), stT_o (by omega) (by omega), up2_n (by omega), up2_n (by omega)]
theorem rmT_46 (h0 : 0 ≤ t 1 46) (h1 : t 1 46 ≤ 12) : 0 ≤ rmT t 1 46 ∧ rmT t 1 46 ≤ 11 := by
  unfold rmT
  split
  · rw [up2_s]; omega
  · omega
theorem mdT_lo {j : Nat} (h0 : 0 ≤ t 1 46) (h1 : t 1 46 ≤ 12) (hj : j < 46) : mdT t 1 j = t 1 j := by
  have := rmT_46 h0 h1
  unfold mdT
  rw [kpT_lo (by omega) hj, rmT_lo hj]
theorem b1T_lo {q : Int} {j : Nat} (h0 : 0 ≤ t 1 46) (h1 : t 1 46 ≤ 12) (hj : j < 46) (h2 : j ≠ 2) : b1T t q 1 j = t 1 j := by
  unfold b1T
  rw [bgT_o (by omega), up2_n (by omega), mdT_lo h0 h1 hj]
def qBurn (t : Nat → Nat → Int) (q : Int) : Int × (Nat → Nat → Int) := if 0 ≤ q ∧ q < sqN t 0 then (if bes (t 1 0) (t 1 4) (t 1 2) q = true then (brT t q 0 12, brT t q) else (-3, metT t (-3))) else (-2, metT t (-2))
/-- what now must be for its minutes -/
def nowOk (t : Nat → Nat → Int) : Prop := rOk t 0 ∧ (2 ≤ t 1 0 ∧ t 1 0 ≤ 5) ∧ (0 ≤ t 1 46 ∧ t 1 46 ≤ 12) ∧ ∀ p, 0 ≤ p → p < t 1 5 → (0 ≤ t 1 (11 + p).toNat ∧ t 1 (11 + p).toNat ≤ 5) ∧ (0 ≤ t 1 (21 + p).toNat ∧ t 1 (21 + p).toNat ≤ 9) ∧ (0 ≤ t 1 (31 + p).toNat ∧ t 1 (31 + p).toNat ≤ 20) ∧ (0 ≤ t 1 (36 + p).toNat ∧ t 1 (36 + p).toNat ≤ 1) ∧ (1 ≤ t 1 (16 + p).toNat ∧ t 1 (16 + p).toNat ≤ 20) ∧ (0 ≤ t 1 (41 + p).toNat ∧ t 1 (41 + p).toNat ≤ 20)
theorem b1T_ok {q : Int} (ho : nowOk t) : mnOk (b1T t q) 0 := by
  obtain ⟨ho, hW, h46, hR⟩ := ho
  have o5 : 0 ≤ t 1 5 ∧ t 1 5 ≤ 5 := ho.2.1
  have e : ∀ j, j < 46 → j ≠ 2 → b1T t q 1 j = t 1 j := fun j h1 h2 => b1T_lo h46.1 h46.2 h1 h2
  have e7 : ∀ j, j < 5 → b1T t q 7 j = t 1 (31 + j) := fun j h1 => by
    unfold b1T
    rw [bgT_7 (by omega) h1, up2_n (by omega), mdT_lo h46.1 h46.2 (by omega)]
  have e8 : ∀ j, j < 5 → b1T t q 8 j = t 1 (36 + j) := fun j h1 => by
    unfold b1T
    rw [bgT_8 (by omega) h1, up2_n (by omega), mdT_lo h46.1 h46.2 (by omega)]
  refine ⟨by rw [e 0 (by decide) (by decide)]; exact hW, by rw [e 5 (by decide) (by decide)]; exact o5, fun p h0 h1 => ?_⟩
  rw [e 5 (by decide) (by decide)] at h1
  obtain ⟨r1, r2, r3, r4, -, -⟩ := hR p h0 h1
  have r0 := ho.2.2.1 p h0 h1
  rw [show (0 + 6 + p).toNat = (6 + p).toNat by omega] at r0
  rw [e _ (by omega) (by omega), e _ (by omega) (by omega), e _ (by omega) (by omega), e7 _ (by omega), e8 _ (by omega), show 31 + (5 * 0 + p).toNat = (31 + p).toNat by omega, show 36 + (5 * 0 + p).toNat = (36 + p).toNat by omega]
  exact ⟨r0, r1, r2, r3, r4⟩
theorem m_burn {q : Int} (ha : a + 12 ≤ h.1) (h2 : -2147483648 ≤ q) (h3 : q < 2147483648) (ho : nowOk t) : x_cl (d + 3) n_X8_burn [.ref a, .int (zI q)] (mH h a t) = some (some (.int (zI (qBurn t q).1)), mH h a (qBurn t q).2) := by
  have hok := b1T_ok (q := q) ho
  obtain ⟨hr, hW, h46, hR⟩ := ho
  have o1 := hr.1
  have o2 : 0 ≤ t 1 2 ∧ t 1 2 < 25 := hr.2.2.2.1
  have o3 : 0 ≤ t 1 3 ∧ t 1 3 ≤ 12 := hr.2.2.2.2.2
  have o5 : 0 ≤ t 1 5 ∧ t 1 5 ≤ 5 := hr.2.1
  unfold qBurn
  simp (disch := first | omega | assumption) only [e_X8_burn, s_X8_burn_0, s_X8_burn_1, s_X8_burn_2, s_X8_burn_3, s_X8_burn_6, s_X8_burn_9, s_X8_burn_10, s_X8_burn_12, s_X8_burn_15, mH_obj ha, m_g0 ha, m_g1 ha, m_g2 ha, m_g3 ha, m_g4 ha, m_g5 ha, m_g6 ha, m_g7 ha, m_g8 ha, m_g9 ha, m_g10 ha, m_g11 ha, m_g12 ha, m_g13 ha, m_g14 ha, m_g15 ha, m_g16 ha, m_g17 ha, m_g18 ha, m_g19 ha, m_g20 ha, m_p3 ha, m_p7 ha, m_p8 ha, m_p9 ha, m_p12 ha, m_p16 ha, m_p17 ha, m_p18 ha, m_p19 ha, m_p20 ha, m_r1 ha, m_r2 ha, m_r3 ha, m_r4 ha, m_r5 ha, m_r6 ha, m_r7 ha, m_r8 ha, m_r9 ha, m_r10 ha, m_r11 ha, m_s1 ha, m_s2 ha, m_s3 ha, m_s4 ha, m_s5 ha, m_s6 ha, m_s7 ha, m_s8 ha, m_s9 ha, m_s10 ha, m_s11 ha, zI_add, zI_sub, zI_mul, zI_neg, zL_add, zL_sub, zL_mul, Option.bind_some, Option.toList_some, Option.toList_none, List.cons_append, List.nil_append, zI_lt, zI_le, zI_eq, zI_eq0, zI_lt0, zI_le0, zI_0lt, zI_0le, bZ_e0, Int.add_zero, Int.zero_add, c_isSq ha, c_met ha, ite_not]
  by_cases z1 : 0 ≤ q ∧ q < sqN t 0
  · rw [if_pos z1, if_pos z1]
    simp (disch := first | omega | assumption) only [s_X8_burn_16, s_X8_burn_17, s_X8_burn_18, s_X8_burn_21, s_X8_burn_22, s_X8_burn_23, s_X8_burn_24, s_X8_burn_27, s_X8_burn_30, s_X8_burn_31, s_X8_burn_33, s_X8_burn_36, mH_obj ha, m_g0 ha, m_g1 ha, m_g2 ha, m_g3 ha, m_g4 ha, m_g5 ha, m_g6 ha, m_g7 ha, m_g8 ha, m_g9 ha, m_g10 ha, m_g11 ha, m_g12 ha, m_g13 ha, m_g14 ha, m_g15 ha, m_g16 ha, m_g17 ha, m_g18 ha, m_g19 ha, m_g20 ha, m_p3 ha, m_p7 ha, m_p8 ha, m_p9 ha, m_p12 ha, m_p16 ha, m_p17 ha, m_p18 ha, m_p19 ha, m_p20 ha, m_r1 ha, m_r2 ha, m_r3 ha, m_r4 ha, m_r5 ha, m_r6 ha, m_r7 ha, m_r8 ha, m_r9 ha, m_r10 ha, m_r11 ha, m_s1 ha, m_s2 ha, m_s3 ha, m_s4 ha, m_s5 ha, m_s6 ha, m_s7 ha, m_s8 ha, m_s9 ha, m_s10 ha, m_s11 ha, zI_add, zI_sub, zI_mul, zI_neg, zL_add, zL_sub, zL_mul, Option.bind_some, Option.toList_some, Option.toList_none, List.cons_append, List.nil_append, zI_lt, zI_le, zI_eq, zI_eq0, zI_lt0, zI_le0, zI_0lt, zI_0le, bZ_e0, Int.add_zero, Int.zero_add, c_isBeside ha, c_met ha, Int.reduceToNat, ite_not]
    by_cases z2 : bes (t 1 0) (t 1 4) (t 1 2) q = true
    · rw [if_pos z2, if_pos z2]
      simp (disch := first | omega | assumption) only [s_X8_burn_37, s_X8_burn_38, s_X8_burn_41, s_X8_burn_42, s_X8_burn_45, s_X8_burn_46, s_X8_burn_47, s_X8_burn_48, s_X8_burn_49, mH_obj ha, m_g0 ha, m_g1 ha, m_g2 ha, m_g3 ha, m_g4 ha, m_g5 ha, m_g6 ha, m_g7 ha, m_g8 ha, m_g9 ha, m_g10 ha, m_g11 ha, m_g12 ha, m_g13 ha, m_g14 ha, m_g15 ha, m_g16 ha, m_g17 ha, m_g18 ha, m_g19 ha, m_g20 ha, m_p3 ha, m_p7 ha, m_p8 ha, m_p9 ha, m_p12 ha, m_p16 ha, m_p17 ha, m_p18 ha, m_p19 ha, m_p20 ha, m_r1 ha, m_r2 ha, m_r3 ha, m_r4 ha, m_r5 ha, m_r6 ha, m_r7 ha, m_r8 ha, m_r9 ha, m_r10 ha, m_r11 ha, m_s1 ha, m_s2 ha, m_s3 ha, m_s4 ha, m_s5 ha, m_s6 ha, m_s7 ha, m_s8 ha, m_s9 ha, m_s10 ha, m_s11 ha, zI_add, zI_sub, zI_mul, zI_neg, zL_add, zL_sub, zL_mul, Option.bind_some, Option.toList_some, Option.toList_none, List.cons_append, List.nil_append, zI_lt, zI_le, zI_eq, zI_eq0, zI_lt0, zI_le0, zI_0lt, zI_0le, bZ_e0, Int.add_zero, Int.zero_add, c_minds ha, c_beginNow ha, Int.reduceToNat]
      rw [show bgT (up2 (mdT t) 1 2 q) 0 = b1T t q from rfl]
      have e3 : b1T t q 1 3 = t 1 3 := b1T_lo h46.1 h46.2 (by decide) (by decide)
      have e5 : b1T t q 1 5 = t 1 5 := b1T_lo h46.1 h46.2 (by decide) (by decide)
      simp (disch := first | omega | assumption) only [s_X8_burn_52, s_X8_burn_53, s_X8_burn_54, s_X8_burn_55, s_X8_burn_58, s_X8_burn_59, s_X8_burn_60, s_X8_burn_63, s_X8_burn_64, s_X8_burn_67, mH_obj ha, m_g0 ha, m_g1 ha, m_g2 ha, m_g3 ha, m_g4 ha, m_g5 ha, m_g6 ha, m_g7 ha, m_g8 ha, m_g9 ha, m_g10 ha, m_g11 ha, m_g12 ha, m_g13 ha, m_g14 ha, m_g15 ha, m_g16 ha, m_g17 ha, m_g18 ha, m_g19 ha, m_g20 ha, m_p3 ha, m_p7 ha, m_p8 ha, m_p9 ha, m_p12 ha, m_p16 ha, m_p17 ha, m_p18 ha, m_p19 ha, m_p20 ha, m_r1 ha, m_r2 ha, m_r3 ha, m_r4 ha, m_r5 ha, m_r6 ha, m_r7 ha, m_r8 ha, m_r9 ha, m_r10 ha, m_r11 ha, m_s1 ha, m_s2 ha, m_s3 ha, m_s4 ha, m_s5 ha, m_s6 ha, m_s7 ha, m_s8 ha, m_s9 ha, m_s10 ha, m_s11 ha, zI_add, zI_sub, zI_mul, zI_neg, zL_add, zL_sub, zL_mul, Option.bind_some, Option.toList_some, Option.toList_none, List.cons_append, List.nil_append, zI_lt, zI_le, zI_eq, zI_eq0, zI_lt0, zI_le0, zI_0lt, zI_0le, bZ_e0, Int.add_zero, Int.zero_add, Int.reduceToNat, e3, x_j1]
      have hmn := c_minute (d := d) (t := b1T t q) (lev := 0) (one := if t 1 3 ≤ 0 then -1 else q) (other := -1) ha (by decide) hok (by split <;> omega) (by decide)
      rw [e5] at hmn
      rw [show mnT (b1T t q) 0 (lgL (b1T t q) (if t 1 3 ≤ 0 then -1 else q) (-1)) (t 1 5).toNat = b2T t q from rfl] at hmn
      have f3 : b2T t q 1 3 = t 1 3 := by unfold b2T; rw [mnT_1]; exact e3
      simp (disch := first | omega | assumption) only [s_X8_burn_68, s_X8_burn_69, s_X8_burn_72, s_X8_burn_73, s_X8_burn_74, s_X8_burn_77, s_X8_burn_78, s_X8_burn_79, s_X8_burn_80, s_X8_burn_81, s_X8_burn_84, s_X8_burn_85, s_X8_burn_86, s_X8_burn_89, s_X8_burn_90, s_X8_burn_93, mH_obj ha, m_g0 ha, m_g1 ha, m_g2 ha, m_g3 ha, m_g4 ha, m_g5 ha, m_g6 ha, m_g7 ha, m_g8 ha, m_g9 ha, m_g10 ha, m_g11 ha, m_g12 ha, m_g13 ha, m_g14 ha, m_g15 ha, m_g16 ha, m_g17 ha, m_g18 ha, m_g19 ha, m_g20 ha, m_p3 ha, m_p7 ha, m_p8 ha, m_p9 ha, m_p12 ha, m_p16 ha, m_p17 ha, m_p18 ha, m_p19 ha, m_p20 ha, m_r1 ha, m_r2 ha, m_r3 ha, m_r4 ha, m_r5 ha, m_r6 ha, m_r7 ha, m_r8 ha, m_r9 ha, m_r10 ha, m_r11 ha, m_s1 ha, m_s2 ha, m_s3 ha, m_s4 ha, m_s5 ha, m_s6 ha, m_s7 ha, m_s8 ha, m_s9 ha, m_s10 ha, m_s11 ha, zI_add, zI_sub, zI_mul, zI_neg, zL_add, zL_sub, zL_mul, Option.bind_some, Option.toList_some, Option.toList_none, List.cons_append, List.nil_append, zI_lt, zI_le, zI_eq, zI_eq0, zI_lt0, zI_le0, zI_0lt, zI_0le, bZ_e0, Int.add_zero, Int.zero_add, hmn, Int.reduceToNat, f3, x_j1]
      simp (disch := first | omega | assumption) only [s_X8_burn_94, s_X8_burn_95, s_X8_burn_96, s_X8_burn_97, mH_obj ha, m_g0 ha, m_g1 ha, m_g2 ha, m_g3 ha, m_g4 ha, m_g5 ha, m_g6 ha, m_g7 ha, m_g8 ha, m_g9 ha, m_g10 ha, m_g11 ha, m_g12 ha, m_g13 ha, m_g14 ha, m_g15 ha, m_g16 ha, m_g17 ha, m_g18 ha, m_g19 ha, m_g20 ha, m_p3 ha, m_p7 ha, m_p8 ha, m_p9 ha, m_p12 ha, m_p16 ha, m_p17 ha, m_p18 ha, m_p19 ha, m_p20 ha, m_r1 ha, m_r2 ha, m_r3 ha, m_r4 ha, m_r5 ha, m_r6 ha, m_r7 ha, m_r8 ha, m_r9 ha, m_r10 ha, m_r11 ha, m_s1 ha, m_s2 ha, m_s3 ha, m_s4 ha, m_s5 ha, m_s6 ha, m_s7 ha, m_s8 ha, m_s9 ha, m_s10 ha, m_s11 ha, zI_add, zI_sub, zI_mul, zI_neg, zL_add, zL_sub, zL_mul, Option.bind_some, Option.toList_some, Option.toList_none, List.cons_append, List.nil_append, zI_lt, zI_le, zI_eq, zI_eq0, zI_lt0, zI_le0, zI_0lt, zI_0le, bZ_e0, Int.add_zero, Int.zero_add, Int.reduceToNat]
      have f5 : up2 (b2T t q) 1 3 (t 1 3 - (if t 1 3 ≤ 0 then 0 else 1)) 1 5 = t 1 5 := by rw [up2_n (by omega)]; unfold b2T; rw [mnT_1]; exact e5
      refine Eq.trans (l_burn (d := d + 2 + 1) ha (t 1 5).toNat 0 (up2 (b2T t q) 1 3 (t 1 3 - (if t 1 3 ≤ 0 then 0 else 1))) (by rw [f5]; omega) (by rw [f5]; exact o5.2)) ?_
      rw [Nat.zero_add]
      have f12 : brT t q 0 12 = up2 (b2T t q) 1 3 (t 1 3 - (if t 1 3 ≤ 0 then 0 else 1)) 0 12 := cbT_o (by omega) (by omega)
      rw [f12]
      rfl
    · rw [if_neg z2, if_neg z2]
  · rw [if_neg z1, if_neg z1]
/-- undo -/
def udT (t : Nat → Nat → Int) (s k : Nat) : Nat → Nat → Int := fun i j => if i = 1 ∧ 31 + k ≤ j ∧ j < 36 then t 1 (s + 2 + (j - 31)) else if i = 1 ∧ 36 + k ≤ j ∧ j < 41 then t 1 (s + 7 + (j - 36)) else t i j
theorem udT_a {s k j : Nat} (h1 : 31 + k ≤ j) (h2 : j < 36) : udT t s k 1 j = t 1 (s + 2 + (j - 31)) := by
  unfold udT
  exact if_pos ⟨rfl, h1, h2⟩
theorem udT_b {s k j : Nat} (h1 : 36 + k ≤ j) (h2 : j < 41) : udT t s k 1 j = t 1 (s + 7 + (j - 36)) := by
  unfold udT
  exact (if_neg (by omega)).trans (if_pos ⟨rfl, h1, h2⟩)
theorem udT_o {s k i j : Nat} (h1 : ¬ (i = 1 ∧ 31 + k ≤ j ∧ j < 36)) (h2 : ¬ (i = 1 ∧ 36 + k ≤ j ∧ j < 41)) : udT t s k i j = t i j := by
  unfold udT
  exact (if_neg h1).trans (if_neg h2)
theorem l_undo {s : Nat} (ha : a + 12 ≤ h.1) (hs0 : 47 ≤ s) (hs : s ≤ 179) : ∀ (n k : Nat) (t : Nat → Nat → Int), k + n = 5 → x_ev (d, n_X8_undo, 70, [.ref a, .int (zI s), .int (zI k)], [], mH h a t) = some (some (.int (zI 1)), mH h a (udT t s k)) := by
  intro n
  induction n with
  | zero =>
    intro k t hk
    rw [s_X8_undo_70]
    simp (disch := first | omega | assumption) only [s_X8_undo_71, s_X8_undo_72, mH_obj ha, m_g0 ha, m_g1 ha, m_g2 ha, m_g3 ha, m_g4 ha, m_g5 ha, m_g6 ha, m_g7 ha, m_g8 ha, m_g9 ha, m_g10 ha, m_g11 ha, m_g12 ha, m_g13 ha, m_g14 ha, m_g15 ha, m_g16 ha, m_g17 ha, m_g18 ha, m_g19 ha, m_g20 ha, m_p3 ha, m_p7 ha, m_p8 ha, m_p9 ha, m_p12 ha, m_p16 ha, m_p17 ha, m_p18 ha, m_p19 ha, m_p20 ha, m_r1 ha, m_r2 ha, m_r3 ha, m_r4 ha, m_r5 ha, m_r6 ha, m_r7 ha, m_r8 ha, m_r9 ha, m_r10 ha, m_r11 ha, m_s1 ha, m_s2 ha, m_s3 ha, m_s4 ha, m_s5 ha, m_s6 ha, m_s7 ha, m_s8 ha, m_s9 ha, m_s10 ha, m_s11 ha, zI_add, zI_sub, zI_mul, zI_neg, zL_add, zL_sub, zL_mul, Option.bind_some, Option.toList_some, Option.toList_none, List.cons_append, List.nil_append, zI_lt, zI_le, zI_eq, zI_eq0, zI_lt0, zI_le0, zI_0lt, zI_0le, bZ_e0, Int.add_zero, Int.zero_add]
    rw [if_pos (by omega)]
    simp (disch := first | omega | assumption) only [s_X8_undo_120, s_X8_undo_121, mH_obj ha, m_g0 ha, m_g1 ha, m_g2 ha, m_g3 ha, m_g4 ha, m_g5 ha, m_g6 ha, m_g7 ha, m_g8 ha, m_g9 ha, m_g10 ha, m_g11 ha, m_g12 ha, m_g13 ha, m_g14 ha, m_g15 ha, m_g16 ha, m_g17 ha, m_g18 ha, m_g19 ha, m_g20 ha, m_p3 ha, m_p7 ha, m_p8 ha, m_p9 ha, m_p12 ha, m_p16 ha, m_p17 ha, m_p18 ha, m_p19 ha, m_p20 ha, m_r1 ha, m_r2 ha, m_r3 ha, m_r4 ha, m_r5 ha, m_r6 ha, m_r7 ha, m_r8 ha, m_r9 ha, m_r10 ha, m_r11 ha, m_s1 ha, m_s2 ha, m_s3 ha, m_s4 ha, m_s5 ha, m_s6 ha, m_s7 ha, m_s8 ha, m_s9 ha, m_s10 ha, m_s11 ha, zI_add, zI_sub, zI_mul, zI_neg, zL_add, zL_sub, zL_mul, Option.bind_some, Option.toList_some, Option.toList_none, List.cons_append, List.nil_append, zI_lt, zI_le, zI_eq, zI_eq0, zI_lt0, zI_le0, zI_0lt, zI_0le, bZ_e0, Int.add_zero, Int.zero_add]
    congr 3
    funext i j
    rw [udT_o (by omega) (by omega)]
  | succ n ih =>
    intro k t hk
    rw [s_X8_undo_70]
    simp (disch := first | omega | assumption) only [s_X8_undo_71, s_X8_undo_72, mH_obj ha, m_g0 ha, m_g1 ha, m_g2 ha, m_g3 ha, m_g4 ha, m_g5 ha, m_g6 ha, m_g7 ha, m_g8 ha, m_g9 ha, m_g10 ha, m_g11 ha, m_g12 ha, m_g13 ha, m_g14 ha, m_g15 ha, m_g16 ha, m_g17 ha, m_g18 ha, m_g19 ha, m_g20 ha, m_p3 ha, m_p7 ha, m_p8 ha, m_p9 ha, m_p12 ha, m_p16 ha, m_p17 ha, m_p18 ha, m_p19 ha, m_p20 ha, m_r1 ha, m_r2 ha, m_r3 ha, m_r4 ha, m_r5 ha, m_r6 ha, m_r7 ha, m_r8 ha, m_r9 ha, m_r10 ha, m_r11 ha, m_s1 ha, m_s2 ha, m_s3 ha, m_s4 ha, m_s5 ha, m_s6 ha, m_s7 ha, m_s8 ha, m_s9 ha, m_s10 ha, m_s11 ha, zI_add, zI_sub, zI_mul, zI_neg, zL_add, zL_sub, zL_mul, Option.bind_some, Option.toList_some, Option.toList_none, List.cons_append, List.nil_append, zI_lt, zI_le, zI_eq, zI_eq0, zI_lt0, zI_le0, zI_0lt, zI_0le, bZ_e0, Int.add_zero, Int.zero_add]
    rw [if_neg (by omega)]
    simp (disch := first | omega | assumption) only [s_X8_undo_75, s_X8_undo_76, s_X8_undo_79, s_X8_undo_81, s_X8_undo_82, s_X8_undo_83, s_X8_undo_84, s_X8_undo_87, s_X8_undo_88, s_X8_undo_89, s_X8_undo_90, s_X8_undo_91, s_X8_undo_92, s_X8_undo_93, s_X8_undo_94, s_X8_undo_95, s_X8_undo_98, s_X8_undo_100, s_X8_undo_101, s_X8_undo_102, s_X8_undo_103, s_X8_undo_106, s_X8_undo_107, s_X8_undo_109, s_X8_undo_110, s_X8_undo_111, s_X8_undo_112, s_X8_undo_113, s_X8_undo_114, s_X8_undo_117, mH_obj ha, m_g0 ha, m_g1 ha, m_g2 ha, m_g3 ha, m_g4 ha, m_g5 ha, m_g6 ha, m_g7 ha, m_g8 ha, m_g9 ha, m_g10 ha, m_g11 ha, m_g12 ha, m_g13 ha, m_g14 ha, m_g15 ha, m_g16 ha, m_g17 ha, m_g18 ha, m_g19 ha, m_g20 ha, m_p3 ha, m_p7 ha, m_p8 ha, m_p9 ha, m_p12 ha, m_p16 ha, m_p17 ha, m_p18 ha, m_p19 ha, m_p20 ha, m_r1 ha, m_r2 ha, m_r3 ha, m_r4 ha, m_r5 ha, m_r6 ha, m_r7 ha, m_r8 ha, m_r9 ha, m_r10 ha, m_r11 ha, m_s1 ha, m_s2 ha, m_s3 ha, m_s4 ha, m_s5 ha, m_s6 ha, m_s7 ha, m_s8 ha, m_s9 ha, m_s10 ha, m_s11 ha, zI_add, zI_sub, zI_mul, zI_neg, zL_add, zL_sub, zL_mul, Option.bind_some, Option.toList_some, Option.toList_none, List.cons_append, List.nil_append, zI_lt, zI_le, zI_eq, zI_eq0, zI_lt0, zI_le0, zI_0lt, zI_0le, bZ_e0, Int.add_zero, Int.zero_add, up2_n]
    have e1 : (k : Int) + 1 = ((k + 1 : Nat) : Int) := by omega
    have e2 : ((s : Int) + 2 + (k : Int)).toNat = s + 2 + k := by omega
    have e3 : ((s : Int) + 7 + (k : Int)).toNat = s + 7 + k := by omega
    have e4 : (31 + (k : Int)).toNat = 31 + k := by omega
    have e5 : (36 + (k : Int)).toNat = 36 + k := by omega
    rw [e1, e2, e3, e4, e5, ih (k + 1) _ (by omega)]
    congr 3
    funext i j
    by_cases qa : i = 1 ∧ 31 + k ≤ j ∧ j < 36
    · rw [qa.1, udT_a qa.2.1 qa.2.2]
      by_cases q1 : j = 31 + k
      · rw [q1, udT_o (by omega) (by omega), up2_n (by omega), up2_s, show 31 + k - 31 = k by omega]
      · rw [udT_a (by omega) qa.2.2, up2_n (by omega), up2_n (by omega)]
    · by_cases qb : i = 1 ∧ 36 + k ≤ j ∧ j < 41
      · rw [qb.1, udT_b qb.2.1 qb.2.2]
        by_cases q1 : j = 36 + k
        · rw [q1, udT_o (by omega) (by omega), up2_s, show 36 + k - 36 = k by omega]
        · rw [udT_b (by omega) qb.2.2, up2_n (by omega), up2_n (by omega)]
      · rw [udT_o (by omega) (by omega), udT_o qa qb, up2_n (by omega), up2_n (by omega)]
def unT (t : Nat → Nat → Int) (s : Nat) : Nat → Nat → Int := udT (up2 (up2 (up2 t 1 46 (t 1 46 - 1)) 1 2 (t 1 s)) 1 3 (t 1 (s + 1))) s 0
def qUndo (t : Nat → Nat → Int) : Int × (Nat → Nat → Int) := if t 1 46 = 0 then (-3, metT t (-3)) else (1, unT t (47 + 12 * (t 1 46 - 1)).toNat)
theorem m_undo (ha : a + 12 ≤ h.1) (h46 : 0 ≤ t 1 46 ∧ t 1 46 ≤ 12) : x_cl (d + 1) n_X8_undo [.ref a] (mH h a t) = some (some (.int (zI (qUndo t).1)), mH h a (qUndo t).2) := by
  unfold qUndo
  simp (disch := first | omega | assumption) only [e_X8_undo, s_X8_undo_0, s_X8_undo_1, s_X8_undo_4, s_X8_undo_6, s_X8_undo_7, s_X8_undo_10, s_X8_undo_11, s_X8_undo_13, s_X8_undo_16, mH_obj ha, m_g0 ha, m_g1 ha, m_g2 ha, m_g3 ha, m_g4 ha, m_g5 ha, m_g6 ha, m_g7 ha, m_g8 ha, m_g9 ha, m_g10 ha, m_g11 ha, m_g12 ha, m_g13 ha, m_g14 ha, m_g15 ha, m_g16 ha, m_g17 ha, m_g18 ha, m_g19 ha, m_g20 ha, m_p3 ha, m_p7 ha, m_p8 ha, m_p9 ha, m_p12 ha, m_p16 ha, m_p17 ha, m_p18 ha, m_p19 ha, m_p20 ha, m_r1 ha, m_r2 ha, m_r3 ha, m_r4 ha, m_r5 ha, m_r6 ha, m_r7 ha, m_r8 ha, m_r9 ha, m_r10 ha, m_r11 ha, m_s1 ha, m_s2 ha, m_s3 ha, m_s4 ha, m_s5 ha, m_s6 ha, m_s7 ha, m_s8 ha, m_s9 ha, m_s10 ha, m_s11 ha, zI_add, zI_sub, zI_mul, zI_neg, zL_add, zL_sub, zL_mul, Option.bind_some, Option.toList_some, Option.toList_none, List.cons_append, List.nil_append, zI_lt, zI_le, zI_eq, zI_eq0, zI_lt0, zI_le0, zI_0lt, zI_0le, bZ_e0, Int.add_zero, Int.zero_add, Int.reduceToNat, c_met ha]
  by_cases z : t 1 46 = 0
  · rw [if_pos z, if_pos z]
  · rw [if_neg z, if_neg z]
    simp (disch := first | omega | assumption) only [s_X8_undo_17, s_X8_undo_18, s_X8_undo_21, s_X8_undo_23, s_X8_undo_24, s_X8_undo_25, s_X8_undo_26, s_X8_undo_27, s_X8_undo_28, s_X8_undo_30, s_X8_undo_32, s_X8_undo_33, s_X8_undo_36, s_X8_undo_38, s_X8_undo_39, s_X8_undo_40, s_X8_undo_41, s_X8_undo_42, s_X8_undo_43, s_X8_undo_46, s_X8_undo_47, s_X8_undo_48, s_X8_undo_51, s_X8_undo_52, s_X8_undo_53, s_X8_undo_54, s_X8_undo_55, s_X8_undo_58, s_X8_undo_59, s_X8_undo_60, s_X8_undo_63, s_X8_undo_64, s_X8_undo_65, s_X8_undo_66, s_X8_undo_67, s_X8_undo_68, s_X8_undo_69, mH_obj ha, m_g0 ha, m_g1 ha, m_g2 ha, m_g3 ha, m_g4 ha, m_g5 ha, m_g6 ha, m_g7 ha, m_g8 ha, m_g9 ha, m_g10 ha, m_g11 ha, m_g12 ha, m_g13 ha, m_g14 ha, m_g15 ha, m_g16 ha, m_g17 ha, m_g18 ha, m_g19 ha, m_g20 ha, m_p3 ha, m_p7 ha, m_p8 ha, m_p9 ha, m_p12 ha, m_p16 ha, m_p17 ha, m_p18 ha, m_p19 ha, m_p20 ha, m_r1 ha, m_r2 ha, m_r3 ha, m_r4 ha, m_r5 ha, m_r6 ha, m_r7 ha, m_r8 ha, m_r9 ha, m_r10 ha, m_r11 ha, m_s1 ha, m_s2 ha, m_s3 ha, m_s4 ha, m_s5 ha, m_s6 ha, m_s7 ha, m_s8 ha, m_s9 ha, m_s10 ha, m_s11 ha, zI_add, zI_sub, zI_mul, zI_neg, zL_add, zL_sub, zL_mul, Option.bind_some, Option.toList_some, Option.toList_none, List.cons_append, List.nil_append, zI_lt, zI_le, zI_eq, zI_eq0, zI_lt0, zI_le0, zI_0lt, zI_0le, bZ_e0, Int.add_zero, Int.zero_add, Int.reduceToNat, up2_s, up2_n]
    have := l_undo (d := d + 1) (s := (47 + 12 * (t 1 46 - 1)).toNat) ha (by omega) (by omega) 5 0 (up2 (up2 (up2 t 1 46 (t 1 46 - 1)) 1 2 (t 1 (47 + 12 * (t 1 46 - 1)).toNat)) 1 3 (t 1 (47 + 12 * (t 1 46 - 1) + 1).toNat)) rfl
    rw [show (((47 + 12 * (t 1 46 - 1)).toNat : Nat) : Int) = 47 + 12 * (t 1 46 - 1) by omega] at this
    refine this.trans ?_
    unfold unT
    rw [show (47 + 12 * (t 1 46 - 1) + 1).toNat = (47 + 12 * (t 1 46 - 1)).toNat + 1 by omega]
end

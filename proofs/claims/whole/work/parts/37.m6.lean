/-! THE REFERENCE, part 6: the digest, the light, what is beside -/
section
variable {h : xH} {a : Nat} {t : Nat → Nat → Int} {d : Nat}
theorem x_j1 {n pc : Nat} {ls st : List Value} {c : Prop} [Decidable c] {x y : Int} : (if c then x_ev (d, n, pc, ls, .int (zI x) :: st, h) else x_ev (d, n, pc, ls, .int (zI y) :: st, h)) = x_ev (d, n, pc, ls, .int (zI (if c then x else y)) :: st, h) := by
  by_cases q : c
  · rw [if_pos q, if_pos q]
  · rw [if_neg q, if_neg q]
theorem x_jl {n pc : Nat} {ls st : List Value} {c : Prop} [Decidable c] {x y : Int} : (if c then x_ev (d, n, pc, ls, .long (zL x) :: st, h) else x_ev (d, n, pc, ls, .long (zL y) :: st, h)) = x_ev (d, n, pc, ls, .long (zL (if c then x else y)) :: st, h) := by
  by_cases q : c
  · rw [if_pos q, if_pos q]
  · rw [if_neg q, if_neg q]
def hx (g v : Int) : Int := 31 * g + v
def dg1 (t : Nat → Nat → Int) : Int := hx (hx (hx (hx (hx (hx (hx (hx 769 (cOf t 0)) (cOf t 1)) (cOf t 2)) (cOf t 3)) (cOf t 4)) (cOf t 5)) (cOf t 6)) (t 1 0)
def dg2 (t : Nat → Nat → Int) (p g : Int) : Int := hx (hx (hx (hx (hx (hx (hx (hx g (t 1 (6 + p).toNat)) (t 1 (11 + p).toNat)) (t 1 (16 + p).toNat)) (t 1 (21 + p).toNat)) (t 1 (26 + p).toNat)) (t 1 (31 + p).toNat)) (t 1 (36 + p).toNat)) (t 1 (41 + p).toNat)
def dgP (t : Nat → Nat → Int) : Nat → Int → Int → Int
  | 0, _, g => g
  | n + 1, p, g => dgP t n (p + 1) (dg2 t p g)
def dgS (t : Nat → Nat → Int) : Nat → Int → Int → Int
  | 0, _, g => g
  | n + 1, q, g => dgS t n (q + 1) (hx g (if hasB (t 1 4) q = true then 1 else 0))
def dgst (t : Nat → Nat → Int) : Int := dgS t (sqN t 0).toNat 0 (dgP t (t 1 5).toNat 0 (dg1 t))
theorem cOf_h {x w : Int} : cOf (up2 t 0 20 x) w = cOf t w := by
  have e : ∀ j, up2 t 0 20 x 1 j = t 1 j := fun j => up2_n (by omega)
  have e3 : up2 t 0 20 x 0 3 = t 0 3 := up2_n (by omega)
  simp only [cOf, e, e3, sqN]
theorem l_digestP (ha : a + 12 ≤ h.1) (hw : ∀ (k : Nat) (p : Int), k < 8 → 0 ≤ p → p < t 1 5 → -2147483648 ≤ t 1 (6 + 5 * (k : Int) + p).toNat ∧ t 1 (6 + 5 * (k : Int) + p).toNat < 2147483648) (h5 : 0 ≤ t 1 5 ∧ t 1 5 ≤ 5) : ∀ (n : Nat) (p g : Int), p + n = t 1 5 → 0 ≤ p → x_ev (d + 1, n_X8_digest, 44, [.ref a, .int (zI p)], [], mH h a (up2 t 0 20 g)) = x_ev (d + 1, n_X8_digest, 172, [.ref a, .int (zI (t 1 5))], [], mH h a (up2 t 0 20 (dgP t n p g))) := by
  intro n
  induction n with
  | zero =>
    intro p g hp h0
    have z5 := h5
    rw [s_X8_digest_44]
    simp (disch := first | omega | assumption) only [s_X8_digest_45, s_X8_digest_46, s_X8_digest_49, s_X8_digest_50, s_X8_digest_51, mH_obj ha, m_g0 ha, m_g1 ha, m_g2 ha, m_g3 ha, m_g4 ha, m_g5 ha, m_g6 ha, m_g7 ha, m_g8 ha, m_g9 ha, m_g10 ha, m_g11 ha, m_g12 ha, m_g13 ha, m_g14 ha, m_g15 ha, m_g16 ha, m_g17 ha, m_g18 ha, m_g19 ha, m_g20 ha, m_p3 ha, m_p7 ha, m_p8 ha, m_p9 ha, m_p12 ha, m_p16 ha, m_p17 ha, m_p18 ha, m_p19 ha, m_p20 ha, m_r1 ha, m_r2 ha, m_r3 ha, m_r4 ha, m_r5 ha, m_r6 ha, m_r7 ha, m_r8 ha, m_r9 ha, m_r10 ha, m_r11 ha, m_s1 ha, m_s2 ha, m_s3 ha, m_s4 ha, m_s5 ha, m_s6 ha, m_s7 ha, m_s8 ha, m_s9 ha, m_s10 ha, m_s11 ha, zI_add, zI_sub, zI_mul, zI_neg, zL_add, zL_sub, zL_mul, Option.bind_some, Option.toList_some, Option.toList_none, List.cons_append, List.nil_append, zI_lt, zI_le, zI_eq, zI_eq0, zI_lt0, zI_le0, zI_0lt, zI_0le, bZ_e0, Int.add_zero, Int.zero_add, up2_n, Int.reduceToNat]
    rw [if_pos (by omega), show p = t 1 5 by omega]
    rfl
  | succ n ih =>
    intro p g hp h0
    have z5 := h5
    have z6 := hw 0 p (by decide) h0 (by omega)
    rw [show (6 : Int) + 5 * ((0 : Nat) : Int) + p = 6 + p by omega] at z6
    have z11 := hw 1 p (by decide) h0 (by omega)
    rw [show (6 : Int) + 5 * ((1 : Nat) : Int) + p = 11 + p by omega] at z11
    have z16 := hw 2 p (by decide) h0 (by omega)
    rw [show (6 : Int) + 5 * ((2 : Nat) : Int) + p = 16 + p by omega] at z16
    have z21 := hw 3 p (by decide) h0 (by omega)
    rw [show (6 : Int) + 5 * ((3 : Nat) : Int) + p = 21 + p by omega] at z21
    have z26 := hw 4 p (by decide) h0 (by omega)
    rw [show (6 : Int) + 5 * ((4 : Nat) : Int) + p = 26 + p by omega] at z26
    have z31 := hw 5 p (by decide) h0 (by omega)
    rw [show (6 : Int) + 5 * ((5 : Nat) : Int) + p = 31 + p by omega] at z31
    have z36 := hw 6 p (by decide) h0 (by omega)
    rw [show (6 : Int) + 5 * ((6 : Nat) : Int) + p = 36 + p by omega] at z36
    have z41 := hw 7 p (by decide) h0 (by omega)
    rw [show (6 : Int) + 5 * ((7 : Nat) : Int) + p = 41 + p by omega] at z41
    rw [s_X8_digest_44]
    simp (disch := first | omega | assumption) only [s_X8_digest_45, s_X8_digest_46, s_X8_digest_49, s_X8_digest_50, s_X8_digest_51, mH_obj ha, m_g0 ha, m_g1 ha, m_g2 ha, m_g3 ha, m_g4 ha, m_g5 ha, m_g6 ha, m_g7 ha, m_g8 ha, m_g9 ha, m_g10 ha, m_g11 ha, m_g12 ha, m_g13 ha, m_g14 ha, m_g15 ha, m_g16 ha, m_g17 ha, m_g18 ha, m_g19 ha, m_g20 ha, m_p3 ha, m_p7 ha, m_p8 ha, m_p9 ha, m_p12 ha, m_p16 ha, m_p17 ha, m_p18 ha, m_p19 ha, m_p20 ha, m_r1 ha, m_r2 ha, m_r3 ha, m_r4 ha, m_r5 ha, m_r6 ha, m_r7 ha, m_r8 ha, m_r9 ha, m_r10 ha, m_r11 ha, m_s1 ha, m_s2 ha, m_s3 ha, m_s4 ha, m_s5 ha, m_s6 ha, m_s7 ha, m_s8 ha, m_s9 ha, m_s10 ha, m_s11 ha, zI_add, zI_sub, zI_mul, zI_neg, zL_add, zL_sub, zL_mul, Option.bind_some, Option.toList_some, Option.toList_none, List.cons_append, List.nil_append, zI_lt, zI_le, zI_eq, zI_eq0, zI_lt0, zI_le0, zI_0lt, zI_0le, bZ_e0, Int.add_zero, Int.zero_add, up2_n, Int.reduceToNat]
    rw [if_neg (by omega)]
    simp (disch := first | omega | assumption) only [s_X8_digest_54, s_X8_digest_55, s_X8_digest_56, s_X8_digest_59, s_X8_digest_61, s_X8_digest_62, s_X8_digest_63, s_X8_digest_64, s_X8_digest_65, s_X8_digest_68, s_X8_digest_69, s_X8_digest_70, s_X8_digest_73, s_X8_digest_75, s_X8_digest_76, s_X8_digest_77, s_X8_digest_78, s_X8_digest_79, s_X8_digest_82, s_X8_digest_83, s_X8_digest_84, s_X8_digest_87, s_X8_digest_89, s_X8_digest_90, s_X8_digest_91, s_X8_digest_92, s_X8_digest_93, s_X8_digest_96, s_X8_digest_97, s_X8_digest_98, s_X8_digest_101, s_X8_digest_103, s_X8_digest_104, s_X8_digest_105, s_X8_digest_106, s_X8_digest_107, s_X8_digest_110, s_X8_digest_111, s_X8_digest_112, s_X8_digest_115, s_X8_digest_117, s_X8_digest_118, s_X8_digest_119, s_X8_digest_120, s_X8_digest_121, s_X8_digest_124, s_X8_digest_125, s_X8_digest_126, s_X8_digest_129, s_X8_digest_131, s_X8_digest_132, s_X8_digest_133, s_X8_digest_134, s_X8_digest_135, s_X8_digest_138, s_X8_digest_139, s_X8_digest_140, s_X8_digest_143, s_X8_digest_145, s_X8_digest_146, s_X8_digest_147, s_X8_digest_148, s_X8_digest_149, s_X8_digest_152, s_X8_digest_153, s_X8_digest_154, s_X8_digest_157, s_X8_digest_159, s_X8_digest_160, s_X8_digest_161, s_X8_digest_162, s_X8_digest_163, s_X8_digest_166, s_X8_digest_169, mH_obj ha, m_g0 ha, m_g1 ha, m_g2 ha, m_g3 ha, m_g4 ha, m_g5 ha, m_g6 ha, m_g7 ha, m_g8 ha, m_g9 ha, m_g10 ha, m_g11 ha, m_g12 ha, m_g13 ha, m_g14 ha, m_g15 ha, m_g16 ha, m_g17 ha, m_g18 ha, m_g19 ha, m_g20 ha, m_p3 ha, m_p7 ha, m_p8 ha, m_p9 ha, m_p12 ha, m_p16 ha, m_p17 ha, m_p18 ha, m_p19 ha, m_p20 ha, m_r1 ha, m_r2 ha, m_r3 ha, m_r4 ha, m_r5 ha, m_r6 ha, m_r7 ha, m_r8 ha, m_r9 ha, m_r10 ha, m_r11 ha, m_s1 ha, m_s2 ha, m_s3 ha, m_s4 ha, m_s5 ha, m_s6 ha, m_s7 ha, m_s8 ha, m_s9 ha, m_s10 ha, m_s11 ha, zI_add, zI_sub, zI_mul, zI_neg, zL_add, zL_sub, zL_mul, Option.bind_some, Option.toList_some, Option.toList_none, List.cons_append, List.nil_append, zI_lt, zI_le, zI_eq, zI_eq0, zI_lt0, zI_le0, zI_0lt, zI_0le, bZ_e0, Int.add_zero, Int.zero_add, up2_n, up2_s, up2_2, zI_64, c_mix ha]
    exact ih _ _ (by omega) (by omega)
theorem l_digestS (ha : a + 12 ≤ h.1) (hq0 : 0 ≤ sqN t 0) (hq : sqN t 0 ≤ 25) : ∀ (n : Nat) (q g : Int), q + n = sqN t 0 → 0 ≤ q → x_ev (d + 1, n_X8_digest, 174, [.ref a, .int (zI q)], [], mH h a (up2 t 0 20 g)) = some (some (.long (zL (dgS t n q g))), mH h a (up2 t 0 20 (dgS t n q g))) := by
  have e0 : ∀ g, up2 t 0 20 g 1 0 * up2 t 0 20 g 1 1 = sqN t 0 := fun g => by rw [up2_n (by omega), up2_n (by omega)]; rfl
  intro n
  induction n with
  | zero =>
    intro q g hp h0
    rw [s_X8_digest_174]
    simp (disch := first | omega | assumption) only [s_X8_digest_175, s_X8_digest_176, s_X8_digest_177, s_X8_digest_180, mH_obj ha, m_g0 ha, m_g1 ha, m_g2 ha, m_g3 ha, m_g4 ha, m_g5 ha, m_g6 ha, m_g7 ha, m_g8 ha, m_g9 ha, m_g10 ha, m_g11 ha, m_g12 ha, m_g13 ha, m_g14 ha, m_g15 ha, m_g16 ha, m_g17 ha, m_g18 ha, m_g19 ha, m_g20 ha, m_p3 ha, m_p7 ha, m_p8 ha, m_p9 ha, m_p12 ha, m_p16 ha, m_p17 ha, m_p18 ha, m_p19 ha, m_p20 ha, m_r1 ha, m_r2 ha, m_r3 ha, m_r4 ha, m_r5 ha, m_r6 ha, m_r7 ha, m_r8 ha, m_r9 ha, m_r10 ha, m_r11 ha, m_s1 ha, m_s2 ha, m_s3 ha, m_s4 ha, m_s5 ha, m_s6 ha, m_s7 ha, m_s8 ha, m_s9 ha, m_s10 ha, m_s11 ha, zI_add, zI_sub, zI_mul, zI_neg, zL_add, zL_sub, zL_mul, Option.bind_some, Option.toList_some, Option.toList_none, List.cons_append, List.nil_append, zI_lt, zI_le, zI_eq, zI_eq0, zI_lt0, zI_le0, zI_0lt, zI_0le, bZ_e0, Int.add_zero, Int.zero_add, c_squaresOf ha, Int.reduceToNat, e0]
    rw [if_pos (by omega)]
    simp (disch := first | omega | assumption) only [s_X8_digest_211, s_X8_digest_212, s_X8_digest_215, mH_obj ha, m_g0 ha, m_g1 ha, m_g2 ha, m_g3 ha, m_g4 ha, m_g5 ha, m_g6 ha, m_g7 ha, m_g8 ha, m_g9 ha, m_g10 ha, m_g11 ha, m_g12 ha, m_g13 ha, m_g14 ha, m_g15 ha, m_g16 ha, m_g17 ha, m_g18 ha, m_g19 ha, m_g20 ha, m_p3 ha, m_p7 ha, m_p8 ha, m_p9 ha, m_p12 ha, m_p16 ha, m_p17 ha, m_p18 ha, m_p19 ha, m_p20 ha, m_r1 ha, m_r2 ha, m_r3 ha, m_r4 ha, m_r5 ha, m_r6 ha, m_r7 ha, m_r8 ha, m_r9 ha, m_r10 ha, m_r11 ha, m_s1 ha, m_s2 ha, m_s3 ha, m_s4 ha, m_s5 ha, m_s6 ha, m_s7 ha, m_s8 ha, m_s9 ha, m_s10 ha, m_s11 ha, zI_add, zI_sub, zI_mul, zI_neg, zL_add, zL_sub, zL_mul, Option.bind_some, Option.toList_some, Option.toList_none, List.cons_append, List.nil_append, zI_lt, zI_le, zI_eq, zI_eq0, zI_lt0, zI_le0, zI_0lt, zI_0le, bZ_e0, Int.add_zero, Int.zero_add, up2_s]
    rfl
  | succ n ih =>
    intro q g hp h0
    rw [s_X8_digest_174]
    simp (disch := first | omega | assumption) only [s_X8_digest_175, s_X8_digest_176, s_X8_digest_177, s_X8_digest_180, mH_obj ha, m_g0 ha, m_g1 ha, m_g2 ha, m_g3 ha, m_g4 ha, m_g5 ha, m_g6 ha, m_g7 ha, m_g8 ha, m_g9 ha, m_g10 ha, m_g11 ha, m_g12 ha, m_g13 ha, m_g14 ha, m_g15 ha, m_g16 ha, m_g17 ha, m_g18 ha, m_g19 ha, m_g20 ha, m_p3 ha, m_p7 ha, m_p8 ha, m_p9 ha, m_p12 ha, m_p16 ha, m_p17 ha, m_p18 ha, m_p19 ha, m_p20 ha, m_r1 ha, m_r2 ha, m_r3 ha, m_r4 ha, m_r5 ha, m_r6 ha, m_r7 ha, m_r8 ha, m_r9 ha, m_r10 ha, m_r11 ha, m_s1 ha, m_s2 ha, m_s3 ha, m_s4 ha, m_s5 ha, m_s6 ha, m_s7 ha, m_s8 ha, m_s9 ha, m_s10 ha, m_s11 ha, zI_add, zI_sub, zI_mul, zI_neg, zL_add, zL_sub, zL_mul, Option.bind_some, Option.toList_some, Option.toList_none, List.cons_append, List.nil_append, zI_lt, zI_le, zI_eq, zI_eq0, zI_lt0, zI_le0, zI_0lt, zI_0le, bZ_e0, Int.add_zero, Int.zero_add, c_squaresOf ha, Int.reduceToNat, e0]
    rw [if_neg (by omega)]
    simp (disch := first | omega | assumption) only [s_X8_digest_183, s_X8_digest_184, s_X8_digest_185, s_X8_digest_188, s_X8_digest_189, s_X8_digest_190, s_X8_digest_191, s_X8_digest_194, s_X8_digest_197, s_X8_digest_198, s_X8_digest_201, mH_obj ha, m_g0 ha, m_g1 ha, m_g2 ha, m_g3 ha, m_g4 ha, m_g5 ha, m_g6 ha, m_g7 ha, m_g8 ha, m_g9 ha, m_g10 ha, m_g11 ha, m_g12 ha, m_g13 ha, m_g14 ha, m_g15 ha, m_g16 ha, m_g17 ha, m_g18 ha, m_g19 ha, m_g20 ha, m_p3 ha, m_p7 ha, m_p8 ha, m_p9 ha, m_p12 ha, m_p16 ha, m_p17 ha, m_p18 ha, m_p19 ha, m_p20 ha, m_r1 ha, m_r2 ha, m_r3 ha, m_r4 ha, m_r5 ha, m_r6 ha, m_r7 ha, m_r8 ha, m_r9 ha, m_r10 ha, m_r11 ha, m_s1 ha, m_s2 ha, m_s3 ha, m_s4 ha, m_s5 ha, m_s6 ha, m_s7 ha, m_s8 ha, m_s9 ha, m_s10 ha, m_s11 ha, zI_add, zI_sub, zI_mul, zI_neg, zL_add, zL_sub, zL_mul, Option.bind_some, Option.toList_some, Option.toList_none, List.cons_append, List.nil_append, zI_lt, zI_le, zI_eq, zI_eq0, zI_lt0, zI_le0, zI_0lt, zI_0le, bZ_e0, Int.add_zero, Int.zero_add, up2_n, c_has, Int.reduceToNat, ite_not]
    simp only [x_jl]
    simp (disch := first | omega | assumption) only [s_X8_digest_202, s_X8_digest_205, s_X8_digest_208, mH_obj ha, m_g0 ha, m_g1 ha, m_g2 ha, m_g3 ha, m_g4 ha, m_g5 ha, m_g6 ha, m_g7 ha, m_g8 ha, m_g9 ha, m_g10 ha, m_g11 ha, m_g12 ha, m_g13 ha, m_g14 ha, m_g15 ha, m_g16 ha, m_g17 ha, m_g18 ha, m_g19 ha, m_g20 ha, m_p3 ha, m_p7 ha, m_p8 ha, m_p9 ha, m_p12 ha, m_p16 ha, m_p17 ha, m_p18 ha, m_p19 ha, m_p20 ha, m_r1 ha, m_r2 ha, m_r3 ha, m_r4 ha, m_r5 ha, m_r6 ha, m_r7 ha, m_r8 ha, m_r9 ha, m_r10 ha, m_r11 ha, m_s1 ha, m_s2 ha, m_s3 ha, m_s4 ha, m_s5 ha, m_s6 ha, m_s7 ha, m_s8 ha, m_s9 ha, m_s10 ha, m_s11 ha, zI_add, zI_sub, zI_mul, zI_neg, zL_add, zL_sub, zL_mul, Option.bind_some, Option.toList_some, Option.toList_none, List.cons_append, List.nil_append, zI_lt, zI_le, zI_eq, zI_eq0, zI_lt0, zI_le0, zI_0lt, zI_0le, bZ_e0, Int.add_zero, Int.zero_add, up2_s, up2_2, c_mix ha]
    exact ih _ _ (by omega) (by omega)
theorem m_digest (ha : a + 12 ≤ h.1) (hw : ∀ (k : Nat) (p : Int), k < 8 → 0 ≤ p → p < t 1 5 → -2147483648 ≤ t 1 (6 + 5 * (k : Int) + p).toNat ∧ t 1 (6 + 5 * (k : Int) + p).toNat < 2147483648) (hw0 : -2147483648 ≤ t 1 0 ∧ t 1 0 < 2147483648) (ho : rOk t 0) (hc : ∀ w, -2147483648 ≤ cOf t w ∧ cOf t w < 2147483648) : x_cl (d + 2) n_X8_digest [.ref a] (mH h a t) = some (some (.long (zL (dgst t))), mH h a (up2 t 0 20 (dgst t))) := by
  have c0 := hc 0
  have c1 := hc 1
  have c2 := hc 2
  have c3 := hc 3
  have c4 := hc 4
  have c5 := hc 5
  have c6 := hc 6
  have w0 := hw0
  have o5 : 0 ≤ t 1 5 ∧ t 1 5 ≤ 5 := ho.2.1
  simp (disch := first | omega | assumption) only [e_X8_digest, s_X8_digest_0, s_X8_digest_1, s_X8_digest_4, s_X8_digest_7, s_X8_digest_8, s_X8_digest_9, s_X8_digest_10, s_X8_digest_12, s_X8_digest_15, s_X8_digest_16, s_X8_digest_17, s_X8_digest_18, s_X8_digest_21, s_X8_digest_22, s_X8_digest_25, s_X8_digest_28, mH_obj ha, m_g0 ha, m_g1 ha, m_g2 ha, m_g3 ha, m_g4 ha, m_g5 ha, m_g6 ha, m_g7 ha, m_g8 ha, m_g9 ha, m_g10 ha, m_g11 ha, m_g12 ha, m_g13 ha, m_g14 ha, m_g15 ha, m_g16 ha, m_g17 ha, m_g18 ha, m_g19 ha, m_g20 ha, m_p3 ha, m_p7 ha, m_p8 ha, m_p9 ha, m_p12 ha, m_p16 ha, m_p17 ha, m_p18 ha, m_p19 ha, m_p20 ha, m_r1 ha, m_r2 ha, m_r3 ha, m_r4 ha, m_r5 ha, m_r6 ha, m_r7 ha, m_r8 ha, m_r9 ha, m_r10 ha, m_r11 ha, m_s1 ha, m_s2 ha, m_s3 ha, m_s4 ha, m_s5 ha, m_s6 ha, m_s7 ha, m_s8 ha, m_s9 ha, m_s10 ha, m_s11 ha, zI_add, zI_sub, zI_mul, zI_neg, zL_add, zL_sub, zL_mul, Option.bind_some, Option.toList_some, Option.toList_none, List.cons_append, List.nil_append, zI_lt, zI_le, zI_eq, zI_eq0, zI_lt0, zI_le0, zI_0lt, zI_0le, bZ_e0, Int.add_zero, Int.zero_add, c_countOf ha, zI_64, c_mix ha, cOf_h, up2_s, up2_2, Int.reduceToNat, Int.reduceLE, Int.reduceAdd, if_true, if_false]
  simp (disch := first | omega | assumption) only [s_X8_digest_31, s_X8_digest_32, s_X8_digest_33, s_X8_digest_36, s_X8_digest_37, s_X8_digest_38, s_X8_digest_39, s_X8_digest_42, s_X8_digest_43, mH_obj ha, m_g0 ha, m_g1 ha, m_g2 ha, m_g3 ha, m_g4 ha, m_g5 ha, m_g6 ha, m_g7 ha, m_g8 ha, m_g9 ha, m_g10 ha, m_g11 ha, m_g12 ha, m_g13 ha, m_g14 ha, m_g15 ha, m_g16 ha, m_g17 ha, m_g18 ha, m_g19 ha, m_g20 ha, m_p3 ha, m_p7 ha, m_p8 ha, m_p9 ha, m_p12 ha, m_p16 ha, m_p17 ha, m_p18 ha, m_p19 ha, m_p20 ha, m_r1 ha, m_r2 ha, m_r3 ha, m_r4 ha, m_r5 ha, m_r6 ha, m_r7 ha, m_r8 ha, m_r9 ha, m_r10 ha, m_r11 ha, m_s1 ha, m_s2 ha, m_s3 ha, m_s4 ha, m_s5 ha, m_s6 ha, m_s7 ha, m_s8 ha, m_s9 ha, m_s10 ha, m_s11 ha, zI_add, zI_sub, zI_mul, zI_neg, zL_add, zL_sub, zL_mul, Option.bind_some, Option.toList_some, Option.toList_none, List.cons_append, List.nil_append, zI_lt, zI_le, zI_eq, zI_eq0, zI_lt0, zI_le0, zI_0lt, zI_0le, bZ_e0, Int.add_zero, Int.zero_add, zI_64, c_mix ha, up2_s, up2_n, up2_2, Int.reduceToNat]
  rw [show (31 * (31 * (31 * (31 * (31 * (31 * (31 * (31 * 769 + cOf t 0) + cOf t 1) + cOf t 2) + cOf t 3) + cOf t 4) + cOf t 5) + cOf t 6) + t 1 0) = dg1 t from rfl]
  rw [l_digestP ha hw o5 (t 1 5).toNat 0 _ (by omega) (by decide)]
  simp only [s_X8_digest_172, s_X8_digest_173]
  exact l_digestS ha ho.1.1 ho.1.2 (sqN t 0).toNat 0 _ (by have := ho.1.1; omega) (by decide)
theorem rem_eq (x y : Int) : x - x / y * y = x % y := by rw [Int.emod_def, Int.mul_comm]
/-- light that shelves take, from q on -/
def shL (S st hi : Int) : Nat → Int → Int → Int
  | 0, _, l => l
  | n + 1, q, l => if q < hi then shL S st hi n (q + st) (l - (if hasB S q = true then 4 else 0)) else l
def lg0 (W x y : Int) : Int := max 0 (12 - 2 * (((x % W - y % W).natAbs : Int) + ((x / W - y / W).natAbs : Int)))
def lgS (W x y : Int) : Int := if x % W = y % W then W else 1
/-- LIGHT at x of a lamp at y -/
def lgt (W S x y : Int) : Int := if ¬ x % W = y % W ∧ ¬ x / W = y / W then (if hasB S (W * (y / W) + x % W) = true ∧ hasB S (W * (x / W) + y % W) = true then lg0 W x y / 2 else lg0 W x y) else max 0 (shL S (lgS W x y) (max x y) 25 (min x y + lgS W x y) (lg0 W x y))
theorem sq_rg {W x : Int} (h1 : 2 ≤ W) (h2 : W ≤ 5) (h3 : 0 ≤ x) (h4 : x < 25) : 0 ≤ x % W ∧ x % W < W ∧ 0 ≤ x / W ∧ x / W < 25 ∧ W * (x / W) + x % W = x := by
  have e := Int.mul_ediv_add_emod x W
  have e1 := Int.emod_nonneg x (show W ≠ 0 by omega)
  have e2 := Int.emod_lt_of_pos x (show 0 < W by omega)
  have e3 : 0 ≤ x / W := Int.ediv_nonneg h3 (by omega)
  have e4 : x / W ≤ x := Int.ediv_le_self W h3
  exact ⟨e1, e2, e3, by omega, e⟩
theorem l_lightOf {W : Int} {l3 l4 l5 : Value} {l6 : Int32} {x y st : Int} (ha : a + 12 ≤ h.1) (h1 : 1 ≤ st) (h2 : st ≤ 5) (hx0 : 0 ≤ x) (hx1 : x < 25) (hy0 : 0 ≤ y) (hy1 : y < 25) : ∀ (n : Nat) (q l : Int), max x y - q ≤ n → 0 ≤ q → q ≤ 30 → -100000 + 4 * n ≤ l → l ≤ 12 → n ≤ 25 →
    x_ev (d + 1, n_X8_lightOf, 164, [.ref a, .int (zI x), .int (zI y), l3, l4, l5, .int l6, .int (zI l), .int (zI st), .int (zI q)], [], mH h a t) = some (some (.int (zI (max 0 (shL (t 1 4) st (max x y) n q l)))), mH h a t) := by
  intro n
  induction n with
  | zero =>
    intro q l hq h0 h9 hl0 hl1 hn
    rw [s_X8_lightOf_164]
    simp (disch := first | omega | assumption) only [s_X8_lightOf_166, s_X8_lightOf_167, s_X8_lightOf_168, s_X8_lightOf_171, mH_obj ha, m_g0 ha, m_g1 ha, m_g2 ha, m_g3 ha, m_g4 ha, m_g5 ha, m_g6 ha, m_g7 ha, m_g8 ha, m_g9 ha, m_g10 ha, m_g11 ha, m_g12 ha, m_g13 ha, m_g14 ha, m_g15 ha, m_g16 ha, m_g17 ha, m_g18 ha, m_g19 ha, m_g20 ha, m_p3 ha, m_p7 ha, m_p8 ha, m_p9 ha, m_p12 ha, m_p16 ha, m_p17 ha, m_p18 ha, m_p19 ha, m_p20 ha, m_r1 ha, m_r2 ha, m_r3 ha, m_r4 ha, m_r5 ha, m_r6 ha, m_r7 ha, m_r8 ha, m_r9 ha, m_r10 ha, m_r11 ha, m_s1 ha, m_s2 ha, m_s3 ha, m_s4 ha, m_s5 ha, m_s6 ha, m_s7 ha, m_s8 ha, m_s9 ha, m_s10 ha, m_s11 ha, zI_add, zI_sub, zI_mul, zI_neg, zL_add, zL_sub, zL_mul, Option.bind_some, Option.toList_some, Option.toList_none, List.cons_append, List.nil_append, zI_lt, zI_le, zI_eq, zI_eq0, zI_lt0, zI_le0, zI_0lt, zI_0le, bZ_e0, Int.add_zero, Int.zero_add, c_greater]
    rw [if_pos (by omega)]
    simp (disch := first | omega | assumption) only [s_X8_lightOf_208, s_X8_lightOf_209, s_X8_lightOf_211, s_X8_lightOf_214, mH_obj ha, m_g0 ha, m_g1 ha, m_g2 ha, m_g3 ha, m_g4 ha, m_g5 ha, m_g6 ha, m_g7 ha, m_g8 ha, m_g9 ha, m_g10 ha, m_g11 ha, m_g12 ha, m_g13 ha, m_g14 ha, m_g15 ha, m_g16 ha, m_g17 ha, m_g18 ha, m_g19 ha, m_g20 ha, m_p3 ha, m_p7 ha, m_p8 ha, m_p9 ha, m_p12 ha, m_p16 ha, m_p17 ha, m_p18 ha, m_p19 ha, m_p20 ha, m_r1 ha, m_r2 ha, m_r3 ha, m_r4 ha, m_r5 ha, m_r6 ha, m_r7 ha, m_r8 ha, m_r9 ha, m_r10 ha, m_r11 ha, m_s1 ha, m_s2 ha, m_s3 ha, m_s4 ha, m_s5 ha, m_s6 ha, m_s7 ha, m_s8 ha, m_s9 ha, m_s10 ha, m_s11 ha, zI_add, zI_sub, zI_mul, zI_neg, zL_add, zL_sub, zL_mul, Option.bind_some, Option.toList_some, Option.toList_none, List.cons_append, List.nil_append, zI_lt, zI_le, zI_eq, zI_eq0, zI_lt0, zI_le0, zI_0lt, zI_0le, bZ_e0, Int.add_zero, Int.zero_add, c_greater]
    rfl
  | succ n ih =>
    intro q l hq h0 h9 hl0 hl1 hn
    rw [s_X8_lightOf_164]
    simp (disch := first | omega | assumption) only [s_X8_lightOf_166, s_X8_lightOf_167, s_X8_lightOf_168, s_X8_lightOf_171, mH_obj ha, m_g0 ha, m_g1 ha, m_g2 ha, m_g3 ha, m_g4 ha, m_g5 ha, m_g6 ha, m_g7 ha, m_g8 ha, m_g9 ha, m_g10 ha, m_g11 ha, m_g12 ha, m_g13 ha, m_g14 ha, m_g15 ha, m_g16 ha, m_g17 ha, m_g18 ha, m_g19 ha, m_g20 ha, m_p3 ha, m_p7 ha, m_p8 ha, m_p9 ha, m_p12 ha, m_p16 ha, m_p17 ha, m_p18 ha, m_p19 ha, m_p20 ha, m_r1 ha, m_r2 ha, m_r3 ha, m_r4 ha, m_r5 ha, m_r6 ha, m_r7 ha, m_r8 ha, m_r9 ha, m_r10 ha, m_r11 ha, m_s1 ha, m_s2 ha, m_s3 ha, m_s4 ha, m_s5 ha, m_s6 ha, m_s7 ha, m_s8 ha, m_s9 ha, m_s10 ha, m_s11 ha, zI_add, zI_sub, zI_mul, zI_neg, zL_add, zL_sub, zL_mul, Option.bind_some, Option.toList_some, Option.toList_none, List.cons_append, List.nil_append, zI_lt, zI_le, zI_eq, zI_eq0, zI_lt0, zI_le0, zI_0lt, zI_0le, bZ_e0, Int.add_zero, Int.zero_add, c_greater]
    rw [shL]
    by_cases z : q < max x y
    · rw [if_neg (by omega), if_pos z]
      simp (disch := first | omega | assumption) only [s_X8_lightOf_174, s_X8_lightOf_176, s_X8_lightOf_177, s_X8_lightOf_180, s_X8_lightOf_181, s_X8_lightOf_182, s_X8_lightOf_184, s_X8_lightOf_187, s_X8_lightOf_190, s_X8_lightOf_191, s_X8_lightOf_194, mH_obj ha, m_g0 ha, m_g1 ha, m_g2 ha, m_g3 ha, m_g4 ha, m_g5 ha, m_g6 ha, m_g7 ha, m_g8 ha, m_g9 ha, m_g10 ha, m_g11 ha, m_g12 ha, m_g13 ha, m_g14 ha, m_g15 ha, m_g16 ha, m_g17 ha, m_g18 ha, m_g19 ha, m_g20 ha, m_p3 ha, m_p7 ha, m_p8 ha, m_p9 ha, m_p12 ha, m_p16 ha, m_p17 ha, m_p18 ha, m_p19 ha, m_p20 ha, m_r1 ha, m_r2 ha, m_r3 ha, m_r4 ha, m_r5 ha, m_r6 ha, m_r7 ha, m_r8 ha, m_r9 ha, m_r10 ha, m_r11 ha, m_s1 ha, m_s2 ha, m_s3 ha, m_s4 ha, m_s5 ha, m_s6 ha, m_s7 ha, m_s8 ha, m_s9 ha, m_s10 ha, m_s11 ha, zI_add, zI_sub, zI_mul, zI_neg, zL_add, zL_sub, zL_mul, Option.bind_some, Option.toList_some, Option.toList_none, List.cons_append, List.nil_append, zI_lt, zI_le, zI_eq, zI_eq0, zI_lt0, zI_le0, zI_0lt, zI_0le, bZ_e0, Int.add_zero, Int.zero_add, c_has, Int.reduceToNat, ite_not]
      simp only [x_j1]
      simp (disch := first | omega | assumption) only [s_X8_lightOf_195, s_X8_lightOf_196, s_X8_lightOf_198, s_X8_lightOf_200, s_X8_lightOf_202, s_X8_lightOf_203, s_X8_lightOf_205, mH_obj ha, m_g0 ha, m_g1 ha, m_g2 ha, m_g3 ha, m_g4 ha, m_g5 ha, m_g6 ha, m_g7 ha, m_g8 ha, m_g9 ha, m_g10 ha, m_g11 ha, m_g12 ha, m_g13 ha, m_g14 ha, m_g15 ha, m_g16 ha, m_g17 ha, m_g18 ha, m_g19 ha, m_g20 ha, m_p3 ha, m_p7 ha, m_p8 ha, m_p9 ha, m_p12 ha, m_p16 ha, m_p17 ha, m_p18 ha, m_p19 ha, m_p20 ha, m_r1 ha, m_r2 ha, m_r3 ha, m_r4 ha, m_r5 ha, m_r6 ha, m_r7 ha, m_r8 ha, m_r9 ha, m_r10 ha, m_r11 ha, m_s1 ha, m_s2 ha, m_s3 ha, m_s4 ha, m_s5 ha, m_s6 ha, m_s7 ha, m_s8 ha, m_s9 ha, m_s10 ha, m_s11 ha, zI_add, zI_sub, zI_mul, zI_neg, zL_add, zL_sub, zL_mul, Option.bind_some, Option.toList_some, Option.toList_none, List.cons_append, List.nil_append, zI_lt, zI_le, zI_eq, zI_eq0, zI_lt0, zI_le0, zI_0lt, zI_0le, bZ_e0, Int.add_zero, Int.zero_add]
      by_cases z2 : hasB (t 1 4) q = true
      · rw [if_pos z2]; exact ih (q + st) (l - 4) (by omega) (by omega) (by omega) (by omega) (by omega) (by omega)
      · rw [if_neg z2]; exact ih (q + st) (l - 0) (by omega) (by omega) (by omega) (by omega) (by omega) (by omega)
    · rw [if_pos (by omega), if_neg z]
      simp (disch := first | omega | assumption) only [s_X8_lightOf_208, s_X8_lightOf_209, s_X8_lightOf_211, s_X8_lightOf_214, mH_obj ha, m_g0 ha, m_g1 ha, m_g2 ha, m_g3 ha, m_g4 ha, m_g5 ha, m_g6 ha, m_g7 ha, m_g8 ha, m_g9 ha, m_g10 ha, m_g11 ha, m_g12 ha, m_g13 ha, m_g14 ha, m_g15 ha, m_g16 ha, m_g17 ha, m_g18 ha, m_g19 ha, m_g20 ha, m_p3 ha, m_p7 ha, m_p8 ha, m_p9 ha, m_p12 ha, m_p16 ha, m_p17 ha, m_p18 ha, m_p19 ha, m_p20 ha, m_r1 ha, m_r2 ha, m_r3 ha, m_r4 ha, m_r5 ha, m_r6 ha, m_r7 ha, m_r8 ha, m_r9 ha, m_r10 ha, m_r11 ha, m_s1 ha, m_s2 ha, m_s3 ha, m_s4 ha, m_s5 ha, m_s6 ha, m_s7 ha, m_s8 ha, m_s9 ha, m_s10 ha, m_s11 ha, zI_add, zI_sub, zI_mul, zI_neg, zL_add, zL_sub, zL_mul, Option.bind_some, Option.toList_some, Option.toList_none, List.cons_append, List.nil_append, zI_lt, zI_le, zI_eq, zI_eq0, zI_lt0, zI_le0, zI_0lt, zI_0le, bZ_e0, Int.add_zero, Int.zero_add, c_greater]
theorem c_lightOf {x y : Int} (ha : a + 12 ≤ h.1) (h1 : 2 ≤ t 1 0) (h2 : t 1 0 ≤ 5) (hx0 : 0 ≤ x) (hx1 : x < 25) (hy0 : 0 ≤ y) (hy1 : y < 25) : x_cl (d + 1) n_X8_lightOf [.ref a, .int (zI x), .int (zI y)] (mH h a t) = some (some (.int (zI (lgt (t 1 0) (t 1 4) x y))), mH h a t) := by
  obtain ⟨a1, a2, a3, a4, a5⟩ := sq_rg h1 h2 hx0 hx1
  obtain ⟨b1, b2, b3, b4, b5⟩ := sq_rg h1 h2 hy0 hy1
  simp (disch := first | omega | assumption | (refine zI_ne0 ?_ ?_ ?_ <;> omega)) only [e_X8_lightOf, s_X8_lightOf_0, s_X8_lightOf_1, s_X8_lightOf_2, s_X8_lightOf_5, s_X8_lightOf_6, s_X8_lightOf_7, s_X8_lightOf_8, s_X8_lightOf_9, s_X8_lightOf_10, s_X8_lightOf_11, s_X8_lightOf_14, s_X8_lightOf_15, s_X8_lightOf_16, s_X8_lightOf_17, s_X8_lightOf_19, s_X8_lightOf_20, s_X8_lightOf_21, s_X8_lightOf_24, s_X8_lightOf_25, s_X8_lightOf_26, s_X8_lightOf_27, s_X8_lightOf_29, s_X8_lightOf_30, s_X8_lightOf_31, s_X8_lightOf_34, s_X8_lightOf_35, s_X8_lightOf_36, s_X8_lightOf_37, s_X8_lightOf_39, s_X8_lightOf_40, s_X8_lightOf_42, s_X8_lightOf_43, s_X8_lightOf_44, s_X8_lightOf_46, s_X8_lightOf_47, s_X8_lightOf_50, s_X8_lightOf_52, s_X8_lightOf_54, s_X8_lightOf_55, s_X8_lightOf_58, s_X8_lightOf_59, s_X8_lightOf_60, s_X8_lightOf_61, s_X8_lightOf_64, mH_obj ha, m_g0 ha, m_g1 ha, m_g2 ha, m_g3 ha, m_g4 ha, m_g5 ha, m_g6 ha, m_g7 ha, m_g8 ha, m_g9 ha, m_g10 ha, m_g11 ha, m_g12 ha, m_g13 ha, m_g14 ha, m_g15 ha, m_g16 ha, m_g17 ha, m_g18 ha, m_g19 ha, m_g20 ha, m_p3 ha, m_p7 ha, m_p8 ha, m_p9 ha, m_p12 ha, m_p16 ha, m_p17 ha, m_p18 ha, m_p19 ha, m_p20 ha, m_r1 ha, m_r2 ha, m_r3 ha, m_r4 ha, m_r5 ha, m_r6 ha, m_r7 ha, m_r8 ha, m_r9 ha, m_r10 ha, m_r11 ha, m_s1 ha, m_s2 ha, m_s3 ha, m_s4 ha, m_s5 ha, m_s6 ha, m_s7 ha, m_s8 ha, m_s9 ha, m_s10 ha, m_s11 ha, zI_add, zI_sub, zI_mul, zI_neg, zL_add, zL_sub, zL_mul, Option.bind_some, Option.toList_some, Option.toList_none, List.cons_append, List.nil_append, zI_lt, zI_le, zI_eq, zI_eq0, zI_lt0, zI_le0, zI_0lt, zI_0le, bZ_e0, Int.add_zero, Int.zero_add, zI_div, rem_eq, c_sizeOf, c_greater, Int.reduceToNat]
  have el : max 0 (12 - 2 * (((x % t 1 0 - y % t 1 0).natAbs : Int) + ((x / t 1 0 - y / t 1 0).natAbs : Int))) = lg0 (t 1 0) x y := rfl
  have er : 0 ≤ lg0 (t 1 0) x y ∧ lg0 (t 1 0) x y ≤ 12 := by unfold lg0; omega
  rw [el]
  generalize hl0 : lg0 (t 1 0) x y = l0 at *
  simp (disch := first | omega | assumption) only [s_X8_lightOf_66, s_X8_lightOf_67, s_X8_lightOf_69, s_X8_lightOf_72, s_X8_lightOf_74, s_X8_lightOf_76, mH_obj ha, m_g0 ha, m_g1 ha, m_g2 ha, m_g3 ha, m_g4 ha, m_g5 ha, m_g6 ha, m_g7 ha, m_g8 ha, m_g9 ha, m_g10 ha, m_g11 ha, m_g12 ha, m_g13 ha, m_g14 ha, m_g15 ha, m_g16 ha, m_g17 ha, m_g18 ha, m_g19 ha, m_g20 ha, m_p3 ha, m_p7 ha, m_p8 ha, m_p9 ha, m_p12 ha, m_p16 ha, m_p17 ha, m_p18 ha, m_p19 ha, m_p20 ha, m_r1 ha, m_r2 ha, m_r3 ha, m_r4 ha, m_r5 ha, m_r6 ha, m_r7 ha, m_r8 ha, m_r9 ha, m_r10 ha, m_r11 ha, m_s1 ha, m_s2 ha, m_s3 ha, m_s4 ha, m_s5 ha, m_s6 ha, m_s7 ha, m_s8 ha, m_s9 ha, m_s10 ha, m_s11 ha, zI_add, zI_sub, zI_mul, zI_neg, zL_add, zL_sub, zL_mul, Option.bind_some, Option.toList_some, Option.toList_none, List.cons_append, List.nil_append, zI_lt, zI_le, zI_eq, zI_eq0, zI_lt0, zI_le0, zI_0lt, zI_0le, bZ_e0, Int.add_zero, Int.zero_add]
  have tail : x_ev (d + 1, n_X8_lightOf, 136, [.ref a, .int (zI x), .int (zI y), .int (zI (x % t 1 0)), .int (zI (x / t 1 0)), .int (zI (y % t 1 0)), .int (zI (y / t 1 0)), .int (zI l0), .null, .null], [], mH h a t) = some (some (.int (zI (max 0 (shL (t 1 4) (lgS (t 1 0) x y) (max x y) 25 (min x y + lgS (t 1 0) x y) l0)))), mH h a t) := by
    simp (disch := first | omega | assumption) only [s_X8_lightOf_136, s_X8_lightOf_137, s_X8_lightOf_139, s_X8_lightOf_142, s_X8_lightOf_143, s_X8_lightOf_146, s_X8_lightOf_147, s_X8_lightOf_148, s_X8_lightOf_151, mH_obj ha, m_g0 ha, m_g1 ha, m_g2 ha, m_g3 ha, m_g4 ha, m_g5 ha, m_g6 ha, m_g7 ha, m_g8 ha, m_g9 ha, m_g10 ha, m_g11 ha, m_g12 ha, m_g13 ha, m_g14 ha, m_g15 ha, m_g16 ha, m_g17 ha, m_g18 ha, m_g19 ha, m_g20 ha, m_p3 ha, m_p7 ha, m_p8 ha, m_p9 ha, m_p12 ha, m_p16 ha, m_p17 ha, m_p18 ha, m_p19 ha, m_p20 ha, m_r1 ha, m_r2 ha, m_r3 ha, m_r4 ha, m_r5 ha, m_r6 ha, m_r7 ha, m_r8 ha, m_r9 ha, m_r10 ha, m_r11 ha, m_s1 ha, m_s2 ha, m_s3 ha, m_s4 ha, m_s5 ha, m_s6 ha, m_s7 ha, m_s8 ha, m_s9 ha, m_s10 ha, m_s11 ha, zI_add, zI_sub, zI_mul, zI_neg, zL_add, zL_sub, zL_mul, Option.bind_some, Option.toList_some, Option.toList_none, List.cons_append, List.nil_append, zI_lt, zI_le, zI_eq, zI_eq0, zI_lt0, zI_le0, zI_0lt, zI_0le, bZ_e0, Int.add_zero, Int.zero_add, Int.reduceToNat]
    simp only [x_j1]
    rw [show (if x % t 1 0 = y % t 1 0 then t 1 0 else 1) = lgS (t 1 0) x y from rfl]
    have es : 1 ≤ lgS (t 1 0) x y ∧ lgS (t 1 0) x y ≤ 5 := by
      unfold lgS
      split <;> omega
    simp (disch := first | omega | assumption) only [s_X8_lightOf_152, s_X8_lightOf_154, s_X8_lightOf_155, s_X8_lightOf_156, s_X8_lightOf_159, s_X8_lightOf_161, s_X8_lightOf_162, mH_obj ha, m_g0 ha, m_g1 ha, m_g2 ha, m_g3 ha, m_g4 ha, m_g5 ha, m_g6 ha, m_g7 ha, m_g8 ha, m_g9 ha, m_g10 ha, m_g11 ha, m_g12 ha, m_g13 ha, m_g14 ha, m_g15 ha, m_g16 ha, m_g17 ha, m_g18 ha, m_g19 ha, m_g20 ha, m_p3 ha, m_p7 ha, m_p8 ha, m_p9 ha, m_p12 ha, m_p16 ha, m_p17 ha, m_p18 ha, m_p19 ha, m_p20 ha, m_r1 ha, m_r2 ha, m_r3 ha, m_r4 ha, m_r5 ha, m_r6 ha, m_r7 ha, m_r8 ha, m_r9 ha, m_r10 ha, m_r11 ha, m_s1 ha, m_s2 ha, m_s3 ha, m_s4 ha, m_s5 ha, m_s6 ha, m_s7 ha, m_s8 ha, m_s9 ha, m_s10 ha, m_s11 ha, zI_add, zI_sub, zI_mul, zI_neg, zL_add, zL_sub, zL_mul, Option.bind_some, Option.toList_some, Option.toList_none, List.cons_append, List.nil_append, zI_lt, zI_le, zI_eq, zI_eq0, zI_lt0, zI_le0, zI_0lt, zI_0le, bZ_e0, Int.add_zero, Int.zero_add, c_lesser]
    exact l_lightOf (W := t 1 0) ha es.1 es.2 hx0 hx1 hy0 hy1 25 _ _ (by omega) (by omega) (by omega) (by omega) (by omega) (by omega)
  unfold lgt
  rw [hl0]
  by_cases q1 : x % t 1 0 = y % t 1 0
  · rw [if_pos q1, tail, if_neg (fun z => z.1 q1)]
  · rw [if_neg q1]
    by_cases q2 : x / t 1 0 = y / t 1 0
    · rw [if_pos q2, tail, if_neg (fun z => z.2 q2)]
    · rw [if_neg q2, if_pos ⟨q1, q2⟩]
      simp (disch := first | omega | assumption | (refine zI_ne0 ?_ ?_ ?_ <;> omega)) only [s_X8_lightOf_79, s_X8_lightOf_80, s_X8_lightOf_83, s_X8_lightOf_84, s_X8_lightOf_85, s_X8_lightOf_86, s_X8_lightOf_89, s_X8_lightOf_90, s_X8_lightOf_91, s_X8_lightOf_93, s_X8_lightOf_94, s_X8_lightOf_95, s_X8_lightOf_96, s_X8_lightOf_99, s_X8_lightOf_102, s_X8_lightOf_103, s_X8_lightOf_106, s_X8_lightOf_107, s_X8_lightOf_108, s_X8_lightOf_109, s_X8_lightOf_112, s_X8_lightOf_113, s_X8_lightOf_114, s_X8_lightOf_116, s_X8_lightOf_117, s_X8_lightOf_119, s_X8_lightOf_120, s_X8_lightOf_123, s_X8_lightOf_126, s_X8_lightOf_128, s_X8_lightOf_129, s_X8_lightOf_130, s_X8_lightOf_133, s_X8_lightOf_135, mH_obj ha, m_g0 ha, m_g1 ha, m_g2 ha, m_g3 ha, m_g4 ha, m_g5 ha, m_g6 ha, m_g7 ha, m_g8 ha, m_g9 ha, m_g10 ha, m_g11 ha, m_g12 ha, m_g13 ha, m_g14 ha, m_g15 ha, m_g16 ha, m_g17 ha, m_g18 ha, m_g19 ha, m_g20 ha, m_p3 ha, m_p7 ha, m_p8 ha, m_p9 ha, m_p12 ha, m_p16 ha, m_p17 ha, m_p18 ha, m_p19 ha, m_p20 ha, m_r1 ha, m_r2 ha, m_r3 ha, m_r4 ha, m_r5 ha, m_r6 ha, m_r7 ha, m_r8 ha, m_r9 ha, m_r10 ha, m_r11 ha, m_s1 ha, m_s2 ha, m_s3 ha, m_s4 ha, m_s5 ha, m_s6 ha, m_s7 ha, m_s8 ha, m_s9 ha, m_s10 ha, m_s11 ha, zI_add, zI_sub, zI_mul, zI_neg, zL_add, zL_sub, zL_mul, Option.bind_some, Option.toList_some, Option.toList_none, List.cons_append, List.nil_append, zI_lt, zI_le, zI_eq, zI_eq0, zI_lt0, zI_le0, zI_0lt, zI_0le, bZ_e0, Int.add_zero, Int.zero_add, c_has, zI_div, Int.reduceToNat, ite_not]
      by_cases q3 : hasB (t 1 4) (t 1 0 * (y / t 1 0) + x % t 1 0) = true
      · rw [if_pos q3]
        by_cases q4 : hasB (t 1 4) (t 1 0 * (x / t 1 0) + y % t 1 0) = true
        · rw [if_pos q4, if_pos ⟨q3, q4⟩]
        · rw [if_neg q4, if_neg (fun z => q4 z.2)]
      · rw [if_neg q3, if_neg (fun z => q3 z.1)]
def stp (W x y : Int) : Int := ((x % W - y % W).natAbs : Int) + ((x / W - y / W).natAbs : Int)
def bes (W S x y : Int) : Bool := decide (stp W x y < 2) && !hasB S y
theorem c_isBeside {x y : Int} (ha : a + 12 ≤ h.1) (h1 : 2 ≤ t 1 0) (h2 : t 1 0 ≤ 5) (hx0 : 0 ≤ x) (hx1 : x < 25) (hy0 : 0 ≤ y) (hy1 : y < 25) : x_cl (d + 1) n_X8_isBeside [.ref a, .int (zI x), .int (zI y)] (mH h a t) = some (some (.int (zI (bZ (bes (t 1 0) (t 1 4) x y = true)))), mH h a t) := by
  obtain ⟨a1, a2, a3, a4, a5⟩ := sq_rg h1 h2 hx0 hx1
  obtain ⟨b1, b2, b3, b4, b5⟩ := sq_rg h1 h2 hy0 hy1
  simp (disch := first | omega | assumption | (refine zI_ne0 ?_ ?_ ?_ <;> omega)) only [e_X8_isBeside, s_X8_isBeside_0, s_X8_isBeside_1, s_X8_isBeside_2, s_X8_isBeside_5, s_X8_isBeside_6, s_X8_isBeside_7, s_X8_isBeside_8, s_X8_isBeside_9, s_X8_isBeside_10, s_X8_isBeside_13, s_X8_isBeside_14, s_X8_isBeside_15, s_X8_isBeside_16, s_X8_isBeside_17, s_X8_isBeside_20, s_X8_isBeside_21, s_X8_isBeside_22, s_X8_isBeside_25, s_X8_isBeside_26, s_X8_isBeside_27, s_X8_isBeside_28, s_X8_isBeside_29, s_X8_isBeside_30, s_X8_isBeside_33, s_X8_isBeside_34, s_X8_isBeside_35, s_X8_isBeside_36, s_X8_isBeside_37, s_X8_isBeside_40, s_X8_isBeside_41, s_X8_isBeside_42, s_X8_isBeside_45, s_X8_isBeside_46, s_X8_isBeside_49, s_X8_isBeside_50, s_X8_isBeside_51, s_X8_isBeside_52, s_X8_isBeside_55, s_X8_isBeside_58, s_X8_isBeside_59, s_X8_isBeside_62, s_X8_isBeside_63_0, s_X8_isBeside_63_1, s_X8_isBeside_63_b, mH_obj ha, m_g0 ha, m_g1 ha, m_g2 ha, m_g3 ha, m_g4 ha, m_g5 ha, m_g6 ha, m_g7 ha, m_g8 ha, m_g9 ha, m_g10 ha, m_g11 ha, m_g12 ha, m_g13 ha, m_g14 ha, m_g15 ha, m_g16 ha, m_g17 ha, m_g18 ha, m_g19 ha, m_g20 ha, m_p3 ha, m_p7 ha, m_p8 ha, m_p9 ha, m_p12 ha, m_p16 ha, m_p17 ha, m_p18 ha, m_p19 ha, m_p20 ha, m_r1 ha, m_r2 ha, m_r3 ha, m_r4 ha, m_r5 ha, m_r6 ha, m_r7 ha, m_r8 ha, m_r9 ha, m_r10 ha, m_r11 ha, m_s1 ha, m_s2 ha, m_s3 ha, m_s4 ha, m_s5 ha, m_s6 ha, m_s7 ha, m_s8 ha, m_s9 ha, m_s10 ha, m_s11 ha, zI_add, zI_sub, zI_mul, zI_neg, zL_add, zL_sub, zL_mul, Option.bind_some, Option.toList_some, Option.toList_none, List.cons_append, List.nil_append, zI_lt, zI_le, zI_eq, zI_eq0, zI_lt0, zI_le0, zI_0lt, zI_0le, bZ_e0, Int.add_zero, Int.zero_add, zI_div, rem_eq, c_sizeOf, c_has, Int.reduceToNat, ite_not]
  rw [show ((x % t 1 0 - y % t 1 0).natAbs : Int) + ((x / t 1 0 - y / t 1 0).natAbs : Int) = stp (t 1 0) x y from rfl]
  have e : bes (t 1 0) (t 1 4) x y = true ↔ stp (t 1 0) x y < 2 ∧ hasB (t 1 4) y = false := by
    unfold bes
    rw [Bool.and_eq_true, decide_eq_true_eq, Bool.not_eq_true']
  by_cases q1 : 2 ≤ stp (t 1 0) x y
  · rw [if_pos q1, bZ_f (fun z => by have := (e.mp z).1; omega)]
  · rw [if_neg q1]
    by_cases q2 : hasB (t 1 4) y = true
    · rw [if_pos q2, bZ_f (fun z => by have := (e.mp z).2; rw [q2] at this; cases this)]
    · rw [if_neg q2, bZ_t (e.mpr ⟨by omega, by simpa using q2⟩)]
def qLight (t : Nat → Nat → Int) (x y : Int) : Int × (Nat → Nat → Int) := if (0 ≤ x ∧ x < sqN t 0) ∧ (0 ≤ y ∧ y < sqN t 0) then (lgt (t 1 0) (t 1 4) x y, t) else (-2, metT t (-2))
theorem m_light {x y : Int} (ha : a + 12 ≤ h.1) (h1 : 2 ≤ t 1 0) (h2 : t 1 0 ≤ 5) (h3 : -2147483648 ≤ x) (h4 : x < 2147483648) (h5 : -2147483648 ≤ y) (h6 : y < 2147483648) (ho : rOk t 0) : x_cl (d + 2) n_X8_light [.ref a, .int (zI x), .int (zI y)] (mH h a t) = some (some (.int (zI (qLight t x y).1)), mH h a (qLight t x y).2) := by
  have o := ho.1
  unfold qLight
  simp (disch := first | omega | assumption) only [e_X8_light, s_X8_light_0, s_X8_light_1, s_X8_light_2, s_X8_light_3, s_X8_light_6, s_X8_light_9, s_X8_light_10, s_X8_light_11, s_X8_light_12, s_X8_light_15, mH_obj ha, m_g0 ha, m_g1 ha, m_g2 ha, m_g3 ha, m_g4 ha, m_g5 ha, m_g6 ha, m_g7 ha, m_g8 ha, m_g9 ha, m_g10 ha, m_g11 ha, m_g12 ha, m_g13 ha, m_g14 ha, m_g15 ha, m_g16 ha, m_g17 ha, m_g18 ha, m_g19 ha, m_g20 ha, m_p3 ha, m_p7 ha, m_p8 ha, m_p9 ha, m_p12 ha, m_p16 ha, m_p17 ha, m_p18 ha, m_p19 ha, m_p20 ha, m_r1 ha, m_r2 ha, m_r3 ha, m_r4 ha, m_r5 ha, m_r6 ha, m_r7 ha, m_r8 ha, m_r9 ha, m_r10 ha, m_r11 ha, m_s1 ha, m_s2 ha, m_s3 ha, m_s4 ha, m_s5 ha, m_s6 ha, m_s7 ha, m_s8 ha, m_s9 ha, m_s10 ha, m_s11 ha, zI_add, zI_sub, zI_mul, zI_neg, zL_add, zL_sub, zL_mul, Option.bind_some, Option.toList_some, Option.toList_none, List.cons_append, List.nil_append, zI_lt, zI_le, zI_eq, zI_eq0, zI_lt0, zI_le0, zI_0lt, zI_0le, bZ_e0, Int.add_zero, Int.zero_add, c_isSq ha, ite_not]
  by_cases z1 : 0 ≤ x ∧ x < sqN t 0
  · rw [if_pos z1]
    by_cases z2 : 0 ≤ y ∧ y < sqN t 0
    · rw [if_pos z2, if_pos ⟨z1, z2⟩]
      simp (disch := first | omega | assumption) only [s_X8_light_18, s_X8_light_19, s_X8_light_20, s_X8_light_21, s_X8_light_24, s_X8_light_27, s_X8_light_28, s_X8_light_30, s_X8_light_33, mH_obj ha, m_g0 ha, m_g1 ha, m_g2 ha, m_g3 ha, m_g4 ha, m_g5 ha, m_g6 ha, m_g7 ha, m_g8 ha, m_g9 ha, m_g10 ha, m_g11 ha, m_g12 ha, m_g13 ha, m_g14 ha, m_g15 ha, m_g16 ha, m_g17 ha, m_g18 ha, m_g19 ha, m_g20 ha, m_p3 ha, m_p7 ha, m_p8 ha, m_p9 ha, m_p12 ha, m_p16 ha, m_p17 ha, m_p18 ha, m_p19 ha, m_p20 ha, m_r1 ha, m_r2 ha, m_r3 ha, m_r4 ha, m_r5 ha, m_r6 ha, m_r7 ha, m_r8 ha, m_r9 ha, m_r10 ha, m_r11 ha, m_s1 ha, m_s2 ha, m_s3 ha, m_s4 ha, m_s5 ha, m_s6 ha, m_s7 ha, m_s8 ha, m_s9 ha, m_s10 ha, m_s11 ha, zI_add, zI_sub, zI_mul, zI_neg, zL_add, zL_sub, zL_mul, Option.bind_some, Option.toList_some, Option.toList_none, List.cons_append, List.nil_append, zI_lt, zI_le, zI_eq, zI_eq0, zI_lt0, zI_le0, zI_0lt, zI_0le, bZ_e0, Int.add_zero, Int.zero_add, c_lightOf ha]
    · rw [if_neg z2, if_neg (fun z => z2 z.2)]
      simp (disch := first | omega | assumption) only [s_X8_light_27, s_X8_light_28, s_X8_light_30, s_X8_light_33, mH_obj ha, m_g0 ha, m_g1 ha, m_g2 ha, m_g3 ha, m_g4 ha, m_g5 ha, m_g6 ha, m_g7 ha, m_g8 ha, m_g9 ha, m_g10 ha, m_g11 ha, m_g12 ha, m_g13 ha, m_g14 ha, m_g15 ha, m_g16 ha, m_g17 ha, m_g18 ha, m_g19 ha, m_g20 ha, m_p3 ha, m_p7 ha, m_p8 ha, m_p9 ha, m_p12 ha, m_p16 ha, m_p17 ha, m_p18 ha, m_p19 ha, m_p20 ha, m_r1 ha, m_r2 ha, m_r3 ha, m_r4 ha, m_r5 ha, m_r6 ha, m_r7 ha, m_r8 ha, m_r9 ha, m_r10 ha, m_r11 ha, m_s1 ha, m_s2 ha, m_s3 ha, m_s4 ha, m_s5 ha, m_s6 ha, m_s7 ha, m_s8 ha, m_s9 ha, m_s10 ha, m_s11 ha, zI_add, zI_sub, zI_mul, zI_neg, zL_add, zL_sub, zL_mul, Option.bind_some, Option.toList_some, Option.toList_none, List.cons_append, List.nil_append, zI_lt, zI_le, zI_eq, zI_eq0, zI_lt0, zI_le0, zI_0lt, zI_0le, bZ_e0, Int.add_zero, Int.zero_add, c_met ha]
  · rw [if_neg z1, if_neg (fun z => z1 z.1)]
    simp (disch := first | omega | assumption) only [s_X8_light_27, s_X8_light_28, s_X8_light_30, s_X8_light_33, mH_obj ha, m_g0 ha, m_g1 ha, m_g2 ha, m_g3 ha, m_g4 ha, m_g5 ha, m_g6 ha, m_g7 ha, m_g8 ha, m_g9 ha, m_g10 ha, m_g11 ha, m_g12 ha, m_g13 ha, m_g14 ha, m_g15 ha, m_g16 ha, m_g17 ha, m_g18 ha, m_g19 ha, m_g20 ha, m_p3 ha, m_p7 ha, m_p8 ha, m_p9 ha, m_p12 ha, m_p16 ha, m_p17 ha, m_p18 ha, m_p19 ha, m_p20 ha, m_r1 ha, m_r2 ha, m_r3 ha, m_r4 ha, m_r5 ha, m_r6 ha, m_r7 ha, m_r8 ha, m_r9 ha, m_r10 ha, m_r11 ha, m_s1 ha, m_s2 ha, m_s3 ha, m_s4 ha, m_s5 ha, m_s6 ha, m_s7 ha, m_s8 ha, m_s9 ha, m_s10 ha, m_s11 ha, zI_add, zI_sub, zI_mul, zI_neg, zL_add, zL_sub, zL_mul, Option.bind_some, Option.toList_some, Option.toList_none, List.cons_append, List.nil_append, zI_lt, zI_le, zI_eq, zI_eq0, zI_lt0, zI_le0, zI_0lt, zI_0le, bZ_e0, Int.add_zero, Int.zero_add, c_met ha]
end

/-! THE REFERENCE, part 7: a minute -/
section
variable {h : xH} {a : Nat} {t : Nat → Nat → Int} {d : Nat}
/-- pages by kind, light, and whether one read by light ahead; the duty apart -/
def pgB (k l lit : Int) : Int := if k = 1 then l / 4 - 1 else if k = 3 then (l / 4 - 1).tdiv 2 else if k = 2 then (if 0 < l then l / 4 + 1 else l / 4) else if k = 4 then (if 0 < l then l / 4 + 1 else lit) else l / 4
/-- the duty: none, if one of these has pages left -/
def dutF (f : Int → Int) : Nat → Int → Int → Int
  | 0, _, v => v
  | n + 1, k, v => dutF f n (k + 1) (if 0 < f k then 0 else v)
/-- pages of reader p in a minute -/
def rdS (knd p l : Int) (lf lt : Int → Int) : Int := min (max 0 (if knd = 5 then dutF lf p.toNat 0 (l / 4) else pgB knd l (lt p))) (lf p)
theorem dutF_rg (f : Int → Int) : ∀ (n : Nat) (k v : Int), 0 ≤ v → v ≤ 12 → 0 ≤ dutF f n k v ∧ dutF f n k v ≤ 12 := by
  intro n
  induction n with
  | zero => intro k v h1 h2; exact ⟨h1, h2⟩
  | succ n ih =>
    intro k v h1 h2
    rw [dutF]
    split
    · exact ih _ _ (by omega) (by omega)
    · exact ih _ _ h1 h2
theorem pgB_rg {k l lit : Int} (h1 : 0 ≤ l) (h2 : l ≤ 24) (h3 : 0 ≤ lit) (h4 : lit ≤ 1) : -1 ≤ pgB k l lit ∧ pgB k l lit ≤ 12 := by
  unfold pgB
  have e : (l / 4 - 1).tdiv 2 = if l / 4 - 1 < 0 then 0 else (l / 4 - 1) / 2 := by
    by_cases q : l / 4 - 1 < 0
    · rw [if_pos q, show l / 4 - 1 = -1 by omega]; rfl
    · rw [if_neg q, Int.tdiv_eq_ediv_of_nonneg (by omega)]
  rw [e]
  repeat' split
  all_goals omega
theorem l_readsBy {p l lev : Int} {l4 : Int32} (ha : a + 12 ≤ h.1) (h1 : 0 ≤ p) (h2 : p < 5) (h5 : 0 ≤ lev) (h6 : lev ≤ 6) (hf : ∀ k, 0 ≤ k → k ≤ p → 0 ≤ t 7 (5 * lev + k).toNat ∧ t 7 (5 * lev + k).toNat ≤ 20) : ∀ (n : Nat) (k v : Int), k + n = p → 0 ≤ k →
    x_ev (d + 1, n_X8_readsBy, 119, [.ref a, .int (zI p), .int (zI l), .int (zI lev), .int l4, .int (zI v), .int (zI k)], [], mH h a t) = x_ev (d + 1, n_X8_readsBy, 156, [.ref a, .int (zI p), .int (zI l), .int (zI lev), .int l4, .int (zI (dutF (fun k => t 7 (5 * lev + k).toNat) n k v)), .int (zI p)], [], mH h a t) := by
  intro n
  induction n with
  | zero =>
    intro k v hk h0
    rw [s_X8_readsBy_119]
    simp (disch := first | omega | assumption) only [s_X8_readsBy_121, s_X8_readsBy_122, mH_obj ha, m_g0 ha, m_g1 ha, m_g2 ha, m_g3 ha, m_g4 ha, m_g5 ha, m_g6 ha, m_g7 ha, m_g8 ha, m_g9 ha, m_g10 ha, m_g11 ha, m_g12 ha, m_g13 ha, m_g14 ha, m_g15 ha, m_g16 ha, m_g17 ha, m_g18 ha, m_g19 ha, m_g20 ha, m_p3 ha, m_p7 ha, m_p8 ha, m_p9 ha, m_p12 ha, m_p16 ha, m_p17 ha, m_p18 ha, m_p19 ha, m_p20 ha, m_r1 ha, m_r2 ha, m_r3 ha, m_r4 ha, m_r5 ha, m_r6 ha, m_r7 ha, m_r8 ha, m_r9 ha, m_r10 ha, m_r11 ha, m_s1 ha, m_s2 ha, m_s3 ha, m_s4 ha, m_s5 ha, m_s6 ha, m_s7 ha, m_s8 ha, m_s9 ha, m_s10 ha, m_s11 ha, zI_add, zI_sub, zI_mul, zI_neg, zL_add, zL_sub, zL_mul, Option.bind_some, Option.toList_some, Option.toList_none, List.cons_append, List.nil_append, zI_lt, zI_le, zI_eq, zI_eq0, zI_lt0, zI_le0, zI_0lt, zI_0le, bZ_e0, Int.add_zero, Int.zero_add]
    rw [if_pos (by omega)]
    simp (disch := first | omega | assumption) only [s_X8_readsBy_153]
    rw [show k = p by omega]
    rfl
  | succ n ih =>
    intro k v hk h0
    have hf1 := hf k h0 (by omega)
    rw [s_X8_readsBy_119]
    simp (disch := first | omega | assumption) only [s_X8_readsBy_121, s_X8_readsBy_122, mH_obj ha, m_g0 ha, m_g1 ha, m_g2 ha, m_g3 ha, m_g4 ha, m_g5 ha, m_g6 ha, m_g7 ha, m_g8 ha, m_g9 ha, m_g10 ha, m_g11 ha, m_g12 ha, m_g13 ha, m_g14 ha, m_g15 ha, m_g16 ha, m_g17 ha, m_g18 ha, m_g19 ha, m_g20 ha, m_p3 ha, m_p7 ha, m_p8 ha, m_p9 ha, m_p12 ha, m_p16 ha, m_p17 ha, m_p18 ha, m_p19 ha, m_p20 ha, m_r1 ha, m_r2 ha, m_r3 ha, m_r4 ha, m_r5 ha, m_r6 ha, m_r7 ha, m_r8 ha, m_r9 ha, m_r10 ha, m_r11 ha, m_s1 ha, m_s2 ha, m_s3 ha, m_s4 ha, m_s5 ha, m_s6 ha, m_s7 ha, m_s8 ha, m_s9 ha, m_s10 ha, m_s11 ha, zI_add, zI_sub, zI_mul, zI_neg, zL_add, zL_sub, zL_mul, Option.bind_some, Option.toList_some, Option.toList_none, List.cons_append, List.nil_append, zI_lt, zI_le, zI_eq, zI_eq0, zI_lt0, zI_le0, zI_0lt, zI_0le, bZ_e0, Int.add_zero, Int.zero_add]
    rw [if_neg (by omega)]
    simp (disch := first | omega | assumption) only [s_X8_readsBy_125, s_X8_readsBy_126, s_X8_readsBy_129, s_X8_readsBy_130, s_X8_readsBy_131, s_X8_readsBy_132, s_X8_readsBy_134, s_X8_readsBy_135, s_X8_readsBy_136, s_X8_readsBy_139, s_X8_readsBy_140, s_X8_readsBy_143, mH_obj ha, m_g0 ha, m_g1 ha, m_g2 ha, m_g3 ha, m_g4 ha, m_g5 ha, m_g6 ha, m_g7 ha, m_g8 ha, m_g9 ha, m_g10 ha, m_g11 ha, m_g12 ha, m_g13 ha, m_g14 ha, m_g15 ha, m_g16 ha, m_g17 ha, m_g18 ha, m_g19 ha, m_g20 ha, m_p3 ha, m_p7 ha, m_p8 ha, m_p9 ha, m_p12 ha, m_p16 ha, m_p17 ha, m_p18 ha, m_p19 ha, m_p20 ha, m_r1 ha, m_r2 ha, m_r3 ha, m_r4 ha, m_r5 ha, m_r6 ha, m_r7 ha, m_r8 ha, m_r9 ha, m_r10 ha, m_r11 ha, m_s1 ha, m_s2 ha, m_s3 ha, m_s4 ha, m_s5 ha, m_s6 ha, m_s7 ha, m_s8 ha, m_s9 ha, m_s10 ha, m_s11 ha, zI_add, zI_sub, zI_mul, zI_neg, zL_add, zL_sub, zL_mul, Option.bind_some, Option.toList_some, Option.toList_none, List.cons_append, List.nil_append, zI_lt, zI_le, zI_eq, zI_eq0, zI_lt0, zI_le0, zI_0lt, zI_0le, bZ_e0, Int.add_zero, Int.zero_add]
    have e0 : (if t 7 (5 * lev + k).toNat ≤ 0 then v else 0) = (if 0 < t 7 (5 * lev + k).toNat then 0 else v) := by
      by_cases q : t 7 (5 * lev + k).toNat ≤ 0
      · rw [if_pos q, if_neg (by omega)]
      · rw [if_neg q, if_pos (by omega)]
    simp only [x_j1, e0]
    simp (disch := first | omega | assumption) only [s_X8_readsBy_145, s_X8_readsBy_147, s_X8_readsBy_150, mH_obj ha, m_g0 ha, m_g1 ha, m_g2 ha, m_g3 ha, m_g4 ha, m_g5 ha, m_g6 ha, m_g7 ha, m_g8 ha, m_g9 ha, m_g10 ha, m_g11 ha, m_g12 ha, m_g13 ha, m_g14 ha, m_g15 ha, m_g16 ha, m_g17 ha, m_g18 ha, m_g19 ha, m_g20 ha, m_p3 ha, m_p7 ha, m_p8 ha, m_p9 ha, m_p12 ha, m_p16 ha, m_p17 ha, m_p18 ha, m_p19 ha, m_p20 ha, m_r1 ha, m_r2 ha, m_r3 ha, m_r4 ha, m_r5 ha, m_r6 ha, m_r7 ha, m_r8 ha, m_r9 ha, m_r10 ha, m_r11 ha, m_s1 ha, m_s2 ha, m_s3 ha, m_s4 ha, m_s5 ha, m_s6 ha, m_s7 ha, m_s8 ha, m_s9 ha, m_s10 ha, m_s11 ha, zI_add, zI_sub, zI_mul, zI_neg, zL_add, zL_sub, zL_mul, Option.bind_some, Option.toList_some, Option.toList_none, List.cons_append, List.nil_append, zI_lt, zI_le, zI_eq, zI_eq0, zI_lt0, zI_le0, zI_0lt, zI_0le, bZ_e0, Int.add_zero, Int.zero_add]
    exact ih (k + 1) _ (by omega) (by omega)
theorem c_readsBy {p l lev : Int} (ha : a + 12 ≤ h.1) (h1 : 0 ≤ p) (h2 : p < 5) (h3 : 0 ≤ l) (h4 : l ≤ 24) (h5 : 0 ≤ lev) (h6 : lev ≤ 6) (hk : 0 ≤ t 1 (11 + p).toNat ∧ t 1 (11 + p).toNat ≤ 5) (hf : ∀ k, 0 ≤ k → k ≤ p → 0 ≤ t 7 (5 * lev + k).toNat ∧ t 7 (5 * lev + k).toNat ≤ 20) (hl : 0 ≤ t 8 (5 * lev + p).toNat ∧ t 8 (5 * lev + p).toNat ≤ 1) :
    x_cl (d + 1) n_X8_readsBy [.ref a, .int (zI p), .int (zI l), .int (zI lev)] (mH h a t) = some (some (.int (zI (rdS (t 1 (11 + p).toNat) p l (fun k => t 7 (5 * lev + k).toNat) (fun k => t 8 (5 * lev + k).toNat)))), mH h a t) := by
  have hfp := hf p h1 (by omega)
  have tail : ∀ (v : Int) (l6 : Value), -1000 ≤ v → v ≤ 1000 → x_ev (d + 1, n_X8_readsBy, 156, [.ref a, .int (zI p), .int (zI l), .int (zI lev), .int (zI (l / 4)), .int (zI v), l6], [], mH h a t) = some (some (.int (zI (min (max 0 v) (t 7 (5 * lev + p).toNat)))), mH h a t) := by
    intro v l6 hv1 hv2
    simp (disch := first | omega | assumption) only [s_X8_readsBy_156, s_X8_readsBy_157, s_X8_readsBy_159, s_X8_readsBy_162, s_X8_readsBy_163, s_X8_readsBy_166, s_X8_readsBy_167, s_X8_readsBy_168, s_X8_readsBy_169, s_X8_readsBy_170, s_X8_readsBy_171, s_X8_readsBy_172, s_X8_readsBy_175, mH_obj ha, m_g0 ha, m_g1 ha, m_g2 ha, m_g3 ha, m_g4 ha, m_g5 ha, m_g6 ha, m_g7 ha, m_g8 ha, m_g9 ha, m_g10 ha, m_g11 ha, m_g12 ha, m_g13 ha, m_g14 ha, m_g15 ha, m_g16 ha, m_g17 ha, m_g18 ha, m_g19 ha, m_g20 ha, m_p3 ha, m_p7 ha, m_p8 ha, m_p9 ha, m_p12 ha, m_p16 ha, m_p17 ha, m_p18 ha, m_p19 ha, m_p20 ha, m_r1 ha, m_r2 ha, m_r3 ha, m_r4 ha, m_r5 ha, m_r6 ha, m_r7 ha, m_r8 ha, m_r9 ha, m_r10 ha, m_r11 ha, m_s1 ha, m_s2 ha, m_s3 ha, m_s4 ha, m_s5 ha, m_s6 ha, m_s7 ha, m_s8 ha, m_s9 ha, m_s10 ha, m_s11 ha, zI_add, zI_sub, zI_mul, zI_neg, zL_add, zL_sub, zL_mul, Option.bind_some, Option.toList_some, Option.toList_none, List.cons_append, List.nil_append, zI_lt, zI_le, zI_eq, zI_eq0, zI_lt0, zI_le0, zI_0lt, zI_0le, bZ_e0, Int.add_zero, Int.zero_add, c_greater, c_lesser]
  have hp := pgB_rg (k := t 1 (11 + p).toNat) h3 h4 hl.1 hl.2
  have hdz := dutF_rg (fun k => t 7 (5 * lev + k).toNat) p.toNat 0 (l / 4) (by omega) (by omega)
  have hne : ¬ zI 4 = 0 := by decide
  have hne2 : ¬ zI 2 = 0 := by decide
  unfold rdS
  simp (disch := first | omega | assumption) only [e_X8_readsBy, s_X8_readsBy_0, s_X8_readsBy_1, s_X8_readsBy_2, s_X8_readsBy_3, s_X8_readsBy_5, s_X8_readsBy_7, s_X8_readsBy_9, s_X8_readsBy_10, s_X8_readsBy_13, s_X8_readsBy_15, s_X8_readsBy_16, s_X8_readsBy_17, mH_obj ha, m_g0 ha, m_g1 ha, m_g2 ha, m_g3 ha, m_g4 ha, m_g5 ha, m_g6 ha, m_g7 ha, m_g8 ha, m_g9 ha, m_g10 ha, m_g11 ha, m_g12 ha, m_g13 ha, m_g14 ha, m_g15 ha, m_g16 ha, m_g17 ha, m_g18 ha, m_g19 ha, m_g20 ha, m_p3 ha, m_p7 ha, m_p8 ha, m_p9 ha, m_p12 ha, m_p16 ha, m_p17 ha, m_p18 ha, m_p19 ha, m_p20 ha, m_r1 ha, m_r2 ha, m_r3 ha, m_r4 ha, m_r5 ha, m_r6 ha, m_r7 ha, m_r8 ha, m_r9 ha, m_r10 ha, m_r11 ha, m_s1 ha, m_s2 ha, m_s3 ha, m_s4 ha, m_s5 ha, m_s6 ha, m_s7 ha, m_s8 ha, m_s9 ha, m_s10 ha, m_s11 ha, zI_add, zI_sub, zI_mul, zI_neg, zL_add, zL_sub, zL_mul, Option.bind_some, Option.toList_some, Option.toList_none, List.cons_append, List.nil_append, zI_lt, zI_le, zI_eq, zI_eq0, zI_lt0, zI_le0, zI_0lt, zI_0le, bZ_e0, Int.add_zero, Int.zero_add, zI_div]
  rcases (show t 1 (11 + p).toNat = 0 ∨ t 1 (11 + p).toNat = 1 ∨ t 1 (11 + p).toNat = 2 ∨ t 1 (11 + p).toNat = 3 ∨ t 1 (11 + p).toNat = 4 ∨ t 1 (11 + p).toNat = 5 by omega) with e | e | e | e | e | e
  all_goals rw [e] at hp ⊢
  · rw [s_X8_readsBy_18_d (Or.inl (by decide)), tail _ _ (by omega) (by omega)]; rfl
  · rw [s_X8_readsBy_18_c1]
    simp (disch := first | omega | assumption) only [s_X8_readsBy_52, s_X8_readsBy_54, s_X8_readsBy_55, s_X8_readsBy_56, s_X8_readsBy_58, mH_obj ha, m_g0 ha, m_g1 ha, m_g2 ha, m_g3 ha, m_g4 ha, m_g5 ha, m_g6 ha, m_g7 ha, m_g8 ha, m_g9 ha, m_g10 ha, m_g11 ha, m_g12 ha, m_g13 ha, m_g14 ha, m_g15 ha, m_g16 ha, m_g17 ha, m_g18 ha, m_g19 ha, m_g20 ha, m_p3 ha, m_p7 ha, m_p8 ha, m_p9 ha, m_p12 ha, m_p16 ha, m_p17 ha, m_p18 ha, m_p19 ha, m_p20 ha, m_r1 ha, m_r2 ha, m_r3 ha, m_r4 ha, m_r5 ha, m_r6 ha, m_r7 ha, m_r8 ha, m_r9 ha, m_r10 ha, m_r11 ha, m_s1 ha, m_s2 ha, m_s3 ha, m_s4 ha, m_s5 ha, m_s6 ha, m_s7 ha, m_s8 ha, m_s9 ha, m_s10 ha, m_s11 ha, zI_add, zI_sub, zI_mul, zI_neg, zL_add, zL_sub, zL_mul, Option.bind_some, Option.toList_some, Option.toList_none, List.cons_append, List.nil_append, zI_lt, zI_le, zI_eq, zI_eq0, zI_lt0, zI_le0, zI_0lt, zI_0le, bZ_e0, Int.add_zero, Int.zero_add]
    rw [tail _ _ (by omega) (by omega)]; rfl
  · rw [s_X8_readsBy_18_c2]
    simp (disch := first | omega | assumption) only [s_X8_readsBy_72, s_X8_readsBy_73, s_X8_readsBy_76, s_X8_readsBy_78, s_X8_readsBy_79, s_X8_readsBy_80, s_X8_readsBy_83, mH_obj ha, m_g0 ha, m_g1 ha, m_g2 ha, m_g3 ha, m_g4 ha, m_g5 ha, m_g6 ha, m_g7 ha, m_g8 ha, m_g9 ha, m_g10 ha, m_g11 ha, m_g12 ha, m_g13 ha, m_g14 ha, m_g15 ha, m_g16 ha, m_g17 ha, m_g18 ha, m_g19 ha, m_g20 ha, m_p3 ha, m_p7 ha, m_p8 ha, m_p9 ha, m_p12 ha, m_p16 ha, m_p17 ha, m_p18 ha, m_p19 ha, m_p20 ha, m_r1 ha, m_r2 ha, m_r3 ha, m_r4 ha, m_r5 ha, m_r6 ha, m_r7 ha, m_r8 ha, m_r9 ha, m_r10 ha, m_r11 ha, m_s1 ha, m_s2 ha, m_s3 ha, m_s4 ha, m_s5 ha, m_s6 ha, m_s7 ha, m_s8 ha, m_s9 ha, m_s10 ha, m_s11 ha, zI_add, zI_sub, zI_mul, zI_neg, zL_add, zL_sub, zL_mul, Option.bind_some, Option.toList_some, Option.toList_none, List.cons_append, List.nil_append, zI_lt, zI_le, zI_eq, zI_eq0, zI_lt0, zI_le0, zI_0lt, zI_0le, bZ_e0, Int.add_zero, Int.zero_add, x_j1]
    have e0 : (if l ≤ 0 then l / 4 else l / 4 + 1) = pgB 2 l (t 8 (5 * lev + p).toNat) := by
      show _ = (if 0 < l then l / 4 + 1 else l / 4)
      by_cases q : l ≤ 0
      · rw [if_pos q, if_neg (by omega)]
      · rw [if_neg q, if_pos (by omega)]
    rw [e0]
    simp (disch := first | omega | assumption) only [s_X8_readsBy_85, s_X8_readsBy_87, mH_obj ha, m_g0 ha, m_g1 ha, m_g2 ha, m_g3 ha, m_g4 ha, m_g5 ha, m_g6 ha, m_g7 ha, m_g8 ha, m_g9 ha, m_g10 ha, m_g11 ha, m_g12 ha, m_g13 ha, m_g14 ha, m_g15 ha, m_g16 ha, m_g17 ha, m_g18 ha, m_g19 ha, m_g20 ha, m_p3 ha, m_p7 ha, m_p8 ha, m_p9 ha, m_p12 ha, m_p16 ha, m_p17 ha, m_p18 ha, m_p19 ha, m_p20 ha, m_r1 ha, m_r2 ha, m_r3 ha, m_r4 ha, m_r5 ha, m_r6 ha, m_r7 ha, m_r8 ha, m_r9 ha, m_r10 ha, m_r11 ha, m_s1 ha, m_s2 ha, m_s3 ha, m_s4 ha, m_s5 ha, m_s6 ha, m_s7 ha, m_s8 ha, m_s9 ha, m_s10 ha, m_s11 ha, zI_add, zI_sub, zI_mul, zI_neg, zL_add, zL_sub, zL_mul, Option.bind_some, Option.toList_some, Option.toList_none, List.cons_append, List.nil_append, zI_lt, zI_le, zI_eq, zI_eq0, zI_lt0, zI_le0, zI_0lt, zI_0le, bZ_e0, Int.add_zero, Int.zero_add]
    rw [tail _ _ (by omega) (by omega)]; rfl
  · rw [s_X8_readsBy_18_c3]
    simp (disch := first | omega | assumption) only [s_X8_readsBy_61, s_X8_readsBy_63, s_X8_readsBy_64, s_X8_readsBy_65, s_X8_readsBy_66, s_X8_readsBy_67, s_X8_readsBy_69, mH_obj ha, m_g0 ha, m_g1 ha, m_g2 ha, m_g3 ha, m_g4 ha, m_g5 ha, m_g6 ha, m_g7 ha, m_g8 ha, m_g9 ha, m_g10 ha, m_g11 ha, m_g12 ha, m_g13 ha, m_g14 ha, m_g15 ha, m_g16 ha, m_g17 ha, m_g18 ha, m_g19 ha, m_g20 ha, m_p3 ha, m_p7 ha, m_p8 ha, m_p9 ha, m_p12 ha, m_p16 ha, m_p17 ha, m_p18 ha, m_p19 ha, m_p20 ha, m_r1 ha, m_r2 ha, m_r3 ha, m_r4 ha, m_r5 ha, m_r6 ha, m_r7 ha, m_r8 ha, m_r9 ha, m_r10 ha, m_r11 ha, m_s1 ha, m_s2 ha, m_s3 ha, m_s4 ha, m_s5 ha, m_s6 ha, m_s7 ha, m_s8 ha, m_s9 ha, m_s10 ha, m_s11 ha, zI_add, zI_sub, zI_mul, zI_neg, zL_add, zL_sub, zL_mul, Option.bind_some, Option.toList_some, Option.toList_none, List.cons_append, List.nil_append, zI_lt, zI_le, zI_eq, zI_eq0, zI_lt0, zI_le0, zI_0lt, zI_0le, bZ_e0, Int.add_zero, Int.zero_add, zI_tdiv]
    have hp3 : pgB 3 l (t 8 (5 * lev + p).toNat) = (l / 4 - 1).tdiv 2 := rfl
    rw [hp3] at hp
    rw [tail _ _ (by omega) (by omega)]; rfl
  · rw [s_X8_readsBy_18_c4]
    simp (disch := first | omega | assumption) only [s_X8_readsBy_90, s_X8_readsBy_91, s_X8_readsBy_94, s_X8_readsBy_96, s_X8_readsBy_97, s_X8_readsBy_98, s_X8_readsBy_101, s_X8_readsBy_102, s_X8_readsBy_105, s_X8_readsBy_106, s_X8_readsBy_107, s_X8_readsBy_108, s_X8_readsBy_109, s_X8_readsBy_110, mH_obj ha, m_g0 ha, m_g1 ha, m_g2 ha, m_g3 ha, m_g4 ha, m_g5 ha, m_g6 ha, m_g7 ha, m_g8 ha, m_g9 ha, m_g10 ha, m_g11 ha, m_g12 ha, m_g13 ha, m_g14 ha, m_g15 ha, m_g16 ha, m_g17 ha, m_g18 ha, m_g19 ha, m_g20 ha, m_p3 ha, m_p7 ha, m_p8 ha, m_p9 ha, m_p12 ha, m_p16 ha, m_p17 ha, m_p18 ha, m_p19 ha, m_p20 ha, m_r1 ha, m_r2 ha, m_r3 ha, m_r4 ha, m_r5 ha, m_r6 ha, m_r7 ha, m_r8 ha, m_r9 ha, m_r10 ha, m_r11 ha, m_s1 ha, m_s2 ha, m_s3 ha, m_s4 ha, m_s5 ha, m_s6 ha, m_s7 ha, m_s8 ha, m_s9 ha, m_s10 ha, m_s11 ha, zI_add, zI_sub, zI_mul, zI_neg, zL_add, zL_sub, zL_mul, Option.bind_some, Option.toList_some, Option.toList_none, List.cons_append, List.nil_append, zI_lt, zI_le, zI_eq, zI_eq0, zI_lt0, zI_le0, zI_0lt, zI_0le, bZ_e0, Int.add_zero, Int.zero_add, x_j1]
    have e0 : (if l ≤ 0 then t 8 (5 * lev + p).toNat else l / 4 + 1) = pgB 4 l (t 8 (5 * lev + p).toNat) := by
      show _ = (if 0 < l then l / 4 + 1 else t 8 (5 * lev + p).toNat)
      by_cases q : l ≤ 0
      · rw [if_pos q, if_neg (by omega)]
      · rw [if_neg q, if_pos (by omega)]
    rw [e0]
    simp (disch := first | omega | assumption) only [s_X8_readsBy_111, s_X8_readsBy_113, mH_obj ha, m_g0 ha, m_g1 ha, m_g2 ha, m_g3 ha, m_g4 ha, m_g5 ha, m_g6 ha, m_g7 ha, m_g8 ha, m_g9 ha, m_g10 ha, m_g11 ha, m_g12 ha, m_g13 ha, m_g14 ha, m_g15 ha, m_g16 ha, m_g17 ha, m_g18 ha, m_g19 ha, m_g20 ha, m_p3 ha, m_p7 ha, m_p8 ha, m_p9 ha, m_p12 ha, m_p16 ha, m_p17 ha, m_p18 ha, m_p19 ha, m_p20 ha, m_r1 ha, m_r2 ha, m_r3 ha, m_r4 ha, m_r5 ha, m_r6 ha, m_r7 ha, m_r8 ha, m_r9 ha, m_r10 ha, m_r11 ha, m_s1 ha, m_s2 ha, m_s3 ha, m_s4 ha, m_s5 ha, m_s6 ha, m_s7 ha, m_s8 ha, m_s9 ha, m_s10 ha, m_s11 ha, zI_add, zI_sub, zI_mul, zI_neg, zL_add, zL_sub, zL_mul, Option.bind_some, Option.toList_some, Option.toList_none, List.cons_append, List.nil_append, zI_lt, zI_le, zI_eq, zI_eq0, zI_lt0, zI_le0, zI_0lt, zI_0le, bZ_e0, Int.add_zero, Int.zero_add]
    rw [tail _ _ (by omega) (by omega)]; rfl
  · rw [s_X8_readsBy_18_c5]
    simp (disch := first | omega | assumption) only [s_X8_readsBy_116, s_X8_readsBy_117, mH_obj ha, m_g0 ha, m_g1 ha, m_g2 ha, m_g3 ha, m_g4 ha, m_g5 ha, m_g6 ha, m_g7 ha, m_g8 ha, m_g9 ha, m_g10 ha, m_g11 ha, m_g12 ha, m_g13 ha, m_g14 ha, m_g15 ha, m_g16 ha, m_g17 ha, m_g18 ha, m_g19 ha, m_g20 ha, m_p3 ha, m_p7 ha, m_p8 ha, m_p9 ha, m_p12 ha, m_p16 ha, m_p17 ha, m_p18 ha, m_p19 ha, m_p20 ha, m_r1 ha, m_r2 ha, m_r3 ha, m_r4 ha, m_r5 ha, m_r6 ha, m_r7 ha, m_r8 ha, m_r9 ha, m_r10 ha, m_r11 ha, m_s1 ha, m_s2 ha, m_s3 ha, m_s4 ha, m_s5 ha, m_s6 ha, m_s7 ha, m_s8 ha, m_s9 ha, m_s10 ha, m_s11 ha, zI_add, zI_sub, zI_mul, zI_neg, zL_add, zL_sub, zL_mul, Option.bind_some, Option.toList_some, Option.toList_none, List.cons_append, List.nil_append, zI_lt, zI_le, zI_eq, zI_eq0, zI_lt0, zI_le0, zI_0lt, zI_0le, bZ_e0, Int.add_zero, Int.zero_add]
    rw [l_readsBy ha h1 h2 h5 h6 hf p.toNat 0 (l / 4) (by omega) (by omega), tail _ _ (by omega) (by omega)]; rfl
def sumF (f : Int → Int) : Nat → Int
  | 0 => 0
  | n + 1 => sumF f n + f n
/-- pages of reader p in the minute of a level, by the lights L -/
def rdT (t : Nat → Nat → Int) (lev : Int) (L : Int → Int) (p : Int) : Int := rdS (t 1 (11 + p).toNat) p (L p) (fun k => t 7 (5 * lev + k).toNat) (fun k => t 8 (5 * lev + k).toNat)
/-- the tables behind the first n readers of a minute -/
def mnT (t : Nat → Nat → Int) (lev : Int) (L : Int → Int) (n : Nat) : Nat → Nat → Int := fun i j =>
  if i = 7 ∧ 5 * lev + 5 ≤ j ∧ (j : Int) < 5 * lev + 5 + n then t 7 (j - 5) - rdT t lev L ((j : Int) - 5 - 5 * lev)
  else if i = 8 ∧ 5 * lev + 5 ≤ j ∧ (j : Int) < 5 * lev + 5 + n then (if 0 < L ((j : Int) - 5 - 5 * lev) ∧ 0 < rdT t lev L ((j : Int) - 5 - 5 * lev) then 1 else 0)
  else if i = 0 ∧ j = 12 then sumF (rdT t lev L) n else t i j
def mnW (t : Nat → Nat → Int) (lev : Int) (L : Int → Int) (n : Nat) : Int := sumF (fun p => rdT t lev L p * t 1 (21 + p).toNat) n
def lg1 (t : Nat → Nat → Int) (one p : Int) : Int := if 0 ≤ one then lgt (t 1 0) (t 1 4) (t 1 (6 + p).toNat) one else 0
def lgL (t : Nat → Nat → Int) (one other p : Int) : Int := if 0 ≤ other then min 12 (lg1 t one p + lgt (t 1 0) (t 1 4) (t 1 (6 + p).toNat) other) else lg1 t one p
theorem shL_le (S st hi : Int) : ∀ (n : Nat) (q l : Int), shL S st hi n q l ≤ l := by
  intro n
  induction n with
  | zero => intro q l; exact Int.le_refl _
  | succ n ih =>
    intro q l
    rw [shL]
    split
    · by_cases z : hasB S q = true
      · rw [if_pos z]; have := ih (q + st) (l - 4); omega
      · rw [if_neg z]; have := ih (q + st) (l - 0); omega
    · omega
theorem lgt_rg (W S x y : Int) : 0 ≤ lgt W S x y ∧ lgt W S x y ≤ 12 := by
  have e : 0 ≤ lg0 W x y ∧ lg0 W x y ≤ 12 := by unfold lg0; omega
  unfold lgt
  have s1 := shL_le S (lgS W x y) (max x y) 25 (min x y + lgS W x y) (lg0 W x y)
  repeat' split
  all_goals omega
theorem lgL_rg (t : Nat → Nat → Int) (one other p : Int) : 0 ≤ lgL t one other p ∧ lgL t one other p ≤ 12 := by
  have e1 := lgt_rg (t 1 0) (t 1 4) (t 1 (6 + p).toNat) one
  have e2 := lgt_rg (t 1 0) (t 1 4) (t 1 (6 + p).toNat) other
  unfold lgL lg1
  repeat' split
  all_goals omega
end

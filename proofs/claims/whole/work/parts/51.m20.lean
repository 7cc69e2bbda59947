/-! THE REFERENCE, part 20: an item of the text -/
section
variable {h : xH} {a : Nat} {t : Nat → Nat → Int} {d : Nat}
def leP (x : Int → Int) (n p : Int) : Int := rnF 97 122 x n 200 p
/-- the letters' number -/
def ltN (x : Int → Int) (q : Int) : Nat → Int
  | 0 => 0
  | c + 1 => if c < 7 then 32 * ltN x q c + x (q + c) - 96 else ltN x q c
theorem ltN_7 {x : Int → Int} {q : Int} : ∀ c, 7 ≤ c → ltN x q c = ltN x q 7 := by
  intro c
  induction c with
  | zero => intro z; omega
  | succ c ih =>
    intro z
    by_cases e : c + 1 = 7
    · rw [e]
    · rw [ltN, if_neg (by omega), ih (by omega)]
theorem ltN_s {x : Int → Int} {q : Int} {c : Nat} (h7 : c < 7) : ltN x q (c + 1) = 32 * ltN x q c + x (q + c) - 96 := by rw [ltN, if_pos h7]
theorem ltN_rg {x : Int → Int} {q : Int} (c : Nat) (hl : ∀ j : Nat, j < c → 97 ≤ x (q + j) ∧ x (q + j) ≤ 122) : 0 ≤ ltN x q c ∧ ltN x q c < 34359738368 := by
  have e : ∀ k : Nat, k ≤ 7 → k ≤ c → 0 ≤ ltN x q k ∧ ltN x q k < 32 ^ k := by
    intro k
    induction k with
    | zero => intro _ _; exact ⟨Int.le_refl _, show (0 : Int) < 1 by decide⟩
    | succ k ih =>
      intro h1 h2
      have := ih (by omega) (by omega)
      have b := hl k (by omega)
      rw [ltN_s (by omega), Int.pow_succ]
      omega
  have mono : ∀ k : Nat, k ≤ 7 → (32 : Int) ^ k ≤ 34359738368 := by
    intro k hk
    rcases (show k = 0 ∨ k = 1 ∨ k = 2 ∨ k = 3 ∨ k = 4 ∨ k = 5 ∨ k = 6 ∨ k = 7 by omega) with z | z | z | z | z | z | z | z <;> rw [z] <;> decide
  by_cases z : c ≤ 7
  · have := e c z (Nat.le_refl _)
    have := mono c z
    omega
  · rw [ltN_7 c (by omega)]
    have := e 7 (by omega) (by omega)
    have := mono 7 (by omega)
    omega
theorem l_takeWord {from' : Int} {l4 l5 : Value} (ha : a + 12 ≤ h.1) (hx : txOk t) (hf : 0 ≤ from') : ∀ (k c : Nat), from' + c ≤ t 0 3 → t 0 3 - (from' + c) ≤ k →
    x_ev (d + 2, n_X8_takeItem, 7, [.ref a, .int (zI from'), .long (zL (ltN (txX t) from' c)), .null, l4, l5], [], mH h a (up2 t 0 8 (from' + c))) = x_ev (d + 2, n_X8_takeItem, 89, [.ref a, .int (zI from'), .long (zL (ltN (txX t) from' (rnF 97 122 (txX t) (t 0 3) k (from' + c) - from').toNat)), .null, l4, l5], [], mH h a (up2 t 0 8 (rnF 97 122 (txX t) (t 0 3) k (from' + c)))) := by
  obtain ⟨hn, hb⟩ := hx
  intro k
  induction k with
  | zero =>
    intro c h1 h2
    rw [s_X8_takeItem_7]
    simp (disch := first | omega | assumption) only [s_X8_takeItem_8, s_X8_takeItem_11, s_X8_takeItem_12, s_X8_takeItem_15, mH_obj ha, m_g0 ha, m_g1 ha, m_g2 ha, m_g3 ha, m_g4 ha, m_g5 ha, m_g6 ha, m_g7 ha, m_g8 ha, m_g9 ha, m_g10 ha, m_g11 ha, m_g12 ha, m_g13 ha, m_g14 ha, m_g15 ha, m_g16 ha, m_g17 ha, m_g18 ha, m_g19 ha, m_g20 ha, m_p3 ha, m_p7 ha, m_p8 ha, m_p9 ha, m_p12 ha, m_p16 ha, m_p17 ha, m_p18 ha, m_p19 ha, m_p20 ha, m_r1 ha, m_r2 ha, m_r3 ha, m_r4 ha, m_r5 ha, m_r6 ha, m_r7 ha, m_r8 ha, m_r9 ha, m_r10 ha, m_r11 ha, m_s1 ha, m_s2 ha, m_s3 ha, m_s4 ha, m_s5 ha, m_s6 ha, m_s7 ha, m_s8 ha, m_s9 ha, m_s10 ha, m_s11 ha, zI_add, zI_sub, zI_mul, zI_neg, zL_add, zL_sub, zL_mul, Option.bind_some, Option.toList_some, Option.toList_none, List.cons_append, List.nil_append, zI_lt, zI_le, zI_eq, zI_eq0, zI_lt0, zI_le0, zI_0lt, zI_0le, bZ_e0, Int.add_zero, Int.zero_add, up2_s, up2_n]
    rw [if_pos (by omega)]
    rw [rnF, show (from' + (c : Int) - from').toNat = c by omega]
  | succ k ih =>
    intro c h1 h2
    rw [s_X8_takeItem_7]
    simp (disch := first | omega | assumption) only [s_X8_takeItem_8, s_X8_takeItem_11, s_X8_takeItem_12, s_X8_takeItem_15, mH_obj ha, m_g0 ha, m_g1 ha, m_g2 ha, m_g3 ha, m_g4 ha, m_g5 ha, m_g6 ha, m_g7 ha, m_g8 ha, m_g9 ha, m_g10 ha, m_g11 ha, m_g12 ha, m_g13 ha, m_g14 ha, m_g15 ha, m_g16 ha, m_g17 ha, m_g18 ha, m_g19 ha, m_g20 ha, m_p3 ha, m_p7 ha, m_p8 ha, m_p9 ha, m_p12 ha, m_p16 ha, m_p17 ha, m_p18 ha, m_p19 ha, m_p20 ha, m_r1 ha, m_r2 ha, m_r3 ha, m_r4 ha, m_r5 ha, m_r6 ha, m_r7 ha, m_r8 ha, m_r9 ha, m_r10 ha, m_r11 ha, m_s1 ha, m_s2 ha, m_s3 ha, m_s4 ha, m_s5 ha, m_s6 ha, m_s7 ha, m_s8 ha, m_s9 ha, m_s10 ha, m_s11 ha, zI_add, zI_sub, zI_mul, zI_neg, zL_add, zL_sub, zL_mul, Option.bind_some, Option.toList_some, Option.toList_none, List.cons_append, List.nil_append, zI_lt, zI_le, zI_eq, zI_eq0, zI_lt0, zI_le0, zI_0lt, zI_0le, bZ_e0, Int.add_zero, Int.zero_add, up2_s, up2_n]
    rw [rnF]
    by_cases q : t 0 3 ≤ from' + c
    · have c1 : ¬ (from' + (c : Int) < t 0 3 ∧ 97 ≤ txX t (from' + c) ∧ txX t (from' + c) ≤ 122) := by omega
      rw [if_pos q, if_neg c1, show (from' + (c : Int) - from').toNat = c by omega]
    · rw [if_neg q]
      have b1 := hb (from' + (c : Int)).toNat
      simp (disch := first | omega | assumption) only [s_X8_takeItem_18, s_X8_takeItem_19, s_X8_takeItem_22, s_X8_takeItem_23, s_X8_takeItem_26, s_X8_takeItem_27, s_X8_takeItem_28, s_X8_takeItem_31, s_X8_takeItem_34, s_X8_takeItem_37, mH_obj ha, m_g0 ha, m_g1 ha, m_g2 ha, m_g3 ha, m_g4 ha, m_g5 ha, m_g6 ha, m_g7 ha, m_g8 ha, m_g9 ha, m_g10 ha, m_g11 ha, m_g12 ha, m_g13 ha, m_g14 ha, m_g15 ha, m_g16 ha, m_g17 ha, m_g18 ha, m_g19 ha, m_g20 ha, m_p3 ha, m_p7 ha, m_p8 ha, m_p9 ha, m_p12 ha, m_p16 ha, m_p17 ha, m_p18 ha, m_p19 ha, m_p20 ha, m_r1 ha, m_r2 ha, m_r3 ha, m_r4 ha, m_r5 ha, m_r6 ha, m_r7 ha, m_r8 ha, m_r9 ha, m_r10 ha, m_r11 ha, m_s1 ha, m_s2 ha, m_s3 ha, m_s4 ha, m_s5 ha, m_s6 ha, m_s7 ha, m_s8 ha, m_s9 ha, m_s10 ha, m_s11 ha, zI_add, zI_sub, zI_mul, zI_neg, zL_add, zL_sub, zL_mul, Option.bind_some, Option.toList_some, Option.toList_none, List.cons_append, List.nil_append, zI_lt, zI_le, zI_eq, zI_eq0, zI_lt0, zI_le0, zI_0lt, zI_0le, bZ_e0, Int.add_zero, Int.zero_add, up2_s, up2_n, zI_64, c_in]
      by_cases q2 : 97 ≤ t 3 (from' + (c : Int)).toNat ∧ t 3 (from' + (c : Int)).toNat ≤ 122
      · have c1 : from' + (c : Int) < t 0 3 ∧ 97 ≤ txX t (from' + c) ∧ txX t (from' + c) ≤ 122 := ⟨by omega, q2⟩
        rw [if_neg (fun z => z q2), if_pos c1]
        simp (disch := first | omega | assumption) only [s_X8_takeItem_40, s_X8_takeItem_41, s_X8_takeItem_44, s_X8_takeItem_45, s_X8_takeItem_46, s_X8_takeItem_48, s_X8_takeItem_51, s_X8_takeItem_54, s_X8_takeItem_55, s_X8_takeItem_56, s_X8_takeItem_57, s_X8_takeItem_60, s_X8_takeItem_61, s_X8_takeItem_64, s_X8_takeItem_65, s_X8_takeItem_66, s_X8_takeItem_67, s_X8_takeItem_70, s_X8_takeItem_71, s_X8_takeItem_74, mH_obj ha, m_g0 ha, m_g1 ha, m_g2 ha, m_g3 ha, m_g4 ha, m_g5 ha, m_g6 ha, m_g7 ha, m_g8 ha, m_g9 ha, m_g10 ha, m_g11 ha, m_g12 ha, m_g13 ha, m_g14 ha, m_g15 ha, m_g16 ha, m_g17 ha, m_g18 ha, m_g19 ha, m_g20 ha, m_p3 ha, m_p7 ha, m_p8 ha, m_p9 ha, m_p12 ha, m_p16 ha, m_p17 ha, m_p18 ha, m_p19 ha, m_p20 ha, m_r1 ha, m_r2 ha, m_r3 ha, m_r4 ha, m_r5 ha, m_r6 ha, m_r7 ha, m_r8 ha, m_r9 ha, m_r10 ha, m_r11 ha, m_s1 ha, m_s2 ha, m_s3 ha, m_s4 ha, m_s5 ha, m_s6 ha, m_s7 ha, m_s8 ha, m_s9 ha, m_s10 ha, m_s11 ha, zI_add, zI_sub, zI_mul, zI_neg, zL_add, zL_sub, zL_mul, Option.bind_some, Option.toList_some, Option.toList_none, List.cons_append, List.nil_append, zI_lt, zI_le, zI_eq, zI_eq0, zI_lt0, zI_le0, zI_0lt, zI_0le, bZ_e0, Int.add_zero, Int.zero_add, up2_s, up2_n, zI_64, x_jl]
        have e1 : (if 7 ≤ from' + (c : Int) - from' then ltN (txX t) from' c else 32 * ltN (txX t) from' c + t 3 (from' + (c : Int)).toNat - 96) = ltN (txX t) from' (c + 1) := by
          rw [ltN]
          by_cases z : c < 7
          · rw [if_neg (by omega), if_pos z]; rfl
          · rw [if_pos (by omega), if_neg z]
        rw [e1]
        simp (disch := first | omega | assumption) only [s_X8_takeItem_75, s_X8_takeItem_76, s_X8_takeItem_77, s_X8_takeItem_78, s_X8_takeItem_81, s_X8_takeItem_82, s_X8_takeItem_83, s_X8_takeItem_86, mH_obj ha, m_g0 ha, m_g1 ha, m_g2 ha, m_g3 ha, m_g4 ha, m_g5 ha, m_g6 ha, m_g7 ha, m_g8 ha, m_g9 ha, m_g10 ha, m_g11 ha, m_g12 ha, m_g13 ha, m_g14 ha, m_g15 ha, m_g16 ha, m_g17 ha, m_g18 ha, m_g19 ha, m_g20 ha, m_p3 ha, m_p7 ha, m_p8 ha, m_p9 ha, m_p12 ha, m_p16 ha, m_p17 ha, m_p18 ha, m_p19 ha, m_p20 ha, m_r1 ha, m_r2 ha, m_r3 ha, m_r4 ha, m_r5 ha, m_r6 ha, m_r7 ha, m_r8 ha, m_r9 ha, m_r10 ha, m_r11 ha, m_s1 ha, m_s2 ha, m_s3 ha, m_s4 ha, m_s5 ha, m_s6 ha, m_s7 ha, m_s8 ha, m_s9 ha, m_s10 ha, m_s11 ha, zI_add, zI_sub, zI_mul, zI_neg, zL_add, zL_sub, zL_mul, Option.bind_some, Option.toList_some, Option.toList_none, List.cons_append, List.nil_append, zI_lt, zI_le, zI_eq, zI_eq0, zI_lt0, zI_le0, zI_0lt, zI_0le, bZ_e0, Int.add_zero, Int.zero_add, up2_s, up2_n, up2_2]
        have := ih (c + 1) (by omega) (by omega)
        rw [show from' + ((c + 1 : Nat) : Int) = from' + c + 1 by omega] at this
        exact this
      · have c1 : ¬ (from' + (c : Int) < t 0 3 ∧ 97 ≤ txX t (from' + c) ∧ txX t (from' + c) ≤ 122) := fun z => q2 z.2
        rw [if_pos q2, if_neg c1, show (from' + (c : Int) - from').toNat = c by omega]
abbrev wdB (w m : Int) : Prop := w = -1 ∨ ¬ (w = 0 ↔ m = 0)
theorem g_takeWord {from' w m : Int} {l2 l5 : Value} (ha : a + 12 ≤ h.1) (hw : -1 ≤ w ∧ w ≤ 5) (hm : t 0 7 = m) (h0 : 0 ≤ m) (h1 : m < 50) :
    x_ev (d + 2, n_X8_takeItem, 95, [.ref a, .int (zI from'), l2, .null, .int (zI w), l5], [], mH h a t) = x_ev (d + 2, n_X8_takeItem, 152, [.ref a, .int (zI from'), l2, .null, .int (zI w), .int (zI 0)], [], mH h a (up2 (up2 t 0 9 (if wdB w m then from' else t 0 9)) 5 m.toNat w)) := by
  have e : x_ev (d + 2, n_X8_takeItem, 95, [.ref a, .int (zI from'), l2, .null, .int (zI w), l5], [], mH h a t) = x_ev (d + 2, n_X8_takeItem, 135, [.ref a, .int (zI from'), l2, .null, .int (zI w), l5], [.int (zI (if wdB w m then from' else t 0 9)), .ref a], mH h a t) := by
    simp (disch := first | omega | assumption) only [s_X8_takeItem_95, s_X8_takeItem_96, s_X8_takeItem_98, s_X8_takeItem_99, s_X8_takeItem_102, s_X8_takeItem_104, s_X8_takeItem_107, s_X8_takeItem_108, s_X8_takeItem_111, s_X8_takeItem_112, s_X8_takeItem_113, s_X8_takeItem_116, s_X8_takeItem_119, s_X8_takeItem_120, s_X8_takeItem_123, s_X8_takeItem_124, s_X8_takeItem_127, s_X8_takeItem_128, s_X8_takeItem_131, s_X8_takeItem_132, mH_obj ha, m_g0 ha, m_g1 ha, m_g2 ha, m_g3 ha, m_g4 ha, m_g5 ha, m_g6 ha, m_g7 ha, m_g8 ha, m_g9 ha, m_g10 ha, m_g11 ha, m_g12 ha, m_g13 ha, m_g14 ha, m_g15 ha, m_g16 ha, m_g17 ha, m_g18 ha, m_g19 ha, m_g20 ha, m_p3 ha, m_p7 ha, m_p8 ha, m_p9 ha, m_p12 ha, m_p16 ha, m_p17 ha, m_p18 ha, m_p19 ha, m_p20 ha, m_r1 ha, m_r2 ha, m_r3 ha, m_r4 ha, m_r5 ha, m_r6 ha, m_r7 ha, m_r8 ha, m_r9 ha, m_r10 ha, m_r11 ha, m_s1 ha, m_s2 ha, m_s3 ha, m_s4 ha, m_s5 ha, m_s6 ha, m_s7 ha, m_s8 ha, m_s9 ha, m_s10 ha, m_s11 ha, zI_add, zI_sub, zI_mul, zI_neg, zL_add, zL_sub, zL_mul, Option.bind_some, Option.toList_some, Option.toList_none, List.cons_append, List.nil_append, zI_lt, zI_le, zI_eq, zI_eq0, zI_lt0, zI_le0, zI_0lt, zI_0le, bZ_e0, Int.add_zero, Int.zero_add, hm]
    by_cases q1 : w = -1
    · rw [if_pos q1, if_pos (Or.inl q1)]
    · rw [if_neg q1]
      by_cases q2 : w = 0
      · rw [if_pos q2]
        by_cases q3 : m = 0
        · rw [if_pos q3, if_pos (by decide), if_neg (show ¬ wdB w m by omega)]
        · rw [if_neg q3, if_neg (by decide), if_pos (show wdB w m by omega)]
      · rw [if_neg q2]
        by_cases q3 : m = 0
        · rw [if_pos q3, if_neg (by decide), if_pos (show wdB w m by omega)]
        · rw [if_neg q3, if_pos (by decide), if_neg (show ¬ wdB w m by omega)]
  rw [e]
  simp (disch := first | omega | assumption) only [s_X8_takeItem_135, s_X8_takeItem_138, s_X8_takeItem_139, s_X8_takeItem_142, s_X8_takeItem_143, s_X8_takeItem_146, s_X8_takeItem_148, s_X8_takeItem_149, s_X8_takeItem_150, mH_obj ha, m_g0 ha, m_g1 ha, m_g2 ha, m_g3 ha, m_g4 ha, m_g5 ha, m_g6 ha, m_g7 ha, m_g8 ha, m_g9 ha, m_g10 ha, m_g11 ha, m_g12 ha, m_g13 ha, m_g14 ha, m_g15 ha, m_g16 ha, m_g17 ha, m_g18 ha, m_g19 ha, m_g20 ha, m_p3 ha, m_p7 ha, m_p8 ha, m_p9 ha, m_p12 ha, m_p16 ha, m_p17 ha, m_p18 ha, m_p19 ha, m_p20 ha, m_r1 ha, m_r2 ha, m_r3 ha, m_r4 ha, m_r5 ha, m_r6 ha, m_r7 ha, m_r8 ha, m_r9 ha, m_r10 ha, m_r11 ha, m_s1 ha, m_s2 ha, m_s3 ha, m_s4 ha, m_s5 ha, m_s6 ha, m_s7 ha, m_s8 ha, m_s9 ha, m_s10 ha, m_s11 ha, zI_add, zI_sub, zI_mul, zI_neg, zL_add, zL_sub, zL_mul, Option.bind_some, Option.toList_some, Option.toList_none, List.cons_append, List.nil_append, zI_lt, zI_le, zI_eq, zI_eq0, zI_lt0, zI_le0, zI_0lt, zI_0le, bZ_e0, Int.add_zero, Int.zero_add, hm, up2_n]
/-- numbers one behind the other -/
def nuS (x : Int → Int) (n : Int) : Nat → Int → Int ⊕ (List Int × Int)
  | 0, p => .inr ([], p)
  | k + 1, p => if tnB (skP x n p) (tnE x n p) then .inl (skP x n p) else
    match nuS x n k (tnE x n p) with
    | .inl f => .inl f
    | .inr (l, p') => .inr (tnV x n p :: l, p')
/-- only what the reader of the text may change -/
def tkR (t T : Nat → Nat → Int) : Prop := ∀ i j, ¬ (i = 0 ∧ (j = 7 ∨ j = 8 ∨ j = 9)) → i ≠ 5 → i ≠ 6 → T i j = t i j
theorem tkR_r (t : Nat → Nat → Int) : tkR t t := fun _ _ _ _ _ => rfl
theorem tkR_t {t T U : Nat → Nat → Int} (p : tkR t T) (q : tkR T U) : tkR t U := fun i j h1 h2 h3 => (q i j h1 h2 h3).trans (p i j h1 h2 h3)
theorem tkR_u {t : Nat → Nat → Int} {i j : Nat} {v : Int} (hij : (i = 0 ∧ (j = 7 ∨ j = 8 ∨ j = 9)) ∨ i = 5 ∨ i = 6) : tkR t (up2 t i j v) := fun i' j' h1 h2 h3 => up2_n (by omega)
theorem tkR_x {T : Nat → Nat → Int} (p : tkR t T) : txX T = txX t := funext fun q => p 3 _ (by omega) (by omega) (by omega)
theorem tkR_n {T : Nat → Nat → Int} (p : tkR t T) : T 0 3 = t 0 3 := p 0 3 (by omega) (by omega) (by omega)
theorem tkR_ok {T : Nat → Nat → Int} (p : tkR t T) (hx : txOk t) : txOk T := ⟨by rw [tkR_n p]; exact hx.1, fun j => by rw [p 3 j (by omega) (by omega) (by omega)]; exact hx.2 j⟩
theorem fiP_rg {x : Int → Int} {n p : Int} (h : p ≤ n) : p ≤ fiP x n p ∧ fiP x n p ≤ n := rnF_rg _ _ h
theorem l_takeNums {from' w m : Int} {l2 : Value} (ha : a + 12 ≤ h.1) (hw : -1 ≤ w ∧ w ≤ 5) (h0 : 0 ≤ m) (h1 : m < 50) (hx : txOk t) : ∀ (j k : Nat) (T : Nat → Nat → Int), (k : Int) + j = nmO w → tkR t T → T 0 9 = -1 → T 0 7 = m → 0 ≤ T 0 8 → T 0 8 ≤ t 0 3 →
    ∃ T' k', tkR t T' ∧ T' 0 7 = m ∧ (∀ i, T' 5 i = T 5 i) ∧ (∀ i : Nat, ¬ (4 * m + k ≤ i ∧ (i : Int) < 4 * m + k + j) → T' 6 i = T 6 i) ∧
      (match nuS (txX t) (t 0 3) j (T 0 8) with
        | .inl f => T' 0 9 = f ∧ 0 ≤ f ∧ f ≤ t 0 3
        | .inr (l, p) => T' 0 9 = -1 ∧ T' 0 8 = p ∧ T 0 8 + j ≤ p ∧ p ≤ t 0 3 ∧ l.length = j ∧ ∀ i : Nat, i < j → T' 6 (4 * m + k + i).toNat = l.getD i 0) ∧
      x_ev (d + 2, n_X8_takeItem, 152, [.ref a, .int (zI from'), l2, .null, .int (zI w), .int (zI k)], [], mH h a T) = x_ev (d + 2, n_X8_takeItem, 194, [.ref a, .int (zI from'), l2, .null, .int (zI w), k'], [], mH h a T') := by
  have hnm : 1 ≤ nmO w ∧ nmO w ≤ 4 := by
    unfold nmO
    split
    · omega
    · split <;> omega
  intro j
  induction j with
  | zero =>
    intro k T hk hT h9 h7 h8 h8'
    refine ⟨T, .int (zI k), hT, h7, fun _ => rfl, fun _ _ => rfl, ⟨h9, rfl, by omega, h8', rfl, fun i z => by omega⟩, ?_⟩
    rw [s_X8_takeItem_152]
    simp (disch := first | omega | assumption) only [s_X8_takeItem_154, s_X8_takeItem_156, s_X8_takeItem_159, mH_obj ha, m_g0 ha, m_g1 ha, m_g2 ha, m_g3 ha, m_g4 ha, m_g5 ha, m_g6 ha, m_g7 ha, m_g8 ha, m_g9 ha, m_g10 ha, m_g11 ha, m_g12 ha, m_g13 ha, m_g14 ha, m_g15 ha, m_g16 ha, m_g17 ha, m_g18 ha, m_g19 ha, m_g20 ha, m_p3 ha, m_p7 ha, m_p8 ha, m_p9 ha, m_p12 ha, m_p16 ha, m_p17 ha, m_p18 ha, m_p19 ha, m_p20 ha, m_r1 ha, m_r2 ha, m_r3 ha, m_r4 ha, m_r5 ha, m_r6 ha, m_r7 ha, m_r8 ha, m_r9 ha, m_r10 ha, m_r11 ha, m_s1 ha, m_s2 ha, m_s3 ha, m_s4 ha, m_s5 ha, m_s6 ha, m_s7 ha, m_s8 ha, m_s9 ha, m_s10 ha, m_s11 ha, zI_add, zI_sub, zI_mul, zI_neg, zL_add, zL_sub, zL_mul, Option.bind_some, Option.toList_some, Option.toList_none, List.cons_append, List.nil_append, zI_lt, zI_le, zI_eq, zI_eq0, zI_lt0, zI_le0, zI_0lt, zI_0le, bZ_e0, Int.add_zero, Int.zero_add, c_numbersOf]
    rw [if_pos (by omega)]
  | succ j ih =>
    intro k T hk hT h9 h7 h8 h8'
    have hxT := tkR_ok hT hx
    have hn := hx.1
    have hnT := tkR_n hT
    have hs := skP_rg (x := txX t) h8'
    have hf := fiP_rg (x := txX t) hs.2
    have hf' : skP (txX t) (t 0 3) (T 0 8) ≤ tnE (txX t) (t 0 3) (T 0 8) ∧ tnE (txX t) (t 0 3) (T 0 8) ≤ t 0 3 := hf
    have hstep : x_ev (d + 2, n_X8_takeItem, 152, [.ref a, .int (zI from'), l2, .null, .int (zI w), .int (zI k)], [], mH h a T) = x_ev (d + 2, n_X8_takeItem, 152, [.ref a, .int (zI from'), l2, .null, .int (zI w), .int (zI ((k + 1 : Nat) : Int))], [], mH h a (up2 (tnT T) 6 (4 * m + k).toNat (tnV (txX T) (T 0 3) (T 0 8)))) := by
      rw [s_X8_takeItem_152]
      simp (disch := first | omega | assumption) only [s_X8_takeItem_154, s_X8_takeItem_156, s_X8_takeItem_159, mH_obj ha, m_g0 ha, m_g1 ha, m_g2 ha, m_g3 ha, m_g4 ha, m_g5 ha, m_g6 ha, m_g7 ha, m_g8 ha, m_g9 ha, m_g10 ha, m_g11 ha, m_g12 ha, m_g13 ha, m_g14 ha, m_g15 ha, m_g16 ha, m_g17 ha, m_g18 ha, m_g19 ha, m_g20 ha, m_p3 ha, m_p7 ha, m_p8 ha, m_p9 ha, m_p12 ha, m_p16 ha, m_p17 ha, m_p18 ha, m_p19 ha, m_p20 ha, m_r1 ha, m_r2 ha, m_r3 ha, m_r4 ha, m_r5 ha, m_r6 ha, m_r7 ha, m_r8 ha, m_r9 ha, m_r10 ha, m_r11 ha, m_s1 ha, m_s2 ha, m_s3 ha, m_s4 ha, m_s5 ha, m_s6 ha, m_s7 ha, m_s8 ha, m_s9 ha, m_s10 ha, m_s11 ha, zI_add, zI_sub, zI_mul, zI_neg, zL_add, zL_sub, zL_mul, Option.bind_some, Option.toList_some, Option.toList_none, List.cons_append, List.nil_append, zI_lt, zI_le, zI_eq, zI_eq0, zI_lt0, zI_le0, zI_0lt, zI_0le, bZ_e0, Int.add_zero, Int.zero_add, c_numbersOf]
      rw [if_neg (by omega)]
      simp (disch := first | omega | assumption) only [s_X8_takeItem_162, s_X8_takeItem_163, s_X8_takeItem_166, s_X8_takeItem_167, s_X8_takeItem_170, s_X8_takeItem_171, s_X8_takeItem_174, s_X8_takeItem_175, s_X8_takeItem_176, s_X8_takeItem_179, s_X8_takeItem_180, s_X8_takeItem_182, s_X8_takeItem_183, s_X8_takeItem_184, s_X8_takeItem_187, s_X8_takeItem_188, s_X8_takeItem_191, mH_obj ha, m_g0 ha, m_g1 ha, m_g2 ha, m_g3 ha, m_g4 ha, m_g5 ha, m_g6 ha, m_g7 ha, m_g8 ha, m_g9 ha, m_g10 ha, m_g11 ha, m_g12 ha, m_g13 ha, m_g14 ha, m_g15 ha, m_g16 ha, m_g17 ha, m_g18 ha, m_g19 ha, m_g20 ha, m_p3 ha, m_p7 ha, m_p8 ha, m_p9 ha, m_p12 ha, m_p16 ha, m_p17 ha, m_p18 ha, m_p19 ha, m_p20 ha, m_r1 ha, m_r2 ha, m_r3 ha, m_r4 ha, m_r5 ha, m_r6 ha, m_r7 ha, m_r8 ha, m_r9 ha, m_r10 ha, m_r11 ha, m_s1 ha, m_s2 ha, m_s3 ha, m_s4 ha, m_s5 ha, m_s6 ha, m_s7 ha, m_s8 ha, m_s9 ha, m_s10 ha, m_s11 ha, zI_add, zI_sub, zI_mul, zI_neg, zL_add, zL_sub, zL_mul, Option.bind_some, Option.toList_some, Option.toList_none, List.cons_append, List.nil_append, zI_lt, zI_le, zI_eq, zI_eq0, zI_lt0, zI_le0, zI_0lt, zI_0le, bZ_e0, Int.add_zero, Int.zero_add, h9, h7, c_takeNumber ha hxT, Int.natCast_add, Int.cast_ofNat_Int]
      exact if_pos trivial
    rw [tkR_x hT, hnT] at hstep
    have hT1 : tkR t (up2 (tnT T) 6 (4 * m + k).toNat (tnV (txX t) (t 0 3) (T 0 8))) := by
      refine tkR_t hT (tkR_t ?_ (tkR_u (by omega)))
      unfold tnT
      exact tkR_t (tkR_u (by omega)) (tkR_u (by omega))
    have v8 : up2 (tnT T) 6 (4 * m + k).toNat (tnV (txX t) (t 0 3) (T 0 8)) 0 8 = tnE (txX t) (t 0 3) (T 0 8) := by
      rw [up2_n (by omega)]
      unfold tnT
      rw [up2_n (by omega), up2_s, tkR_x hT, hnT]
    have v7 : up2 (tnT T) 6 (4 * m + k).toNat (tnV (txX t) (t 0 3) (T 0 8)) 0 7 = m := by
      rw [up2_n (by omega)]
      unfold tnT
      rw [up2_n (by omega), up2_n (by omega), h7]
    have v9 : up2 (tnT T) 6 (4 * m + k).toNat (tnV (txX t) (t 0 3) (T 0 8)) 0 9 = if tnB (skP (txX t) (t 0 3) (T 0 8)) (tnE (txX t) (t 0 3) (T 0 8)) then skP (txX t) (t 0 3) (T 0 8) else -1 := by
      rw [up2_n (by omega)]
      unfold tnT
      rw [up2_s, tkR_x hT, hnT, h9]
    have v5 : ∀ i, up2 (tnT T) 6 (4 * m + k).toNat (tnV (txX t) (t 0 3) (T 0 8)) 5 i = T 5 i := fun i => by
      rw [up2_n (by omega)]
      unfold tnT
      rw [up2_n (by omega), up2_n (by omega)]
    have v6 : ∀ i : Nat, ¬ ((i : Int) = 4 * m + k) → up2 (tnT T) 6 (4 * m + k).toNat (tnV (txX t) (t 0 3) (T 0 8)) 6 i = T 6 i := fun i z => by
      rw [up2_n (by omega)]
      unfold tnT
      rw [up2_n (by omega), up2_n (by omega)]
    have v6' : up2 (tnT T) 6 (4 * m + k).toNat (tnV (txX t) (t 0 3) (T 0 8)) 6 (4 * m + k).toNat = tnV (txX t) (t 0 3) (T 0 8) := up2_s
    generalize up2 (tnT T) 6 (4 * m + k).toNat (tnV (txX t) (t 0 3) (T 0 8)) = U at *
    rw [hstep, nuS]
    by_cases q : tnB (skP (txX t) (t 0 3) (T 0 8)) (tnE (txX t) (t 0 3) (T 0 8))
    · rw [if_pos q] at v9 ⊢
      refine ⟨U, .int (zI ((k + 1 : Nat) : Int)), hT1, v7, v5, fun i z => v6 i (by omega), ⟨v9, by omega, by omega⟩, ?_⟩
      rw [s_X8_takeItem_152]
      simp (disch := first | omega | assumption) only [s_X8_takeItem_154, s_X8_takeItem_156, s_X8_takeItem_159, mH_obj ha, m_g0 ha, m_g1 ha, m_g2 ha, m_g3 ha, m_g4 ha, m_g5 ha, m_g6 ha, m_g7 ha, m_g8 ha, m_g9 ha, m_g10 ha, m_g11 ha, m_g12 ha, m_g13 ha, m_g14 ha, m_g15 ha, m_g16 ha, m_g17 ha, m_g18 ha, m_g19 ha, m_g20 ha, m_p3 ha, m_p7 ha, m_p8 ha, m_p9 ha, m_p12 ha, m_p16 ha, m_p17 ha, m_p18 ha, m_p19 ha, m_p20 ha, m_r1 ha, m_r2 ha, m_r3 ha, m_r4 ha, m_r5 ha, m_r6 ha, m_r7 ha, m_r8 ha, m_r9 ha, m_r10 ha, m_r11 ha, m_s1 ha, m_s2 ha, m_s3 ha, m_s4 ha, m_s5 ha, m_s6 ha, m_s7 ha, m_s8 ha, m_s9 ha, m_s10 ha, m_s11 ha, zI_add, zI_sub, zI_mul, zI_neg, zL_add, zL_sub, zL_mul, Option.bind_some, Option.toList_some, Option.toList_none, List.cons_append, List.nil_append, zI_lt, zI_le, zI_eq, zI_eq0, zI_lt0, zI_le0, zI_0lt, zI_0le, bZ_e0, Int.add_zero, Int.zero_add, c_numbersOf]
      by_cases z : nmO w ≤ ((k + 1 : Nat) : Int)
      · rw [if_pos z]
      · rw [if_neg z]
        simp (disch := first | omega | assumption) only [s_X8_takeItem_162, s_X8_takeItem_163, s_X8_takeItem_166, s_X8_takeItem_167, mH_obj ha, m_g0 ha, m_g1 ha, m_g2 ha, m_g3 ha, m_g4 ha, m_g5 ha, m_g6 ha, m_g7 ha, m_g8 ha, m_g9 ha, m_g10 ha, m_g11 ha, m_g12 ha, m_g13 ha, m_g14 ha, m_g15 ha, m_g16 ha, m_g17 ha, m_g18 ha, m_g19 ha, m_g20 ha, m_p3 ha, m_p7 ha, m_p8 ha, m_p9 ha, m_p12 ha, m_p16 ha, m_p17 ha, m_p18 ha, m_p19 ha, m_p20 ha, m_r1 ha, m_r2 ha, m_r3 ha, m_r4 ha, m_r5 ha, m_r6 ha, m_r7 ha, m_r8 ha, m_r9 ha, m_r10 ha, m_r11 ha, m_s1 ha, m_s2 ha, m_s3 ha, m_s4 ha, m_s5 ha, m_s6 ha, m_s7 ha, m_s8 ha, m_s9 ha, m_s10 ha, m_s11 ha, zI_add, zI_sub, zI_mul, zI_neg, zL_add, zL_sub, zL_mul, Option.bind_some, Option.toList_some, Option.toList_none, List.cons_append, List.nil_append, zI_lt, zI_le, zI_eq, zI_eq0, zI_lt0, zI_le0, zI_0lt, zI_0le, bZ_e0, Int.add_zero, Int.zero_add, v9]
        rw [if_neg (by omega)]
    · rw [if_neg q] at v9 ⊢
      obtain ⟨T', k', r1, r2, r3, r4, r5, r6⟩ := ih (k + 1) U (by omega) hT1 v9 v7 (by omega) (by omega)
      refine ⟨T', k', r1, r2, fun i => (r3 i).trans (v5 i), fun i z => (r4 i (by omega)).trans (v6 i (by omega)), ?_, r6⟩
      rw [v8] at r5
      generalize nuS (txX t) (t 0 3) j (tnE (txX t) (t 0 3) (T 0 8)) = R at r5
      cases R with
      | inl f => exact r5
      | inr c =>
        obtain ⟨l, p⟩ := c
        obtain ⟨s1, s2, s3, s4, s5, s6⟩ := r5
        have ht : skP (txX t) (t 0 3) (T 0 8) + 1 ≤ tnE (txX t) (t 0 3) (T 0 8) := by
          unfold tnB at q
          omega
        refine ⟨s1, s2, by omega, s4, by rw [List.length_cons, s5], fun i hi => ?_⟩
        cases i with
        | zero =>
          rw [show (4 * m + (k : Int) + ((0 : Nat) : Int)).toNat = (4 * m + (k : Int)).toNat by omega, r4 _ (by omega), v6']
          rfl
        | succ i =>
          have := s6 i (by omega)
          rw [show (4 * m + (k : Int) + ((i + 1 : Nat) : Int)).toNat = (4 * m + ((k + 1 : Nat) : Int) + (i : Int)).toNat by omega, this]
          rfl
end

/-! THE REFERENCE, part 24: read -/
section
variable {h : xH} {a : Nat} {t : Nat → Nat → Int} {d : Nat}
/-- only the hall that is tried -/
def trR (t T : Nat → Nat → Int) : Prop := ∀ i j, ¬ (i = 1 ∧ 600 ≤ j ∧ j < 800) → T i j = t i j
theorem trR_pr {g : Nat → Int} : trR t (pr t 600 g) := fun i j hj => pr_out hj
theorem alH_w {T U : Nat → Nat → Int} (h5 : ∀ j, U 5 j = T 5 j) (h6 : ∀ j, U 6 j = T 6 j) : ∀ (L : List (Int × List Int)) (m : Int), alH T m L → alH U m L := by
  intro L
  induction L with
  | nil => intro m _; trivial
  | cons c L ih =>
    intro m hH
    obtain ⟨w, l⟩ := c
    obtain ⟨r1, r2, r3, r4, r5, r6⟩ := hH
    exact ⟨(h5 _).trans r1, r2, r3, r4, fun i hi => (h6 _).trans (r5 i hi), ih _ r6⟩
def tlP (t T : Nat → Nat → Int) : Int ⊕ (Nat → Int) → Prop
  | .inl _ => True
  | .inr g => rg T 600 = g
noncomputable def tlE (d : Nat) (h : xH) (a : Nat) (T : Nat → Nat → Int) (n : Int) : Int ⊕ (Nat → Int) → Option (Option Value × xH)
  | .inl i => some (some (.int (zI (-1000 - i))), mH h a T)
  | .inr _ => x_ev (d + 4, n_X8_read, 113, [.ref a, .int (zI n)], [], mH h a T)
theorem tlU_congr {f g : Nat → Int} {w : Int} {l : List Int} (hw : w = 0) : (tlU f w l).1 = (tlU g w l).1 ∧ (0 ≤ (tlU f w l).1 → (tlU f w l).2 = (tlU g w l).2) := by
  subst hw
  unfold tlU
  rw [if_pos rfl, if_pos rfl]
  unfold uHall
  split
  · exact ⟨rfl, fun _ => rfl⟩
  · exact ⟨rfl, fun z => absurd z (show ¬ (0 : Int) ≤ -2 by decide)⟩
theorem l_tell {n : Int} (ha : a + 12 ≤ h.1) (hn : n ≤ 40) : ∀ (L : List (Int × List Int)) (m : Int) (T : Nat → Nat → Int), alH T m L → (∀ c ∈ L, ∀ i : Nat, 0 ≤ c.2.getD i 0 ∧ c.2.getD i 0 ≤ 99) → T 0 7 = n → m + L.length = n → 0 ≤ m → (m = 0 ∧ L ≠ [] ∨ vI (rg T 600)) →
    ∃ T', trR T T' ∧ tlP T T' (tlA m (rg T 600) L) ∧ x_ev (d + 4, n_X8_read, 85, [.ref a, .int (zI m)], [], mH h a T) = tlE d h a T' n (tlA m (rg T 600) L) := by
  intro L
  induction L with
  | nil =>
    intro m T hH hr h7 hm h0 hv
    have e : m = n := by rw [← hm]; exact (Int.add_zero m).symm
    refine ⟨T, fun _ _ _ => rfl, rfl, ?_⟩
    rw [s_X8_read_85]
    simp (disch := first | omega | assumption) only [s_X8_read_86, s_X8_read_87, s_X8_read_90, mH_obj ha, m_g0 ha, m_g1 ha, m_g2 ha, m_g3 ha, m_g4 ha, m_g5 ha, m_g6 ha, m_g7 ha, m_g8 ha, m_g9 ha, m_g10 ha, m_g11 ha, m_g12 ha, m_g13 ha, m_g14 ha, m_g15 ha, m_g16 ha, m_g17 ha, m_g18 ha, m_g19 ha, m_g20 ha, m_p3 ha, m_p7 ha, m_p8 ha, m_p9 ha, m_p12 ha, m_p16 ha, m_p17 ha, m_p18 ha, m_p19 ha, m_p20 ha, m_r1 ha, m_r2 ha, m_r3 ha, m_r4 ha, m_r5 ha, m_r6 ha, m_r7 ha, m_r8 ha, m_r9 ha, m_r10 ha, m_r11 ha, m_s1 ha, m_s2 ha, m_s3 ha, m_s4 ha, m_s5 ha, m_s6 ha, m_s7 ha, m_s8 ha, m_s9 ha, m_s10 ha, m_s11 ha, zI_add, zI_sub, zI_mul, zI_neg, zL_add, zL_sub, zL_mul, Option.bind_some, Option.toList_some, Option.toList_none, List.cons_append, List.nil_append, zI_lt, zI_le, zI_eq, zI_eq0, zI_lt0, zI_le0, zI_0lt, zI_0le, bZ_e0, Int.add_zero, Int.zero_add, h7]
    rw [if_pos (by omega), e]
    rfl
  | cons c L ih =>
    intro m T hH hr h7 hm h0 hv
    obtain ⟨w, l⟩ := c
    obtain ⟨r1, r2, r3, r4, r5, r6⟩ := hH
    rw [List.length_cons] at hm
    have hv' : w = 0 ∨ vI (rg T 600) := by
      rcases hv with z | z
      · exact Or.inl (r3.mpr z.1)
      · exact Or.inr z
    have hc := c_tellItem (d := d) (h := h) (a := a) (t := T) (i := m) ha h0 (by omega) r2 r1 r5 (hr (w, l) (List.Mem.head _)) hv'
    have hrg : -100000 ≤ (tlU (rg T 600) w l).1 ∧ (tlU (rg T 600) w l).1 ≤ 100000 := by
      unfold tlU
      split
      · have := sHall_rg (t := T) (r := ((600 : Nat) : Int)) (w := l.getD 0 0) (hh := l.getD 1 0)
        rw [sHall_u] at this
        dsimp only at this
        omega
      next q0 =>
      have hv2 := hv'.resolve_left q0
      have hk := rOk_v hv2
      have ra : ∀ k : Nat, 0 ≤ l.getD k 0 ∧ l.getD k 0 ≤ 99 := hr (w, l) (List.Mem.head _)
      have ra0 := ra 0
      split
      · have := sShelf_rg (t := T) (r := ((600 : Nat) : Int)) (q := l.getD 0 0) (is := true)
        rw [sShelf_u hv2.2.2.2.2.2.2.1.2] at this
        dsimp only at this
        omega
      split
      · have := sRead_rg (t := T) (r := ((600 : Nat) : Int)) (q := l.getD 0 0) (k := l.getD 1 0) (pg := l.getD 2 0) (wo := l.getD 3 0) hk
        rw [sRead_u hv2.2.2.2.2.2.2.1] at this
        dsimp only at this
        omega
      split
      · have := sLamp_rg (t := T) (r := ((600 : Nat) : Int)) (q := l.getD 0 0) (by omega) (by omega) hk
        rw [sLamp_u] at this
        dsimp only at this
        omega
      split
      · have := sOil_rg (t := T) (r := ((600 : Nat) : Int)) (n := l.getD 0 0) hk
        rw [sOil_u] at this
        dsimp only at this
        omega
      · have := sStr_rg (t := T) (r := ((600 : Nat) : Int)) (p := l.getD 0 0) (v := l.getD 1 0) hk
        rw [sStr_u hv2.2.2.2.2.2.2.1.2] at this
        dsimp only at this
        omega
    rw [s_X8_read_85, tlA]
    simp (disch := first | omega | assumption) only [s_X8_read_86, s_X8_read_87, s_X8_read_90, mH_obj ha, m_g0 ha, m_g1 ha, m_g2 ha, m_g3 ha, m_g4 ha, m_g5 ha, m_g6 ha, m_g7 ha, m_g8 ha, m_g9 ha, m_g10 ha, m_g11 ha, m_g12 ha, m_g13 ha, m_g14 ha, m_g15 ha, m_g16 ha, m_g17 ha, m_g18 ha, m_g19 ha, m_g20 ha, m_p3 ha, m_p7 ha, m_p8 ha, m_p9 ha, m_p12 ha, m_p16 ha, m_p17 ha, m_p18 ha, m_p19 ha, m_p20 ha, m_r1 ha, m_r2 ha, m_r3 ha, m_r4 ha, m_r5 ha, m_r6 ha, m_r7 ha, m_r8 ha, m_r9 ha, m_r10 ha, m_r11 ha, m_s1 ha, m_s2 ha, m_s3 ha, m_s4 ha, m_s5 ha, m_s6 ha, m_s7 ha, m_s8 ha, m_s9 ha, m_s10 ha, m_s11 ha, zI_add, zI_sub, zI_mul, zI_neg, zL_add, zL_sub, zL_mul, Option.bind_some, Option.toList_some, Option.toList_none, List.cons_append, List.nil_append, zI_lt, zI_le, zI_eq, zI_eq0, zI_lt0, zI_le0, zI_0lt, zI_0le, bZ_e0, Int.add_zero, Int.zero_add, h7]
    rw [if_neg (show ¬ n ≤ m by omega)]
    simp (disch := first | omega | assumption) only [s_X8_read_93, s_X8_read_94, s_X8_read_95, s_X8_read_98, mH_obj ha, m_g0 ha, m_g1 ha, m_g2 ha, m_g3 ha, m_g4 ha, m_g5 ha, m_g6 ha, m_g7 ha, m_g8 ha, m_g9 ha, m_g10 ha, m_g11 ha, m_g12 ha, m_g13 ha, m_g14 ha, m_g15 ha, m_g16 ha, m_g17 ha, m_g18 ha, m_g19 ha, m_g20 ha, m_p3 ha, m_p7 ha, m_p8 ha, m_p9 ha, m_p12 ha, m_p16 ha, m_p17 ha, m_p18 ha, m_p19 ha, m_p20 ha, m_r1 ha, m_r2 ha, m_r3 ha, m_r4 ha, m_r5 ha, m_r6 ha, m_r7 ha, m_r8 ha, m_r9 ha, m_r10 ha, m_r11 ha, m_s1 ha, m_s2 ha, m_s3 ha, m_s4 ha, m_s5 ha, m_s6 ha, m_s7 ha, m_s8 ha, m_s9 ha, m_s10 ha, m_s11 ha, zI_add, zI_sub, zI_mul, zI_neg, zL_add, zL_sub, zL_mul, Option.bind_some, Option.toList_some, Option.toList_none, List.cons_append, List.nil_append, zI_lt, zI_le, zI_eq, zI_eq0, zI_lt0, zI_le0, zI_0lt, zI_0le, bZ_e0, Int.add_zero, Int.zero_add, hc]
    by_cases q : (tlU (rg T 600) w l).1 < 0
    · rw [if_pos q]
      refine ⟨pr T 600 (tlU (rg T 600) w l).2, trR_pr, trivial, ?_⟩
      rw [if_neg (by omega)]
      simp (disch := first | omega | assumption) only [s_X8_read_101, s_X8_read_104, s_X8_read_105, s_X8_read_106, mH_obj ha, m_g0 ha, m_g1 ha, m_g2 ha, m_g3 ha, m_g4 ha, m_g5 ha, m_g6 ha, m_g7 ha, m_g8 ha, m_g9 ha, m_g10 ha, m_g11 ha, m_g12 ha, m_g13 ha, m_g14 ha, m_g15 ha, m_g16 ha, m_g17 ha, m_g18 ha, m_g19 ha, m_g20 ha, m_p3 ha, m_p7 ha, m_p8 ha, m_p9 ha, m_p12 ha, m_p16 ha, m_p17 ha, m_p18 ha, m_p19 ha, m_p20 ha, m_r1 ha, m_r2 ha, m_r3 ha, m_r4 ha, m_r5 ha, m_r6 ha, m_r7 ha, m_r8 ha, m_r9 ha, m_r10 ha, m_r11 ha, m_s1 ha, m_s2 ha, m_s3 ha, m_s4 ha, m_s5 ha, m_s6 ha, m_s7 ha, m_s8 ha, m_s9 ha, m_s10 ha, m_s11 ha, zI_add, zI_sub, zI_mul, zI_neg, zL_add, zL_sub, zL_mul, Option.bind_some, Option.toList_some, Option.toList_none, List.cons_append, List.nil_append, zI_lt, zI_le, zI_eq, zI_eq0, zI_lt0, zI_le0, zI_0lt, zI_0le, bZ_e0, Int.add_zero, Int.zero_add]
      rfl
    · rw [if_neg q]
      have hg : ct (tlU (rg T 600) w l).2 := tlU_c (rg_ct _ _) (hv'.imp id fun z => z.2.2.2.2.2.2.1.2)
      have hvn : vI (tlU (rg T 600) w l).2 := by
        rcases hv' with z | z
        · subst z
          unfold tlU at q ⊢
          rw [if_pos rfl] at q ⊢
          unfold uHall at q ⊢
          split
          next y => exact vI_an y.1 y.2
          next y => rw [if_neg y] at q; exact absurd (show (-2 : Int) < 0 by decide) q
        · exact tlU_v z
      have hq : rg (pr T 600 (tlU (rg T 600) w l).2) 600 = (tlU (rg T 600) w l).2 := rg_pr hg
      obtain ⟨T', g1, g2, g3⟩ := ih (m + 1) (pr T 600 (tlU (rg T 600) w l).2) (alH_w (fun j => pr_out (by omega)) (fun j => pr_out (by omega)) _ _ r6) (fun c hc => hr c (List.Mem.tail _ hc)) (by rw [pr_out (by omega), h7]) (by omega) (by omega) (Or.inr (by rw [hq]; exact hvn))
      rw [hq] at g2 g3
      refine ⟨T', fun i j hj => (g1 i j hj).trans (pr_out (by omega)), g2, ?_⟩
      rw [if_pos (show 0 ≤ (tlU (rg T 600) w l).1 by omega)]
      simp (disch := first | omega | assumption) only [s_X8_read_107, s_X8_read_110, mH_obj ha, m_g0 ha, m_g1 ha, m_g2 ha, m_g3 ha, m_g4 ha, m_g5 ha, m_g6 ha, m_g7 ha, m_g8 ha, m_g9 ha, m_g10 ha, m_g11 ha, m_g12 ha, m_g13 ha, m_g14 ha, m_g15 ha, m_g16 ha, m_g17 ha, m_g18 ha, m_g19 ha, m_g20 ha, m_p3 ha, m_p7 ha, m_p8 ha, m_p9 ha, m_p12 ha, m_p16 ha, m_p17 ha, m_p18 ha, m_p19 ha, m_p20 ha, m_r1 ha, m_r2 ha, m_r3 ha, m_r4 ha, m_r5 ha, m_r6 ha, m_r7 ha, m_r8 ha, m_r9 ha, m_r10 ha, m_r11 ha, m_s1 ha, m_s2 ha, m_s3 ha, m_s4 ha, m_s5 ha, m_s6 ha, m_s7 ha, m_s8 ha, m_s9 ha, m_s10 ha, m_s11 ha, zI_add, zI_sub, zI_mul, zI_neg, zL_add, zL_sub, zL_mul, Option.bind_some, Option.toList_some, Option.toList_none, List.cons_append, List.nil_append, zI_lt, zI_le, zI_eq, zI_eq0, zI_lt0, zI_le0, zI_0lt, zI_0le, bZ_e0, Int.add_zero, Int.zero_add]
      exact g3
/-- what reading changes beside the hall that is tried -/
def rdR (t T : Nat → Nat → Int) : Prop := ∀ i j, ¬ (i = 0 ∧ (j = 7 ∨ j = 8 ∨ j = 9)) → i ≠ 5 → i ≠ 6 → ¬ (i = 1 ∧ 600 ≤ j ∧ j < 800) → T i j = t i j
def rdA : Int ⊕ List (Int × List Int) → (Nat → Int) → Int
  | .inl f, _ => -10 - f
  | .inr L, g => match tlA 0 g L with
    | .inl i => -1000 - i
    | .inr _ => L.length
def rdP (t T : Nat → Nat → Int) : Int ⊕ List (Int × List Int) → Prop
  | .inl _ => rdR t T
  | .inr L => match tlA 0 (rg t 600) L with
    | .inl _ => rdR t T
    | .inr g => rg T 0 = g ∧ ∀ i j, ¬ (i = 0 ∧ (j = 7 ∨ j = 8 ∨ j = 9)) → i ≠ 5 → i ≠ 6 → ¬ (i = 1 ∧ 600 ≤ j ∧ j < 800) → ¬ (i = 1 ∧ j < 200) → T i j = t i j
theorem m_read (ha : a + 12 ≤ h.1) (hx : txOk t) : ∃ T', rdP t T' (alS (txX t) (t 0 3) 201 0 0) ∧ x_cl (d + 4) n_X8_read [.ref a] (mH h a t) = some (some (.int (zI (rdA (alS (txX t) (t 0 3) 201 0 0) (rg t 600)))), mH h a T') := by
  have hn := hx.1
  have hT : tkR t (up2 (up2 (up2 t 0 8 0) 0 7 0) 0 9 (-1)) := tkR_t (tkR_t (tkR_u (by omega)) (tkR_u (by omega))) (tkR_u (by omega))
  obtain ⟨T1, r1, r2, r3, r4, r5⟩ := l_readItems (d := d + 1) (h := h) (a := a) ha hx 201 (up2 (up2 (up2 t 0 8 0) 0 7 0) 0 9 (-1)) 0 0 .null hT up2_s (by rw [up2_n (by omega), up2_s]) (by rw [up2_n (by omega), up2_n (by omega), up2_s]) (by omega) (by omega) (by omega) (by omega)
  have s0 : x_cl (d + 4) n_X8_read [.ref a] (mH h a t) = x_ev (d + 4, n_X8_read, 67, [.ref a, .null], [], mH h a T1) := by
    refine Eq.trans ?_ r5
    simp (disch := first | omega | assumption) only [e_X8_read, s_X8_read_0, s_X8_read_1, s_X8_read_2, s_X8_read_5, s_X8_read_6, s_X8_read_7, s_X8_read_10, s_X8_read_11, s_X8_read_12, mH_obj ha, m_g0 ha, m_g1 ha, m_g2 ha, m_g3 ha, m_g4 ha, m_g5 ha, m_g6 ha, m_g7 ha, m_g8 ha, m_g9 ha, m_g10 ha, m_g11 ha, m_g12 ha, m_g13 ha, m_g14 ha, m_g15 ha, m_g16 ha, m_g17 ha, m_g18 ha, m_g19 ha, m_g20 ha, m_p3 ha, m_p7 ha, m_p8 ha, m_p9 ha, m_p12 ha, m_p16 ha, m_p17 ha, m_p18 ha, m_p19 ha, m_p20 ha, m_r1 ha, m_r2 ha, m_r3 ha, m_r4 ha, m_r5 ha, m_r6 ha, m_r7 ha, m_r8 ha, m_r9 ha, m_r10 ha, m_r11 ha, m_s1 ha, m_s2 ha, m_s3 ha, m_s4 ha, m_s5 ha, m_s6 ha, m_s7 ha, m_s8 ha, m_s9 ha, m_s10 ha, m_s11 ha, zI_add, zI_sub, zI_mul, zI_neg, zL_add, zL_sub, zL_mul, Option.bind_some, Option.toList_some, Option.toList_none, List.cons_append, List.nil_append, zI_lt, zI_le, zI_eq, zI_eq0, zI_lt0, zI_le0, zI_0lt, zI_0le, bZ_e0, Int.add_zero, Int.zero_add]
  rw [s0]
  generalize hS : alS (txX t) (t 0 3) 201 0 0 = S at *
  cases S with
  | inl f =>
    obtain ⟨f1, f2, f3⟩ := r4
    refine ⟨T1, fun i j h1 h2 h3 _ => r1 i j h1 h2 h3, ?_⟩
    simp (disch := first | omega | assumption) only [s_X8_read_67, s_X8_read_68, s_X8_read_71, s_X8_read_72, mH_obj ha, m_g0 ha, m_g1 ha, m_g2 ha, m_g3 ha, m_g4 ha, m_g5 ha, m_g6 ha, m_g7 ha, m_g8 ha, m_g9 ha, m_g10 ha, m_g11 ha, m_g12 ha, m_g13 ha, m_g14 ha, m_g15 ha, m_g16 ha, m_g17 ha, m_g18 ha, m_g19 ha, m_g20 ha, m_p3 ha, m_p7 ha, m_p8 ha, m_p9 ha, m_p12 ha, m_p16 ha, m_p17 ha, m_p18 ha, m_p19 ha, m_p20 ha, m_r1 ha, m_r2 ha, m_r3 ha, m_r4 ha, m_r5 ha, m_r6 ha, m_r7 ha, m_r8 ha, m_r9 ha, m_r10 ha, m_r11 ha, m_s1 ha, m_s2 ha, m_s3 ha, m_s4 ha, m_s5 ha, m_s6 ha, m_s7 ha, m_s8 ha, m_s9 ha, m_s10 ha, m_s11 ha, zI_add, zI_sub, zI_mul, zI_neg, zL_add, zL_sub, zL_mul, Option.bind_some, Option.toList_some, Option.toList_none, List.cons_append, List.nil_append, zI_lt, zI_le, zI_eq, zI_eq0, zI_lt0, zI_le0, zI_0lt, zI_0le, bZ_e0, Int.add_zero, Int.zero_add, f1]
    rw [if_neg (by omega)]
    simp (disch := first | omega | assumption) only [s_X8_read_75, s_X8_read_77, s_X8_read_78, s_X8_read_81, s_X8_read_82, mH_obj ha, m_g0 ha, m_g1 ha, m_g2 ha, m_g3 ha, m_g4 ha, m_g5 ha, m_g6 ha, m_g7 ha, m_g8 ha, m_g9 ha, m_g10 ha, m_g11 ha, m_g12 ha, m_g13 ha, m_g14 ha, m_g15 ha, m_g16 ha, m_g17 ha, m_g18 ha, m_g19 ha, m_g20 ha, m_p3 ha, m_p7 ha, m_p8 ha, m_p9 ha, m_p12 ha, m_p16 ha, m_p17 ha, m_p18 ha, m_p19 ha, m_p20 ha, m_r1 ha, m_r2 ha, m_r3 ha, m_r4 ha, m_r5 ha, m_r6 ha, m_r7 ha, m_r8 ha, m_r9 ha, m_r10 ha, m_r11 ha, m_s1 ha, m_s2 ha, m_s3 ha, m_s4 ha, m_s5 ha, m_s6 ha, m_s7 ha, m_s8 ha, m_s9 ha, m_s10 ha, m_s11 ha, zI_add, zI_sub, zI_mul, zI_neg, zL_add, zL_sub, zL_mul, Option.bind_some, Option.toList_some, Option.toList_none, List.cons_append, List.nil_append, zI_lt, zI_le, zI_eq, zI_eq0, zI_lt0, zI_le0, zI_0lt, zI_0le, bZ_e0, Int.add_zero, Int.zero_add, f1]
    rfl
  | inr L =>
    obtain ⟨f1, f2, f3, f4, f5⟩ := r4
    have hL : L ≠ [] := fun z => by rw [z] at f4; exact absurd f4 (by decide)
    have hg : rg T1 600 = rg t 600 := by
      funext j
      unfold rg
      rw [r1 1 (600 + j) (by omega) (by omega) (by omega)]
    obtain ⟨T2, g1, g2, g3⟩ := l_tell (d := d) (h := h) (a := a) (n := 0 + L.length) ha (by omega) L 0 T1 f5 (alS_rg _ _ _ _ hS) f2 rfl (by omega) (Or.inl ⟨rfl, hL⟩)
    rw [hg] at g2 g3
    have hr : ∀ i j, ¬ (i = 0 ∧ (j = 7 ∨ j = 8 ∨ j = 9)) → i ≠ 5 → i ≠ 6 → ¬ (i = 1 ∧ 600 ≤ j ∧ j < 800) → T2 i j = t i j := fun i j h1 h2 h3 h4 => (g1 i j h4).trans (r1 i j h1 h2 h3)
    have s1 : x_ev (d + 4, n_X8_read, 67, [.ref a, .null], [], mH h a T1) = tlE d h a T2 (0 + L.length) (tlA 0 (rg t 600) L) := by
      refine Eq.trans ?_ g3
      simp (disch := first | omega | assumption) only [s_X8_read_67, s_X8_read_68, s_X8_read_71, s_X8_read_72, mH_obj ha, m_g0 ha, m_g1 ha, m_g2 ha, m_g3 ha, m_g4 ha, m_g5 ha, m_g6 ha, m_g7 ha, m_g8 ha, m_g9 ha, m_g10 ha, m_g11 ha, m_g12 ha, m_g13 ha, m_g14 ha, m_g15 ha, m_g16 ha, m_g17 ha, m_g18 ha, m_g19 ha, m_g20 ha, m_p3 ha, m_p7 ha, m_p8 ha, m_p9 ha, m_p12 ha, m_p16 ha, m_p17 ha, m_p18 ha, m_p19 ha, m_p20 ha, m_r1 ha, m_r2 ha, m_r3 ha, m_r4 ha, m_r5 ha, m_r6 ha, m_r7 ha, m_r8 ha, m_r9 ha, m_r10 ha, m_r11 ha, m_s1 ha, m_s2 ha, m_s3 ha, m_s4 ha, m_s5 ha, m_s6 ha, m_s7 ha, m_s8 ha, m_s9 ha, m_s10 ha, m_s11 ha, zI_add, zI_sub, zI_mul, zI_neg, zL_add, zL_sub, zL_mul, Option.bind_some, Option.toList_some, Option.toList_none, List.cons_append, List.nil_append, zI_lt, zI_le, zI_eq, zI_eq0, zI_lt0, zI_le0, zI_0lt, zI_0le, bZ_e0, Int.add_zero, Int.zero_add, f1, if_true]
      simp (disch := first | omega | assumption) only [s_X8_read_83, s_X8_read_84, mH_obj ha, m_g0 ha, m_g1 ha, m_g2 ha, m_g3 ha, m_g4 ha, m_g5 ha, m_g6 ha, m_g7 ha, m_g8 ha, m_g9 ha, m_g10 ha, m_g11 ha, m_g12 ha, m_g13 ha, m_g14 ha, m_g15 ha, m_g16 ha, m_g17 ha, m_g18 ha, m_g19 ha, m_g20 ha, m_p3 ha, m_p7 ha, m_p8 ha, m_p9 ha, m_p12 ha, m_p16 ha, m_p17 ha, m_p18 ha, m_p19 ha, m_p20 ha, m_r1 ha, m_r2 ha, m_r3 ha, m_r4 ha, m_r5 ha, m_r6 ha, m_r7 ha, m_r8 ha, m_r9 ha, m_r10 ha, m_r11 ha, m_s1 ha, m_s2 ha, m_s3 ha, m_s4 ha, m_s5 ha, m_s6 ha, m_s7 ha, m_s8 ha, m_s9 ha, m_s10 ha, m_s11 ha, zI_add, zI_sub, zI_mul, zI_neg, zL_add, zL_sub, zL_mul, Option.bind_some, Option.toList_some, Option.toList_none, List.cons_append, List.nil_append, zI_lt, zI_le, zI_eq, zI_eq0, zI_lt0, zI_le0, zI_0lt, zI_0le, bZ_e0, Int.add_zero, Int.zero_add]
    rw [s1]
    unfold rdP rdA
    dsimp only
    generalize tlA 0 (rg t 600) L = W at g2 g3
    cases W with
    | inl i => exact ⟨T2, hr, rfl⟩
    | inr g =>
      have h27 : T2 0 7 = 0 + L.length := by rw [g1 0 7 (by omega), f2]
      have hcp := c_copy (d := d + 3) (h := h) (a := a) (t := T2) (fr := 600) (to := 0) ha (by omega) (by omega) (by omega) (by omega) (by omega)
      refine ⟨cpT T2 600 0 0, ⟨?_, fun i j h1 h2 h3 h4 h5 => ?_⟩, ?_⟩
      · refine Eq.trans ?_ g2
        funext j
        unfold rg cpT
        by_cases hj : j < 200
        · rw [if_pos hj, if_pos hj, if_pos ⟨rfl, by omega, by omega⟩, show 600 + (0 + j - 0) = 600 + j by omega]
        · rw [if_neg hj, if_neg hj]
      · unfold cpT
        rw [if_neg (by omega)]
        exact hr i j h1 h2 h3 h4
      · unfold tlE
        dsimp only
        have h27' : cpT T2 600 0 0 0 7 = 0 + L.length := by
          unfold cpT
          rw [if_neg (by omega), h27]
        simp (disch := first | omega | assumption) only [s_X8_read_113, s_X8_read_114, s_X8_read_117, s_X8_read_118, s_X8_read_121, s_X8_read_122, s_X8_read_125, mH_obj ha, m_g0 ha, m_g1 ha, m_g2 ha, m_g3 ha, m_g4 ha, m_g5 ha, m_g6 ha, m_g7 ha, m_g8 ha, m_g9 ha, m_g10 ha, m_g11 ha, m_g12 ha, m_g13 ha, m_g14 ha, m_g15 ha, m_g16 ha, m_g17 ha, m_g18 ha, m_g19 ha, m_g20 ha, m_p3 ha, m_p7 ha, m_p8 ha, m_p9 ha, m_p12 ha, m_p16 ha, m_p17 ha, m_p18 ha, m_p19 ha, m_p20 ha, m_r1 ha, m_r2 ha, m_r3 ha, m_r4 ha, m_r5 ha, m_r6 ha, m_r7 ha, m_r8 ha, m_r9 ha, m_r10 ha, m_r11 ha, m_s1 ha, m_s2 ha, m_s3 ha, m_s4 ha, m_s5 ha, m_s6 ha, m_s7 ha, m_s8 ha, m_s9 ha, m_s10 ha, m_s11 ha, zI_add, zI_sub, zI_mul, zI_neg, zL_add, zL_sub, zL_mul, Option.bind_some, Option.toList_some, Option.toList_none, List.cons_append, List.nil_append, zI_lt, zI_le, zI_eq, zI_eq0, zI_lt0, zI_le0, zI_0lt, zI_0le, bZ_e0, Int.add_zero, Int.zero_add, hcp, Int.reduceToNat, h27']
end

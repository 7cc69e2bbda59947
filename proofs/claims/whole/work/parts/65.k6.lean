/-! THE COMPONENT, part 6: pages by light; a reader's pages of a minute -/
section
variable {h : xH} {G : Nat → Nat → Int} {d o : Nat} {g : Nat → Int}
def pgL (k l : Int) : Int := if k = 1 then (if 0 < l / 4 then l / 4 - 1 else 0) else if k = 2 ∨ k = 4 then (if 0 < l then l / 4 + 1 else 0) else if k = 3 then (if 0 < l / 4 then l / 4 - 1 else 0) / 2 else l / 4
theorem k_pages {k l : Int} (hk : 0 ≤ k ∧ k ≤ 5) (hl : 0 ≤ l ∧ l ≤ 24) : x_cl d n_X7_pagesByLight [.int (zI k), .int (zI l)] h = some (some (.int (zI (pgL k l))), h) := by
  have hne : ¬ zI 4 = 0 := by decide
  have hne2 : ¬ zI 2 = 0 := by decide
  simp (disch := first | omega | assumption) only [e_X7_pagesByLight, s_X7_pagesByLight_0, s_X7_pagesByLight_1, s_X7_pagesByLight_2, s_X7_pagesByLight_3, s_X7_pagesByLight_4, s_X7_pagesByLight_5, s_X7_pagesByLight_8, s_X7_pagesByLight_9, s_X7_pagesByLight_10, s_X7_pagesByLight_11, s_X7_pagesByLight_14, zI_add, zI_sub, zI_mul, zI_neg, zL_add, zL_sub, zL_mul, zI_lt, zI_le, zI_eq, zI_eq0, zI_lt0, zI_le0, zI_0lt, zI_0le, bZ_e0, zI_div, x_j1]
  simp (disch := first | omega | assumption) only [s_X7_pagesByLight_15, s_X7_pagesByLight_16, s_X7_pagesByLight_17, s_X7_pagesByLight_20, s_X7_pagesByLight_21, s_X7_pagesByLight_22, s_X7_pagesByLight_23, s_X7_pagesByLight_26, zI_add, zI_sub, zI_mul, zI_neg, zL_add, zL_sub, zL_mul, zI_lt, zI_le, zI_eq, zI_eq0, zI_lt0, zI_le0, zI_0lt, zI_0le, bZ_e0, x_j1]
  simp (disch := first | omega | assumption) only [s_X7_pagesByLight_27, s_X7_pagesByLight_29, zI_add, zI_sub, zI_mul, zI_neg, zL_add, zL_sub, zL_mul, zI_lt, zI_le, zI_eq, zI_eq0, zI_lt0, zI_le0, zI_0lt, zI_0le, bZ_e0]
  have e1 : (if l / 4 ≤ 0 then (0 : Int) else l / 4 - 1) = if 0 < l / 4 then l / 4 - 1 else 0 := by
    by_cases q : 0 < l / 4
    · rw [if_neg (by omega), if_pos q]
    · rw [if_pos (by omega), if_neg q]
  have e2 : (if l ≤ 0 then (0 : Int) else l / 4 + 1) = if 0 < l then l / 4 + 1 else 0 := by
    by_cases q : 0 < l
    · rw [if_neg (by omega), if_pos q]
    · rw [if_pos (by omega), if_neg q]
  rw [e1, e2]
  have r1 : 0 ≤ (if 0 < l / 4 then l / 4 - 1 else 0) ∧ (if 0 < l / 4 then l / 4 - 1 else 0) ≤ 24 := by split <;> omega
  unfold pgL
  generalize (if 0 < l / 4 then l / 4 - 1 else 0) = s at *
  generalize (if 0 < l then l / 4 + 1 else 0) = b at *
  rcases (show k = 0 ∨ k = 1 ∨ k = 2 ∨ k = 3 ∨ k = 4 ∨ k = 5 by omega) with e | e | e | e | e | e <;> subst e
  · rw [s_X7_pagesByLight_30_d (Or.inl (by decide))]
    simp only [s_X7_pagesByLight_69, s_X7_pagesByLight_70]
    rfl
  · rw [s_X7_pagesByLight_30_c1]
    simp only [s_X7_pagesByLight_60, s_X7_pagesByLight_61]
    rfl
  · rw [s_X7_pagesByLight_30_c2]
    simp only [s_X7_pagesByLight_62, s_X7_pagesByLight_64]
    rfl
  · rw [s_X7_pagesByLight_30_c3]
    simp (disch := first | omega | assumption) only [s_X7_pagesByLight_65, s_X7_pagesByLight_66, s_X7_pagesByLight_67, s_X7_pagesByLight_68, zI_div]
    rfl
  · rw [s_X7_pagesByLight_30_c4]
    simp only [s_X7_pagesByLight_62, s_X7_pagesByLight_64]
    rfl
  · rw [s_X7_pagesByLight_30_d (Or.inr (by decide))]
    simp only [s_X7_pagesByLight_69, s_X7_pagesByLight_70]
    rfl
theorem pgL_rg {k l : Int} (hl : 0 ≤ l ∧ l ≤ 24) : 0 ≤ pgL k l ∧ pgL k l ≤ 24 := by
  unfold pgL
  repeat' split
  all_goals omega
/-- one of the first n has pages left -/
def otB (f : Int → Int) : Nat → Bool
  | 0 => false
  | n + 1 => otB f n || decide (0 < f n)
theorem dutF_z (f : Int → Int) : ∀ (n : Nat) (k : Int), dutF f n k 0 = 0 := by
  intro n
  induction n with
  | zero => intro k; rfl
  | succ n ih => intro k; rw [dutF, ite_self, ih]
theorem dutF_1 (f : Int → Int) : ∀ (n : Nat) (k v : Int), dutF f (n + 1) k v = if 0 < f (k + n) then 0 else dutF f n k v := by
  intro n
  induction n with
  | zero => intro k v; rw [dutF, dutF, dutF, show k + ((0 : Nat) : Int) = k by omega]
  | succ n ih =>
    intro k v
    rw [dutF, ih, dutF, show k + 1 + (n : Int) = k + ((n + 1 : Nat) : Int) by omega]
theorem dutF_o (f : Int → Int) (v : Int) : ∀ n : Nat, dutF f n 0 v = if otB f n = true then 0 else v := by
  intro n
  induction n with
  | zero => rfl
  | succ n ih =>
    rw [dutF_1, ih, otB, show (0 : Int) + (n : Int) = n by omega]
    by_cases q : 0 < f n
    · rw [if_pos q, decide_eq_true q, Bool.or_true, if_pos rfl]
    · rw [if_neg q, decide_eq_false q, Bool.or_false]
theorem rdS_e {knd p l : Int} {lf lt : Int → Int} (hk : 0 ≤ knd ∧ knd ≤ 5) (hl : 0 ≤ l ∧ l ≤ 24) (ht : lt p = 0 ∨ lt p = 1) : min (if knd = 4 ∧ l = 0 ∧ lt p = 1 then 1 else if knd = 5 ∧ otB lf p.toNat = true then 0 else pgL knd l) (lf p) = rdS knd p l lf lt := by
  unfold rdS
  rw [dutF_o]
  congr 1
  unfold pgL pgB
  rcases (show knd = 0 ∨ knd = 1 ∨ knd = 2 ∨ knd = 3 ∨ knd = 4 ∨ knd = 5 by omega) with e | e | e | e | e | e <;> subst e
  · simp only [Int.reduceEq, false_and, if_false, or_self]; omega
  · simp only [Int.reduceEq, false_and, if_false, or_self, if_true]; split <;> omega
  · simp only [Int.reduceEq, false_and, if_false, true_or, if_true]; split <;> omega
  · simp only [Int.reduceEq, false_and, if_false, or_self, if_true]
    rcases (show l / 4 = 0 ∨ l / 4 = 1 ∨ l / 4 = 2 ∨ l / 4 = 3 ∨ l / 4 = 4 ∨ l / 4 = 5 ∨ l / 4 = 6 by omega) with e | e | e | e | e | e | e <;> rw [e] <;> decide
  · simp only [Int.reduceEq, false_and, if_false, or_true, if_true, true_and]
    by_cases q : 0 < l
    · rw [if_neg (by omega), if_pos q, if_pos q]; omega
    · rw [if_neg q, if_neg q]
      rcases ht with z | z
      · rw [z, if_neg (by omega)]; rfl
      · rw [z, if_pos (by omega)]; rfl
  · simp only [Int.reduceEq, false_and, if_false, or_self, if_true, true_and]
    split <;> omega
theorem k_isLit {B : Nat} {p : Int} (hh : 91 ≤ h.1) (hB : isB B) : x_cl d n_X0_isLit [.ref B, .int (zI p)] (cH h G) = some (some (.int (zI (bZ (hasB (G B 1) p = true)))), cH h G) := by
  simp (disch := first | omega | assumption) only [e_X0_isLit, s_X0_isLit_0, s_X0_isLit_1, s_X0_isLit_4, s_X0_isLit_5, s_X0_isLit_6, s_X0_isLit_7, s_X0_isLit_8, s_X0_isLit_9, s_X0_isLit_12, s_X0_isLit_13, s_X0_isLit_16, s_X0_isLit_17_0, s_X0_isLit_17_1, s_X0_isLit_17_b, c_bg1 hh hB, Option.bind_some, Option.toList_some, Option.toList_none, List.cons_append, List.nil_append]
  by_cases q3 : (zI (G B 1) >>> (zI p &&& 31)) &&& zI 1 = zI 1
  · rw [if_pos q3, bZ_t (show hasB (G B 1) p = true from decide_eq_true q3)]
  · rw [if_neg q3, bZ_f (show ¬ hasB (G B 1) p = true from fun z => q3 (of_decide_eq_true z))]
end

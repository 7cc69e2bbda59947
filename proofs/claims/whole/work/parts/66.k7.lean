/-! THE COMPONENT, part 7: a minute for all -/
section
variable {h : xH} {G : Nat → Nat → Int} {d o : Nat} {g : Nat → Int}
/-- a row of ints -/
def isA (q n : Nat) : Prop := q < 91 ∧ n ≤ 65536 ∧ ∀ g, cC g q = aC 0 n g
theorem a_r {q n : Nat} {i : Int} (hh : 91 ≤ h.1) (hA : isA q n) (h0 : 0 ≤ i) (h1 : i < n) : x_ald (cH h G) q 0 (zI i) = some (zI (G q i.toNat)) := c_ald hh hA.1 hA.2.2 hA.2.1 h0 h1
theorem a_s {q n : Nat} {i x : Int} (hh : 91 ≤ h.1) (hA : isA q n) (h0 : 0 ≤ i) (h1 : i < n) : x_ast (cH h G) q 0 (zI i) (zI x) = some (cH h (up2 G q i.toNat x)) := c_ast hh hA.1 hA.2.2 hA.2.1 h0 h1
theorem a_l {q n : Nat} (hh : 91 ≤ h.1) (hA : isA q n) : x_len (cH h G) q = some (zI n) := c_len hh hA.1 hA.2.2 (by decide)
/-- a bit for each -/
def lvF (f : Nat → Bool) : Nat → Int
  | 0 => 0
  | n + 1 => if f n = true then orB (lvF f n) n else lvF f n
theorem lvF_b {f : Nat → Bool} {j : Nat} (hj : j < 32) : ∀ n : Nat, n ≤ 32 → hasB (lvF f n) j = (decide (j < n) && f j) := by
  intro n
  induction n with
  | zero => intro _; rw [lvF, hasB_0 hj, decide_eq_false (by omega)]; rfl
  | succ n ih =>
    intro hn
    rw [lvF]
    by_cases q : f n = true
    · rw [if_pos q, hasB_orB (by omega) hj, ih (by omega)]
      by_cases e : j = n
      · rw [e, q, decide_eq_true (show n < n + 1 by omega), decide_eq_true (show n = n from rfl)]; cases (decide (n < n) && true) <;> rfl
      · rw [decide_eq_false e, Bool.or_false, decide_eq_decide.mpr (show j < n ↔ j < n + 1 by omega)]
    · rw [if_neg q, ih (by omega)]
      by_cases e : j = n
      · rw [e, Bool.eq_false_iff.mpr q, Bool.and_false, Bool.and_false]
      · rw [decide_eq_decide.mpr (show j < n ↔ j < n + 1 by omega)]
/-- pages of a reader, by the row g, the lights L, what is left, who read by light -/
def rdK (g : Nat → Int) (L lf lt : Int → Int) (p : Int) : Int := rdS (g (11 + p.toNat)) p (L p) lf lt
/-- behind the first n of a minute -/
def rmN (G : Nat → Nat → Int) (A : Nat) (lf : Int → Int) (rd : Int → Int) (n : Nat) : Nat → Nat → Int := fun i j => if i = A + 1 ∧ j < n then lf j - rd j else G i j
theorem rmN_n {A i j n : Nat} {lf rd : Int → Int} (hi : ¬ (i = A + 1 ∧ j < n)) : rmN G A lf rd n i j = G i j := if_neg hi
theorem rmN_up {A n : Nat} {lf rd : Int → Int} : up2 (rmN G A lf rd n) (A + 1) n (lf n - rd n) = rmN G A lf rd (n + 1) := by
  funext i j
  by_cases q : i = A + 1 ∧ j = n
  · rw [q.1, q.2, up2_s]
    exact (if_pos ⟨rfl, by omega⟩).symm
  · rw [up2_n q]
    unfold rmN
    by_cases z : i = A + 1 ∧ j < n
    · rw [if_pos z, if_pos ⟨z.1, by omega⟩]
    · rw [if_neg z, if_neg (by omega)]
theorem g_pages {lv pl ls ln B A : Nat} {s5 s6 s7 l12 : Value} {T : Nat → Nat → Int} {p l knd : Int} {lf lt : Int → Int} (hh : 91 ≤ h.1) (hB : isB B) (hk : 0 ≤ knd ∧ knd ≤ 5) (hl : 0 ≤ l ∧ l ≤ 24) (hf : 0 ≤ lf p ∧ lf p ≤ 20) (ht : bZ (hasB (T B 1) p = true) = lt p) (hs7 : s7 = .int (zI (bZ (otB lf p.toNat = true)))) :
    x_ev (d + 2, n_X7_readMinute, 67, [.ref o, .ref lv, .int (zI pl), .ref B, .ref A, s5, s6, s7, .int (zI p), .int (zI l), .int (zI (lf p)), .int (zI knd), l12], [], cH h T) = x_ev (d + 2, n_X7_readMinute, 125, [.ref o, .ref lv, .int (zI pl), .ref B, .ref A, s5, s6, s7, .int (zI p), .int (zI l), .int (zI (lf p)), .int (zI knd), .int (zI (rdS knd p l lf lt))], [], cH h T) := by
  have hp := pgL_rg (k := knd) hl
  have h01 : lt p = 0 ∨ lt p = 1 := by rw [← ht]; exact bZ_01 _
  have tail : ∀ v : Int, -100 ≤ v → v ≤ 100 → x_ev (d + 2, n_X7_readMinute, 116, [.ref o, .ref lv, .int (zI pl), .ref B, .ref A, s5, s6, s7, .int (zI p), .int (zI l), .int (zI (lf p)), .int (zI knd), .int (zI v)], [], cH h T) = x_ev (d + 2, n_X7_readMinute, 125, [.ref o, .ref lv, .int (zI pl), .ref B, .ref A, s5, s6, s7, .int (zI p), .int (zI l), .int (zI (lf p)), .int (zI knd), .int (zI (min v (lf p)))], [], cH h T) := by
    intro v v1 v2
    simp (disch := first | omega | assumption) only [s_X7_readMinute_116, s_X7_readMinute_118, s_X7_readMinute_120, s_X7_readMinute_123, zI_add, zI_sub, zI_mul, zI_neg, zL_add, zL_sub, zL_mul, zI_lt, zI_le, zI_eq, zI_eq0, zI_lt0, zI_le0, zI_0lt, zI_0le, bZ_e0, zI_min]
  have duty : x_ev (d + 2, n_X7_readMinute, 102, [.ref o, .ref lv, .int (zI pl), .ref B, .ref A, s5, s6, s7, .int (zI p), .int (zI l), .int (zI (lf p)), .int (zI knd), .int (zI (pgL knd l))], [], cH h T) = x_ev (d + 2, n_X7_readMinute, 125, [.ref o, .ref lv, .int (zI pl), .ref B, .ref A, s5, s6, s7, .int (zI p), .int (zI l), .int (zI (lf p)), .int (zI knd), .int (zI (min (if knd = 5 ∧ otB lf p.toNat = true then 0 else pgL knd l) (lf p)))], [], cH h T) := by
    rw [hs7]
    rw [hs7] at tail
    simp (disch := first | omega | assumption) only [s_X7_readMinute_102, s_X7_readMinute_104, s_X7_readMinute_105, s_X7_readMinute_108, s_X7_readMinute_110, s_X7_readMinute_113, s_X7_readMinute_114, zI_add, zI_sub, zI_mul, zI_neg, zL_add, zL_sub, zL_mul, zI_lt, zI_le, zI_eq, zI_eq0, zI_lt0, zI_le0, zI_0lt, zI_0le, bZ_e0]
    by_cases q : knd = 5
    · rw [if_pos q]
      by_cases z : otB lf p.toNat = true
      · rw [if_neg (fun y => y z), if_pos ⟨q, z⟩]
        exact tail 0 (by omega) (by omega)
      · rw [if_pos z, if_neg (fun y => z y.2)]
        exact tail _ (by omega) (by omega)
    · rw [if_neg q, if_neg (fun y => q y.1)]
      exact tail _ (by omega) (by omega)
  rw [← rdS_e hk hl h01]
  simp (disch := first | omega | assumption) only [s_X7_readMinute_67, s_X7_readMinute_69, s_X7_readMinute_71, s_X7_readMinute_74, s_X7_readMinute_76, s_X7_readMinute_78, s_X7_readMinute_79, s_X7_readMinute_82, s_X7_readMinute_84, zI_add, zI_sub, zI_mul, zI_neg, zL_add, zL_sub, zL_mul, zI_lt, zI_le, zI_eq, zI_eq0, zI_lt0, zI_le0, zI_0lt, zI_0le, bZ_e0, Option.bind_some, Option.toList_some, Option.toList_none, List.cons_append, List.nil_append, k_pages hk hl]
  by_cases q1 : knd = 4
  · rw [if_pos q1]
    by_cases q2 : l = 0
    · rw [if_pos q2]
      simp (disch := first | omega | assumption) only [s_X7_readMinute_87, s_X7_readMinute_88, s_X7_readMinute_90, s_X7_readMinute_93, zI_add, zI_sub, zI_mul, zI_neg, zL_add, zL_sub, zL_mul, zI_lt, zI_le, zI_eq, zI_eq0, zI_lt0, zI_le0, zI_0lt, zI_0le, bZ_e0, Option.bind_some, Option.toList_some, Option.toList_none, List.cons_append, List.nil_append, c_bo hh hB, k_isLit hh hB]
      by_cases q3 : hasB (T B 1) p = true
      · rw [if_neg (show ¬ bZ (hasB (T B 1) p = true) = 0 by rw [bZ_t q3]; decide), if_pos (⟨q1, q2, by rw [← ht, bZ_t q3]⟩ : knd = 4 ∧ l = 0 ∧ lt p = 1)]
        simp (disch := first | omega | assumption) only [s_X7_readMinute_96, s_X7_readMinute_97, s_X7_readMinute_99, zI_add, zI_sub, zI_mul, zI_neg, zL_add, zL_sub, zL_mul, zI_lt, zI_le, zI_eq, zI_eq0, zI_lt0, zI_le0, zI_0lt, zI_0le, bZ_e0]
        exact tail 1 (by omega) (by omega)
      · rw [if_pos (bZ_f q3), if_neg (show ¬ (knd = 4 ∧ l = 0 ∧ lt p = 1) from fun z => by rw [← ht, bZ_f q3] at z; omega)]
        exact duty
    · rw [if_neg q2, if_neg (show ¬ (knd = 4 ∧ l = 0 ∧ lt p = 1) from fun z => q2 z.2.1)]
      exact duty
  · rw [if_neg q1, if_neg (show ¬ (knd = 4 ∧ l = 0 ∧ lt p = 1) from fun z => q1 z.1)]
    exact duty
end

/-! THE REFERENCE'S CELLS by a table t of whole numbers: row 0 its own fields, row i its array i (printed by wip/whole/gen31.py) -/
def mF (a : Nat) (t : Nat → Nat → Int) : List Value := [.ref (a + 1), .ref (a + 2), .ref (a + 3), .int (zI (t 0 3)), .ref (a + 4), .ref (a + 5), .ref (a + 6), .int (zI (t 0 7)), .int (zI (t 0 8)), .int (zI (t 0 9)), .ref (a + 7), .ref (a + 8), .int (zI (t 0 12)), .ref (a + 9), .ref (a + 10), .ref (a + 11), .int (zI (t 0 16)), .int (zI (t 0 17)), .int (zI (t 0 18)), .int (zI (t 0 19)), .long (zL (t 0 20))]
def mN (i : Nat) : Nat := [0, 800, 2, 200, 3, 50, 200, 40, 40, 8, 8, 8].getD i 0
def mK (i : Nat) : Nat := if i = 2 then 1 else 0
def mC (a : Nat) (t : Nat → Nat → Int) (i : Nat) : xC := if i = 0 then .inr (8, mF a t) else .inl (mK i, mN i, .inl fun j => zI (t i j))
def mH (h : xH) (a : Nat) (t : Nat → Nat → Int) : xH := (h.1, h.2.1, fun q => if a ≤ q ∧ q < a + 12 then mC a t (q - a) else h.2.2 q)
theorem mH_at {h : xH} {a i : Nat} {t : Nat → Nat → Int} (hi : i < 12) : (mH h a t).2.2 (a + i) = mC a t i := by
  show (if a ≤ a + i ∧ a + i < a + 12 then mC a t (a + i - a) else h.2.2 (a + i)) = _
  rw [if_pos ⟨Nat.le_add_right _ _, by omega⟩, Nat.add_sub_cancel_left]
theorem mH_obj {h : xH} {a : Nat} {t : Nat → Nat → Int} (ha : a + 12 ≤ h.1) : x_obj (mH h a t) a 8 = some (mF a t) := x_obj_of (show a < h.1 by omega) (mH_at (i := 0) (by decide))
theorem mH_row {h : xH} {a : Nat} {t : Nat → Nat → Int} (i : Nat) (h1 : i ≠ 0) (hi : i < 12) (ha : a + 12 ≤ h.1) : x_row (mH h a t) (a + i) = some (mK i, mN i, fun j => zI (t i j)) := by
  refine x_row_of (show a + i < h.1 by omega) ((mH_at hi).trans ?_)
  unfold mC
  rw [if_neg h1]
theorem mH_set {h : xH} {a i : Nat} {t u : Nat → Nat → Int} {c : xC} (hi : i < 12) (hc : c = mC a u i) (hu : ∀ j, j < 12 → j ≠ i → mC a t j = mC a u j) : x_set (mH h a t) (a + i) c = mH h a u := by
  refine x_H_ext rfl rfl fun q => ?_
  show (if q = a + i then c else (if a ≤ q ∧ q < a + 12 then mC a t (q - a) else h.2.2 q)) = (if a ≤ q ∧ q < a + 12 then mC a u (q - a) else h.2.2 q)
  by_cases e : q = a + i
  · rw [if_pos e, if_pos ⟨by omega, by omega⟩, hc, e, Nat.add_sub_cancel_left]
  · rw [if_neg e]
    by_cases f : a ≤ q ∧ q < a + 12
    · rw [if_pos f, if_pos f]; exact hu _ (by omega) (by omega)
    · rw [if_neg f, if_neg f]
theorem mC_arr {a i : Nat} {t u : Nat → Nat → Int} (h0 : i ≠ 0) (h : ∀ j, t i j = u i j) : mC a t i = mC a u i := by
  unfold mC
  rw [if_neg h0, if_neg h0]
  congr 4
  funext j
  rw [h]
theorem mH_ast {h : xH} {a : Nat} {t : Nat → Nat → Int} (i : Nat) {j : Nat} {x : Int} (h1 : i ≠ 0) (hi : i < 12) : x_set (mH h a t) (a + i) (.inl (mK i, mN i, .inl (upd (fun j => zI (t i j)) j (zI x)))) = mH h a (up2 t i j x) := by
  refine mH_set hi ?_ fun k hk e => ?_
  · unfold mC
    rw [if_neg h1]
    congr 4
    funext q
    by_cases z : q = j
    · subst z; rw [up2_s]; simp [upd]
    · rw [up2_n (fun w => z w.2)]; simp [upd, z]
  · by_cases k0 : k = 0
    · subst k0
      show Sum.inr (8, mF a t) = Sum.inr (8, mF a (up2 t i j x))
      have : ∀ q, up2 t i j x 0 q = t 0 q := fun q => up2_n (fun w => h1 w.1.symm)
      simp only [mF, this]
    · exact mC_arr k0 fun q => (up2_n (fun w => e w.1)).symm
theorem mH_pf {h : xH} {a : Nat} {t : Nat → Nat → Int} {k : Nat} {x : Int} {v : Value} (hv : (mF a t).set k v = mF a (up2 t 0 k x)) : x_set (mH h a t) a (.inr (8, (mF a t).set k v)) = mH h a (up2 t 0 k x) := by
  refine mH_set (i := 0) (by decide) (by rw [hv]; rfl) fun j hj e => mC_arr e fun q => (up2_n (fun w => e w.1)).symm
theorem m_g0 {h : xH} {a : Nat} {t : Nat → Nat → Int} (ha : a + 12 ≤ h.1) : x_get (mH h a t) a 8 0 = some (.ref (a + 1)) := by unfold x_get; rw [mH_obj ha]; rfl
theorem m_g1 {h : xH} {a : Nat} {t : Nat → Nat → Int} (ha : a + 12 ≤ h.1) : x_get (mH h a t) a 8 1 = some (.ref (a + 2)) := by unfold x_get; rw [mH_obj ha]; rfl
theorem m_g2 {h : xH} {a : Nat} {t : Nat → Nat → Int} (ha : a + 12 ≤ h.1) : x_get (mH h a t) a 8 2 = some (.ref (a + 3)) := by unfold x_get; rw [mH_obj ha]; rfl
theorem m_g3 {h : xH} {a : Nat} {t : Nat → Nat → Int} (ha : a + 12 ≤ h.1) : x_get (mH h a t) a 8 3 = some (.int (zI (t 0 3))) := by unfold x_get; rw [mH_obj ha]; rfl
theorem m_p3 {h : xH} {a : Nat} {t : Nat → Nat → Int} {x : Int} (ha : a + 12 ≤ h.1) : x_put (mH h a t) a 8 3 (.int (zI x)) = some (mH h a (up2 t 0 3 x)) := by
  unfold x_put
  rw [mH_obj ha]
  show (if 3 < 21 then some (x_set (mH h a t) a (.inr (8, (mF a t).set 3 (.int (zI x))))) else none) = _
  rw [if_pos (by decide)]
  exact congrArg some (mH_pf (k := 3) (x := x) (v := .int (zI x)) rfl)
theorem m_g4 {h : xH} {a : Nat} {t : Nat → Nat → Int} (ha : a + 12 ≤ h.1) : x_get (mH h a t) a 8 4 = some (.ref (a + 4)) := by unfold x_get; rw [mH_obj ha]; rfl
theorem m_g5 {h : xH} {a : Nat} {t : Nat → Nat → Int} (ha : a + 12 ≤ h.1) : x_get (mH h a t) a 8 5 = some (.ref (a + 5)) := by unfold x_get; rw [mH_obj ha]; rfl
theorem m_g6 {h : xH} {a : Nat} {t : Nat → Nat → Int} (ha : a + 12 ≤ h.1) : x_get (mH h a t) a 8 6 = some (.ref (a + 6)) := by unfold x_get; rw [mH_obj ha]; rfl
theorem m_g7 {h : xH} {a : Nat} {t : Nat → Nat → Int} (ha : a + 12 ≤ h.1) : x_get (mH h a t) a 8 7 = some (.int (zI (t 0 7))) := by unfold x_get; rw [mH_obj ha]; rfl
theorem m_p7 {h : xH} {a : Nat} {t : Nat → Nat → Int} {x : Int} (ha : a + 12 ≤ h.1) : x_put (mH h a t) a 8 7 (.int (zI x)) = some (mH h a (up2 t 0 7 x)) := by
  unfold x_put
  rw [mH_obj ha]
  show (if 7 < 21 then some (x_set (mH h a t) a (.inr (8, (mF a t).set 7 (.int (zI x))))) else none) = _
  rw [if_pos (by decide)]
  exact congrArg some (mH_pf (k := 7) (x := x) (v := .int (zI x)) rfl)
theorem m_g8 {h : xH} {a : Nat} {t : Nat → Nat → Int} (ha : a + 12 ≤ h.1) : x_get (mH h a t) a 8 8 = some (.int (zI (t 0 8))) := by unfold x_get; rw [mH_obj ha]; rfl
theorem m_p8 {h : xH} {a : Nat} {t : Nat → Nat → Int} {x : Int} (ha : a + 12 ≤ h.1) : x_put (mH h a t) a 8 8 (.int (zI x)) = some (mH h a (up2 t 0 8 x)) := by
  unfold x_put
  rw [mH_obj ha]
  show (if 8 < 21 then some (x_set (mH h a t) a (.inr (8, (mF a t).set 8 (.int (zI x))))) else none) = _
  rw [if_pos (by decide)]
  exact congrArg some (mH_pf (k := 8) (x := x) (v := .int (zI x)) rfl)
theorem m_g9 {h : xH} {a : Nat} {t : Nat → Nat → Int} (ha : a + 12 ≤ h.1) : x_get (mH h a t) a 8 9 = some (.int (zI (t 0 9))) := by unfold x_get; rw [mH_obj ha]; rfl
theorem m_p9 {h : xH} {a : Nat} {t : Nat → Nat → Int} {x : Int} (ha : a + 12 ≤ h.1) : x_put (mH h a t) a 8 9 (.int (zI x)) = some (mH h a (up2 t 0 9 x)) := by
  unfold x_put
  rw [mH_obj ha]
  show (if 9 < 21 then some (x_set (mH h a t) a (.inr (8, (mF a t).set 9 (.int (zI x))))) else none) = _
  rw [if_pos (by decide)]
  exact congrArg some (mH_pf (k := 9) (x := x) (v := .int (zI x)) rfl)
theorem m_g10 {h : xH} {a : Nat} {t : Nat → Nat → Int} (ha : a + 12 ≤ h.1) : x_get (mH h a t) a 8 10 = some (.ref (a + 7)) := by unfold x_get; rw [mH_obj ha]; rfl
theorem m_g11 {h : xH} {a : Nat} {t : Nat → Nat → Int} (ha : a + 12 ≤ h.1) : x_get (mH h a t) a 8 11 = some (.ref (a + 8)) := by unfold x_get; rw [mH_obj ha]; rfl
theorem m_g12 {h : xH} {a : Nat} {t : Nat → Nat → Int} (ha : a + 12 ≤ h.1) : x_get (mH h a t) a 8 12 = some (.int (zI (t 0 12))) := by unfold x_get; rw [mH_obj ha]; rfl
theorem m_p12 {h : xH} {a : Nat} {t : Nat → Nat → Int} {x : Int} (ha : a + 12 ≤ h.1) : x_put (mH h a t) a 8 12 (.int (zI x)) = some (mH h a (up2 t 0 12 x)) := by
  unfold x_put
  rw [mH_obj ha]
  show (if 12 < 21 then some (x_set (mH h a t) a (.inr (8, (mF a t).set 12 (.int (zI x))))) else none) = _
  rw [if_pos (by decide)]
  exact congrArg some (mH_pf (k := 12) (x := x) (v := .int (zI x)) rfl)
theorem m_g13 {h : xH} {a : Nat} {t : Nat → Nat → Int} (ha : a + 12 ≤ h.1) : x_get (mH h a t) a 8 13 = some (.ref (a + 9)) := by unfold x_get; rw [mH_obj ha]; rfl
theorem m_g14 {h : xH} {a : Nat} {t : Nat → Nat → Int} (ha : a + 12 ≤ h.1) : x_get (mH h a t) a 8 14 = some (.ref (a + 10)) := by unfold x_get; rw [mH_obj ha]; rfl
theorem m_g15 {h : xH} {a : Nat} {t : Nat → Nat → Int} (ha : a + 12 ≤ h.1) : x_get (mH h a t) a 8 15 = some (.ref (a + 11)) := by unfold x_get; rw [mH_obj ha]; rfl
theorem m_g16 {h : xH} {a : Nat} {t : Nat → Nat → Int} (ha : a + 12 ≤ h.1) : x_get (mH h a t) a 8 16 = some (.int (zI (t 0 16))) := by unfold x_get; rw [mH_obj ha]; rfl
theorem m_p16 {h : xH} {a : Nat} {t : Nat → Nat → Int} {x : Int} (ha : a + 12 ≤ h.1) : x_put (mH h a t) a 8 16 (.int (zI x)) = some (mH h a (up2 t 0 16 x)) := by
  unfold x_put
  rw [mH_obj ha]
  show (if 16 < 21 then some (x_set (mH h a t) a (.inr (8, (mF a t).set 16 (.int (zI x))))) else none) = _
  rw [if_pos (by decide)]
  exact congrArg some (mH_pf (k := 16) (x := x) (v := .int (zI x)) rfl)
theorem m_g17 {h : xH} {a : Nat} {t : Nat → Nat → Int} (ha : a + 12 ≤ h.1) : x_get (mH h a t) a 8 17 = some (.int (zI (t 0 17))) := by unfold x_get; rw [mH_obj ha]; rfl
theorem m_p17 {h : xH} {a : Nat} {t : Nat → Nat → Int} {x : Int} (ha : a + 12 ≤ h.1) : x_put (mH h a t) a 8 17 (.int (zI x)) = some (mH h a (up2 t 0 17 x)) := by
  unfold x_put
  rw [mH_obj ha]
  show (if 17 < 21 then some (x_set (mH h a t) a (.inr (8, (mF a t).set 17 (.int (zI x))))) else none) = _
  rw [if_pos (by decide)]
  exact congrArg some (mH_pf (k := 17) (x := x) (v := .int (zI x)) rfl)
theorem m_g18 {h : xH} {a : Nat} {t : Nat → Nat → Int} (ha : a + 12 ≤ h.1) : x_get (mH h a t) a 8 18 = some (.int (zI (t 0 18))) := by unfold x_get; rw [mH_obj ha]; rfl
theorem m_p18 {h : xH} {a : Nat} {t : Nat → Nat → Int} {x : Int} (ha : a + 12 ≤ h.1) : x_put (mH h a t) a 8 18 (.int (zI x)) = some (mH h a (up2 t 0 18 x)) := by
  unfold x_put
  rw [mH_obj ha]
  show (if 18 < 21 then some (x_set (mH h a t) a (.inr (8, (mF a t).set 18 (.int (zI x))))) else none) = _
  rw [if_pos (by decide)]
  exact congrArg some (mH_pf (k := 18) (x := x) (v := .int (zI x)) rfl)
theorem m_g19 {h : xH} {a : Nat} {t : Nat → Nat → Int} (ha : a + 12 ≤ h.1) : x_get (mH h a t) a 8 19 = some (.int (zI (t 0 19))) := by unfold x_get; rw [mH_obj ha]; rfl
theorem m_p19 {h : xH} {a : Nat} {t : Nat → Nat → Int} {x : Int} (ha : a + 12 ≤ h.1) : x_put (mH h a t) a 8 19 (.int (zI x)) = some (mH h a (up2 t 0 19 x)) := by
  unfold x_put
  rw [mH_obj ha]
  show (if 19 < 21 then some (x_set (mH h a t) a (.inr (8, (mF a t).set 19 (.int (zI x))))) else none) = _
  rw [if_pos (by decide)]
  exact congrArg some (mH_pf (k := 19) (x := x) (v := .int (zI x)) rfl)
theorem m_g20 {h : xH} {a : Nat} {t : Nat → Nat → Int} (ha : a + 12 ≤ h.1) : x_get (mH h a t) a 8 20 = some (.long (zL (t 0 20))) := by unfold x_get; rw [mH_obj ha]; rfl
theorem m_p20 {h : xH} {a : Nat} {t : Nat → Nat → Int} {x : Int} (ha : a + 12 ≤ h.1) : x_put (mH h a t) a 8 20 (.long (zL x)) = some (mH h a (up2 t 0 20 x)) := by
  unfold x_put
  rw [mH_obj ha]
  show (if 20 < 21 then some (x_set (mH h a t) a (.inr (8, (mF a t).set 20 (.long (zL x))))) else none) = _
  rw [if_pos (by decide)]
  exact congrArg some (mH_pf (k := 20) (x := x) (v := .long (zL x)) rfl)
theorem m_r1 {h : xH} {a : Nat} {t : Nat → Nat → Int} {i : Int} (ha : a + 12 ≤ h.1) (h0 : 0 ≤ i) (h1 : i < 800) : x_ald (mH h a t) (a + 1) 0 (zI i) = some (zI (t 1 i.toNat)) := x_ald_row (mH_row 1 (by decide) (by decide) ha) h0 (show i < ((800 : Nat) : Int) from h1) (by decide)
theorem m_s1 {h : xH} {a : Nat} {t : Nat → Nat → Int} {i x : Int} (ha : a + 12 ≤ h.1) (h0 : 0 ≤ i) (h1 : i < 800) : x_ast (mH h a t) (a + 1) 0 (zI i) (zI x) = some (mH h a (up2 t 1 i.toNat x)) := (x_ast_row (mH_row 1 (by decide) (by decide) ha) h0 (show i < ((800 : Nat) : Int) from h1) (by decide)).trans (congrArg some (mH_ast 1 (by decide) (by decide)))
theorem m_r2 {h : xH} {a : Nat} {t : Nat → Nat → Int} {i : Int} (ha : a + 12 ≤ h.1) (h0 : 0 ≤ i) (h1 : i < 2) : x_ald (mH h a t) (a + 2) 1 (zI i) = some (zI (t 2 i.toNat)) := x_ald_row (mH_row 2 (by decide) (by decide) ha) h0 (show i < ((2 : Nat) : Int) from h1) (by decide)
theorem m_s2 {h : xH} {a : Nat} {t : Nat → Nat → Int} {i x : Int} (ha : a + 12 ≤ h.1) (h0 : 0 ≤ i) (h1 : i < 2) : x_ast (mH h a t) (a + 2) 1 (zI i) (zI x) = some (mH h a (up2 t 2 i.toNat x)) := (x_ast_row (mH_row 2 (by decide) (by decide) ha) h0 (show i < ((2 : Nat) : Int) from h1) (by decide)).trans (congrArg some (mH_ast 2 (by decide) (by decide)))
theorem m_r3 {h : xH} {a : Nat} {t : Nat → Nat → Int} {i : Int} (ha : a + 12 ≤ h.1) (h0 : 0 ≤ i) (h1 : i < 200) : x_ald (mH h a t) (a + 3) 0 (zI i) = some (zI (t 3 i.toNat)) := x_ald_row (mH_row 3 (by decide) (by decide) ha) h0 (show i < ((200 : Nat) : Int) from h1) (by decide)
theorem m_s3 {h : xH} {a : Nat} {t : Nat → Nat → Int} {i x : Int} (ha : a + 12 ≤ h.1) (h0 : 0 ≤ i) (h1 : i < 200) : x_ast (mH h a t) (a + 3) 0 (zI i) (zI x) = some (mH h a (up2 t 3 i.toNat x)) := (x_ast_row (mH_row 3 (by decide) (by decide) ha) h0 (show i < ((200 : Nat) : Int) from h1) (by decide)).trans (congrArg some (mH_ast 3 (by decide) (by decide)))
theorem m_r4 {h : xH} {a : Nat} {t : Nat → Nat → Int} {i : Int} (ha : a + 12 ≤ h.1) (h0 : 0 ≤ i) (h1 : i < 3) : x_ald (mH h a t) (a + 4) 0 (zI i) = some (zI (t 4 i.toNat)) := x_ald_row (mH_row 4 (by decide) (by decide) ha) h0 (show i < ((3 : Nat) : Int) from h1) (by decide)
theorem m_s4 {h : xH} {a : Nat} {t : Nat → Nat → Int} {i x : Int} (ha : a + 12 ≤ h.1) (h0 : 0 ≤ i) (h1 : i < 3) : x_ast (mH h a t) (a + 4) 0 (zI i) (zI x) = some (mH h a (up2 t 4 i.toNat x)) := (x_ast_row (mH_row 4 (by decide) (by decide) ha) h0 (show i < ((3 : Nat) : Int) from h1) (by decide)).trans (congrArg some (mH_ast 4 (by decide) (by decide)))
theorem m_r5 {h : xH} {a : Nat} {t : Nat → Nat → Int} {i : Int} (ha : a + 12 ≤ h.1) (h0 : 0 ≤ i) (h1 : i < 50) : x_ald (mH h a t) (a + 5) 0 (zI i) = some (zI (t 5 i.toNat)) := x_ald_row (mH_row 5 (by decide) (by decide) ha) h0 (show i < ((50 : Nat) : Int) from h1) (by decide)
theorem m_s5 {h : xH} {a : Nat} {t : Nat → Nat → Int} {i x : Int} (ha : a + 12 ≤ h.1) (h0 : 0 ≤ i) (h1 : i < 50) : x_ast (mH h a t) (a + 5) 0 (zI i) (zI x) = some (mH h a (up2 t 5 i.toNat x)) := (x_ast_row (mH_row 5 (by decide) (by decide) ha) h0 (show i < ((50 : Nat) : Int) from h1) (by decide)).trans (congrArg some (mH_ast 5 (by decide) (by decide)))
theorem m_r6 {h : xH} {a : Nat} {t : Nat → Nat → Int} {i : Int} (ha : a + 12 ≤ h.1) (h0 : 0 ≤ i) (h1 : i < 200) : x_ald (mH h a t) (a + 6) 0 (zI i) = some (zI (t 6 i.toNat)) := x_ald_row (mH_row 6 (by decide) (by decide) ha) h0 (show i < ((200 : Nat) : Int) from h1) (by decide)
theorem m_s6 {h : xH} {a : Nat} {t : Nat → Nat → Int} {i x : Int} (ha : a + 12 ≤ h.1) (h0 : 0 ≤ i) (h1 : i < 200) : x_ast (mH h a t) (a + 6) 0 (zI i) (zI x) = some (mH h a (up2 t 6 i.toNat x)) := (x_ast_row (mH_row 6 (by decide) (by decide) ha) h0 (show i < ((200 : Nat) : Int) from h1) (by decide)).trans (congrArg some (mH_ast 6 (by decide) (by decide)))
theorem m_r7 {h : xH} {a : Nat} {t : Nat → Nat → Int} {i : Int} (ha : a + 12 ≤ h.1) (h0 : 0 ≤ i) (h1 : i < 40) : x_ald (mH h a t) (a + 7) 0 (zI i) = some (zI (t 7 i.toNat)) := x_ald_row (mH_row 7 (by decide) (by decide) ha) h0 (show i < ((40 : Nat) : Int) from h1) (by decide)
theorem m_s7 {h : xH} {a : Nat} {t : Nat → Nat → Int} {i x : Int} (ha : a + 12 ≤ h.1) (h0 : 0 ≤ i) (h1 : i < 40) : x_ast (mH h a t) (a + 7) 0 (zI i) (zI x) = some (mH h a (up2 t 7 i.toNat x)) := (x_ast_row (mH_row 7 (by decide) (by decide) ha) h0 (show i < ((40 : Nat) : Int) from h1) (by decide)).trans (congrArg some (mH_ast 7 (by decide) (by decide)))
theorem m_r8 {h : xH} {a : Nat} {t : Nat → Nat → Int} {i : Int} (ha : a + 12 ≤ h.1) (h0 : 0 ≤ i) (h1 : i < 40) : x_ald (mH h a t) (a + 8) 0 (zI i) = some (zI (t 8 i.toNat)) := x_ald_row (mH_row 8 (by decide) (by decide) ha) h0 (show i < ((40 : Nat) : Int) from h1) (by decide)
theorem m_s8 {h : xH} {a : Nat} {t : Nat → Nat → Int} {i x : Int} (ha : a + 12 ≤ h.1) (h0 : 0 ≤ i) (h1 : i < 40) : x_ast (mH h a t) (a + 8) 0 (zI i) (zI x) = some (mH h a (up2 t 8 i.toNat x)) := (x_ast_row (mH_row 8 (by decide) (by decide) ha) h0 (show i < ((40 : Nat) : Int) from h1) (by decide)).trans (congrArg some (mH_ast 8 (by decide) (by decide)))
theorem m_r9 {h : xH} {a : Nat} {t : Nat → Nat → Int} {i : Int} (ha : a + 12 ≤ h.1) (h0 : 0 ≤ i) (h1 : i < 8) : x_ald (mH h a t) (a + 9) 0 (zI i) = some (zI (t 9 i.toNat)) := x_ald_row (mH_row 9 (by decide) (by decide) ha) h0 (show i < ((8 : Nat) : Int) from h1) (by decide)
theorem m_s9 {h : xH} {a : Nat} {t : Nat → Nat → Int} {i x : Int} (ha : a + 12 ≤ h.1) (h0 : 0 ≤ i) (h1 : i < 8) : x_ast (mH h a t) (a + 9) 0 (zI i) (zI x) = some (mH h a (up2 t 9 i.toNat x)) := (x_ast_row (mH_row 9 (by decide) (by decide) ha) h0 (show i < ((8 : Nat) : Int) from h1) (by decide)).trans (congrArg some (mH_ast 9 (by decide) (by decide)))
theorem m_r10 {h : xH} {a : Nat} {t : Nat → Nat → Int} {i : Int} (ha : a + 12 ≤ h.1) (h0 : 0 ≤ i) (h1 : i < 8) : x_ald (mH h a t) (a + 10) 0 (zI i) = some (zI (t 10 i.toNat)) := x_ald_row (mH_row 10 (by decide) (by decide) ha) h0 (show i < ((8 : Nat) : Int) from h1) (by decide)
theorem m_s10 {h : xH} {a : Nat} {t : Nat → Nat → Int} {i x : Int} (ha : a + 12 ≤ h.1) (h0 : 0 ≤ i) (h1 : i < 8) : x_ast (mH h a t) (a + 10) 0 (zI i) (zI x) = some (mH h a (up2 t 10 i.toNat x)) := (x_ast_row (mH_row 10 (by decide) (by decide) ha) h0 (show i < ((8 : Nat) : Int) from h1) (by decide)).trans (congrArg some (mH_ast 10 (by decide) (by decide)))
theorem m_r11 {h : xH} {a : Nat} {t : Nat → Nat → Int} {i : Int} (ha : a + 12 ≤ h.1) (h0 : 0 ≤ i) (h1 : i < 8) : x_ald (mH h a t) (a + 11) 0 (zI i) = some (zI (t 11 i.toNat)) := x_ald_row (mH_row 11 (by decide) (by decide) ha) h0 (show i < ((8 : Nat) : Int) from h1) (by decide)
theorem m_s11 {h : xH} {a : Nat} {t : Nat → Nat → Int} {i x : Int} (ha : a + 12 ≤ h.1) (h0 : 0 ≤ i) (h1 : i < 8) : x_ast (mH h a t) (a + 11) 0 (zI i) (zI x) = some (mH h a (up2 t 11 i.toNat x)) := (x_ast_row (mH_row 11 (by decide) (by decide) ha) h0 (show i < ((8 : Nat) : Int) from h1) (by decide)).trans (congrArg some (mH_ast 11 (by decide) (by decide)))
-- @GLOBAL MG = mH_obj ha, m_g0 ha, m_g1 ha, m_g2 ha, m_g3 ha, m_g4 ha, m_g5 ha, m_g6 ha, m_g7 ha, m_g8 ha, m_g9 ha, m_g10 ha, m_g11 ha, m_g12 ha, m_g13 ha, m_g14 ha, m_g15 ha, m_g16 ha, m_g17 ha, m_g18 ha, m_g19 ha, m_g20 ha
-- @GLOBAL MP = m_p3 ha, m_p7 ha, m_p8 ha, m_p9 ha, m_p12 ha, m_p16 ha, m_p17 ha, m_p18 ha, m_p19 ha, m_p20 ha
-- @GLOBAL MR = m_r1 ha, m_r2 ha, m_r3 ha, m_r4 ha, m_r5 ha, m_r6 ha, m_r7 ha, m_r8 ha, m_r9 ha, m_r10 ha, m_r11 ha
-- @GLOBAL MS = m_s1 ha, m_s2 ha, m_s3 ha, m_s4 ha, m_s5 ha, m_s6 ha, m_s7 ha, m_s8 ha, m_s9 ha, m_s10 ha, m_s11 ha
-- @GLOBAL NUM = zI_add, zI_sub, zI_mul, zI_neg, zL_add, zL_sub, zL_mul
-- @GLOBAL OB = Option.bind_some, Option.toList_some, Option.toList_none, List.cons_append, List.nil_append

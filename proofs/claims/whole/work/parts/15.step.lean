/-! ONE STEP of the function is a stretch of the machine -/
section
variable {b : Nat} {ad : Nat → Nat} {cy : Nat → ClassId} {D : va_G}
variable {p : Program} {l : Launch} {e : Env} {R : Room} {s : State} {m : MethodId} {args : Array Value} {below : List Frame} {meth : Method} {c : Code} {Q : State → Prop}
/-- what holds of a frame of method k from its entry to its end -/
def x_Ctx (b : Nat) (ad : Nat → Nat) (cy : Nat → ClassId) (D : va_G) (p : Program) (R : Room) (s : State) (m : MethodId) (args : Array Value) (meth : Method) (c : Code) (d k n0 : Nat) : Prop :=
  p.tables.exec = Jvm.exec ∧ c.code = (xm k).2.2.1 ∧ meth.sig.returnType = (xm k).2.2.2.2.1 ∧ meth.locks = false ∧ c.maxLocals = (xm k).2.2.2.1 ∧ s.vm.findClass (xR (xm k).1) = some m.cls ∧ (∀ w ∈ x_gw, w.before args s = true) ∧ ((xm k).2.1.name = "<init>" → meth.name = "<init>") ∧ x_K cy D s ∧ x_T b ad s s.heap ∧ s.heap.size = b + n0 ∧ d + 4 ≤ R.frames ∧ 100 * (d + 4) ≤ R.locals ∧ k < 176
/-- the machine at pc, its locals, its stack and its heap as the function has them, comes to Q -/
def x_Wk (b : Nat) (ad : Nat → Nat) (cy : Nat → ClassId) (D : va_G) (p : Program) (l : Launch) (e : Env) (R : Room) (s : State) (m : MethodId) (args : Array Value) (below : List Frame) (meth : Method) (c : Code) (Q : State → Prop) (k n0 k0 pc : Nat) (ls st : List Value) (h : xH) : Prop :=
  ∀ (H : Heap) (locs : List Loc) (L : Array Slot), lv_has L (xm k).2.2.2.1 (x_lv b ad ls) → ls.length = (xm k).2.2.2.1 → va_P D vwCl (x_W b ad cy h) H → va_S (x_A b) s.heap H locs → n0 ≤ h.1 → k0 ≤ h.2.1 →
    W p l e R s m args below meth c H locs (h.1 - n0) (h.2.1 - k0) Q (F0 m pc L (st.map (x_tr b ad)))
/-- how many cells there are at most -/
theorem x_size {H : Heap} {locs : List Loc} {cells slots : Nat} {g : JFrame} (k : H.size ≤ s.heap.size + cells → W p l e R s m args below meth c H locs cells slots Q g) : W p l e R s m args below meth c H locs cells slots Q g := by
  intro T hT X
  have h1 : (T.setVm s.vm).heap.size ≤ s.heap.size + cells := X.same.2.2.1
  have h2 : T.heap.size ≤ s.heap.size + cells := h1
  rw [hT] at h2
  exact k h2 T hT X
theorem x_full {h : xH} {H : Heap} {locs : List Loc} {n0 : Nat} (hP : va_P D vwCl (x_W b ad cy h) H) (hS : va_S (x_A b) s.heap H locs) (hs : s.heap.size = b + n0) (h0 : n0 ≤ h.1) (hz : H.size ≤ s.heap.size + (h.1 - n0)) : H.size = b + h.1 := by
  have h1 : s.heap.size ≤ H.size := hS.1
  by_cases e : h.1 = n0
  · omega
  · have hi : h.1 - 1 < h.1 := by omega
    have h2 := (hP (h.1 - 1) _ (x_W_at hi)).lt
    have h3 : b + (h.1 - 1) < H.size := h2
    omega
/-- the address of a new cell -/
theorem x_fresh {h : xH} {H1 : Heap} {q : Nat} {x : va_E} (hP : va_P D vwCl (x_W b ad cy h ++ [(q, x)]) H1) (hD : va_D (x_A b) (x_W b ad cy h ++ [(q, x)])) (hz : H1.size ≤ b + h.1 + 1) : q = b + h.1 := by
  have e : (x_W b ad cy h ++ [(q, x)])[h.1]? = some (q, x) := by
    rw [List.getElem?_append_right (by rw [x_W_len]; exact Nat.le_refl _), x_W_len]
    simp
  have h1 : q < H1.size := (hP _ _ e).lt
  have h2 : b ≤ q := hD.2 _ _ e
  by_cases f : q < b + h.1
  · have hi : q - b < h.1 := by omega
    have e2 : (x_W b ad cy h ++ [(q, x)])[q - b]? = some (b + (q - b), x_cell b ad cy (h.2.2 (q - b))) := by
      rw [List.getElem?_append_left (by rw [x_W_len]; exact hi)]
      exact x_W_at hi
    have := hD.1 _ _ _ _ e e2 (show q = b + (q - b) by omega)
    omega
  · omega
theorem x_wt {w : Cond} (hts : ∀ w ∈ x_gw, w.before args s = true) (h : x_in w = true) : w.before args s = true := hts w (x_in_gw h)
theorem x_fok {cl i : Nat} {q : Nat × Nat} (hc : cl < 10) (h : xf cl i = some q) : ∃ r : vw_C, vwCl[q.1]? = some r ∧ q.2 < r.2.2 ∧ Cond.fieldLink (xR cl) i (r.2.1 q.2).1 (r.2.1 q.2).2.1 (r.2.1 q.2).2.2.1 ∈ x_gw := by
  have h1 := x_find_mem h
  have h2 := List.all_eq_true.mp (List.all_eq_true.mp x_fchk_0 cl (List.mem_range.mpr hc)) _ h1
  unfold x_fchk at h2
  split at h2
  · rename_i r hr
    rw [Bool.and_eq_true, decide_eq_true_eq] at h2
    exact ⟨r, hr, h2.1, x_in_gw h2.2⟩
  · cases h2
theorem x_uok {ci : Nat} {r : vw_C} (h : vwCl[ci]? = some r) : ∀ w ∈ u_ws r.1 r.2.1 r.2.2, w ∈ x_gw := fun w hw => x_in_gw (List.all_eq_true.mp (List.all_eq_true.mp x_uchk_0 r (List.mem_of_getElem? h)) w hw)
theorem x_tyok {ci : Nat} {r : vw_C} (h : vwCl[ci]? = some r) : ∃ ty : Nat → FieldType, (∀ k, k < r.2.2 → parseFieldDescriptor (r.2.1 k).2.2.1 = some (ty k)) ∧ (∀ a, a < r.2.2 → ∀ b, b < r.2.2 → a ≠ b → (r.2.1 a).2.1 ≠ (r.2.1 b).2.1) ∧ r.1 = xR ci ∧ (∀ j, j < r.2.2 → (r.2.1 j).1 = r.1) ∧ (∀ j, j < r.2.2 → defaultValue (ty j) = vp_V (x_new ci) j) ∧ (x_new ci).length = r.2.2 ∧ (x_new ci).map (x_tr b ad) = x_new ci := by
  match ci, h with
  | 0, h => cases h; exact ⟨tyX0, tyX0_ok, nmX0, rfl, by decide +kernel, by decide +kernel, rfl, rfl⟩
  | 1, h => cases h; exact ⟨tyX1, tyX1_ok, nmX1, rfl, by decide +kernel, by decide +kernel, rfl, rfl⟩
  | 2, h => cases h; exact ⟨tyX2, tyX2_ok, nmX2, rfl, by decide +kernel, by decide +kernel, rfl, rfl⟩
  | 3, h => cases h; exact ⟨tyX3, tyX3_ok, nmX3, rfl, by decide +kernel, by decide +kernel, rfl, rfl⟩
  | 4, h => cases h; exact ⟨tyX4, tyX4_ok, nmX4, rfl, by decide +kernel, by decide +kernel, rfl, rfl⟩
  | 5, h => cases h; exact ⟨tyX5, tyX5_ok, nmX5, rfl, by decide +kernel, by decide +kernel, rfl, rfl⟩
  | 6, h => cases h; exact ⟨tyX6, tyX6_ok, nmX6, rfl, by decide +kernel, by decide +kernel, rfl, rfl⟩
  | 7, h => cases h; exact ⟨tyX7, tyX7_ok, nmX7, rfl, by decide +kernel, by decide +kernel, rfl, rfl⟩
  | 8, h => cases h; exact ⟨tyX8, tyX8_ok, nmX8, rfl, by decide +kernel, by decide +kernel, rfl, rfl⟩
  | n + 9, h => simp [vwCl] at h
theorem x_fitok {ty : FieldType} {v : Value} (h : x_fit ty v = true) : narrow ty (x_tr b ad v) = x_tr b ad v ∧ fits ty (x_tr b ad v) = true := by
  unfold x_fit at h
  split at h
  · exact ⟨rfl, rfl⟩
  · exact ⟨rfl, rfl⟩
  · exact ⟨rfl, rfl⟩
  · exact ⟨rfl, rfl⟩
  · cases h
theorem x_isR_some {v : Value} (h : x_isR v = true) : v ≠ .null ∧ ∃ a, x_tr b ad v = .ref a := by
  unfold x_isR at h
  split at h
  · exact ⟨nofun, _, rfl⟩
  · exact ⟨nofun, _, rfl⟩
  · cases h
theorem x_set_len {h : xH} {a : Nat} {x : xC} : (x_set h a x).1 = h.1 ∧ (x_set h a x).2.1 = h.2.1 := ⟨rfl, rfl⟩
end

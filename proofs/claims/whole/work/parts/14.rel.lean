/-! THE TIE between the function's heaps and the machine's: a cell i lies at b + i; constant texts at ad -/
def x_tr (b : Nat) (ad : Nat → Nat) (v : Value) : Value := match v with
  | .ref a => .ref (b + a)
  | .retAddr k => .ref (ad k)
  | w => w
theorem x_tr_cat (b : Nat) (ad : Nat → Nat) (v : Value) : (x_tr b ad v).category = v.category := by cases v <;> rfl
theorem x_tr_sum (b : Nat) (ad : Nat → Nat) (st : List Value) : ((st.map (x_tr b ad)).map fun v => v.category).sum = (st.map fun v => v.category).sum := by
  rw [List.map_map]
  congr 1
  apply List.map_congr_left
  intro v _
  exact x_tr_cat b ad v
def x_trA (b : Nat) (a : vp_A) : vp_A := (a.1, match a.2 with
  | .inr (.inr (.inr (.inr f))) => .inr (.inr (.inr (.inr fun j => (f j).map fun q => b + q)))
  | x => x)
def x_cell (b : Nat) (ad : Nat → Nat) (cy : Nat → ClassId) (c : xC) : va_E := match c with
  | .inl q => .inl (cy q.1, x_trA b q.2)
  | .inr q => .inr (q.1, q.2.map (x_tr b ad))
def x_W (b : Nat) (ad : Nat → Nat) (cy : Nat → ClassId) (h : xH) : va_W := (List.range h.1).map fun i => (b + i, x_cell b ad cy (h.2.2 i))
def x_A (b : Nat) : Nat → Prop := fun q => b ≤ q
theorem x_W_len (b : Nat) (ad : Nat → Nat) (cy : Nat → ClassId) (h : xH) : (x_W b ad cy h).length = h.1 := by simp [x_W]
theorem x_W_at {b : Nat} {ad : Nat → Nat} {cy : Nat → ClassId} {h : xH} {i : Nat} (hi : i < h.1) : (x_W b ad cy h)[i]? = some (b + i, x_cell b ad cy (h.2.2 i)) := by
  simp [x_W, hi]
theorem x_W_of {b : Nat} {ad : Nat → Nat} {cy : Nat → ClassId} {h : xH} {i : Nat} {q : Nat × va_E} (e : (x_W b ad cy h)[i]? = some q) : i < h.1 ∧ q = (b + i, x_cell b ad cy (h.2.2 i)) := by
  have hi : i < h.1 := by
    have := (List.getElem?_eq_some_iff.mp e).1
    rw [x_W_len] at this
    exact this
  rw [x_W_at hi] at e
  exact ⟨hi, (Option.some.inj e).symm⟩
theorem x_W_set {b : Nat} {ad : Nat → Nat} {cy : Nat → ClassId} {h : xH} {i : Nat} (c : xC) : (x_W b ad cy h).set i (b + i, x_cell b ad cy c) = x_W b ad cy (x_set h i c) := by
  apply List.ext_getElem?
  intro j
  rw [List.getElem?_set]
  by_cases hj : j < h.1
  · rw [x_W_at (h := x_set h i c) (show j < (x_set h i c).1 from hj)]
    by_cases e : i = j
    · subst e
      rw [if_pos rfl, x_W_len, if_pos hj]
      simp [x_set]
    · rw [if_neg e, x_W_at hj]
      show some (b + j, x_cell b ad cy (h.2.2 j)) = some (b + j, x_cell b ad cy (if j = i then c else h.2.2 j))
      rw [if_neg (fun q => e q.symm)]
  · rw [List.getElem?_eq_none (l := x_W b ad cy (x_set h i c)) (by rw [x_W_len]; exact Nat.not_lt.mp hj)]
    by_cases e : i = j
    · subst e
      rw [if_pos rfl, x_W_len, if_neg hj]
    · rw [if_neg e, List.getElem?_eq_none (by rw [x_W_len]; exact Nat.not_lt.mp hj)]
theorem x_W_push {b : Nat} {ad : Nat → Nat} {cy : Nat → ClassId} {h : xH} {k : Nat} (c : xC) : x_W b ad cy h ++ [(b + h.1, x_cell b ad cy c)] = x_W b ad cy (x_push h k c) := by
  unfold x_W x_push
  rw [List.range_succ, List.map_append]
  congr 1
  · apply List.map_congr_left
    intro i hi
    have := List.mem_range.mp hi
    simp [Nat.ne_of_lt this]
  · simp
theorem x_D (b : Nat) (ad : Nat → Nat) (cy : Nat → ClassId) (h : xH) : va_D (x_A b) (x_W b ad cy h) := by
  refine ⟨fun i j p q hi hj e => ?_, fun k q hk => ?_⟩
  · obtain ⟨-, rfl⟩ := x_W_of hi
    obtain ⟨-, rfl⟩ := x_W_of hj
    exact Nat.add_left_cancel e
  · obtain ⟨-, rfl⟩ := x_W_of hk
    exact Nat.le_add_right _ _
def x_tys (cy : Nat → ClassId) : List (ClassId × FieldType) := [(cy 0, .int), (cy 1, .boolean), (cy 2, .object RX0), (cy 3, .object RX2), (cy 4, .object RX5)]
def x_nest : List Cond := lw_tbl.filter fun w => match w with
  | .methodLinkNest _ _ _ _ => true
  | _ => false
def x_K (cy : Nat → ClassId) (D : va_G) (U : State) : Prop := va_K D vwCl (x_tys cy) U ∧ (∀ w ∈ x_nest, va_Nw w U) ∧ va_AO RX0 U ∧ va_AO RX2 U ∧ va_AO RX5 U
theorem x_K.warm {cy : Nat → ClassId} {D : va_G} {s U : State} (hW : s.WarmedH U.vm) (h : x_K cy D s) : x_K cy D U := by
  refine ⟨va_K.moved hW.alike h.1, fun w hw => ?_, va_AO.moved hW.alike h.2.2.1, va_AO.moved hW.alike h.2.2.2.1, va_AO.moved hW.alike h.2.2.2.2⟩
  have h1 := h.2.1 w hw
  have h2 := (List.mem_filter.mp hw).2
  cases w <;> first | (exact va_Nw.warmM hW h1) | (cases h2)
/-- the constant texts -/
def x_sx : List (Nat × String) := [(108, "hall"), (110, "shelf"), (112, "reader"), (114, "lamp"), (116, "oil"), (118, "string")]
def x_Y (b : Nat) (ad adV : Nat → Nat) (v : Value) (U : State) (H : Heap) : Prop := vk_S 6 (x_tx.map List.length) x_tx ad adV (x_A b) U H ∧ va_Z "java/lang/String" "COMPACT_STRINGS" "Z" (.int 1) (x_A b) U H ∧ va_Z "jdk/internal/util/Preconditions" "SIOOBE_FORMATTER" "Ljava/util/function/BiFunction;" v (x_A b) U H ∧ (v = .null ∨ ∃ a, v = .ref a)
theorem x_Y.go {b : Nat} {ad adV : Nat → Nat} {v : Value} {s U : State} {H0 H : Heap} (hvm : s.vm.Alike U.vm) (hq : ∀ a : Nat, a < H0.size → ¬ x_A b a → H[a]? = H0[a]?) (h : x_Y b ad adV v s H0) : x_Y b ad adV v U H := ⟨(h.1.moved hvm).kept hq, (h.2.1.moved hvm).kept hq, (h.2.2.1.moved hvm).kept hq, h.2.2.2⟩
def x_T (b : Nat) (ad : Nat → Nat) (U : State) (H : Heap) : Prop := (∃ (adV : Nat → Nat) (v : Value), x_Y b ad adV v U H) ∧ ∀ (k : Nat) (q : Nat × String), x_sx[k]? = some q → vk_R RX1 q.1 q.2 (ad k) U
theorem x_T.go {b : Nat} {ad : Nat → Nat} {s U : State} {H : Heap} {locs : List Loc} (hW : s.WarmedH U.vm) (hS : va_S (x_A b) s.heap H locs) (h : x_T b ad s s.heap) : x_T b ad U H := by
  obtain ⟨⟨adV, v, h1⟩, h2⟩ := h
  exact ⟨⟨adV, v, h1.go hW.alike (fun a q n => hS.2.1 a q n)⟩, fun k q e => (h2 k q e).warm hW⟩
def x_Inv (b : Nat) (ad : Nat → Nat) (cy : Nat → ClassId) (D : va_G) (h : xH) (U : State) : Prop := U.heap.size = b + h.1 ∧ va_P D vwCl (x_W b ad cy h) U.heap ∧ x_K cy D U ∧ x_T b ad U U.heap
theorem x_Inv.calling {b : Nat} {ad : Nat → Nat} {cy : Nat → ClassId} {D : va_G} {h : xH} {U : State} {g : JFrame} {mk : MethodId} {a : Array Value} (q : x_Inv b ad cy D h U) : x_Inv b ad cy D h (U.calling g mk a) := by
  obtain ⟨q1, q2, ⟨k1, k2, k3, k4, k5⟩, ⟨adV, v, t1⟩, t2⟩ := q
  have hv : U.vm.Alike (U.calling g mk a).vm := Vm.Alike.refl U.vm
  refine ⟨q1, q2, ⟨va_K.moved hv k1, fun w hw => ?_, va_AO.moved hv k3, va_AO.moved hv k4, va_AO.moved hv k5⟩, ⟨adV, v, t1.go hv (fun _ _ _ => rfl)⟩, fun k q e => (t2 k q e).same rfl⟩
  have h1 := k2 w hw
  have h2 := (List.mem_filter.mp hw).2
  cases w <;> first | (exact va_Nw.same rfl rfl h1) | (cases h2)
def x_Q (b : Nat) (ad : Nat → Nat) (cy : Nat → ClassId) (D : va_G) (r : xE) : Array Value → State → Outcome → State → Prop := fun _ st oc t => oc = .returned (r.1.map (x_tr b ad)) ∧ x_Inv b ad cy D r.2 t ∧ va_F (x_A b) st t
def x_ws (k : Nat) : List Cond := Cond.code (xm k).2.1 (xm k).2.2.1 (xm k).2.2.2.1 (xm k).2.2.2.2.1 :: x_gw
def x_rm (d mc ms : Nat) : Room := { frames := d + 4, cells := mc, slots := ms, locals := 100 * (d + 4) }
/-- a method's contract: from this heap it comes to that answer and that heap -/
def x_Met (l : Launch) (b : Nat) (ad : Nat → Nat) (cy : Nat → ClassId) (D : va_G) (d k : Nat) (as : List Value) (h : xH) (r : xE) : Prop :=
  Met l (xm k).2.1 (x_ws k) (x_rm d (r.2.1 - h.1) (r.2.2.1 - h.2.1)) (va_Pc (as.map (x_tr b ad)) (x_Inv b ad cy D h)) (x_Q b ad cy D r) (r.2.1 - h.1) (r.2.2.1 - h.2.1) (x_A b)
/-! locals -/
def x_lv (b : Nat) (ad : Nat → Nat) (ls : List Value) : List (Nat × Value) := (List.range ls.length).filterMap fun i => (ls[i]?).bind fun v => if v = .null then none else some (i, x_tr b ad v)
theorem x_lv_mem {b : Nat} {ad : Nat → Nat} {ls : List Value} {i : Nat} {w : Value} : (i, w) ∈ x_lv b ad ls ↔ ∃ v, ls[i]? = some v ∧ v ≠ .null ∧ w = x_tr b ad v := by
  unfold x_lv
  rw [List.mem_filterMap]
  constructor
  · intro ⟨j, hj, h⟩
    obtain ⟨v, h1, h2⟩ := Option.bind_eq_some_iff.mp h
    by_cases e : v = .null
    · rw [if_pos e] at h2; cases h2
    · rw [if_neg e] at h2
      cases h2
      exact ⟨v, h1, e, rfl⟩
  · intro ⟨v, h1, h2, h3⟩
    refine ⟨i, List.mem_range.mpr (List.getElem?_eq_some_iff.mp h1).1, Option.bind_eq_some_iff.mpr ⟨v, h1, ?_⟩⟩
    rw [if_neg h2, h3]
theorem x_ld {b : Nat} {ad : Nat → Nat} {L : Array Slot} {n i : Nat} {ls : List Value} {v : Value} (hl : lv_has L n (x_lv b ad ls)) (h : ls[i]? = some v) (hv : v ≠ .null) : L[i]? = some (.val (x_tr b ad v)) := hl.2.2 (i, _) (x_lv_mem.mpr ⟨v, h, hv, rfl⟩)
theorem x_st1 {b : Nat} {ad : Nat → Nat} {L : Array Slot} {n i : Nat} {ls : List Value} {v : Value} (hl : lv_has L n ((i, x_tr b ad v) :: (x_lv b ad ls).filter (fun q => !(q.1 == i) && !(q.1 + 1 == i && q.2.category == 2)))) (ho : x_ok ls i = true) : lv_has L n (x_lv b ad (ls.set i v)) := by
  refine ⟨hl.1, hl.2.1, fun q hq => hl.2.2 q ?_⟩
  obtain ⟨j, w⟩ := q
  obtain ⟨u, h1, h2, h3⟩ := x_lv_mem.mp hq
  unfold x_ok at ho
  rw [Bool.and_eq_true, decide_eq_true_eq] at ho
  by_cases e : j = i
  · subst e
    rw [List.getElem?_set_self ho.1] at h1
    cases h1
    rw [h3]
    exact List.mem_cons_self
  · rw [List.getElem?_set_ne (fun q => e q.symm)] at h1
    refine List.mem_cons_of_mem _ (List.mem_filter.mpr ⟨x_lv_mem.mpr ⟨u, h1, h2, h3⟩, ?_⟩)
    have a1 : (j == i) = false := by simpa using e
    show (!(j == i) && !(j + 1 == i && w.category == 2)) = true
    rw [a1]
    by_cases f : j + 1 = i
    · subst f
      have ho2 := ho.2
      simp only [h1] at ho2
      have : u.category = 1 := by simpa using ho2
      rw [h3, x_tr_cat, this]
      simp
    · simp [f]
theorem x_st2 {b : Nat} {ad : Nat → Nat} {L : Array Slot} {n i : Nat} {ls : List Value} {v : Value} (hl : lv_has L n ((i, x_tr b ad v) :: (x_lv b ad ls).filter (fun q => !(q.1 == i) && (!(q.1 == i + 1) && !(q.1 + 1 == i && q.2.category == 2))))) (ho : x_ok ls i = true) (hi : i + 1 < ls.length) : lv_has L n (x_lv b ad ((ls.set i v).set (i + 1) .null)) := by
  refine ⟨hl.1, hl.2.1, fun q hq => hl.2.2 q ?_⟩
  obtain ⟨j, w⟩ := q
  obtain ⟨u, h1, h2, h3⟩ := x_lv_mem.mp hq
  unfold x_ok at ho
  rw [Bool.and_eq_true, decide_eq_true_eq] at ho
  by_cases g : j = i + 1
  · subst g
    rw [List.getElem?_set_self (by simpa using hi)] at h1
    cases h1
    exact absurd rfl h2
  · rw [List.getElem?_set_ne (fun q => g q.symm)] at h1
    by_cases e : j = i
    · subst e
      rw [List.getElem?_set_self ho.1] at h1
      cases h1
      rw [h3]
      exact List.mem_cons_self
    · rw [List.getElem?_set_ne (fun q => e q.symm)] at h1
      refine List.mem_cons_of_mem _ (List.mem_filter.mpr ⟨x_lv_mem.mpr ⟨u, h1, h2, h3⟩, ?_⟩)
      have a1 : (j == i) = false := by simpa using e
      have a2 : (j == i + 1) = false := by simpa using g
      show (!(j == i) && (!(j == i + 1) && !(j + 1 == i && w.category == 2))) = true
      rw [a1, a2]
      by_cases f : j + 1 = i
      · subst f
        have ho2 := ho.2
        simp only [h1] at ho2
        have : u.category = 1 := by simpa using ho2
        rw [h3, x_tr_cat, this]
        simp
      · simp [f]
/-! answers of the small words -/
theorem x_ln_some {α : Type} {a b : Nat} {o : Option α} {y : α} (h : x_ln a b o = some y) : a = b ∧ o = some y := by
  unfold x_ln at h
  by_cases e : a = b
  · rw [if_pos e] at h; exact ⟨e, h⟩
  · rw [if_neg e] at h; cases h
theorem x_go_some {d m pc : Nat} {ls st : List Value} {h : xH} {g : xF} (e : x_go d m pc ls st h = some (.inr (.inl g))) : g = (d, m, pc, ls, st, h) := by
  unfold x_go at e
  injection e with e
  injection e with e
  injection e with e
  exact e.symm
theorem x_i1_some {α : Type} {st : List Value} {f : Int32 → List Value → Option α} {y : α} (h : x_i1 st f = some y) : ∃ a r, st = .int a :: r ∧ f a r = some y := by
  unfold x_i1 at h
  split at h
  · exact ⟨_, _, rfl, h⟩
  · cases h
theorem x_i2_some {α : Type} {st : List Value} {f : Int32 → Int32 → List Value → Option α} {y : α} (h : x_i2 st f = some y) : ∃ a b r, st = .int b :: .int a :: r ∧ f a b r = some y := by
  unfold x_i2 at h
  split at h
  · exact ⟨_, _, _, rfl, h⟩
  · cases h
theorem x_l1_some {α : Type} {st : List Value} {f : Int64 → List Value → Option α} {y : α} (h : x_l1 st f = some y) : ∃ a r, st = .long a :: r ∧ f a r = some y := by
  unfold x_l1 at h
  split at h
  · exact ⟨_, _, rfl, h⟩
  · cases h
theorem x_l2_some {α : Type} {st : List Value} {f : Int64 → Int64 → List Value → Option α} {y : α} (h : x_l2 st f = some y) : ∃ a b r, st = .long b :: .long a :: r ∧ f a b r = some y := by
  unfold x_l2 at h
  split at h
  · exact ⟨_, _, _, rfl, h⟩
  · cases h
theorem x_li_some {α : Type} {st : List Value} {f : Int64 → Int32 → List Value → Option α} {y : α} (h : x_li st f = some y) : ∃ a b r, st = .int b :: .long a :: r ∧ f a b r = some y := by
  unfold x_li at h
  split at h
  · exact ⟨_, _, _, rfl, h⟩
  · cases h
theorem x_r1_some {α : Type} {st : List Value} {f : Nat → List Value → Option α} {y : α} (h : x_r1 st f = some y) : ∃ a r, st = .ref a :: r ∧ f a r = some y := by
  unfold x_r1 at h
  split at h
  · exact ⟨_, _, rfl, h⟩
  · cases h
theorem x_ir_some {α : Type} {st : List Value} {f : Int32 → Nat → List Value → Option α} {y : α} (h : x_ir st f = some y) : ∃ i a r, st = .int i :: .ref a :: r ∧ f i a r = some y := by
  unfold x_ir at h
  split at h
  · exact ⟨_, _, _, rfl, h⟩
  · cases h
theorem x_iir_some {α : Type} {st : List Value} {f : Int32 → Int32 → Nat → List Value → Option α} {y : α} (h : x_iir st f = some y) : ∃ x i a r, st = .int x :: .int i :: .ref a :: r ∧ f x i a r = some y := by
  unfold x_iir at h
  split at h
  · exact ⟨_, _, _, _, rfl, h⟩
  · cases h
theorem x_rir_some {α : Type} {st : List Value} {f : Nat → Int32 → Nat → List Value → Option α} {y : α} (h : x_rir st f = some y) : ∃ x i a r, st = .ref x :: .int i :: .ref a :: r ∧ f x i a r = some y := by
  unfold x_rir at h
  split at h
  · exact ⟨_, _, _, _, rfl, h⟩
  · cases h
theorem x_v1_some {α : Type} {st : List Value} {f : Value → List Value → Option α} {y : α} (h : x_v1 st f = some y) : ∃ v r, st = v :: r ∧ f v r = some y := by
  unfold x_v1 at h
  split at h
  · exact ⟨_, _, rfl, h⟩
  · cases h
theorem x_to_some {α : Type} {pc : Nat} {off : Int} {k : Nat → Option α} {y : α} (h : x_to pc off k = some y) : ∃ t : Nat, (pc : Int) + off = (t : Int) ∧ k t = some y := by
  unfold x_to at h
  split at h
  · rename_i t e
    exact ⟨t, e, h⟩
  · cases h
theorem x_bind_some {α β : Type} {o : Option α} {f : α → Option β} {y : β} (h : o.bind f = some y) : ∃ v, o = some v ∧ f v = some y := Option.bind_eq_some_iff.mp h
theorem x_if_some {α : Type} {p : Prop} [Decidable p] {o : Option α} {y : α} (h : (if p then o else none) = some y) : p ∧ o = some y := by
  by_cases e : p
  · rw [if_pos e] at h; exact ⟨e, h⟩
  · rw [if_neg e] at h; cases h
theorem x_nif_some {α : Type} {p : Prop} [Decidable p] {o : Option α} {y : α} (h : (if p then none else o) = some y) : ¬ p ∧ o = some y := by
  by_cases e : p
  · rw [if_pos e] at h; cases h
  · rw [if_neg e] at h; exact ⟨e, h⟩
theorem x_obj_some {h : xH} {a ci : Nat} {fs : List Value} (e : x_obj h a ci = some fs) : a < h.1 ∧ h.2.2 a = .inr (ci, fs) := by
  unfold x_obj at e
  obtain ⟨ha, e⟩ := x_if_some e
  split at e
  · rename_i c fs' he
    obtain ⟨hc, e⟩ := x_if_some e
    cases e
    subst hc
    exact ⟨ha, he⟩
  · cases e
theorem x_arr_some {h : xH} {a : Nat} {q : Nat × vp_A} (e : x_arr h a = some q) : a < h.1 ∧ h.2.2 a = .inl q := by
  unfold x_arr at e
  obtain ⟨ha, e⟩ := x_if_some e
  split at e
  · rename_i q' he
    cases e
    exact ⟨ha, he⟩
  · cases e
theorem x_row_some {h : xH} {a : Nat} {q : Nat × Nat × (Nat → Int32)} (e : x_row h a = some q) : a < h.1 ∧ h.2.2 a = .inl (q.1, q.2.1, .inl q.2.2) := by
  unfold x_row at e
  obtain ⟨v, h1, e⟩ := x_bind_some e
  obtain ⟨ha, h2⟩ := x_arr_some h1
  split at e
  · rename_i f hf
    cases e
    refine ⟨ha, h2.trans ?_⟩
    rw [← hf]
  · cases e
theorem x_refs_some {h : xH} {a : Nat} {q : Nat × Nat × (Nat → Option Nat)} (e : x_refs h a = some q) : a < h.1 ∧ h.2.2 a = .inl (q.1, q.2.1, .inr (.inr (.inr (.inr q.2.2)))) := by
  unfold x_refs at e
  obtain ⟨v, h1, e⟩ := x_bind_some e
  obtain ⟨ha, h2⟩ := x_arr_some h1
  split at e
  · rename_i f hf
    cases e
    refine ⟨ha, h2.trans ?_⟩
    rw [← hf]
  · cases e

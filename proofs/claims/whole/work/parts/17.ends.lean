/-! SOUNDNESS: what the function answers the machine answers (printed by wip/whole/gen17.py) -/
def x_le (h k : xH) : Prop := h.1 ≤ k.1 ∧ h.2.1 ≤ k.2.1
theorem x_le_rfl {h : xH} : x_le h h := ⟨Nat.le_refl _, Nat.le_refl _⟩
theorem x_le_set {h : xH} {a : Nat} {x : xC} : x_le h (x_set h a x) := ⟨Nat.le_refl _, Nat.le_refl _⟩
theorem x_le_push {h : xH} {k : Nat} {x : xC} : x_le h (x_push h k x) := ⟨Nat.le_succ _, Nat.le_add_right _ _⟩
theorem x_le_put {h h1 : xH} {a ci k : Nat} {v : Value} (q : x_put h a ci k v = some h1) : x_le h h1 := by
  obtain ⟨_, -, q⟩ := x_bind_some q
  obtain ⟨-, q⟩ := x_if_some q
  cases q
  exact x_le_set
theorem x_le_ast {h h1 : xH} {a K : Nat} {i x : Int32} (q : x_ast h a K i x = some h1) : x_le h h1 := by
  obtain ⟨_, -, q⟩ := x_bind_some q
  obtain ⟨-, q⟩ := x_if_some q
  cases q
  exact x_le_set
theorem x_le_qst {h h1 : xH} {a : Nat} {i : Int32} {v : Nat} (q : x_qst h a i v = some h1) : x_le h h1 := by
  obtain ⟨_, -, q⟩ := x_bind_some q
  obtain ⟨-, q⟩ := x_if_some q
  obtain ⟨_, -, q⟩ := x_bind_some q
  cases q
  exact x_le_set
theorem x_le_copy {h h1 : xH} {a0 a : Nat} {sp dp n : Int32} (q : x_copy h a0 sp a dp n = some h1) : x_le h h1 := by
  obtain ⟨_, -, q⟩ := x_bind_some q
  obtain ⟨_, -, q⟩ := x_bind_some q
  obtain ⟨-, q⟩ := x_if_some q
  cases q
  exact x_le_set
def x_gr (h : xH) (o : Option xN) : Prop := ∀ y, o = some y → match y with
  | .inl r => x_le h r.2
  | .inr (.inl g) => x_le h g.2.2.2.2.2
  | .inr (.inr q) => x_le h q.1.2.2.2.2.2 ∧ ∀ r, (q.2 r).2.2.2.2.2 = r.2
theorem x_gr_none {h : xH} : x_gr h none := fun _ q => by cases q
theorem x_gr_go {h h1 : xH} {d m pc : Nat} {ls st : List Value} (q : x_le h h1) : x_gr h (x_go d m pc ls st h1) := fun y e => by cases e; exact q
theorem x_gr_done {h : xH} {v : Option Value} : x_gr h (x_done v h) := fun y e => by cases e; exact x_le_rfl
theorem x_gr_call {h : xH} {d m pc k : Nat} {ls as st : List Value} : x_gr h (x_call d m pc ls k as st h) := by
  intro y e
  unfold x_call at e
  split at e
  · cases e
  · obtain ⟨-, e⟩ := x_if_some e
    cases e
    exact ⟨x_le_rfl, fun _ => rfl⟩
theorem x_gr_ln {hh : xH} {a b : Nat} {o : Option xN} (h : x_gr hh o) : x_gr hh (x_ln a b o) := by
  unfold x_ln
  by_cases q : a = b
  · rw [if_pos q]; exact h
  · rw [if_neg q]; exact x_gr_none
theorem x_gr_i1 {hh : xH} {st : List Value} {f : Int32 → List Value → Option xN} (h : ∀ a0 a1, x_gr hh (f a0 a1)) : x_gr hh (x_i1 st f) := by
  unfold x_i1
  split
  · exact h _ _
  · exact x_gr_none
theorem x_gr_i2 {hh : xH} {st : List Value} {f : Int32 → Int32 → List Value → Option xN} (h : ∀ a0 a1 a2, x_gr hh (f a0 a1 a2)) : x_gr hh (x_i2 st f) := by
  unfold x_i2
  split
  · exact h _ _ _
  · exact x_gr_none
theorem x_gr_l1 {hh : xH} {st : List Value} {f : Int64 → List Value → Option xN} (h : ∀ a0 a1, x_gr hh (f a0 a1)) : x_gr hh (x_l1 st f) := by
  unfold x_l1
  split
  · exact h _ _
  · exact x_gr_none
theorem x_gr_l2 {hh : xH} {st : List Value} {f : Int64 → Int64 → List Value → Option xN} (h : ∀ a0 a1 a2, x_gr hh (f a0 a1 a2)) : x_gr hh (x_l2 st f) := by
  unfold x_l2
  split
  · exact h _ _ _
  · exact x_gr_none
theorem x_gr_li {hh : xH} {st : List Value} {f : Int64 → Int32 → List Value → Option xN} (h : ∀ a0 a1 a2, x_gr hh (f a0 a1 a2)) : x_gr hh (x_li st f) := by
  unfold x_li
  split
  · exact h _ _ _
  · exact x_gr_none
theorem x_gr_r1 {hh : xH} {st : List Value} {f : Nat → List Value → Option xN} (h : ∀ a0 a1, x_gr hh (f a0 a1)) : x_gr hh (x_r1 st f) := by
  unfold x_r1
  split
  · exact h _ _
  · exact x_gr_none
theorem x_gr_ir {hh : xH} {st : List Value} {f : Int32 → Nat → List Value → Option xN} (h : ∀ a0 a1 a2, x_gr hh (f a0 a1 a2)) : x_gr hh (x_ir st f) := by
  unfold x_ir
  split
  · exact h _ _ _
  · exact x_gr_none
theorem x_gr_iir {hh : xH} {st : List Value} {f : Int32 → Int32 → Nat → List Value → Option xN} (h : ∀ a0 a1 a2 a3, x_gr hh (f a0 a1 a2 a3)) : x_gr hh (x_iir st f) := by
  unfold x_iir
  split
  · exact h _ _ _ _
  · exact x_gr_none
theorem x_gr_rir {hh : xH} {st : List Value} {f : Nat → Int32 → Nat → List Value → Option xN} (h : ∀ a0 a1 a2 a3, x_gr hh (f a0 a1 a2 a3)) : x_gr hh (x_rir st f) := by
  unfold x_rir
  split
  · exact h _ _ _ _
  · exact x_gr_none
theorem x_gr_v1 {hh : xH} {st : List Value} {f : Value → List Value → Option xN} (h : ∀ a0 a1, x_gr hh (f a0 a1)) : x_gr hh (x_v1 st f) := by
  unfold x_v1
  split
  · exact h _ _
  · exact x_gr_none
theorem x_gr_to {hh : xH} {pc : Nat} {off : Int} {f : Nat → Option xN} (h : ∀ t, x_gr hh (f t)) : x_gr hh (x_to pc off f) := by
  unfold x_to
  split
  · exact h _
  · exact x_gr_none
theorem x_gr_bind {hh : xH} {α : Type} {o : Option α} {f : α → Option xN} (h : ∀ v, o = some v → x_gr hh (f v)) : x_gr hh (o.bind f) := by
  cases o with
  | none => exact x_gr_none
  | some v => exact h v rfl
theorem x_gr_if {hh : xH} {q : Prop} [Decidable q] {o1 o2 : Option xN} (h1 : x_gr hh o1) (h2 : x_gr hh o2) : x_gr hh (if q then o1 else o2) := by
  by_cases z : q
  · rw [if_pos z]; exact h1
  · rw [if_neg z]; exact h2
set_option maxHeartbeats 4000000 in
theorem x_I_gr (d m pc : Nat) (ls st : List Value) (h : xH) (len : Nat) (i : Instr) : x_gr h (x_I d m pc ls st h len i) := by
  cases i
  case if_icmp o off => cases o <;> unfold x_I <;> (repeat first | exact x_gr_none | exact x_gr_go x_le_rfl | exact x_gr_go x_le_push | exact x_gr_done | exact x_gr_call | exact x_gr_go (x_le_put (by assumption)) | exact x_gr_go (x_le_ast (by assumption)) | exact x_gr_go (x_le_qst (by assumption)) | exact x_gr_go (x_le_copy (by assumption)) | apply x_gr_ln | (apply x_gr_i1; intro _ _) | (apply x_gr_i2; intro _ _ _) | (apply x_gr_l1; intro _ _) | (apply x_gr_l2; intro _ _ _) | (apply x_gr_li; intro _ _ _) | (apply x_gr_r1; intro _ _) | (apply x_gr_ir; intro _ _ _) | (apply x_gr_iir; intro _ _ _ _) | (apply x_gr_rir; intro _ _ _ _) | (apply x_gr_v1; intro _ _) | (apply x_gr_to; intro _) | (apply x_gr_bind; intro _ _) | apply x_gr_if | split)
  case ifCond o off => cases o <;> unfold x_I <;> (repeat first | exact x_gr_none | exact x_gr_go x_le_rfl | exact x_gr_go x_le_push | exact x_gr_done | exact x_gr_call | exact x_gr_go (x_le_put (by assumption)) | exact x_gr_go (x_le_ast (by assumption)) | exact x_gr_go (x_le_qst (by assumption)) | exact x_gr_go (x_le_copy (by assumption)) | apply x_gr_ln | (apply x_gr_i1; intro _ _) | (apply x_gr_i2; intro _ _ _) | (apply x_gr_l1; intro _ _) | (apply x_gr_l2; intro _ _ _) | (apply x_gr_li; intro _ _ _) | (apply x_gr_r1; intro _ _) | (apply x_gr_ir; intro _ _ _) | (apply x_gr_iir; intro _ _ _ _) | (apply x_gr_rir; intro _ _ _ _) | (apply x_gr_v1; intro _ _) | (apply x_gr_to; intro _) | (apply x_gr_bind; intro _ _) | apply x_gr_if | split)
  case newarray t => cases t <;> unfold x_I <;> (repeat first | exact x_gr_none | exact x_gr_go x_le_rfl | exact x_gr_go x_le_push | exact x_gr_done | exact x_gr_call | exact x_gr_go (x_le_put (by assumption)) | exact x_gr_go (x_le_ast (by assumption)) | exact x_gr_go (x_le_qst (by assumption)) | exact x_gr_go (x_le_copy (by assumption)) | apply x_gr_ln | (apply x_gr_i1; intro _ _) | (apply x_gr_i2; intro _ _ _) | (apply x_gr_l1; intro _ _) | (apply x_gr_l2; intro _ _ _) | (apply x_gr_li; intro _ _ _) | (apply x_gr_r1; intro _ _) | (apply x_gr_ir; intro _ _ _) | (apply x_gr_iir; intro _ _ _ _) | (apply x_gr_rir; intro _ _ _ _) | (apply x_gr_v1; intro _ _) | (apply x_gr_to; intro _) | (apply x_gr_bind; intro _ _) | apply x_gr_if | split)
  all_goals unfold x_I
  all_goals (repeat first | exact x_gr_none | exact x_gr_go x_le_rfl | exact x_gr_go x_le_push | exact x_gr_done | exact x_gr_call | exact x_gr_go (x_le_put (by assumption)) | exact x_gr_go (x_le_ast (by assumption)) | exact x_gr_go (x_le_qst (by assumption)) | exact x_gr_go (x_le_copy (by assumption)) | apply x_gr_ln | (apply x_gr_i1; intro _ _) | (apply x_gr_i2; intro _ _ _) | (apply x_gr_l1; intro _ _) | (apply x_gr_l2; intro _ _ _) | (apply x_gr_li; intro _ _ _) | (apply x_gr_r1; intro _ _) | (apply x_gr_ir; intro _ _ _) | (apply x_gr_iir; intro _ _ _ _) | (apply x_gr_rir; intro _ _ _ _) | (apply x_gr_v1; intro _ _) | (apply x_gr_to; intro _) | (apply x_gr_bind; intro _ _) | apply x_gr_if | split)
theorem x_nxt_gr (f : xF) : x_gr f.2.2.2.2.2 (x_nxt f) := by
  unfold x_nxt
  split
  · exact x_I_gr _ _ _ _ _ _ _ _
  · exact x_gr_none
theorem x_run_le2 : ∀ (n : Nat) (f : xF) (r : xE), x_run n f = some r → x_le f.2.2.2.2.2 r.2 := by
  intro n
  induction n with
  | zero => intro f r h; cases h
  | succ n ih =>
    intro f r h
    rw [x_run] at h
    cases q : x_nxt f with
    | none => rw [q] at h; cases h
    | some y =>
      rw [q] at h
      have g := x_nxt_gr f y q
      match y, h, g with
      | .inl z, h, g => cases h; exact g
      | .inr (.inl z), h, g =>
        have g2 := ih z r h
        exact ⟨Nat.le_trans g.1 g2.1, Nat.le_trans g.2 g2.2⟩
      | .inr (.inr (z, k)), h, g =>
        obtain ⟨w, h1, h2⟩ := x_bind_some h
        have g2 := ih z w h1
        have g3 := ih (k w) r h2
        rw [g.2 w] at g3
        exact ⟨Nat.le_trans g.1.1 (Nat.le_trans g2.1 g3.1), Nat.le_trans g.1.2 (Nat.le_trans g2.2 g3.2)⟩
def x_nd (o : Option xN) : Prop := ∀ r, o ≠ some (.inl r)
theorem x_nd_none : x_nd none := fun _ q => by cases q
theorem x_nd_go {h1 : xH} {d m pc : Nat} {ls st : List Value} : x_nd (x_go d m pc ls st h1) := fun y e => by cases e
theorem x_nd_call {h : xH} {d m pc k : Nat} {ls as st : List Value} : x_nd (x_call d m pc ls k as st h) := by
  intro y e
  unfold x_call at e
  split at e
  · cases e
  · obtain ⟨-, e⟩ := x_if_some e
    cases e
theorem x_nd_ln {a b : Nat} {o : Option xN} (h : x_nd o) : x_nd (x_ln a b o) := by
  unfold x_ln
  by_cases q : a = b
  · rw [if_pos q]; exact h
  · rw [if_neg q]; exact x_nd_none
theorem x_nd_i1 {st : List Value} {f : Int32 → List Value → Option xN} (h : ∀ a0 a1, x_nd (f a0 a1)) : x_nd (x_i1 st f) := by
  unfold x_i1
  split
  · exact h _ _
  · exact x_nd_none
theorem x_nd_i2 {st : List Value} {f : Int32 → Int32 → List Value → Option xN} (h : ∀ a0 a1 a2, x_nd (f a0 a1 a2)) : x_nd (x_i2 st f) := by
  unfold x_i2
  split
  · exact h _ _ _
  · exact x_nd_none
theorem x_nd_l1 {st : List Value} {f : Int64 → List Value → Option xN} (h : ∀ a0 a1, x_nd (f a0 a1)) : x_nd (x_l1 st f) := by
  unfold x_l1
  split
  · exact h _ _
  · exact x_nd_none
theorem x_nd_l2 {st : List Value} {f : Int64 → Int64 → List Value → Option xN} (h : ∀ a0 a1 a2, x_nd (f a0 a1 a2)) : x_nd (x_l2 st f) := by
  unfold x_l2
  split
  · exact h _ _ _
  · exact x_nd_none
theorem x_nd_li {st : List Value} {f : Int64 → Int32 → List Value → Option xN} (h : ∀ a0 a1 a2, x_nd (f a0 a1 a2)) : x_nd (x_li st f) := by
  unfold x_li
  split
  · exact h _ _ _
  · exact x_nd_none
theorem x_nd_r1 {st : List Value} {f : Nat → List Value → Option xN} (h : ∀ a0 a1, x_nd (f a0 a1)) : x_nd (x_r1 st f) := by
  unfold x_r1
  split
  · exact h _ _
  · exact x_nd_none
theorem x_nd_ir {st : List Value} {f : Int32 → Nat → List Value → Option xN} (h : ∀ a0 a1 a2, x_nd (f a0 a1 a2)) : x_nd (x_ir st f) := by
  unfold x_ir
  split
  · exact h _ _ _
  · exact x_nd_none
theorem x_nd_iir {st : List Value} {f : Int32 → Int32 → Nat → List Value → Option xN} (h : ∀ a0 a1 a2 a3, x_nd (f a0 a1 a2 a3)) : x_nd (x_iir st f) := by
  unfold x_iir
  split
  · exact h _ _ _ _
  · exact x_nd_none
theorem x_nd_rir {st : List Value} {f : Nat → Int32 → Nat → List Value → Option xN} (h : ∀ a0 a1 a2 a3, x_nd (f a0 a1 a2 a3)) : x_nd (x_rir st f) := by
  unfold x_rir
  split
  · exact h _ _ _ _
  · exact x_nd_none
theorem x_nd_v1 {st : List Value} {f : Value → List Value → Option xN} (h : ∀ a0 a1, x_nd (f a0 a1)) : x_nd (x_v1 st f) := by
  unfold x_v1
  split
  · exact h _ _
  · exact x_nd_none
theorem x_nd_to {pc : Nat} {off : Int} {f : Nat → Option xN} (h : ∀ t, x_nd (f t)) : x_nd (x_to pc off f) := by
  unfold x_to
  split
  · exact h _
  · exact x_nd_none
theorem x_nd_bind {α : Type} {o : Option α} {f : α → Option xN} (h : ∀ v, o = some v → x_nd (f v)) : x_nd (o.bind f) := by
  cases o with
  | none => exact x_nd_none
  | some v => exact h v rfl
theorem x_nd_if {q : Prop} [Decidable q] {o1 o2 : Option xN} (h1 : x_nd o1) (h2 : x_nd o2) : x_nd (if q then o1 else o2) := by
  by_cases z : q
  · rw [if_pos z]; exact h1
  · rw [if_neg z]; exact h2
section
variable {b : Nat} {ad : Nat → Nat} {cy : Nat → ClassId} {D : va_G}
variable {p : Program} {l : Launch} {e : Env} {R : Room} {s : State} {m : MethodId} {args : Array Value} {below : List Frame} {meth : Method} {c : Code} {Q : State → Prop}

set_option maxHeartbeats 4000000 in
theorem x_end {d k n0 k0' pc : Nat} {ls st : List Value} {h : xH} {r : xE} (C : x_Ctx b ad cy D p R s m args meth c d k n0) (hn : x_nxt (d, k, pc, ls, st, h) = some (.inl r)) :
    x_Wk b ad cy D p l e R s m args below meth c (MQ below (x_Q b ad cy D r) args s (r.2.1 - n0) (r.2.2.1 - k0') (x_A b)) k n0 k0' pc ls st h := by
  obtain ⟨hx, hb, hr, hlk, hml, hown, hts, hin, hK, hT, hs, hRf, hRl, hk⟩ := C
  unfold x_nxt at hn
  split at hn
  case h_2 => cases hn
  rename_i i len hd
  change decode (xm k).2.2.1 pc = .ok (i, len) at hd
  change x_I d k pc ls st h len i = some (.inl r) at hn
  have fin : ∀ {H : Heap} {locs : List Loc}, va_P D vwCl (x_W b ad cy h) H → va_S (x_A b) s.heap H locs → n0 ≤ h.1 → H.size ≤ s.heap.size + (h.1 - n0) → ∀ t : State, t.heap = H → s.WarmedH t.vm → x_Inv b ad cy D h t ∧ va_F (x_A b) s t := by
    intro H locs hP hS h0 hz t ht hW
    refine ⟨⟨?_, by rw [ht]; exact hP, hK.warm hW, by rw [ht]; exact hT.go hW hS⟩, hS.F ht⟩
    rw [ht]
    exact x_full hP hS hs h0 hz
  cases i
  case ireturn =>
    replace hn := x_ln_some hn
    obtain ⟨e1, hn⟩ := hn
    subst e1
    split at hn
    · rename_i v e2
      cases hn
      intro H locs L hl hlen hP hS h0 k0
      refine x_size (fun hz => ?_)
      exact W.iret hx hb (hr.trans e2) (fun t ht hW => ⟨rfl, fin hP hS h0 hz t ht hW⟩) hS.2.2 hd
    · rename_i v e2
      replace hn := x_if_some hn
      obtain ⟨hv, hn⟩ := hn
      cases hn
      intro H locs L hl hlen hP hS h0 k0
      refine x_size (fun hz => ?_)
      exact W.zret hx hb (hr.trans e2) (by rcases hv with q | q <;> rw [q] <;> rfl) (fun t ht hW => ⟨rfl, fin hP hS h0 hz t ht hW⟩) hS.2.2 hd
    · cases hn
  case lreturn =>
    replace hn := x_ln_some hn
    obtain ⟨e1, hn⟩ := hn
    subst e1
    split at hn
    · rename_i v e2
      cases hn
      intro H locs L hl hlen hP hS h0 k0
      refine x_size (fun hz => ?_)
      exact W.lret hx hb (hr.trans e2) (fun t ht hW => ⟨rfl, fin hP hS h0 hz t ht hW⟩) hS.2.2 hd
    · cases hn
  case areturn =>
    replace hn := x_ln_some hn
    obtain ⟨e1, hn⟩ := hn
    subst e1
    split at hn
    · rename_i v cn e2
      replace hn := x_if_some hn
      obtain ⟨hv, hn⟩ := hn
      cases hn
      intro H locs L hl hlen hP hS h0 k0
      refine x_size (fun hz => ?_)
      obtain ⟨hv0, a, hv1⟩ := x_isR_some (b := b) (ad := ad) hv
      exact W.aret hx hb (hr.trans e2) (Or.inl ⟨_, rfl⟩) (Or.inr ⟨a, hv1⟩) (fun t ht hW => ⟨rfl, fin hP hS h0 hz t ht hW⟩) hS.2.2 hd
    · cases hn
  case return_ =>
    replace hn := x_ln_some hn
    obtain ⟨e1, hn⟩ := hn
    subst e1
    split at hn
    · rename_i e2
      cases hn
      intro H locs L hl hlen hP hS h0 k0
      refine x_size (fun hz => ?_)
      exact W.vret hx hb (hr.trans e2) (fun t ht hW => ⟨rfl, fin hP hS h0 hz t ht hW⟩) hS.2.2 hd
    · cases hn
  case if_icmp o off => exact absurd hn (by cases o <;> unfold x_I <;> exact (show x_nd _ by (repeat first | exact x_nd_none | exact x_nd_go | exact x_nd_call | apply x_nd_ln | (apply x_nd_i1; intro _ _) | (apply x_nd_i2; intro _ _ _) | (apply x_nd_l1; intro _ _) | (apply x_nd_l2; intro _ _ _) | (apply x_nd_li; intro _ _ _) | (apply x_nd_r1; intro _ _) | (apply x_nd_ir; intro _ _ _) | (apply x_nd_iir; intro _ _ _ _) | (apply x_nd_rir; intro _ _ _ _) | (apply x_nd_v1; intro _ _) | (apply x_nd_to; intro _) | (apply x_nd_bind; intro _ _) | apply x_nd_if | split)) r)
  case ifCond o off => exact absurd hn (by cases o <;> unfold x_I <;> exact (show x_nd _ by (repeat first | exact x_nd_none | exact x_nd_go | exact x_nd_call | apply x_nd_ln | (apply x_nd_i1; intro _ _) | (apply x_nd_i2; intro _ _ _) | (apply x_nd_l1; intro _ _) | (apply x_nd_l2; intro _ _ _) | (apply x_nd_li; intro _ _ _) | (apply x_nd_r1; intro _ _) | (apply x_nd_ir; intro _ _ _) | (apply x_nd_iir; intro _ _ _ _) | (apply x_nd_rir; intro _ _ _ _) | (apply x_nd_v1; intro _ _) | (apply x_nd_to; intro _) | (apply x_nd_bind; intro _ _) | apply x_nd_if | split)) r)
  case newarray t => exact absurd hn (by cases t <;> unfold x_I <;> exact (show x_nd _ by (repeat first | exact x_nd_none | exact x_nd_go | exact x_nd_call | apply x_nd_ln | (apply x_nd_i1; intro _ _) | (apply x_nd_i2; intro _ _ _) | (apply x_nd_l1; intro _ _) | (apply x_nd_l2; intro _ _ _) | (apply x_nd_li; intro _ _ _) | (apply x_nd_r1; intro _ _) | (apply x_nd_ir; intro _ _ _) | (apply x_nd_iir; intro _ _ _ _) | (apply x_nd_rir; intro _ _ _ _) | (apply x_nd_v1; intro _ _) | (apply x_nd_to; intro _) | (apply x_nd_bind; intro _ _) | apply x_nd_if | split)) r)
  all_goals exact absurd hn (by unfold x_I; exact (show x_nd _ by (repeat first | exact x_nd_none | exact x_nd_go | exact x_nd_call | apply x_nd_ln | (apply x_nd_i1; intro _ _) | (apply x_nd_i2; intro _ _ _) | (apply x_nd_l1; intro _ _) | (apply x_nd_l2; intro _ _ _) | (apply x_nd_li; intro _ _ _) | (apply x_nd_r1; intro _ _) | (apply x_nd_ir; intro _ _ _) | (apply x_nd_iir; intro _ _ _ _) | (apply x_nd_rir; intro _ _ _ _) | (apply x_nd_v1; intro _ _) | (apply x_nd_to; intro _) | (apply x_nd_bind; intro _ _) | apply x_nd_if | split)) r)
end

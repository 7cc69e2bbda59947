/-! NEW OBJECTS: rows of references hold nothing behind their ends -/
def okH (h : xH) : Prop := ∀ (q K n : Nat) (f : Nat → Option Nat), h.2.2 q = .inl (K, n, .inr (.inr (.inr (.inr f)))) → ∀ j, n ≤ j → f j = none
def ihP (o : Option xN) : Prop := ∀ y, o = some y → match y with
  | .inl r => okH r.2
  | .inr (.inl g) => okH g.2.2.2.2.2
  | .inr (.inr (g, k)) => okH g.2.2.2.2.2 ∧ ∀ r : xE, okH r.2 → okH (k r).2.2.2.2.2
section
variable {h : xH}
theorem ih_none : ihP none := fun _ q => by cases q
theorem ih_go {h1 : xH} {d m pc : Nat} {ls st : List Value} (hk : okH h1) : ihP (x_go d m pc ls st h1) := fun y e => by cases e; exact hk
theorem ih_done {v : Option Value} (hk : okH h) : ihP (x_done v h) := fun y e => by cases e; exact hk
theorem ih_call {d m pc k : Nat} {ls as st : List Value} (hk : okH h) : ihP (x_call d m pc ls k as st h) := by
  unfold x_call
  split
  · exact ih_none
  · split
    · intro y e
      cases e
      exact ⟨hk, fun r hr => hr⟩
    · exact ih_none
theorem ih_ln {a b : Nat} {o : Option xN} (hk : ihP o) : ihP (x_ln a b o) := by
  unfold x_ln
  split
  · exact hk
  · exact ih_none
theorem ih_i1 {st : List Value} {f : Int32 → List Value → Option xN} (hk : ∀ a0 a1, ihP (f a0 a1)) : ihP (x_i1 st f) := by
  unfold x_i1
  split
  · exact hk _ _
  · exact ih_none
theorem ih_i2 {st : List Value} {f : Int32 → Int32 → List Value → Option xN} (hk : ∀ a0 a1 a2, ihP (f a0 a1 a2)) : ihP (x_i2 st f) := by
  unfold x_i2
  split
  · exact hk _ _ _
  · exact ih_none
theorem ih_l1 {st : List Value} {f : Int64 → List Value → Option xN} (hk : ∀ a0 a1, ihP (f a0 a1)) : ihP (x_l1 st f) := by
  unfold x_l1
  split
  · exact hk _ _
  · exact ih_none
theorem ih_l2 {st : List Value} {f : Int64 → Int64 → List Value → Option xN} (hk : ∀ a0 a1 a2, ihP (f a0 a1 a2)) : ihP (x_l2 st f) := by
  unfold x_l2
  split
  · exact hk _ _ _
  · exact ih_none
theorem ih_li {st : List Value} {f : Int64 → Int32 → List Value → Option xN} (hk : ∀ a0 a1 a2, ihP (f a0 a1 a2)) : ihP (x_li st f) := by
  unfold x_li
  split
  · exact hk _ _ _
  · exact ih_none
theorem ih_r1 {st : List Value} {f : Nat → List Value → Option xN} (hk : ∀ a0 a1, ihP (f a0 a1)) : ihP (x_r1 st f) := by
  unfold x_r1
  split
  · exact hk _ _
  · exact ih_none
theorem ih_ir {st : List Value} {f : Int32 → Nat → List Value → Option xN} (hk : ∀ a0 a1 a2, ihP (f a0 a1 a2)) : ihP (x_ir st f) := by
  unfold x_ir
  split
  · exact hk _ _ _
  · exact ih_none
theorem ih_iir {st : List Value} {f : Int32 → Int32 → Nat → List Value → Option xN} (hk : ∀ a0 a1 a2 a3, ihP (f a0 a1 a2 a3)) : ihP (x_iir st f) := by
  unfold x_iir
  split
  · exact hk _ _ _ _
  · exact ih_none
theorem ih_rir {st : List Value} {f : Nat → Int32 → Nat → List Value → Option xN} (hk : ∀ a0 a1 a2 a3, ihP (f a0 a1 a2 a3)) : ihP (x_rir st f) := by
  unfold x_rir
  split
  · exact hk _ _ _ _
  · exact ih_none
theorem ih_v1 {st : List Value} {f : Value → List Value → Option xN} (hk : ∀ a0 a1, ihP (f a0 a1)) : ihP (x_v1 st f) := by
  unfold x_v1
  split
  · exact hk _ _
  · exact ih_none
theorem ih_to {pc : Nat} {off : Int} {f : Nat → Option xN} (hk : ∀ t, ihP (f t)) : ihP (x_to pc off f) := by
  unfold x_to
  split
  · exact hk _
  · exact ih_none
theorem ih_if {q : Prop} [Decidable q] {o1 o2 : Option xN} (h1 : ihP o1) (h2 : ihP o2) : ihP (if q then o1 else o2) := by
  by_cases z : q
  · rw [if_pos z]; exact h1
  · rw [if_neg z]; exact h2
theorem ih_bind {α : Type} {o : Option α} {f : α → Option xN} (hk : ∀ v, o = some v → ihP (f v)) : ihP (o.bind f) := by
  cases o with
  | none => exact ih_none
  | some v => exact hk v rfl
theorem ok_set {a : Nat} {c : xC} (hk : okH h) (hc : ∀ (K n : Nat) (f : Nat → Option Nat), c = .inl (K, n, .inr (.inr (.inr (.inr f)))) → ∀ j, n ≤ j → f j = none) : okH (x_set h a c) := by
  intro q K n f e
  change (if q = a then c else h.2.2 q) = _ at e
  by_cases z : q = a
  · rw [if_pos z] at e; exact hc K n f e
  · rw [if_neg z] at e; exact hk q K n f e
theorem ok_push {k : Nat} {c : xC} (hk : okH h) (hc : ∀ (K n : Nat) (f : Nat → Option Nat), c = .inl (K, n, .inr (.inr (.inr (.inr f)))) → ∀ j, n ≤ j → f j = none) : okH (x_push h k c) := by
  intro q K n f e
  change (if q = h.1 then c else h.2.2 q) = _ at e
  by_cases z : q = h.1
  · rw [if_pos z] at e; exact hc K n f e
  · rw [if_neg z] at e; exact hk q K n f e
theorem ok_put {a ci k : Nat} {v : Value} {h1 : xH} (hk : okH h) (e : x_put h a ci k v = some h1) : okH h1 := by
  unfold x_put at e
  obtain ⟨fs, -, e⟩ := Option.bind_eq_some_iff.mp e
  split at e
  · cases e
    exact ok_set hk fun K n f y => by cases y
  · cases e
theorem ok_ast {a K : Nat} {i x : Int32} {h1 : xH} (hk : okH h) (e : x_ast h a K i x = some h1) : okH h1 := by
  unfold x_ast at e
  obtain ⟨q, -, e⟩ := Option.bind_eq_some_iff.mp e
  split at e
  · cases e
    exact ok_set hk fun K n f y => by cases y
  · cases e
theorem ok_copy {a0 a : Nat} {sp dp n : Int32} {h1 : xH} (hk : okH h) (e : x_copy h a0 sp a dp n = some h1) : okH h1 := by
  unfold x_copy at e
  obtain ⟨q, -, e⟩ := Option.bind_eq_some_iff.mp e
  obtain ⟨r, -, e⟩ := Option.bind_eq_some_iff.mp e
  split at e
  · cases e
    exact ok_set hk fun K n f y => by cases y
  · cases e
theorem ok_qst {a v : Nat} {i : Int32} {h1 : xH} (hk : okH h) (e : x_qst h a i v = some h1) : okH h1 := by
  unfold x_qst at e
  obtain ⟨q, hq, e⟩ := Option.bind_eq_some_iff.mp e
  split at e
  next z =>
    obtain ⟨fs, -, e⟩ := Option.bind_eq_some_iff.mp e
    cases e
    refine ok_set hk fun K n f y => ?_
    cases y
    intro j hj
    have hi : ¬ q.2.1 ≤ i.toNatClampNeg := fun w => z.2 (Or.inr w)
    unfold x_refs at hq
    obtain ⟨c, hc, hq⟩ := Option.bind_eq_some_iff.mp hq
    unfold x_arr at hc
    split at hc
    · split at hc
      next c' hc' =>
        cases hc
        obtain ⟨K', n', F⟩ := c
        rcases F with F | F | F | F | F
        · cases hq
        · cases hq
        · cases hq
        · cases hq
        · cases hq
          have := hk a K' n' F hc'
          show va_up F i.toNatClampNeg (some v) j = none
          unfold va_up
          rw [if_neg (by dsimp only at hi hj; omega)]
          exact this j hj
      · cases hc
    · cases hc
  · cases e
end
set_option maxHeartbeats 4000000 in
theorem ih_I (d m pc : Nat) (ls st : List Value) (h : xH) (len : Nat) (i : Instr) (hk : okH h) : ihP (x_I d m pc ls st h len i) := by
  have hn : ∀ (ci : Nat), okH (x_push h (x_new ci).length (.inr (ci, x_new ci))) := fun ci => ok_push hk fun K n f y => by cases y
  cases i
  case if_icmp o off => cases o <;> unfold x_I <;> (repeat first | exact ih_none | exact ih_go hk | exact ih_done hk | exact ih_call hk | apply ih_ln | (apply ih_i1; intro _ _) | (apply ih_i2; intro _ _ _) | (apply ih_to; intro _) | apply ih_if | split)
  case ifCond o off => cases o <;> unfold x_I <;> (repeat first | exact ih_none | exact ih_go hk | exact ih_done hk | exact ih_call hk | apply ih_ln | (apply ih_i1; intro _ _) | (apply ih_i2; intro _ _ _) | (apply ih_to; intro _) | apply ih_if | split)
  case newarray t => cases t <;> unfold x_I <;> (repeat first | exact ih_none | exact ih_go (ok_push hk fun K n f y => by cases y) | exact ih_go hk | apply ih_ln | (apply ih_i1; intro _ _) | apply ih_if | split)
  case anewarray j =>
    unfold x_I
    apply ih_ln
    apply ih_bind
    intro ci _
    apply ih_i1
    intro n r
    apply ih_if
    · exact ih_none
    · exact ih_go (ok_push hk fun K n' f y => by cases y; intro j _; rfl)
  case new j =>
    unfold x_I
    apply ih_ln
    apply ih_bind
    intro ci _
    exact ih_go (hn ci)
  all_goals unfold x_I
  all_goals (repeat first | exact ih_none | exact ih_go hk | exact ih_done hk | exact ih_call hk | (exact ih_go (ok_put hk (by assumption))) | (exact ih_go (ok_ast hk (by assumption))) | (exact ih_go (ok_qst hk (by assumption))) | (exact ih_go (ok_copy hk (by assumption))) | apply ih_ln | (apply ih_i1; intro _ _) | (apply ih_i2; intro _ _ _) | (apply ih_l1; intro _ _) | (apply ih_l2; intro _ _ _) | (apply ih_li; intro _ _ _) | (apply ih_r1; intro _ _) | (apply ih_ir; intro _ _ _) | (apply ih_iir; intro _ _ _ _) | (apply ih_rir; intro _ _ _ _) | (apply ih_v1; intro _ _) | (apply ih_to; intro _) | (apply ih_bind; intro _ _) | apply ih_if | split)
theorem ih_run : ∀ (n : Nat) (f : xF) (r : xE), x_run n f = some r → okH f.2.2.2.2.2 → okH r.2 := by
  intro n
  induction n with
  | zero => intro f r e; cases e
  | succ n ih =>
    intro f r e hk
    rw [x_run] at e
    have key : ihP (x_nxt f) := by
      unfold x_nxt
      split
      · exact ih_I _ _ _ _ _ _ _ _ hk
      · exact ih_none
    cases q : x_nxt f with
    | none => rw [q] at e; cases e
    | some y =>
      rw [q] at e
      have ky := key y q
      match y, e, ky with
      | .inl z, e, ky => cases e; exact ky
      | .inr (.inl g), e, ky => exact ih g r e ky
      | .inr (.inr (g, k)), e, ky =>
        obtain ⟨w, e1, e2⟩ := Option.bind_eq_some_iff.mp e
        exact ih (k w) r e2 (ky.2 w (ih g w e1 ky.1))

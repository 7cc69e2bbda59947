/-! WHAT KIND OF ANSWER a method gives (printed by wip/whole/gen99w.py) -/
def x_rv (k : Nat) (v : Option Value) : Prop := ((xm k).2.2.2.2.1 = some .int → ∃ i, v = some (.int i)) ∧ ((xm k).2.2.2.2.1 = some .long → ∃ i, v = some (.long i))
def ppP (m : Nat) (o : Option xN) : Prop := ∀ y, o = some y → match y with
  | .inl r => x_rv m r.1
  | .inr (.inl g) => g.2.1 = m
  | .inr (.inr (_, k)) => ∀ r : xE, (k r).2.1 = m
section
variable {m : Nat}
theorem pp_none : ppP m none := fun _ q => by cases q
theorem pp_go {h1 : xH} {d pc : Nat} {ls st : List Value} : ppP m (x_go d m pc ls st h1) := fun y e => by cases e; exact rfl
theorem pp_call {h : xH} {d pc k : Nat} {ls as st : List Value} : ppP m (x_call d m pc ls k as st h) := by
  unfold x_call
  split
  · exact pp_none
  · split
    · intro y e
      cases e
      exact fun r => rfl
    · exact pp_none
theorem pp_ln {a b : Nat} {o : Option xN} (hk : ppP m o) : ppP m (x_ln a b o) := by
  unfold x_ln
  split
  · exact hk
  · exact pp_none
theorem pp_i1 {st : List Value} {f : Int32 → List Value → Option xN} (hk : ∀ a0 a1, ppP m (f a0 a1)) : ppP m (x_i1 st f) := by
  unfold x_i1
  split
  · exact hk _ _
  · exact pp_none
theorem pp_i2 {st : List Value} {f : Int32 → Int32 → List Value → Option xN} (hk : ∀ a0 a1 a2, ppP m (f a0 a1 a2)) : ppP m (x_i2 st f) := by
  unfold x_i2
  split
  · exact hk _ _ _
  · exact pp_none
theorem pp_l1 {st : List Value} {f : Int64 → List Value → Option xN} (hk : ∀ a0 a1, ppP m (f a0 a1)) : ppP m (x_l1 st f) := by
  unfold x_l1
  split
  · exact hk _ _
  · exact pp_none
theorem pp_l2 {st : List Value} {f : Int64 → Int64 → List Value → Option xN} (hk : ∀ a0 a1 a2, ppP m (f a0 a1 a2)) : ppP m (x_l2 st f) := by
  unfold x_l2
  split
  · exact hk _ _ _
  · exact pp_none
theorem pp_li {st : List Value} {f : Int64 → Int32 → List Value → Option xN} (hk : ∀ a0 a1 a2, ppP m (f a0 a1 a2)) : ppP m (x_li st f) := by
  unfold x_li
  split
  · exact hk _ _ _
  · exact pp_none
theorem pp_r1 {st : List Value} {f : Nat → List Value → Option xN} (hk : ∀ a0 a1, ppP m (f a0 a1)) : ppP m (x_r1 st f) := by
  unfold x_r1
  split
  · exact hk _ _
  · exact pp_none
theorem pp_ir {st : List Value} {f : Int32 → Nat → List Value → Option xN} (hk : ∀ a0 a1 a2, ppP m (f a0 a1 a2)) : ppP m (x_ir st f) := by
  unfold x_ir
  split
  · exact hk _ _ _
  · exact pp_none
theorem pp_iir {st : List Value} {f : Int32 → Int32 → Nat → List Value → Option xN} (hk : ∀ a0 a1 a2 a3, ppP m (f a0 a1 a2 a3)) : ppP m (x_iir st f) := by
  unfold x_iir
  split
  · exact hk _ _ _ _
  · exact pp_none
theorem pp_rir {st : List Value} {f : Nat → Int32 → Nat → List Value → Option xN} (hk : ∀ a0 a1 a2 a3, ppP m (f a0 a1 a2 a3)) : ppP m (x_rir st f) := by
  unfold x_rir
  split
  · exact hk _ _ _ _
  · exact pp_none
theorem pp_v1 {st : List Value} {f : Value → List Value → Option xN} (hk : ∀ a0 a1, ppP m (f a0 a1)) : ppP m (x_v1 st f) := by
  unfold x_v1
  split
  · exact hk _ _
  · exact pp_none
theorem pp_to {pc : Nat} {off : Int} {f : Nat → Option xN} (hk : ∀ t, ppP m (f t)) : ppP m (x_to pc off f) := by
  unfold x_to
  split
  · exact hk _
  · exact pp_none
theorem pp_if {q : Prop} [Decidable q] {o1 o2 : Option xN} (h1 : ppP m o1) (h2 : ppP m o2) : ppP m (if q then o1 else o2) := by
  split
  · exact h1
  · exact h2
theorem pp_bind {α : Type} {o : Option α} {f : α → Option xN} (hk : ∀ v, o = some v → ppP m (f v)) : ppP m (o.bind f) := by
  cases o with
  | none => exact pp_none
  | some v => exact hk v rfl
theorem pp_di {h : xH} {i : Int32} (hk : (xm m).2.2.2.2.1 ≠ some .long) : ppP m (x_done (some (.int i)) h) := fun y e => by cases e; exact ⟨fun _ => ⟨_, rfl⟩, fun z => absurd z hk⟩
theorem pp_dl {h : xH} {i : Int64} (hk : (xm m).2.2.2.2.1 ≠ some .int) : ppP m (x_done (some (.long i)) h) := fun y e => by cases e; exact ⟨fun z => absurd z hk, fun _ => ⟨_, rfl⟩⟩
theorem pp_do {h : xH} {v : Option Value} (h1 : (xm m).2.2.2.2.1 ≠ some .int) (h2 : (xm m).2.2.2.2.1 ≠ some .long) : ppP m (x_done v h) := fun y e => by cases e; exact ⟨fun z => absurd z h1, fun z => absurd z h2⟩
end
set_option maxHeartbeats 4000000 in
theorem pp_I (d m pc : Nat) (ls st : List Value) (h : xH) (len : Nat) (i : Instr) : ppP m (x_I d m pc ls st h len i) := by
  cases i
  case if_icmp o off => cases o <;> unfold x_I <;> (repeat first | exact pp_none | exact pp_go | exact pp_call | apply pp_ln | (apply pp_i1; intro _ _) | (apply pp_i2; intro _ _ _) | (apply pp_l1; intro _ _) | (apply pp_l2; intro _ _ _) | (apply pp_li; intro _ _ _) | (apply pp_r1; intro _ _) | (apply pp_ir; intro _ _ _) | (apply pp_iir; intro _ _ _ _) | (apply pp_rir; intro _ _ _ _) | (apply pp_v1; intro _ _) | (apply pp_to; intro _) | (apply pp_bind; intro _ _) | apply pp_if | split)
  case ifCond o off => cases o <;> unfold x_I <;> (repeat first | exact pp_none | exact pp_go | exact pp_call | apply pp_ln | (apply pp_i1; intro _ _) | (apply pp_i2; intro _ _ _) | (apply pp_l1; intro _ _) | (apply pp_l2; intro _ _ _) | (apply pp_li; intro _ _ _) | (apply pp_r1; intro _ _) | (apply pp_ir; intro _ _ _) | (apply pp_iir; intro _ _ _ _) | (apply pp_rir; intro _ _ _ _) | (apply pp_v1; intro _ _) | (apply pp_to; intro _) | (apply pp_bind; intro _ _) | apply pp_if | split)
  case newarray t => cases t <;> unfold x_I <;> (repeat first | exact pp_none | exact pp_go | exact pp_call | apply pp_ln | (apply pp_i1; intro _ _) | (apply pp_i2; intro _ _ _) | (apply pp_l1; intro _ _) | (apply pp_l2; intro _ _ _) | (apply pp_li; intro _ _ _) | (apply pp_r1; intro _ _) | (apply pp_ir; intro _ _ _) | (apply pp_iir; intro _ _ _ _) | (apply pp_rir; intro _ _ _ _) | (apply pp_v1; intro _ _) | (apply pp_to; intro _) | (apply pp_bind; intro _ _) | apply pp_if | split)
  case ireturn =>
    unfold x_I
    apply pp_ln
    split
    · exact pp_di (by simp_all)
    · apply pp_if
      · exact pp_di (by simp_all)
      · exact pp_none
    · exact pp_none
  case lreturn =>
    unfold x_I
    apply pp_ln
    split
    · exact pp_dl (by simp_all)
    · exact pp_none
  case areturn =>
    unfold x_I
    apply pp_ln
    split
    · apply pp_if
      · exact pp_do (by simp_all) (by simp_all)
      · exact pp_none
    · exact pp_none
  case return_ =>
    unfold x_I
    apply pp_ln
    split
    · exact pp_do (by simp_all) (by simp_all)
    · exact pp_none
  all_goals unfold x_I
  all_goals (repeat first | exact pp_none | exact pp_go | exact pp_call | apply pp_ln | (apply pp_i1; intro _ _) | (apply pp_i2; intro _ _ _) | (apply pp_l1; intro _ _) | (apply pp_l2; intro _ _ _) | (apply pp_li; intro _ _ _) | (apply pp_r1; intro _ _) | (apply pp_ir; intro _ _ _) | (apply pp_iir; intro _ _ _ _) | (apply pp_rir; intro _ _ _ _) | (apply pp_v1; intro _ _) | (apply pp_to; intro _) | (apply pp_bind; intro _ _) | apply pp_if | split)
theorem pp_run : ∀ (n : Nat) (f : xF) (r : xE), x_run n f = some r → x_rv f.2.1 r.1 := by
  intro n
  induction n with
  | zero => intro f r e; cases e
  | succ n ih =>
    intro f r e
    rw [x_run] at e
    have key : ppP f.2.1 (x_nxt f) := by
      unfold x_nxt
      split
      · exact pp_I _ _ _ _ _ _ _ _
      · exact pp_none
    cases q : x_nxt f with
    | none => rw [q] at e; cases e
    | some y =>
      rw [q] at e
      have ky := key y q
      match y, e, ky with
      | .inl z, e, ky => cases e; exact ky
      | .inr (.inl g), e, ky =>
        have w := ih g r e
        rw [show g.2.1 = f.2.1 from ky] at w
        exact w
      | .inr (.inr (g, k)), e, ky =>
        obtain ⟨w, e1, e2⟩ := Option.bind_eq_some_iff.mp e
        have z := ih (k w) r e2
        rw [show (k w).2.1 = f.2.1 from ky w] at z
        exact z
theorem pp_cl {d k : Nat} {as : List Value} {h : xH} {r : xE} (e : x_cl d k as h = some r) : x_rv k r.1 := by
  obtain ⟨n, hn⟩ := x_ev_iff.mp e
  exact pp_run n _ r hn
theorem pp_int {d k : Nat} {as : List Value} {h h1 : xH} {v : Value} (e : x_cl d k as h = some (some v, h1)) (hr : (xm k).2.2.2.2.1 = some .int) : ∃ i, v = .int i := by
  obtain ⟨i, q⟩ := (pp_cl e).1 hr
  exact ⟨i, Option.some.inj q⟩
theorem pp_long {d k : Nat} {as : List Value} {h h1 : xH} {v : Value} (e : x_cl d k as h = some (some v, h1)) (hr : (xm k).2.2.2.2.1 = some .long) : ∃ i, v = .long i := by
  obtain ⟨i, q⟩ := (pp_cl e).2 hr
  exact ⟨i, Option.some.inj q⟩

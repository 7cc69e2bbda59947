/-! THE COMPONENT, NEW: its heap is of the component's shape -/
theorem cC_a {g : Nat → Int} {q K n : Nat} {f : Nat → Int32} (e : cC g q = .inl (K, n, .inl f)) : f = fun j => zI (g j) := by
  unfold cC at e
  repeat' split at e
  all_goals first
    | (unfold hC at e; split at e <;> first | (unfold aC at e; cases e; rfl) | (unfold fC at e; cases e) | (cases e))
    | (unfold sC at e; split at e <;> first | (unfold aC at e; cases e; rfl) | (unfold fC at e; cases e) | (cases e))
    | (unfold aC at e; cases e; rfl)
    | (cases e)
theorem cC_f {g : Nat → Int} {q K n : Nat} {f : Nat → Option Nat} (e : cC g q = .inl (K, n, .inr (.inr (.inr (.inr f))))) : ∀ j, n ≤ j → f j = none := by
  unfold cC at e
  repeat' split at e
  all_goals first
    | (unfold hC at e; split at e <;> first | (unfold aC at e; cases e; done) | (unfold fC at e; cases e; intro j hj; exact if_neg (by omega)) | (cases e; done))
    | (unfold sC at e; split at e <;> first | (unfold aC at e; cases e; done) | (unfold fC at e; cases e; intro j hj; exact if_neg (by omega)) | (cases e; done))
    | (unfold aC at e; cases e; done)
    | (cases e; done)
theorem ck_s {H : xH} {q : Nat} (hk : okH H) (hc : ckF (H.2.2 q) q (xG H q) = true) : H.2.2 q = cC (xG H q) q := by
  cases h1 : H.2.2 q with
  | inr c =>
    obtain ⟨ci, fs⟩ := c
    rw [h1] at hc
    cases h2 : cC (xG H q) q with
    | inr c' =>
      obtain ⟨ci', fs'⟩ := c'
      unfold ckF at hc
      rw [h2] at hc
      have := of_decide_eq_true hc
      rw [this.1, this.2]
    | inl c' =>
      unfold ckF at hc
      rw [h2] at hc
      cases hc
  | inl c =>
    obtain ⟨K, n, F⟩ := c
    rw [h1] at hc
    cases h2 : cC (xG H q) q with
    | inr c' =>
      unfold ckF at hc
      rw [h2] at hc
      rcases F with F | F | F | F | F <;> cases hc
    | inl c' =>
      obtain ⟨K', n', F'⟩ := c'
      unfold ckF at hc
      rw [h2] at hc
      rcases F with F | F | F | F | F
      · rcases F' with F' | F' | F' | F' | F'
        · have := of_decide_eq_true hc
          have e := cC_a h2
          rw [this.1, this.2, e]
          congr 4
          funext j
          have : xG H q j = (F j).toInt := by unfold xG; rw [h1]
          rw [this]
          exact zI_of _
        all_goals cases hc
      · rcases F' with F' | F' | F' | F' | F' <;> cases hc
      · rcases F' with F' | F' | F' | F' | F' <;> cases hc
      · rcases F' with F' | F' | F' | F' | F' <;> cases hc
      · rcases F' with F' | F' | F' | F' | F'
        · cases hc
        · cases hc
        · cases hc
        · cases hc
        · rw [Bool.and_eq_true] at hc
          have k1 := of_decide_eq_true hc.1
          have k2 := List.all_eq_true.mp hc.2
          obtain ⟨rfl, rfl⟩ := k1
          have o1 := hk q K n F h1
          have o2 := cC_f h2
          congr 7
          funext j
          by_cases z : j < n
          · exact of_decide_eq_true (k2 j (List.mem_range.mpr z))
          · rw [o1 j (by omega), o2 j (by omega)]
theorem x_ok0 : okH x_n7 := ok_push (fun q K n f e => by cases e) fun K n f e => by cases e
theorem x_r7e : ∃ r, x_r7 = some r ∧ r.1 = none ∧ r.2.1 = 91 ∧ x_h7 = r.2 := by
  have t := x_t7
  unfold x_h7
  cases e : x_r7 with
  | none => rw [e] at t; cases t
  | some r =>
    rw [e] at t
    have t' : (r.1, r.2.1) = (none, 91) := Option.some.inj t
    exact ⟨r, rfl, (Prod.mk.inj t').1, (Prod.mk.inj t').2, rfl⟩
/-- the component's constructor -/
theorem k_new7 : x_cl 20 n_X7_init [.ref 0] x_n7 = some (none, x_h7) := by
  obtain ⟨r, e1, e2, e3, e4⟩ := x_r7e
  rw [e_X7_init, x_ev_iff.mpr ⟨2000, e1⟩, e4]
  obtain ⟨r1, r2⟩ := r
  have : r1 = none := e2
  rw [this]
theorem x_h7n : x_h7.1 = 91 := by
  obtain ⟨r, e1, e2, e3, e4⟩ := x_r7e
  rw [e4]
  exact e3
theorem x_h7k : okH x_h7 := by
  obtain ⟨r, e1, e2, e3, e4⟩ := x_r7e
  rw [e4]
  exact ih_run 2000 _ r e1 x_ok0
theorem cH_of {H : xH} (hc : ∀ q, q < 91 → H.2.2 q = cC (xG H q) q) : H = cH H (xG H) := by
  refine x_H_ext rfl rfl fun q => ?_
  show H.2.2 q = (if q < 91 then cC (xG H q) q else H.2.2 q)
  by_cases z : q < 91
  · rw [if_pos z]
    exact hc q z
  · rw [if_neg z]
theorem x_h7c : x_h7 = cH x_h7 (xG x_h7) := cH_of fun q z => ck_s x_h7k (List.all_eq_true.mp x_c7 q (List.mem_range.mpr z))

/-! THE SOUNDNESS of the function: x_sound, x_met (printed by wip/whole/gen20.py) -/
def x_sm (d k : Nat) (o : Option xN) : Prop := ∀ g, o = some (.inr (.inl g)) → g.1 = d ∧ g.2.1 = k
theorem x_sm_none {d k : Nat} : x_sm d k none := fun _ q => by cases q
theorem x_sm_go {h1 : xH} {d m pc : Nat} {ls st : List Value} : x_sm d m (x_go d m pc ls st h1) := fun y e => by cases e; exact ⟨rfl, rfl⟩
theorem x_sm_done {h : xH} {v : Option Value} {d k : Nat} : x_sm d k (x_done v h) := fun y e => by cases e
theorem x_sm_call {h : xH} {d m pc k d1 k1 : Nat} {ls as st : List Value} : x_sm d1 k1 (x_call d m pc ls k as st h) := fun y e => (x_call_not e).elim
theorem x_sm_ln {d k : Nat} {a b : Nat} {o : Option xN} (h : x_sm d k o) : x_sm d k (x_ln a b o) := by
  unfold x_ln
  by_cases q : a = b
  · rw [if_pos q]; exact h
  · rw [if_neg q]; exact x_sm_none
theorem x_sm_i1 {d k : Nat} {st : List Value} {f : Int32 → List Value → Option xN} (h : ∀ a0 a1, x_sm d k (f a0 a1)) : x_sm d k (x_i1 st f) := by
  unfold x_i1
  split
  · exact h _ _
  · exact x_sm_none
theorem x_sm_i2 {d k : Nat} {st : List Value} {f : Int32 → Int32 → List Value → Option xN} (h : ∀ a0 a1 a2, x_sm d k (f a0 a1 a2)) : x_sm d k (x_i2 st f) := by
  unfold x_i2
  split
  · exact h _ _ _
  · exact x_sm_none
theorem x_sm_l1 {d k : Nat} {st : List Value} {f : Int64 → List Value → Option xN} (h : ∀ a0 a1, x_sm d k (f a0 a1)) : x_sm d k (x_l1 st f) := by
  unfold x_l1
  split
  · exact h _ _
  · exact x_sm_none
theorem x_sm_l2 {d k : Nat} {st : List Value} {f : Int64 → Int64 → List Value → Option xN} (h : ∀ a0 a1 a2, x_sm d k (f a0 a1 a2)) : x_sm d k (x_l2 st f) := by
  unfold x_l2
  split
  · exact h _ _ _
  · exact x_sm_none
theorem x_sm_li {d k : Nat} {st : List Value} {f : Int64 → Int32 → List Value → Option xN} (h : ∀ a0 a1 a2, x_sm d k (f a0 a1 a2)) : x_sm d k (x_li st f) := by
  unfold x_li
  split
  · exact h _ _ _
  · exact x_sm_none
theorem x_sm_r1 {d k : Nat} {st : List Value} {f : Nat → List Value → Option xN} (h : ∀ a0 a1, x_sm d k (f a0 a1)) : x_sm d k (x_r1 st f) := by
  unfold x_r1
  split
  · exact h _ _
  · exact x_sm_none
theorem x_sm_ir {d k : Nat} {st : List Value} {f : Int32 → Nat → List Value → Option xN} (h : ∀ a0 a1 a2, x_sm d k (f a0 a1 a2)) : x_sm d k (x_ir st f) := by
  unfold x_ir
  split
  · exact h _ _ _
  · exact x_sm_none
theorem x_sm_iir {d k : Nat} {st : List Value} {f : Int32 → Int32 → Nat → List Value → Option xN} (h : ∀ a0 a1 a2 a3, x_sm d k (f a0 a1 a2 a3)) : x_sm d k (x_iir st f) := by
  unfold x_iir
  split
  · exact h _ _ _ _
  · exact x_sm_none
theorem x_sm_rir {d k : Nat} {st : List Value} {f : Nat → Int32 → Nat → List Value → Option xN} (h : ∀ a0 a1 a2 a3, x_sm d k (f a0 a1 a2 a3)) : x_sm d k (x_rir st f) := by
  unfold x_rir
  split
  · exact h _ _ _ _
  · exact x_sm_none
theorem x_sm_v1 {d k : Nat} {st : List Value} {f : Value → List Value → Option xN} (h : ∀ a0 a1, x_sm d k (f a0 a1)) : x_sm d k (x_v1 st f) := by
  unfold x_v1
  split
  · exact h _ _
  · exact x_sm_none
theorem x_sm_to {d k : Nat} {pc : Nat} {off : Int} {f : Nat → Option xN} (h : ∀ t, x_sm d k (f t)) : x_sm d k (x_to pc off f) := by
  unfold x_to
  split
  · exact h _
  · exact x_sm_none
theorem x_sm_bind {d k : Nat} {α : Type} {o : Option α} {f : α → Option xN} (h : ∀ v, o = some v → x_sm d k (f v)) : x_sm d k (o.bind f) := by
  cases o with
  | none => exact x_sm_none
  | some v => exact h v rfl
theorem x_sm_if {d k : Nat} {q : Prop} [Decidable q] {o1 o2 : Option xN} (h1 : x_sm d k o1) (h2 : x_sm d k o2) : x_sm d k (if q then o1 else o2) := by
  by_cases z : q
  · rw [if_pos z]; exact h1
  · rw [if_neg z]; exact h2
set_option maxHeartbeats 4000000 in
theorem x_I_sm (d m pc : Nat) (ls st : List Value) (h : xH) (len : Nat) (i : Instr) : x_sm d m (x_I d m pc ls st h len i) := by
  cases i
  case if_icmp o off => cases o <;> unfold x_I <;> (repeat first | exact x_sm_none | exact x_sm_go | exact x_sm_done | exact x_sm_call | apply x_sm_ln | (apply x_sm_i1; intro _ _) | (apply x_sm_i2; intro _ _ _) | (apply x_sm_l1; intro _ _) | (apply x_sm_l2; intro _ _ _) | (apply x_sm_li; intro _ _ _) | (apply x_sm_r1; intro _ _) | (apply x_sm_ir; intro _ _ _) | (apply x_sm_iir; intro _ _ _ _) | (apply x_sm_rir; intro _ _ _ _) | (apply x_sm_v1; intro _ _) | (apply x_sm_to; intro _) | (apply x_sm_bind; intro _ _) | apply x_sm_if | split)
  case ifCond o off => cases o <;> unfold x_I <;> (repeat first | exact x_sm_none | exact x_sm_go | exact x_sm_done | exact x_sm_call | apply x_sm_ln | (apply x_sm_i1; intro _ _) | (apply x_sm_i2; intro _ _ _) | (apply x_sm_l1; intro _ _) | (apply x_sm_l2; intro _ _ _) | (apply x_sm_li; intro _ _ _) | (apply x_sm_r1; intro _ _) | (apply x_sm_ir; intro _ _ _) | (apply x_sm_iir; intro _ _ _ _) | (apply x_sm_rir; intro _ _ _ _) | (apply x_sm_v1; intro _ _) | (apply x_sm_to; intro _) | (apply x_sm_bind; intro _ _) | apply x_sm_if | split)
  case newarray t => cases t <;> unfold x_I <;> (repeat first | exact x_sm_none | exact x_sm_go | exact x_sm_done | exact x_sm_call | apply x_sm_ln | (apply x_sm_i1; intro _ _) | (apply x_sm_i2; intro _ _ _) | (apply x_sm_l1; intro _ _) | (apply x_sm_l2; intro _ _ _) | (apply x_sm_li; intro _ _ _) | (apply x_sm_r1; intro _ _) | (apply x_sm_ir; intro _ _ _) | (apply x_sm_iir; intro _ _ _ _) | (apply x_sm_rir; intro _ _ _ _) | (apply x_sm_v1; intro _ _) | (apply x_sm_to; intro _) | (apply x_sm_bind; intro _ _) | apply x_sm_if | split)
  all_goals unfold x_I
  all_goals (repeat first | exact x_sm_none | exact x_sm_go | exact x_sm_done | exact x_sm_call | apply x_sm_ln | (apply x_sm_i1; intro _ _) | (apply x_sm_i2; intro _ _ _) | (apply x_sm_l1; intro _ _) | (apply x_sm_l2; intro _ _ _) | (apply x_sm_li; intro _ _ _) | (apply x_sm_r1; intro _ _) | (apply x_sm_ir; intro _ _ _) | (apply x_sm_iir; intro _ _ _ _) | (apply x_sm_rir; intro _ _ _ _) | (apply x_sm_v1; intro _ _) | (apply x_sm_to; intro _) | (apply x_sm_bind; intro _ _) | apply x_sm_if | split)
theorem x_nxt_sm {f g : xF} (h : x_nxt f = some (.inr (.inl g))) : g.1 = f.1 ∧ g.2.1 = f.2.1 := by
  unfold x_nxt at h
  split at h
  · exact x_I_sm _ _ _ _ _ _ _ _ g h
  · cases h
theorem x_sl_cons (v : Value) (vs : List Value) : x_sl (v :: vs) = (if v.category = 2 then [v, .null] else [v]) ++ x_sl vs := by
  simp [x_sl]
theorem x_lg_cons (v : Value) (vs : List Value) : lg_sl (v :: vs) = (if v.category = 2 then [.val v, .second] else [.val v]) ++ lg_sl vs := by
  simp [lg_sl]
theorem x_sl_lg (b : Nat) (ad : Nat → Nat) (vs : List Value) : (lg_sl (vs.map (x_tr b ad))).length = (x_sl vs).length := by
  induction vs with
  | nil => rfl
  | cons v vs ih =>
    rw [List.map_cons, x_sl_cons, x_lg_cons, List.length_append, List.length_append, ih, x_tr_cat]
    by_cases q : v.category = 2
    · rw [if_pos q, if_pos q]; rfl
    · rw [if_neg q, if_neg q]; rfl
theorem x_sl_at (b : Nat) (ad : Nat → Nat) (vs : List Value) : ∀ (i : Nat) (v : Value), (x_sl vs)[i]? = some v → v ≠ .null → (lg_sl (vs.map (x_tr b ad)))[i]? = some (.val (x_tr b ad v)) := by
  induction vs with
  | nil => intro i v h; simp [x_sl] at h
  | cons w vs ih =>
    intro i v h hv
    rw [List.map_cons, x_lg_cons, x_tr_cat]
    rw [x_sl_cons] at h
    by_cases q : w.category = 2
    · rw [if_pos q] at h ⊢
      match i, h with
      | 0, h => cases h; rfl
      | 1, h => cases h; exact absurd rfl hv
      | i + 2, h => exact ih i v h hv
    · rw [if_neg q] at h ⊢
      match i, h with
      | 0, h => cases h; rfl
      | i + 1, h => exact ih i v h hv
theorem x_ent_len {n : Nat} {as : List Value} (h : (x_sl as).length ≤ n) : (x_ent n as).length = n := by
  unfold x_ent
  rw [List.length_append, List.length_replicate]
  omega
theorem x_entry (b : Nat) (ad : Nat → Nat) {n : Nat} {as : List Value} (h : (x_sl as).length ≤ n) : lv_has ((lg_sl (as.map (x_tr b ad)) ++ List.replicate (n - (lg_sl (as.map (x_tr b ad))).length) Slot.unset).toArray) n (x_lv b ad (x_ent n as)) := by
  have h0 := lv_entry (as.map (x_tr b ad)) (n := n) (by rw [x_sl_lg]; exact h)
  refine ⟨h0.1, h0.2.1, fun q hq => ?_⟩
  obtain ⟨i, w⟩ := q
  obtain ⟨v, h1, h2, h3⟩ := x_lv_mem.mp hq
  subst h3
  unfold x_ent at h1
  by_cases hi : i < (x_sl as).length
  · rw [List.getElem?_append_left hi] at h1
    have h4 := x_sl_at b ad as i v h1 h2
    rw [List.getElem?_toArray, List.getElem?_append_left (by rw [x_sl_lg]; exact hi)]
    exact h4
  · rw [List.getElem?_append_right (Nat.not_lt.mp hi), List.getElem?_replicate] at h1
    obtain ⟨-, h1⟩ := x_if_some h1
    cases h1
    exact absurd rfl h2
def x_snd (l : Launch) (b : Nat) (ad : Nat → Nat) (cy : Nat → ClassId) (D : va_G) (n : Nat) : Prop := ∀ (f : xF) (r : xE), x_run n f = some r → ∀ (p : Program) (e : Env) (R : Room) (s : State) (m : MethodId) (args : Array Value) (below : List Frame) (meth : Method) (c : Code) (n0 k0 : Nat),
  x_Ctx b ad cy D p R s m args meth c f.1 f.2.1 n0 → R.cells = r.2.1 - n0 → R.slots = r.2.2.1 - k0 → x_Wk b ad cy D p l e R s m args below meth c (MQ below (x_Q b ad cy D r) args s (r.2.1 - n0) (r.2.2.1 - k0) (x_A b)) f.2.1 n0 k0 f.2.2.1 f.2.2.2.1 f.2.2.2.2.1 f.2.2.2.2.2
theorem x_met_of {l : Launch} {b : Nat} {ad : Nat → Nat} {cy : Nat → ClassId} {D : va_G} {n d k : Nat} {as : List Value} {h : xH} {r : xE} (ih : x_snd l b ad cy D n) (hk : k < 176) (ha : (x_sl as).length ≤ (xm k).2.2.2.1) (hr : x_run n (d, k, 0, x_ent (xm k).2.2.2.1 as, [], h) = some r) : x_Met l b ad cy D d k as h r := by
  obtain ⟨⟨h1, h2, h3, h4⟩, h5, h6, h7⟩ := (x_mu k hk).1
  refine Met.ofW (cc := (xm k).2.2.1) (maxL := (xm k).2.2.2.1) (ret := (xm k).2.2.2.2.1) h3 rfl ?_
  intro p e s m args below meth c s₁ B hml hv
  obtain ⟨rfl, hsz, hP, hK, hT⟩ := hv
  have hts := atoms_spec (ws := x_ws k) B.pre
  have hown : s.vm.findClass (xm k).2.1.cls = some m.cls := findClass_of_methodNamed B.named
  rw [h4] at hown
  have hnm : meth.name = (xm k).2.1.name := (name_of_methodNamed B.named B.method).1
  have q := ih _ r hr p e (x_rm d (r.2.1 - h.1) (r.2.2.1 - h.2.1)) s m (as.map (x_tr b ad)).toArray below meth c h.1 h.2.1
    ⟨B.exec, B.bytes, B.returns, B.notSynchronized, hml, hown, fun w hw => hts w (List.mem_cons_of_mem _ hw), fun z => hnm.trans z, hK, hT, hsz, Nat.le_refl _, Nat.le_refl _, hk⟩ rfl rfl
    s.heap [] _ (x_entry b ad ha) (x_ent_len ha) hP va_S.rf (Nat.le_refl _) (Nat.le_refl _)
  rw [Nat.sub_self, Nat.sub_self] at q
  rw [lg_entry_eq]
  exact q
set_option maxHeartbeats 4000000 in
theorem x_sound (l : Launch) (b : Nat) (ad : Nat → Nat) (cy : Nat → ClassId) (D : va_G) : ∀ n, x_snd l b ad cy D n := by
  intro n
  induction n with
  | zero => intro f r h; cases h
  | succ n ih =>
    intro f r h p e R s m args below meth c n0 k0 C hRc hRs
    have hle := x_run_le2 (n + 1) f r h
    rw [x_run] at h
    obtain ⟨d, k, pc, ls, st, hp⟩ := f
    cases q : x_nxt (d, k, pc, ls, st, hp) with
    | none => rw [q] at h; cases h
    | some y =>
      rw [q] at h
      match y, h, q with
      | .inl z, h, q => cases h; exact x_end C q
      | .inr (.inl g), h, q =>
        have g1 := x_nxt_sm q
        have g2 := x_run_le2 n g r h
        obtain ⟨dg, kg, pg, lg, sg, hg⟩ := g
        obtain ⟨e1, e2⟩ := g1
        change dg = d at e1
        change kg = k at e2
        subst e1
        subst e2
        have h1 : hg.1 ≤ r.2.1 := g2.1
        have h2 : hg.2.1 ≤ r.2.2.1 := g2.2
        exact (x_step C q (by show hg.1 - n0 ≤ R.cells; omega) (by show hg.2.1 - k0 ≤ R.slots; omega) (ih _ r h p e R s m args below meth c n0 k0 C hRc hRs)).2.2
      | .inr (.inr z), h, q =>
        obtain ⟨w, h1, h2⟩ := x_bind_some h
        obtain ⟨d', k2, as, st2, e1, hk2, ha, hz, step⟩ := x_callstep (l := l) (e := e) (below := below) (k0' := k0) (Q := MQ below (x_Q b ad cy D r) args s (r.2.1 - n0) (r.2.2.1 - k0) (x_A b)) C q
        subst hz
        subst e1
        have g1 := x_run_le2 n _ w h1
        have g2 := x_run_le2 n _ r h2
        have g3 : w.2.1 ≤ r.2.1 := g2.1
        have g4 : w.2.2.1 ≤ r.2.2.1 := g2.2
        exact step w g1 (by omega) (by omega) (x_met_of ih hk2 ha h1) (ih _ r h2 p e R s m args below meth c n0 k0 C hRc hRs)
/-- what a call of the function answers, the machine's method answers -/
theorem x_met {l : Launch} {b : Nat} {ad : Nat → Nat} {cy : Nat → ClassId} {D : va_G} {d k : Nat} {as : List Value} {h : xH} {r : xE} (hk : k < 176) (ha : (x_sl as).length ≤ (xm k).2.2.2.1) (hr : x_cl d k as h = some r) : x_Met l b ad cy D d k as h r := by
  obtain ⟨n, hn⟩ := x_ev_iff.mp hr
  exact x_met_of (x_sound l b ad cy D n) hk ha hn

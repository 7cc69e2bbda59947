def x_nc (o : Option xN) : Prop := ∀ r, o ≠ some (.inr (.inr r))
theorem x_nc_none : x_nc none := fun _ q => by cases q
theorem x_nc_go {h1 : xH} {d m pc : Nat} {ls st : List Value} : x_nc (x_go d m pc ls st h1) := fun y e => by cases e
theorem x_nc_done {h : xH} {v : Option Value} : x_nc (x_done v h) := fun y e => by cases e
theorem x_nc_ln {a b : Nat} {o : Option xN} (h : x_nc o) : x_nc (x_ln a b o) := by
  unfold x_ln
  by_cases q : a = b
  · rw [if_pos q]; exact h
  · rw [if_neg q]; exact x_nc_none
theorem x_nc_i1 {st : List Value} {f : Int32 → List Value → Option xN} (h : ∀ a0 a1, x_nc (f a0 a1)) : x_nc (x_i1 st f) := by
  unfold x_i1
  split
  · exact h _ _
  · exact x_nc_none
theorem x_nc_i2 {st : List Value} {f : Int32 → Int32 → List Value → Option xN} (h : ∀ a0 a1 a2, x_nc (f a0 a1 a2)) : x_nc (x_i2 st f) := by
  unfold x_i2
  split
  · exact h _ _ _
  · exact x_nc_none
theorem x_nc_l1 {st : List Value} {f : Int64 → List Value → Option xN} (h : ∀ a0 a1, x_nc (f a0 a1)) : x_nc (x_l1 st f) := by
  unfold x_l1
  split
  · exact h _ _
  · exact x_nc_none
theorem x_nc_l2 {st : List Value} {f : Int64 → Int64 → List Value → Option xN} (h : ∀ a0 a1 a2, x_nc (f a0 a1 a2)) : x_nc (x_l2 st f) := by
  unfold x_l2
  split
  · exact h _ _ _
  · exact x_nc_none
theorem x_nc_li {st : List Value} {f : Int64 → Int32 → List Value → Option xN} (h : ∀ a0 a1 a2, x_nc (f a0 a1 a2)) : x_nc (x_li st f) := by
  unfold x_li
  split
  · exact h _ _ _
  · exact x_nc_none
theorem x_nc_r1 {st : List Value} {f : Nat → List Value → Option xN} (h : ∀ a0 a1, x_nc (f a0 a1)) : x_nc (x_r1 st f) := by
  unfold x_r1
  split
  · exact h _ _
  · exact x_nc_none
theorem x_nc_ir {st : List Value} {f : Int32 → Nat → List Value → Option xN} (h : ∀ a0 a1 a2, x_nc (f a0 a1 a2)) : x_nc (x_ir st f) := by
  unfold x_ir
  split
  · exact h _ _ _
  · exact x_nc_none
theorem x_nc_iir {st : List Value} {f : Int32 → Int32 → Nat → List Value → Option xN} (h : ∀ a0 a1 a2 a3, x_nc (f a0 a1 a2 a3)) : x_nc (x_iir st f) := by
  unfold x_iir
  split
  · exact h _ _ _ _
  · exact x_nc_none
theorem x_nc_rir {st : List Value} {f : Nat → Int32 → Nat → List Value → Option xN} (h : ∀ a0 a1 a2 a3, x_nc (f a0 a1 a2 a3)) : x_nc (x_rir st f) := by
  unfold x_rir
  split
  · exact h _ _ _ _
  · exact x_nc_none
theorem x_nc_v1 {st : List Value} {f : Value → List Value → Option xN} (h : ∀ a0 a1, x_nc (f a0 a1)) : x_nc (x_v1 st f) := by
  unfold x_v1
  split
  · exact h _ _
  · exact x_nc_none
theorem x_nc_to {pc : Nat} {off : Int} {f : Nat → Option xN} (h : ∀ t, x_nc (f t)) : x_nc (x_to pc off f) := by
  unfold x_to
  split
  · exact h _
  · exact x_nc_none
theorem x_nc_bind {α : Type} {o : Option α} {f : α → Option xN} (h : ∀ v, o = some v → x_nc (f v)) : x_nc (o.bind f) := by
  cases o with
  | none => exact x_nc_none
  | some v => exact h v rfl
theorem x_nc_if {q : Prop} [Decidable q] {o1 o2 : Option xN} (h1 : x_nc o1) (h2 : x_nc o2) : x_nc (if q then o1 else o2) := by
  by_cases z : q
  · rw [if_pos z]; exact h1
  · rw [if_neg z]; exact h2
section
variable {b : Nat} {ad : Nat → Nat} {cy : Nat → ClassId} {D : va_G}
variable {p : Program} {l : Launch} {e : Env} {R : Room} {s : State} {m : MethodId} {args : Array Value} {below : List Frame} {meth : Method} {c : Code} {Q : State → Prop}
set_option maxHeartbeats 4000000 in
/-- a call: the callee's contract, and what comes behind it -/
theorem x_callstep {d k n0 k0' pc : Nat} {ls st : List Value} {h : xH} {z : xF × (xE → xF)} (C : x_Ctx b ad cy D p R s m args meth c d k n0) (hn : x_nxt (d, k, pc, ls, st, h) = some (.inr (.inr z))) :
    ∃ (d' k2 : Nat) (as st2 : List Value), d = d' + 1 ∧ k2 < 176 ∧ (x_sl as).length ≤ (xm k2).2.2.2.1 ∧ z = ((d', k2, 0, x_ent (xm k2).2.2.2.1 as, [], h), fun r => (d' + 1, k, pc + 3, ls, r.1.toList ++ st2, r.2)) ∧
      ∀ q : xE, x_le h q.2 → q.2.1 - n0 ≤ R.cells → q.2.2.1 - k0' ≤ R.slots → x_Met l b ad cy D d' k2 as h q → x_Wk b ad cy D p l e R s m args below meth c Q k n0 k0' (pc + 3) ls (q.1.toList ++ st2) q.2 → x_Wk b ad cy D p l e R s m args below meth c Q k n0 k0' pc ls st h := by
  obtain ⟨hx, hb, hr, hlk, hml, hown, hts, hin, hK, hT, hs, hRf, hRl, hk⟩ := C
  obtain ⟨⟨hq1, hq2, hq3, hq4⟩, ⟨hq5, hq6, hq7⟩, hq8, hq9⟩ := (x_mu k hk).1
  unfold x_nxt at hn
  split at hn
  case h_2 => cases hn
  rename_i i len hd
  change decode (xm k).2.2.1 pc = .ok (i, len) at hd
  change x_I d k pc ls st h len i = some (.inr (.inr z)) at hn
  have back : ∀ {q : xE} {st2 : List Value} {H1 : Heap} {locs1 : List Loc} {L : Array Slot}, x_le h q.2 → n0 ≤ h.1 → k0' ≤ h.2.1 → lv_has L (xm k).2.2.2.1 (x_lv b ad ls) → ls.length = (xm k).2.2.2.1 → x_Wk b ad cy D p l e R s m args below meth c Q k n0 k0' (pc + 3) ls (q.1.toList ++ st2) q.2 → va_P D vwCl (x_W b ad cy q.2) H1 → va_S (x_A b) s.heap H1 locs1 →
      W p l e R s m args below meth c H1 locs1 (h.1 - n0 + (q.2.1 - h.1)) (h.2.1 - k0' + (q.2.2.1 - h.2.1)) Q (F0 m (pc + 3) L ((q.1.map (x_tr b ad)).toList ++ st2.map (x_tr b ad))) := by
    intro q st2 H1 locs1 L hle h0 k0 hl hlen kk hP1 hS1
    have h1 := hle.1
    have h2 := hle.2
    have e1 : h.1 - n0 + (q.2.1 - h.1) = q.2.1 - n0 := by omega
    have e2 : h.2.1 - k0' + (q.2.2.1 - h.2.1) = q.2.2.1 - k0' := by omega
    rw [e1, e2]
    have h3 := kk H1 locs1 L hl hlen hP1 hS1 (by omega) (by omega)
    rw [List.map_append] at h3
    have e3 : (q.1.toList).map (x_tr b ad) = (q.1.map (x_tr b ad)).toList := by cases q.1 <;> rfl
    rw [e3] at h3
    exact h3
  cases i
  case invokestatic i =>
    replace hn := x_ln_some hn
    obtain ⟨e1, hn⟩ := hn
    subst e1
    replace hn := x_bind_some hn
    obtain ⟨q, hq, hn⟩ := hn
    have hlk1 := x_lo _ hq9 _ (x_find_mem hq)
    cases d with
    | zero => cases hn
    | succ d =>
      change (if q.1 ≤ 1 then _ else _) = _ at hn
      by_cases q1 : q.1 ≤ 1
      · rw [if_pos q1] at hn
        replace hn := x_if_some hn
        obtain ⟨hkind, hn⟩ := hn
        replace hn := x_bind_some hn
        obtain ⟨w, hw, hn⟩ := hn
        obtain ⟨d', hd', hc8, hcl, hz⟩ := x_call_some hn
        cases hd'
        obtain ⟨hst, hwl⟩ := x_pop_some hw
        obtain ⟨t1, k2⟩ := q
        have hk2 : k2 < 176 := by
          rcases (show t1 = 0 ∨ t1 = 1 by have : t1 ≤ 1 := q1; omega) with t0 | t0
          · subst t0; exact hlk1.1
          · subst t0; exact hlk1.1
        refine ⟨d, k2, w.1, w.2, rfl, hk2, hcl, hz, fun q hle hqc hqs hM kk H locs L hl hlen hP hS h0 k0 => ?_⟩
        refine x_size (fun hsz => ?_)
        have hpre := x_pre (as := w.1) hK hT hs hP hS h0 hsz
        have h1 := hle.1
        have h2 := hle.2
        rcases (show t1 = 0 ∨ t1 = 1 by have : t1 ≤ 1 := q1; omega) with t0 | t0
        · subst t0
          refine x_after (va_runS (As := w.1.map (x_tr b ad)) (rest := w.2.map (x_tr b ad)) ⟨hx, hb, hml, hown, hts⟩ hM ⟨x_cbP hk2 hts hlk1.2 hRf hRl, hts _ ((x_mu k2 hk2).2.1 hkind)⟩ hpre rfl (by rw [List.length_map]; exact hwl) hl.1 (by show st.map _ = _; rw [hst, x_arg]) (lv_room (by rw [x_tr_sum]; exact hc8)) hd ⟨by omega, by omega⟩) hS (fun H1 locs1 hP1 hS1 => back hle h0 k0 hl hlen kk hP1 hS1)
        · subst t0
          refine x_after (va_runSN (As := w.1.map (x_tr b ad)) (rest := w.2.map (x_tr b ad)) ⟨hx, hb, hml, hown, hts⟩ hM ⟨x_cbN hk2 hts hK hlk1.2 hRf hRl, hts _ ((x_mu k2 hk2).2.1 hkind), trivial⟩ hpre rfl (by rw [List.length_map]; exact hwl) hl.1 (by show st.map _ = _; rw [hst, x_arg]) (lv_room (by rw [x_tr_sum]; exact hc8)) hd ⟨by omega, by omega⟩) hS (fun H1 locs1 hP1 hS1 => back hle h0 k0 hl hlen kk hP1 hS1)
      · rw [if_neg q1] at hn
        exact absurd hn ((show x_nc _ by (repeat first | exact x_nc_none | exact x_nc_go | exact x_nc_done | apply x_nc_ln | (apply x_nc_i1; intro _ _) | (apply x_nc_i2; intro _ _ _) | (apply x_nc_l1; intro _ _) | (apply x_nc_l2; intro _ _ _) | (apply x_nc_li; intro _ _ _) | (apply x_nc_r1; intro _ _) | (apply x_nc_ir; intro _ _ _) | (apply x_nc_iir; intro _ _ _ _) | (apply x_nc_rir; intro _ _ _ _) | (apply x_nc_v1; intro _ _) | (apply x_nc_to; intro _) | (apply x_nc_bind; intro _ _) | apply x_nc_if | split)) z)
  case invokevirtual i =>
    replace hn := x_ln_some hn
    obtain ⟨e1, hn⟩ := hn
    subst e1
    replace hn := x_bind_some hn
    obtain ⟨q, hq, hn⟩ := hn
    have hlk1 := x_lo _ hq9 _ (x_find_mem hq)
    cases d with
    | zero => cases hn
    | succ d =>
      change (if q.1 = 0 then _ else _) = _ at hn
      by_cases q1 : q.1 = 0
      · rw [if_pos q1] at hn
        replace hn := x_if_some hn
        obtain ⟨hkind, hn⟩ := hn
        replace hn := x_bind_some hn
        obtain ⟨w, hw, hn⟩ := hn
        replace hn := x_r1_some hn
        obtain ⟨a, r, hwr, hn⟩ := hn
        replace hn := x_bind_some hn
        obtain ⟨fs, hfs, hn⟩ := hn
        obtain ⟨d', hd', hc8, hcl, hz⟩ := x_call_some hn
        cases hd'
        obtain ⟨hst, hwl⟩ := x_pop_some hw
        obtain ⟨t1, k2⟩ := q
        cases q1
        obtain ⟨hk2, hlk2⟩ := hlk1
        obtain ⟨hv1, hv2, hv3, hv4⟩ := (x_mu k2 hk2).2.2.1 hkind
        refine ⟨d, k2, .ref a :: w.1, r, rfl, hk2, hcl, hz, fun q hle hqc hqs hM kk H locs L hl hlen hP hS h0 k0 => ?_⟩
        refine x_size (fun hsz => ?_)
        have hpre := x_pre (as := .ref a :: w.1) hK hT hs hP hS h0 hsz
        have h1 := hle.1
        have h2 := hle.2
        obtain ⟨ha, hc⟩ := x_obj_some hfs
        have he : (x_W b ad cy h)[a]? = some (b + a, .inr ((xm k2).1, fs.map (x_tr b ad))) := by rw [x_W_at ha, hc]; rfl
        obtain ⟨cr, hcr, hcn⟩ : ∃ cr : vw_C, vwCl[(xm k2).1]? = some cr ∧ cr.1 = (xm k2).2.1.cls := by
          cases hc9 : vwCl[(xm k2).1]? with
          | none => rw [hc9] at hv4; cases hv4
          | some cr => rw [hc9] at hv4; exact ⟨cr, rfl, Option.some.inj hv4⟩
        have hrec := va_recv hK.1 hP hcr he
        rw [hcn] at hrec
        refine x_after (va_runV (As := w.1.map (x_tr b ad)) (rest := r.map (x_tr b ad)) (b := b + a) ⟨hx, hb, hml, hown, hts⟩ hM ⟨x_cbP hk2 hts hlk2 hRf hRl, hts _ hv1, hts _ hv2⟩ ⟨hpre.1, hrec, hpre.2⟩ rfl (by rw [List.length_map]; exact hwl) hl.1 (by show st.map _ = _; rw [hst, hwr, x_arg]; rfl) (lv_room (by rw [x_tr_sum]; exact hc8)) hd ⟨by omega, by omega⟩) hS (fun H1 locs1 hP1 hS1 => back hle h0 k0 hl hlen kk hP1 hS1)
      · rw [if_neg q1] at hn
        exact absurd hn ((show x_nc _ by (repeat first | exact x_nc_none | exact x_nc_go | exact x_nc_done | apply x_nc_ln | (apply x_nc_i1; intro _ _) | (apply x_nc_i2; intro _ _ _) | (apply x_nc_l1; intro _ _) | (apply x_nc_l2; intro _ _ _) | (apply x_nc_li; intro _ _ _) | (apply x_nc_r1; intro _ _) | (apply x_nc_ir; intro _ _ _) | (apply x_nc_iir; intro _ _ _ _) | (apply x_nc_rir; intro _ _ _ _) | (apply x_nc_v1; intro _ _) | (apply x_nc_to; intro _) | (apply x_nc_bind; intro _ _) | apply x_nc_if | split)) z)
  case invokespecial i =>
    replace hn := x_ln_some hn
    obtain ⟨e1, hn⟩ := hn
    subst e1
    replace hn := x_bind_some hn
    obtain ⟨q, hq, hn⟩ := hn
    have hlk1 := x_lo _ hq9 _ (x_find_mem hq)
    cases d with
    | zero => cases hn
    | succ d =>
      change (if q.1 ≤ 1 then _ else _) = _ at hn
      by_cases q1 : q.1 ≤ 1
      · rw [if_pos q1] at hn
        replace hn := x_if_some hn
        obtain ⟨hkind, hn⟩ := hn
        replace hn := x_bind_some hn
        obtain ⟨w, hw, hn⟩ := hn
        replace hn := x_r1_some hn
        obtain ⟨a, r, hwr, hn⟩ := hn
        obtain ⟨d', hd', hc8, hcl, hz⟩ := x_call_some hn
        cases hd'
        obtain ⟨hst, hwl⟩ := x_pop_some hw
        obtain ⟨t1, k2⟩ := q
        have hk2 : k2 < 176 := by
          rcases (show t1 = 0 ∨ t1 = 1 by have : t1 ≤ 1 := q1; omega) with t0 | t0
          · subst t0; exact hlk1.1
          · subst t0; exact hlk1.1
        obtain ⟨hv1, hv2, hv3⟩ := (x_mu k2 hk2).2.2.2 hkind
        refine ⟨d, k2, .ref a :: w.1, r, rfl, hk2, hcl, hz, fun q hle hqc hqs hM kk H locs L hl hlen hP hS h0 k0 => ?_⟩
        refine x_size (fun hsz => ?_)
        have hpre := x_pre (as := .ref a :: w.1) hK hT hs hP hS h0 hsz
        have h1 := hle.1
        have h2 := hle.2
        rcases (show t1 = 0 ∨ t1 = 1 by have : t1 ≤ 1 := q1; omega) with t0 | t0
        · subst t0
          have hcb := x_cbP (mc := q.2.1 - h.1) (ms := q.2.2.1 - h.2.1) hk2 hts hlk1.2 hRf hRl (R := R) (args := args) (s := s)
          rw [hv3] at hcb
          refine x_after (va_runI (As := w.1.map (x_tr b ad)) (rest := r.map (x_tr b ad)) (b := b + a) ⟨hx, hb, hml, hown, hts⟩ hM ⟨hcb, hv2, hts _ hv1⟩ hpre rfl (by rw [List.length_map]; exact hwl) hl.1 (by show st.map _ = _; rw [hst, hwr, x_arg]; rfl) (lv_room (by rw [x_tr_sum]; exact hc8)) hd ⟨by omega, by omega⟩) hS (fun H1 locs1 hP1 hS1 => back hle h0 k0 hl hlen kk hP1 hS1)
        · subst t0
          have hcb := x_cbN (mc := q.2.1 - h.1) (ms := q.2.2.1 - h.2.1) hk2 hts hK hlk1.2 hRf hRl (R := R) (args := args)
          rw [hv3] at hcb
          refine x_after (va_runIN (As := w.1.map (x_tr b ad)) (rest := r.map (x_tr b ad)) (b := b + a) ⟨hx, hb, hml, hown, hts⟩ hM ⟨hcb, hv2, hts _ hv1⟩ hpre rfl (by rw [List.length_map]; exact hwl) hl.1 (by show st.map _ = _; rw [hst, hwr, x_arg]; rfl) (lv_room (by rw [x_tr_sum]; exact hc8)) hd ⟨by omega, by omega⟩) hS (fun H1 locs1 hP1 hS1 => back hle h0 k0 hl hlen kk hP1 hS1)
      · rw [if_neg q1] at hn
        exact absurd hn ((show x_nc _ by (repeat first | exact x_nc_none | exact x_nc_go | exact x_nc_done | apply x_nc_ln | (apply x_nc_i1; intro _ _) | (apply x_nc_i2; intro _ _ _) | (apply x_nc_l1; intro _ _) | (apply x_nc_l2; intro _ _ _) | (apply x_nc_li; intro _ _ _) | (apply x_nc_r1; intro _ _) | (apply x_nc_ir; intro _ _ _) | (apply x_nc_iir; intro _ _ _ _) | (apply x_nc_rir; intro _ _ _ _) | (apply x_nc_v1; intro _ _) | (apply x_nc_to; intro _) | (apply x_nc_bind; intro _ _) | apply x_nc_if | split)) z)
  case if_icmp o off => exact absurd hn (by cases o <;> unfold x_I <;> exact (show x_nc _ by (repeat first | exact x_nc_none | exact x_nc_go | exact x_nc_done | apply x_nc_ln | (apply x_nc_i1; intro _ _) | (apply x_nc_i2; intro _ _ _) | (apply x_nc_l1; intro _ _) | (apply x_nc_l2; intro _ _ _) | (apply x_nc_li; intro _ _ _) | (apply x_nc_r1; intro _ _) | (apply x_nc_ir; intro _ _ _) | (apply x_nc_iir; intro _ _ _ _) | (apply x_nc_rir; intro _ _ _ _) | (apply x_nc_v1; intro _ _) | (apply x_nc_to; intro _) | (apply x_nc_bind; intro _ _) | apply x_nc_if | split)) z)
  case ifCond o off => exact absurd hn (by cases o <;> unfold x_I <;> exact (show x_nc _ by (repeat first | exact x_nc_none | exact x_nc_go | exact x_nc_done | apply x_nc_ln | (apply x_nc_i1; intro _ _) | (apply x_nc_i2; intro _ _ _) | (apply x_nc_l1; intro _ _) | (apply x_nc_l2; intro _ _ _) | (apply x_nc_li; intro _ _ _) | (apply x_nc_r1; intro _ _) | (apply x_nc_ir; intro _ _ _) | (apply x_nc_iir; intro _ _ _ _) | (apply x_nc_rir; intro _ _ _ _) | (apply x_nc_v1; intro _ _) | (apply x_nc_to; intro _) | (apply x_nc_bind; intro _ _) | apply x_nc_if | split)) z)
  case newarray t => exact absurd hn (by cases t <;> unfold x_I <;> exact (show x_nc _ by (repeat first | exact x_nc_none | exact x_nc_go | exact x_nc_done | apply x_nc_ln | (apply x_nc_i1; intro _ _) | (apply x_nc_i2; intro _ _ _) | (apply x_nc_l1; intro _ _) | (apply x_nc_l2; intro _ _ _) | (apply x_nc_li; intro _ _ _) | (apply x_nc_r1; intro _ _) | (apply x_nc_ir; intro _ _ _) | (apply x_nc_iir; intro _ _ _ _) | (apply x_nc_rir; intro _ _ _ _) | (apply x_nc_v1; intro _ _) | (apply x_nc_to; intro _) | (apply x_nc_bind; intro _ _) | apply x_nc_if | split)) z)
  all_goals exact absurd hn (by unfold x_I; exact (show x_nc _ by (repeat first | exact x_nc_none | exact x_nc_go | exact x_nc_done | apply x_nc_ln | (apply x_nc_i1; intro _ _) | (apply x_nc_i2; intro _ _ _) | (apply x_nc_l1; intro _ _) | (apply x_nc_l2; intro _ _ _) | (apply x_nc_li; intro _ _ _) | (apply x_nc_r1; intro _ _) | (apply x_nc_ir; intro _ _ _) | (apply x_nc_iir; intro _ _ _ _) | (apply x_nc_rir; intro _ _ _ _) | (apply x_nc_v1; intro _ _) | (apply x_nc_to; intro _) | (apply x_nc_bind; intro _ _) | apply x_nc_if | split)) z)
end

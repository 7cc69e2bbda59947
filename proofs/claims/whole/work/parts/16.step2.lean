/-! THE STEP THEOREM: where the function goes on in the frame (printed by wip/whole/gen16.py) -/
section
variable {b : Nat} {ad : Nat → Nat} {cy : Nat → ClassId} {D : va_G}
variable {p : Program} {l : Launch} {e : Env} {R : Room} {s : State} {m : MethodId} {args : Array Value} {below : List Frame} {meth : Method} {c : Code} {Q : State → Prop}
theorem x_ok_lt {ls : List Value} {i : Nat} (h : x_ok ls i = true) : i < ls.length := by
  unfold x_ok at h
  rw [Bool.and_eq_true, decide_eq_true_eq] at h
  exact h.1
theorem x_iok {cl i : Nat} {v : Int32} (hc : cl < 10) (h : xit cl i = some v) : x_in (.constant (xR cl) i v) = true := by
  have h2 := List.all_eq_true.mp x_cchk_0 cl (List.mem_range.mpr hc)
  rw [Bool.and_eq_true] at h2
  have h3 := List.all_eq_true.mp h2.2 (i, v) (x_find_mem h)
  exact h3
theorem x_gok {cl i : Nat} {v : Int64} (hc : cl < 10) (h : xlg cl i = some v) : x_in (.constantLong (xR cl) i v) = true := by
  have h2 := List.all_eq_true.mp x_cchk_0 cl (List.mem_range.mpr hc)
  rw [Bool.and_eq_true] at h2
  have h3 := List.all_eq_true.mp h2.1 (i, v) (x_find_mem h)
  exact h3
theorem x_nok {cl i ci : Nat} (hc : cl < 10) (h : xnw cl i = some ci) : ∃ r : vw_C, vwCl[ci]? = some r ∧ Cond.classLink (xR cl) i r.1 ∈ x_gw ∧ Cond.instantiable r.1 r.2.2 ∈ x_gw ∧ Cond.initialized r.1 ∈ x_gw := by
  have h2 := List.all_eq_true.mp (List.all_eq_true.mp x_nchk_0 cl (List.mem_range.mpr hc)) _ (x_find_mem h)
  unfold x_nchk at h2
  split at h2
  · rename_i r hr
    simp only [Bool.and_eq_true] at h2
    exact ⟨r, hr, x_in_gw h2.1.1.1, x_in_gw h2.1.1.2, x_in_gw h2.1.2⟩
  · cases h2
def x_w14L : List Cond := [.instanceMethod Lib.objectInit, .code Lib.objectInit ⟨#[0xb1]⟩ 1 none, .static Lib.Math.max.name, .initialized "java/lang/Math", .code Lib.Math.max.name Lib.Math.max.code 2 (some .int), .static Lib.Math.min.name, .code Lib.Math.min.name Lib.Math.min.code 2 (some .int), .static Lib.Math.abs.name, .code Lib.Math.abs.name Lib.Math.abs.code 1 (some .int), .native arraycopyName, .static arraycopyName, .initialized "java/lang/System", .arrayClass .int, .arrayClass .boolean]
theorem x_w14 {w : Cond} (hts : ∀ w ∈ x_gw, w.before args s = true) (i : Nat) (h : x_w14L[i]? = some w) : w.before args s = true := hts w (x_in_gw (List.all_eq_true.mp x_wchk_0 w (List.mem_of_getElem? h)))
theorem x_native : nativeFrameWords "java/lang/System" "arraycopy" 5 ≤ 60 := by decide +kernel
theorem x_call_not {d m pc : Nat} {ls : List Value} {k : Nat} {as st : List Value} {h : xH} {g : xF} (q : x_call d m pc ls k as st h = some (.inr (.inl g))) : False := by
  unfold x_call at q
  split at q
  · cases q
  · obtain ⟨-, q⟩ := x_if_some q
    cases q
theorem x_done_not {v : Option Value} {h : xH} {g : xF} (q : x_done v h = some (.inr (.inl g))) : False := by cases q
set_option maxHeartbeats 4000000 in
set_option maxRecDepth 100000 in
theorem x_step {d k n0 k0' pc : Nat} {ls st : List Value} {h : xH} {g : xF} (C : x_Ctx b ad cy D p R s m args meth c d k n0) (hn : x_nxt (d, k, pc, ls, st, h) = some (.inr (.inl g))) (hcc : g.2.2.2.2.2.1 - n0 ≤ R.cells) (hcs : g.2.2.2.2.2.2.1 - k0' ≤ R.slots)
    (kk : x_Wk b ad cy D p l e R s m args below meth c Q k n0 k0' g.2.2.1 g.2.2.2.1 g.2.2.2.2.1 g.2.2.2.2.2) : g.1 = d ∧ g.2.1 = k ∧ x_Wk b ad cy D p l e R s m args below meth c Q k n0 k0' pc ls st h := by
  obtain ⟨hx, hb, hr, hlk, hml, hown, hts, hin, hK, hT, hs, hRf, hRl, hk⟩ := C
  obtain ⟨⟨-, -, hi1, hi2⟩, -⟩ := x_mu k hk
  obtain ⟨⟨hq1, hq2, hq3, hq4⟩, ⟨hq5, hq6, hq7⟩, hq8, hq9⟩ := (x_mu k hk).1
  unfold x_nxt at hn
  split at hn
  case h_2 => cases hn
  rename_i i len hd
  change decode (xm k).2.2.1 pc = .ok (i, len) at hd
  change x_I d k pc ls st h len i = some (.inr (.inl g)) at hn
  cases i
  case iconst n =>
    replace hn := x_ln_some hn
    obtain ⟨e1, hn⟩ := hn
    subst e1
    cases x_go_some hn
    refine ⟨rfl, rfl, fun H locs L hl hlen hP hS h0 k0 => ?_⟩
    exact lv_iconst hx hb hd rfl (kk H locs L hl hlen hP hS h0 k0)
  case bipush n =>
    replace hn := x_ln_some hn
    obtain ⟨e1, hn⟩ := hn
    subst e1
    cases x_go_some hn
    refine ⟨rfl, rfl, fun H locs L hl hlen hP hS h0 k0 => ?_⟩
    exact lv_bipush hx hb hd rfl (kk H locs L hl hlen hP hS h0 k0)
  case sipush n =>
    replace hn := x_ln_some hn
    obtain ⟨e1, hn⟩ := hn
    subst e1
    cases x_go_some hn
    refine ⟨rfl, rfl, fun H locs L hl hlen hP hS h0 k0 => ?_⟩
    exact lv_sipush hx hb hd rfl (kk H locs L hl hlen hP hS h0 k0)
  case lconst n =>
    replace hn := x_ln_some hn
    obtain ⟨e1, hn⟩ := hn
    subst e1
    cases x_go_some hn
    refine ⟨rfl, rfl, fun H locs L hl hlen hP hS h0 k0 => ?_⟩
    exact lv_lconst hx hb hd rfl (kk H locs L hl hlen hP hS h0 k0)
  case ldc i =>
    replace hn := x_ln_some hn
    obtain ⟨e1, hn⟩ := hn
    subst e1
    split at hn
    · rename_i q hq
      cases x_go_some hn
      refine ⟨rfl, rfl, fun H locs L hl hlen hP hS h0 k0 => ?_⟩
      obtain ⟨tx, hz⟩ := x_ldk hT hq
      exact va_ldcS hx hb hown hz hd (kk H locs L hl hlen hP hS h0 k0)
    · replace hn := x_bind_some hn
      obtain ⟨v, hv, hn⟩ := hn
      cases x_go_some hn
      refine ⟨rfl, rfl, fun H locs L hl hlen hP hS h0 k0 => ?_⟩
      exact lv_ldc hx hb hown (x_wt hts (x_iok hq9 hv)) hd (kk H locs L hl hlen hP hS h0 k0)
  case ldc_w i =>
    replace hn := x_ln_some hn
    obtain ⟨e1, hn⟩ := hn
    subst e1
    replace hn := x_bind_some hn
    obtain ⟨v, hv, hn⟩ := hn
    cases x_go_some hn
    refine ⟨rfl, rfl, fun H locs L hl hlen hP hS h0 k0 => ?_⟩
    exact lv_ldcw hx hb hown (x_wt hts (x_iok hq9 hv)) hd (kk H locs L hl hlen hP hS h0 k0)
  case ldc2_w i =>
    replace hn := x_ln_some hn
    obtain ⟨e1, hn⟩ := hn
    subst e1
    replace hn := x_bind_some hn
    obtain ⟨v, hv, hn⟩ := hn
    cases x_go_some hn
    refine ⟨rfl, rfl, fun H locs L hl hlen hP hS h0 k0 => ?_⟩
    exact lv_ldc2 hx hb hown (x_wt hts (x_gok hq9 hv)) hd (kk H locs L hl hlen hP hS h0 k0)
  case iload_n n =>
    replace hn := x_ln_some hn
    obtain ⟨e1, hn⟩ := hn
    subst e1
    split at hn
    · rename_i x he
      cases x_go_some hn
      refine ⟨rfl, rfl, fun H locs L hl hlen hP hS h0 k0 => ?_⟩
      exact lv_iload_n hx hb hd rfl (x_ld hl he nofun) (kk H locs L hl hlen hP hS h0 k0)
    · cases hn
  case iload i =>
    replace hn := x_ln_some hn
    obtain ⟨e1, hn⟩ := hn
    subst e1
    split at hn
    · rename_i x he
      cases x_go_some hn
      refine ⟨rfl, rfl, fun H locs L hl hlen hP hS h0 k0 => ?_⟩
      exact lv_iload hx hb hd (x_ld hl he nofun) (kk H locs L hl hlen hP hS h0 k0)
    · cases hn
  case lload_n n =>
    replace hn := x_ln_some hn
    obtain ⟨e1, hn⟩ := hn
    subst e1
    split at hn
    · rename_i x he
      cases x_go_some hn
      refine ⟨rfl, rfl, fun H locs L hl hlen hP hS h0 k0 => ?_⟩
      exact lv_lload_n hx hb hd rfl (x_ld hl he nofun) (kk H locs L hl hlen hP hS h0 k0)
    · cases hn
  case lload i =>
    replace hn := x_ln_some hn
    obtain ⟨e1, hn⟩ := hn
    subst e1
    split at hn
    · rename_i x he
      cases x_go_some hn
      refine ⟨rfl, rfl, fun H locs L hl hlen hP hS h0 k0 => ?_⟩
      exact lv_lload hx hb hd (x_ld hl he nofun) (kk H locs L hl hlen hP hS h0 k0)
    · cases hn
  case aload_n n =>
    replace hn := x_ln_some hn
    obtain ⟨e1, hn⟩ := hn
    subst e1
    split at hn
    · rename_i v he
      replace hn := x_if_some hn
      obtain ⟨hv, hn⟩ := hn
      cases x_go_some hn
      refine ⟨rfl, rfl, fun H locs L hl hlen hP hS h0 k0 => ?_⟩
      obtain ⟨hv0, a, hv1⟩ := x_isR_some (b := b) (ad := ad) hv
      have h9 := x_ld hl he hv0
      rw [hv1] at h9
      have h8 := kk H locs L hl hlen hP hS h0 k0
      rw [List.map_cons, hv1] at h8
      exact lv_aload_n hx hb hd rfl h9 h8
    · cases hn
  case aload i =>
    replace hn := x_ln_some hn
    obtain ⟨e1, hn⟩ := hn
    subst e1
    split at hn
    · rename_i v he
      replace hn := x_if_some hn
      obtain ⟨hv, hn⟩ := hn
      cases x_go_some hn
      refine ⟨rfl, rfl, fun H locs L hl hlen hP hS h0 k0 => ?_⟩
      obtain ⟨hv0, a, hv1⟩ := x_isR_some (b := b) (ad := ad) hv
      have h9 := x_ld hl he hv0
      rw [hv1] at h9
      have h8 := kk H locs L hl hlen hP hS h0 k0
      rw [List.map_cons, hv1] at h8
      exact lv_aload hx hb hd h9 h8
    · cases hn
  case istore_n n =>
    replace hn := x_ln_some hn
    obtain ⟨e1, hn⟩ := hn
    subst e1
    replace hn := x_i1_some hn
    obtain ⟨x, r, e1, hn⟩ := hn
    subst e1
    replace hn := x_if_some hn
    obtain ⟨ho, hn⟩ := hn
    cases x_go_some hn
    refine ⟨rfl, rfl, fun H locs L hl hlen hP hS h0 k0 => ?_⟩
    exact lv_istore_n hx hb hd rfl hl (by rw [← hlen]; exact x_ok_lt ho) rfl (fun L2 hl2 => kk H locs L2 (x_st1 (v := .int x) hl2 ho) (by rw [List.length_set]; exact hlen) hP hS h0 k0)
  case istore i =>
    replace hn := x_ln_some hn
    obtain ⟨e1, hn⟩ := hn
    subst e1
    replace hn := x_i1_some hn
    obtain ⟨x, r, e1, hn⟩ := hn
    subst e1
    replace hn := x_if_some hn
    obtain ⟨ho, hn⟩ := hn
    cases x_go_some hn
    refine ⟨rfl, rfl, fun H locs L hl hlen hP hS h0 k0 => ?_⟩
    exact lv_istore hx hb hd hl (by rw [← hlen]; exact x_ok_lt ho) rfl (fun L2 hl2 => kk H locs L2 (x_st1 (v := .int x) hl2 ho) (by rw [List.length_set]; exact hlen) hP hS h0 k0)
  case lstore_n n =>
    replace hn := x_ln_some hn
    obtain ⟨e1, hn⟩ := hn
    subst e1
    replace hn := x_l1_some hn
    obtain ⟨x, r, e1, hn⟩ := hn
    subst e1
    replace hn := x_if_some hn
    obtain ⟨ho, hn⟩ := hn
    cases x_go_some hn
    refine ⟨rfl, rfl, fun H locs L hl hlen hP hS h0 k0 => ?_⟩
    exact lv_lstore_n hx hb hd rfl hl (by rw [← hlen]; exact ho.2) rfl (fun L2 hl2 => kk H locs L2 (x_st2 (v := .long x) hl2 ho.1 ho.2) (by rw [List.length_set, List.length_set]; exact hlen) hP hS h0 k0)
  case astore_n n =>
    replace hn := x_ln_some hn
    obtain ⟨e1, hn⟩ := hn
    subst e1
    replace hn := x_v1_some hn
    obtain ⟨v, r, e1, hn⟩ := hn
    subst e1
    replace hn := x_if_some hn
    obtain ⟨ho, hn⟩ := hn
    cases x_go_some hn
    refine ⟨rfl, rfl, fun H locs L hl hlen hP hS h0 k0 => ?_⟩
    obtain ⟨hv0, a, hv1⟩ := x_isR_some (b := b) (ad := ad) ho.1
    rw [List.map_cons, hv1]
    exact lv_astore_n hx hb hd rfl hl (by rw [← hlen]; exact x_ok_lt ho.2) rfl (fun L2 hl2 => kk H locs L2 (x_st1 (v := v) (by rw [hv1]; exact hl2) ho.2) (by rw [List.length_set]; exact hlen) hP hS h0 k0)
  case astore i =>
    replace hn := x_ln_some hn
    obtain ⟨e1, hn⟩ := hn
    subst e1
    replace hn := x_v1_some hn
    obtain ⟨v, r, e1, hn⟩ := hn
    subst e1
    replace hn := x_if_some hn
    obtain ⟨ho, hn⟩ := hn
    cases x_go_some hn
    refine ⟨rfl, rfl, fun H locs L hl hlen hP hS h0 k0 => ?_⟩
    obtain ⟨hv0, a, hv1⟩ := x_isR_some (b := b) (ad := ad) ho.1
    rw [List.map_cons, hv1]
    exact lv_astore hx hb hd hl (by rw [← hlen]; exact x_ok_lt ho.2) rfl (fun L2 hl2 => kk H locs L2 (x_st1 (v := v) (by rw [hv1]; exact hl2) ho.2) (by rw [List.length_set]; exact hlen) hP hS h0 k0)
  case iinc i n =>
    replace hn := x_ln_some hn
    obtain ⟨e1, hn⟩ := hn
    subst e1
    split at hn
    · rename_i x he
      replace hn := x_if_some hn
      obtain ⟨ho, hn⟩ := hn
      cases x_go_some hn
      refine ⟨rfl, rfl, fun H locs L hl hlen hP hS h0 k0 => ?_⟩
      obtain ⟨z, hz⟩ := List.getElem?_of_mem (x_lv_mem.mpr ⟨.int x, he, nofun, rfl⟩)
      exact lv_iinc hx hb hd hl hz rfl (by rw [← hlen]; exact x_ok_lt ho) rfl (fun L2 hl2 => kk H locs L2 (x_st1 (v := .int (x + Int32.ofInt n)) hl2 ho) (by rw [List.length_set]; exact hlen) hP hS h0 k0)
    · cases hn
  case iadd =>
    replace hn := x_ln_some hn
    obtain ⟨e1, hn⟩ := hn
    subst e1
    replace hn := x_i2_some hn
    obtain ⟨x, y, r, e1, hn⟩ := hn
    subst e1
    cases x_go_some hn
    refine ⟨rfl, rfl, fun H locs L hl hlen hP hS h0 k0 => ?_⟩
    exact lv_iadd hx hb hd (kk H locs L hl hlen hP hS h0 k0)
  case isub =>
    replace hn := x_ln_some hn
    obtain ⟨e1, hn⟩ := hn
    subst e1
    replace hn := x_i2_some hn
    obtain ⟨x, y, r, e1, hn⟩ := hn
    subst e1
    cases x_go_some hn
    refine ⟨rfl, rfl, fun H locs L hl hlen hP hS h0 k0 => ?_⟩
    exact lv_isub hx hb hd (kk H locs L hl hlen hP hS h0 k0)
  case imul =>
    replace hn := x_ln_some hn
    obtain ⟨e1, hn⟩ := hn
    subst e1
    replace hn := x_i2_some hn
    obtain ⟨x, y, r, e1, hn⟩ := hn
    subst e1
    cases x_go_some hn
    refine ⟨rfl, rfl, fun H locs L hl hlen hP hS h0 k0 => ?_⟩
    exact lv_imul hx hb hd (kk H locs L hl hlen hP hS h0 k0)
  case iand =>
    replace hn := x_ln_some hn
    obtain ⟨e1, hn⟩ := hn
    subst e1
    replace hn := x_i2_some hn
    obtain ⟨x, y, r, e1, hn⟩ := hn
    subst e1
    cases x_go_some hn
    refine ⟨rfl, rfl, fun H locs L hl hlen hP hS h0 k0 => ?_⟩
    exact lv_iand hx hb hd (kk H locs L hl hlen hP hS h0 k0)
  case ior =>
    replace hn := x_ln_some hn
    obtain ⟨e1, hn⟩ := hn
    subst e1
    replace hn := x_i2_some hn
    obtain ⟨x, y, r, e1, hn⟩ := hn
    subst e1
    cases x_go_some hn
    refine ⟨rfl, rfl, fun H locs L hl hlen hP hS h0 k0 => ?_⟩
    exact lv_ior hx hb hd (kk H locs L hl hlen hP hS h0 k0)
  case ixor =>
    replace hn := x_ln_some hn
    obtain ⟨e1, hn⟩ := hn
    subst e1
    replace hn := x_i2_some hn
    obtain ⟨x, y, r, e1, hn⟩ := hn
    subst e1
    cases x_go_some hn
    refine ⟨rfl, rfl, fun H locs L hl hlen hP hS h0 k0 => ?_⟩
    exact lv_ixor hx hb hd (kk H locs L hl hlen hP hS h0 k0)
  case ishl =>
    replace hn := x_ln_some hn
    obtain ⟨e1, hn⟩ := hn
    subst e1
    replace hn := x_i2_some hn
    obtain ⟨x, y, r, e1, hn⟩ := hn
    subst e1
    cases x_go_some hn
    refine ⟨rfl, rfl, fun H locs L hl hlen hP hS h0 k0 => ?_⟩
    exact lv_ishl hx hb hd (kk H locs L hl hlen hP hS h0 k0)
  case ishr =>
    replace hn := x_ln_some hn
    obtain ⟨e1, hn⟩ := hn
    subst e1
    replace hn := x_i2_some hn
    obtain ⟨x, y, r, e1, hn⟩ := hn
    subst e1
    cases x_go_some hn
    refine ⟨rfl, rfl, fun H locs L hl hlen hP hS h0 k0 => ?_⟩
    exact lv_ishr hx hb hd (kk H locs L hl hlen hP hS h0 k0)
  case iushr =>
    replace hn := x_ln_some hn
    obtain ⟨e1, hn⟩ := hn
    subst e1
    replace hn := x_i2_some hn
    obtain ⟨x, y, r, e1, hn⟩ := hn
    subst e1
    cases x_go_some hn
    refine ⟨rfl, rfl, fun H locs L hl hlen hP hS h0 k0 => ?_⟩
    exact lv_iushr hx hb hd rfl (kk H locs L hl hlen hP hS h0 k0)
  case idiv =>
    replace hn := x_ln_some hn
    obtain ⟨e1, hn⟩ := hn
    subst e1
    replace hn := x_i2_some hn
    obtain ⟨x, y, r, e1, hn⟩ := hn
    subst e1
    replace hn := x_nif_some hn
    obtain ⟨hy, hn⟩ := hn
    cases x_go_some hn
    refine ⟨rfl, rfl, fun H locs L hl hlen hP hS h0 k0 => ?_⟩
    exact lv_idiv hx hb hd hy (kk H locs L hl hlen hP hS h0 k0)
  case irem =>
    replace hn := x_ln_some hn
    obtain ⟨e1, hn⟩ := hn
    subst e1
    replace hn := x_i2_some hn
    obtain ⟨x, y, r, e1, hn⟩ := hn
    subst e1
    replace hn := x_nif_some hn
    obtain ⟨hy, hn⟩ := hn
    cases x_go_some hn
    refine ⟨rfl, rfl, fun H locs L hl hlen hP hS h0 k0 => ?_⟩
    exact lv_irem hx hb hd hy (kk H locs L hl hlen hP hS h0 k0)
  case ineg =>
    replace hn := x_ln_some hn
    obtain ⟨e1, hn⟩ := hn
    subst e1
    replace hn := x_i1_some hn
    obtain ⟨x, r, e1, hn⟩ := hn
    subst e1
    cases x_go_some hn
    refine ⟨rfl, rfl, fun H locs L hl hlen hP hS h0 k0 => ?_⟩
    exact lv_ineg hx hb hd (kk H locs L hl hlen hP hS h0 k0)
  case ladd =>
    replace hn := x_ln_some hn
    obtain ⟨e1, hn⟩ := hn
    subst e1
    replace hn := x_l2_some hn
    obtain ⟨x, y, r, e1, hn⟩ := hn
    subst e1
    cases x_go_some hn
    refine ⟨rfl, rfl, fun H locs L hl hlen hP hS h0 k0 => ?_⟩
    exact lv_ladd hx hb hd (kk H locs L hl hlen hP hS h0 k0)
  case lsub =>
    replace hn := x_ln_some hn
    obtain ⟨e1, hn⟩ := hn
    subst e1
    replace hn := x_l2_some hn
    obtain ⟨x, y, r, e1, hn⟩ := hn
    subst e1
    cases x_go_some hn
    refine ⟨rfl, rfl, fun H locs L hl hlen hP hS h0 k0 => ?_⟩
    exact lv_lsub hx hb hd (kk H locs L hl hlen hP hS h0 k0)
  case lmul =>
    replace hn := x_ln_some hn
    obtain ⟨e1, hn⟩ := hn
    subst e1
    replace hn := x_l2_some hn
    obtain ⟨x, y, r, e1, hn⟩ := hn
    subst e1
    cases x_go_some hn
    refine ⟨rfl, rfl, fun H locs L hl hlen hP hS h0 k0 => ?_⟩
    exact lv_lmul hx hb hd (kk H locs L hl hlen hP hS h0 k0)
  case land =>
    replace hn := x_ln_some hn
    obtain ⟨e1, hn⟩ := hn
    subst e1
    replace hn := x_l2_some hn
    obtain ⟨x, y, r, e1, hn⟩ := hn
    subst e1
    cases x_go_some hn
    refine ⟨rfl, rfl, fun H locs L hl hlen hP hS h0 k0 => ?_⟩
    exact lv_land hx hb hd (kk H locs L hl hlen hP hS h0 k0)
  case lshr =>
    replace hn := x_ln_some hn
    obtain ⟨e1, hn⟩ := hn
    subst e1
    replace hn := x_li_some hn
    obtain ⟨x, y, r, e1, hn⟩ := hn
    subst e1
    cases x_go_some hn
    refine ⟨rfl, rfl, fun H locs L hl hlen hP hS h0 k0 => ?_⟩
    exact lv_lshr hx hb hd rfl (kk H locs L hl hlen hP hS h0 k0)
  case i2l =>
    replace hn := x_ln_some hn
    obtain ⟨e1, hn⟩ := hn
    subst e1
    replace hn := x_i1_some hn
    obtain ⟨x, r, e1, hn⟩ := hn
    subst e1
    cases x_go_some hn
    refine ⟨rfl, rfl, fun H locs L hl hlen hP hS h0 k0 => ?_⟩
    exact lv_i2l hx hb hd rfl (kk H locs L hl hlen hP hS h0 k0)
  case l2i =>
    replace hn := x_ln_some hn
    obtain ⟨e1, hn⟩ := hn
    subst e1
    replace hn := x_l1_some hn
    obtain ⟨x, r, e1, hn⟩ := hn
    subst e1
    cases x_go_some hn
    refine ⟨rfl, rfl, fun H locs L hl hlen hP hS h0 k0 => ?_⟩
    exact lv_l2i hx hb hd rfl (kk H locs L hl hlen hP hS h0 k0)
  case lcmp =>
    replace hn := x_ln_some hn
    obtain ⟨e1, hn⟩ := hn
    subst e1
    replace hn := x_l2_some hn
    obtain ⟨x, y, r, e1, hn⟩ := hn
    subst e1
    cases x_go_some hn
    refine ⟨rfl, rfl, fun H locs L hl hlen hP hS h0 k0 => ?_⟩
    exact W.lcmp hx hb hd (kk H locs L hl hlen hP hS h0 k0)
  case dup =>
    replace hn := x_ln_some hn
    obtain ⟨e1, hn⟩ := hn
    subst e1
    replace hn := x_v1_some hn
    obtain ⟨v, r, e1, hn⟩ := hn
    subst e1
    replace hn := x_if_some hn
    obtain ⟨hv, hn⟩ := hn
    cases x_go_some hn
    refine ⟨rfl, rfl, fun H locs L hl hlen hP hS h0 k0 => ?_⟩
    exact lv_dup hx hb hd (by rw [x_tr_cat]; exact hv) (kk H locs L hl hlen hP hS h0 k0)
  case dup2 =>
    replace hn := x_ln_some hn
    obtain ⟨e1, hn⟩ := hn
    subst e1
    replace hn := x_v1_some hn
    obtain ⟨v, r, e1, hn⟩ := hn
    subst e1
    replace hn := x_v1_some hn
    obtain ⟨w, q, e1, hn⟩ := hn
    subst e1
    replace hn := x_if_some hn
    obtain ⟨hv, hn⟩ := hn
    cases x_go_some hn
    refine ⟨rfl, rfl, fun H locs L hl hlen hP hS h0 k0 => ?_⟩
    exact lv_dup2_11 hx hb hd (by rw [x_tr_cat]; exact hv.1) (by rw [x_tr_cat]; exact hv.2) (kk H locs L hl hlen hP hS h0 k0)
  case pop =>
    replace hn := x_ln_some hn
    obtain ⟨e1, hn⟩ := hn
    subst e1
    replace hn := x_v1_some hn
    obtain ⟨v, r, e1, hn⟩ := hn
    subst e1
    replace hn := x_if_some hn
    obtain ⟨hv, hn⟩ := hn
    cases x_go_some hn
    refine ⟨rfl, rfl, fun H locs L hl hlen hP hS h0 k0 => ?_⟩
    exact lv_pop hx hb hd (by rw [x_tr_cat]; exact hv) (kk H locs L hl hlen hP hS h0 k0)
  case goto off =>
    replace hn := x_ln_some hn
    obtain ⟨e1, hn⟩ := hn
    subst e1
    replace hn := x_to_some hn
    obtain ⟨t, ht, hn⟩ := hn
    cases x_go_some hn
    refine ⟨rfl, rfl, fun H locs L hl hlen hP hS h0 k0 => ?_⟩
    exact lv_goto hx hb hd ht (kk H locs L hl hlen hP hS h0 k0)
  case if_icmp o off =>
    cases o
    case eq =>
      replace hn := x_ln_some hn
      obtain ⟨e1, hn⟩ := hn
      subst e1
      replace hn := x_i2_some hn
      obtain ⟨x, y, r, e1, hn⟩ := hn
      subst e1
      replace hn := x_to_some hn
      obtain ⟨t, ht, hn⟩ := hn
      have hg : g.1 = d ∧ g.2.1 = k := by
        by_cases q : x = y
        · rw [if_pos q] at hn; cases x_go_some hn; exact ⟨rfl, rfl⟩
        · rw [if_neg q] at hn; cases x_go_some hn; exact ⟨rfl, rfl⟩
      refine ⟨hg.1, hg.2, fun H locs L hl hlen hP hS h0 k0 => ?_⟩
      refine lv_icmp_eq hx hb hd ht (fun q => ?_) (fun q => ?_)
      · rw [if_pos q] at hn; cases x_go_some hn; exact kk H locs L hl hlen hP hS h0 k0
      · rw [if_neg q] at hn; cases x_go_some hn; exact kk H locs L hl hlen hP hS h0 k0
    case ne =>
      replace hn := x_ln_some hn
      obtain ⟨e1, hn⟩ := hn
      subst e1
      replace hn := x_i2_some hn
      obtain ⟨x, y, r, e1, hn⟩ := hn
      subst e1
      replace hn := x_to_some hn
      obtain ⟨t, ht, hn⟩ := hn
      have hg : g.1 = d ∧ g.2.1 = k := by
        by_cases q : x = y
        · rw [if_pos q] at hn; cases x_go_some hn; exact ⟨rfl, rfl⟩
        · rw [if_neg q] at hn; cases x_go_some hn; exact ⟨rfl, rfl⟩
      refine ⟨hg.1, hg.2, fun H locs L hl hlen hP hS h0 k0 => ?_⟩
      refine lv_icmp_ne hx hb hd ht (fun q => ?_) (fun q => ?_)
      · rw [if_neg q] at hn; cases x_go_some hn; exact kk H locs L hl hlen hP hS h0 k0
      · rw [if_pos q] at hn; cases x_go_some hn; exact kk H locs L hl hlen hP hS h0 k0
    case lt =>
      replace hn := x_ln_some hn
      obtain ⟨e1, hn⟩ := hn
      subst e1
      replace hn := x_i2_some hn
      obtain ⟨x, y, r, e1, hn⟩ := hn
      subst e1
      replace hn := x_to_some hn
      obtain ⟨t, ht, hn⟩ := hn
      have hg : g.1 = d ∧ g.2.1 = k := by
        by_cases q : x < y
        · rw [if_pos q] at hn; cases x_go_some hn; exact ⟨rfl, rfl⟩
        · rw [if_neg q] at hn; cases x_go_some hn; exact ⟨rfl, rfl⟩
      refine ⟨hg.1, hg.2, fun H locs L hl hlen hP hS h0 k0 => ?_⟩
      refine lv_icmp_lt hx hb hd ht (fun q => ?_) (fun q => ?_)
      · rw [if_pos q] at hn; cases x_go_some hn; exact kk H locs L hl hlen hP hS h0 k0
      · rw [if_neg q] at hn; cases x_go_some hn; exact kk H locs L hl hlen hP hS h0 k0
    case ge =>
      replace hn := x_ln_some hn
      obtain ⟨e1, hn⟩ := hn
      subst e1
      replace hn := x_i2_some hn
      obtain ⟨x, y, r, e1, hn⟩ := hn
      subst e1
      replace hn := x_to_some hn
      obtain ⟨t, ht, hn⟩ := hn
      have hg : g.1 = d ∧ g.2.1 = k := by
        by_cases q : y ≤ x
        · rw [if_pos q] at hn; cases x_go_some hn; exact ⟨rfl, rfl⟩
        · rw [if_neg q] at hn; cases x_go_some hn; exact ⟨rfl, rfl⟩
      refine ⟨hg.1, hg.2, fun H locs L hl hlen hP hS h0 k0 => ?_⟩
      refine lv_icmp_ge hx hb hd ht (fun q => ?_) (fun q => ?_)
      · rw [if_pos q] at hn; cases x_go_some hn; exact kk H locs L hl hlen hP hS h0 k0
      · rw [if_neg q] at hn; cases x_go_some hn; exact kk H locs L hl hlen hP hS h0 k0
    case gt =>
      replace hn := x_ln_some hn
      obtain ⟨e1, hn⟩ := hn
      subst e1
      replace hn := x_i2_some hn
      obtain ⟨x, y, r, e1, hn⟩ := hn
      subst e1
      replace hn := x_to_some hn
      obtain ⟨t, ht, hn⟩ := hn
      have hg : g.1 = d ∧ g.2.1 = k := by
        by_cases q : y < x
        · rw [if_pos q] at hn; cases x_go_some hn; exact ⟨rfl, rfl⟩
        · rw [if_neg q] at hn; cases x_go_some hn; exact ⟨rfl, rfl⟩
      refine ⟨hg.1, hg.2, fun H locs L hl hlen hP hS h0 k0 => ?_⟩
      refine lv_icmp_gt hx hb hd ht (fun q => ?_) (fun q => ?_)
      · rw [if_pos q] at hn; cases x_go_some hn; exact kk H locs L hl hlen hP hS h0 k0
      · rw [if_neg q] at hn; cases x_go_some hn; exact kk H locs L hl hlen hP hS h0 k0
    case le =>
      replace hn := x_ln_some hn
      obtain ⟨e1, hn⟩ := hn
      subst e1
      replace hn := x_i2_some hn
      obtain ⟨x, y, r, e1, hn⟩ := hn
      subst e1
      replace hn := x_to_some hn
      obtain ⟨t, ht, hn⟩ := hn
      have hg : g.1 = d ∧ g.2.1 = k := by
        by_cases q : x ≤ y
        · rw [if_pos q] at hn; cases x_go_some hn; exact ⟨rfl, rfl⟩
        · rw [if_neg q] at hn; cases x_go_some hn; exact ⟨rfl, rfl⟩
      refine ⟨hg.1, hg.2, fun H locs L hl hlen hP hS h0 k0 => ?_⟩
      refine lv_icmp_le hx hb hd ht (fun q => ?_) (fun q => ?_)
      · rw [if_pos q] at hn; cases x_go_some hn; exact kk H locs L hl hlen hP hS h0 k0
      · rw [if_neg q] at hn; cases x_go_some hn; exact kk H locs L hl hlen hP hS h0 k0
  case ifCond o off =>
    cases o
    case eq =>
      replace hn := x_ln_some hn
      obtain ⟨e1, hn⟩ := hn
      subst e1
      replace hn := x_i1_some hn
      obtain ⟨x, r, e1, hn⟩ := hn
      subst e1
      replace hn := x_to_some hn
      obtain ⟨t, ht, hn⟩ := hn
      have hg : g.1 = d ∧ g.2.1 = k := by
        by_cases q : x = 0
        · rw [if_pos q] at hn; cases x_go_some hn; exact ⟨rfl, rfl⟩
        · rw [if_neg q] at hn; cases x_go_some hn; exact ⟨rfl, rfl⟩
      refine ⟨hg.1, hg.2, fun H locs L hl hlen hP hS h0 k0 => ?_⟩
      refine lv_if_eq hx hb hd ht (fun q => ?_) (fun q => ?_)
      · rw [if_pos q] at hn; cases x_go_some hn; exact kk H locs L hl hlen hP hS h0 k0
      · rw [if_neg q] at hn; cases x_go_some hn; exact kk H locs L hl hlen hP hS h0 k0
    case ne =>
      replace hn := x_ln_some hn
      obtain ⟨e1, hn⟩ := hn
      subst e1
      replace hn := x_i1_some hn
      obtain ⟨x, r, e1, hn⟩ := hn
      subst e1
      replace hn := x_to_some hn
      obtain ⟨t, ht, hn⟩ := hn
      have hg : g.1 = d ∧ g.2.1 = k := by
        by_cases q : x = 0
        · rw [if_pos q] at hn; cases x_go_some hn; exact ⟨rfl, rfl⟩
        · rw [if_neg q] at hn; cases x_go_some hn; exact ⟨rfl, rfl⟩
      refine ⟨hg.1, hg.2, fun H locs L hl hlen hP hS h0 k0 => ?_⟩
      refine lv_if_ne hx hb hd ht (fun q => ?_) (fun q => ?_)
      · rw [if_neg q] at hn; cases x_go_some hn; exact kk H locs L hl hlen hP hS h0 k0
      · rw [if_pos q] at hn; cases x_go_some hn; exact kk H locs L hl hlen hP hS h0 k0
    case lt =>
      replace hn := x_ln_some hn
      obtain ⟨e1, hn⟩ := hn
      subst e1
      replace hn := x_i1_some hn
      obtain ⟨x, r, e1, hn⟩ := hn
      subst e1
      replace hn := x_to_some hn
      obtain ⟨t, ht, hn⟩ := hn
      have hg : g.1 = d ∧ g.2.1 = k := by
        by_cases q : x < 0
        · rw [if_pos q] at hn; cases x_go_some hn; exact ⟨rfl, rfl⟩
        · rw [if_neg q] at hn; cases x_go_some hn; exact ⟨rfl, rfl⟩
      refine ⟨hg.1, hg.2, fun H locs L hl hlen hP hS h0 k0 => ?_⟩
      refine lv_if_lt hx hb hd ht (fun q => ?_) (fun q => ?_)
      · rw [if_pos q] at hn; cases x_go_some hn; exact kk H locs L hl hlen hP hS h0 k0
      · rw [if_neg q] at hn; cases x_go_some hn; exact kk H locs L hl hlen hP hS h0 k0
    case ge =>
      replace hn := x_ln_some hn
      obtain ⟨e1, hn⟩ := hn
      subst e1
      replace hn := x_i1_some hn
      obtain ⟨x, r, e1, hn⟩ := hn
      subst e1
      replace hn := x_to_some hn
      obtain ⟨t, ht, hn⟩ := hn
      have hg : g.1 = d ∧ g.2.1 = k := by
        by_cases q : 0 ≤ x
        · rw [if_pos q] at hn; cases x_go_some hn; exact ⟨rfl, rfl⟩
        · rw [if_neg q] at hn; cases x_go_some hn; exact ⟨rfl, rfl⟩
      refine ⟨hg.1, hg.2, fun H locs L hl hlen hP hS h0 k0 => ?_⟩
      refine lv_if_ge hx hb hd ht (fun q => ?_) (fun q => ?_)
      · rw [if_pos q] at hn; cases x_go_some hn; exact kk H locs L hl hlen hP hS h0 k0
      · rw [if_neg q] at hn; cases x_go_some hn; exact kk H locs L hl hlen hP hS h0 k0
    case gt =>
      replace hn := x_ln_some hn
      obtain ⟨e1, hn⟩ := hn
      subst e1
      replace hn := x_i1_some hn
      obtain ⟨x, r, e1, hn⟩ := hn
      subst e1
      replace hn := x_to_some hn
      obtain ⟨t, ht, hn⟩ := hn
      have hg : g.1 = d ∧ g.2.1 = k := by
        by_cases q : 0 < x
        · rw [if_pos q] at hn; cases x_go_some hn; exact ⟨rfl, rfl⟩
        · rw [if_neg q] at hn; cases x_go_some hn; exact ⟨rfl, rfl⟩
      refine ⟨hg.1, hg.2, fun H locs L hl hlen hP hS h0 k0 => ?_⟩
      refine lv_if_gt hx hb hd ht (fun q => ?_) (fun q => ?_)
      · rw [if_pos q] at hn; cases x_go_some hn; exact kk H locs L hl hlen hP hS h0 k0
      · rw [if_neg q] at hn; cases x_go_some hn; exact kk H locs L hl hlen hP hS h0 k0
    case le =>
      replace hn := x_ln_some hn
      obtain ⟨e1, hn⟩ := hn
      subst e1
      replace hn := x_i1_some hn
      obtain ⟨x, r, e1, hn⟩ := hn
      subst e1
      replace hn := x_to_some hn
      obtain ⟨t, ht, hn⟩ := hn
      have hg : g.1 = d ∧ g.2.1 = k := by
        by_cases q : x ≤ 0
        · rw [if_pos q] at hn; cases x_go_some hn; exact ⟨rfl, rfl⟩
        · rw [if_neg q] at hn; cases x_go_some hn; exact ⟨rfl, rfl⟩
      refine ⟨hg.1, hg.2, fun H locs L hl hlen hP hS h0 k0 => ?_⟩
      refine lv_if_le hx hb hd ht (fun q => ?_) (fun q => ?_)
      · rw [if_pos q] at hn; cases x_go_some hn; exact kk H locs L hl hlen hP hS h0 k0
      · rw [if_neg q] at hn; cases x_go_some hn; exact kk H locs L hl hlen hP hS h0 k0
  case tableswitch dflt lo hi offs =>
    replace hn := x_i1_some hn
    obtain ⟨x, r, e1, hn⟩ := hn
    subst e1
    by_cases q : x.toInt < lo ∨ hi < x.toInt
    · rw [if_pos q] at hn
      replace hn := x_to_some hn
      obtain ⟨t, ht, hn⟩ := hn
      cases x_go_some hn
      refine ⟨rfl, rfl, fun H locs L hl hlen hP hS h0 k0 => ?_⟩
      exact lv_tableOut hx hb hd q ht (kk H locs L hl hlen hP hS h0 k0)
    · rw [if_neg q] at hn
      replace hn := x_bind_some hn
      obtain ⟨off, ho, hn⟩ := hn
      replace hn := x_to_some hn
      obtain ⟨t, ht, hn⟩ := hn
      cases x_go_some hn
      refine ⟨rfl, rfl, fun H locs L hl hlen hP hS h0 k0 => ?_⟩
      exact lv_tableIn hx hb hd (fun z => q (Or.inl z)) (fun z => q (Or.inr z)) ho ht (kk H locs L hl hlen hP hS h0 k0)
  case lookupswitch dflt ps =>
    replace hn := x_i1_some hn
    obtain ⟨x, r, e1, hn⟩ := hn
    subst e1
    replace hn := x_if_some hn
    obtain ⟨hp, hn⟩ := hn
    replace hn := x_to_some hn
    obtain ⟨t, ht, hn⟩ := hn
    cases x_go_some hn
    refine ⟨rfl, rfl, fun H locs L hl hlen hP hS h0 k0 => ?_⟩
    exact lv_lookup hx hb hd hp rfl ht (kk H locs L hl hlen hP hS h0 k0)
  case getfield i =>
    replace hn := x_ln_some hn
    obtain ⟨e1, hn⟩ := hn
    subst e1
    replace hn := x_bind_some hn
    obtain ⟨q, hq, hn⟩ := hn
    replace hn := x_r1_some hn
    obtain ⟨a, r, e1, hn⟩ := hn
    subst e1
    replace hn := x_bind_some hn
    obtain ⟨v, hv, hn⟩ := hn
    cases x_go_some hn
    refine ⟨rfl, rfl, fun H locs L hl hlen hP hS h0 k0 => ?_⟩
    obtain ⟨fs, hf, hv⟩ := x_bind_some hv
    obtain ⟨ha, hc⟩ := x_obj_some hf
    obtain ⟨cr, hcr, hkl, hlink⟩ := x_fok hq9 hq
    have he : (x_W b ad cy h)[a]? = some (b + a, .inr (q.1, fs.map (x_tr b ad))) := by rw [x_W_at ha, hc]; rfl
    exact va_get (D := D) (v := x_tr b ad v) hx hb hts (x_uok hcr) hown hK.1 hP a he hcr q.2 hkl (hts _ hlink) (fun _ h9 => h9) (by rw [List.getElem?_map, hv]; rfl) hd (kk H locs L hl hlen hP hS h0 k0)
  case putfield i =>
    replace hn := x_ln_some hn
    obtain ⟨e1, hn⟩ := hn
    subst e1
    replace hn := x_bind_some hn
    obtain ⟨q, hq, hn⟩ := hn
    replace hn := x_v1_some hn
    obtain ⟨v, r, e1, hn⟩ := hn
    subst e1
    replace hn := x_r1_some hn
    obtain ⟨a, r, e1, hn⟩ := hn
    subst e1
    replace hn := x_bind_some hn
    obtain ⟨cr, hcr, hn⟩ := hn
    replace hn := x_bind_some hn
    obtain ⟨ty, hty, hn⟩ := hn
    replace hn := x_if_some hn
    obtain ⟨⟨hft, hfn⟩, hn⟩ := hn
    replace hn := x_bind_some hn
    obtain ⟨h1, hp, hn⟩ := hn
    cases x_go_some hn
    refine ⟨rfl, rfl, fun H locs L hl hlen hP hS h0 k0 => ?_⟩
    obtain ⟨fs, hf, hp⟩ := x_bind_some hp
    obtain ⟨hfl, hp⟩ := x_if_some hp
    cases hp
    obtain ⟨ha, hc⟩ := x_obj_some hf
    obtain ⟨cr', hcr', hkl, hlink⟩ := x_fok hq9 hq
    cases hcr.symm.trans hcr'
    have he : (x_W b ad cy h)[a]? = some (b + a, .inr (q.1, fs.map (x_tr b ad))) := by rw [x_W_at ha, hc]; rfl
    obtain ⟨ty0, hty0, hnm, hnr, hdc, -, -, -⟩ := x_tyok (b := b) (ad := ad) hcr
    obtain ⟨hn1, hn2⟩ := x_fitok (b := b) (ad := ad) hft
    have hset : ∀ {H1 : Heap}, va_P D vwCl ((x_W b ad cy h).set a (b + a, .inr (q.1, (fs.map (x_tr b ad)).set q.2 (x_tr b ad v)))) H1 → va_P D vwCl (x_W b ad cy (x_set h a (.inr (q.1, fs.set q.2 v)))) H1 := fun z => by
      rw [← x_W_set]
      rw [← List.map_set] at z
      exact z
    by_cases hfin : (cr.2.1 q.2).2.2.2 = true
    · obtain ⟨hi3, hi4⟩ := hfn hfin
      exact va_putF (D := D) (ty := ty) (v := x_tr b ad v) hx hb hts (x_uok hcr) ty0 hty0 hnm hown hK.1 hP (x_D b ad cy h) hS a he hcr q.2 hkl (hts _ hlink) (fun _ h9 => h9) hfin (hin hi3) (by rw [hdc _ hkl, hnr, hi4]) hty hn1 hn2 (by rw [List.length_map]; exact hfl) hd (fun H1 locs1 hP1 _ hS1 => kk H1 locs1 L hl hlen (hset hP1) hS1 h0 k0)
    · exact va_put (D := D) (ty := ty) (v := x_tr b ad v) hx hb hts (x_uok hcr) ty0 hty0 hnm hown hK.1 hP (x_D b ad cy h) hS a he hcr q.2 hkl (hts _ hlink) (fun _ h9 => h9) (by simpa using hfin) hty hn1 hn2 (by rw [List.length_map]; exact hfl) hd (fun H1 locs1 hP1 _ hS1 => kk H1 locs1 L hl hlen (hset hP1) hS1 h0 k0)
  case iaload =>
    replace hn := x_ln_some hn
    obtain ⟨e1, hn⟩ := hn
    subst e1
    replace hn := x_ir_some hn
    obtain ⟨i, a, r, e1, hn⟩ := hn
    subst e1
    replace hn := x_bind_some hn
    obtain ⟨v, hv, hn⟩ := hn
    cases x_go_some hn
    refine ⟨rfl, rfl, fun H locs L hl hlen hP hS h0 k0 => ?_⟩
    obtain ⟨q, hq, hv⟩ := x_bind_some hv
    obtain ⟨⟨hq0, hi⟩, hv⟩ := x_if_some hv
    cases hv
    obtain ⟨ha, hc⟩ := x_row_some hq
    have he : (x_W b ad cy h)[a]? = some (b + a, .inl (cy 0, q.2.1, .inl q.2.2)) := by rw [x_W_at ha, hc, hq0]; rfl
    exact va_iald hx hb hK.1 hP a 0 he rfl hi hd (kk H locs L hl hlen hP hS h0 k0)
  case baload =>
    replace hn := x_ln_some hn
    obtain ⟨e1, hn⟩ := hn
    subst e1
    replace hn := x_ir_some hn
    obtain ⟨i, a, r, e1, hn⟩ := hn
    subst e1
    replace hn := x_bind_some hn
    obtain ⟨v, hv, hn⟩ := hn
    cases x_go_some hn
    refine ⟨rfl, rfl, fun H locs L hl hlen hP hS h0 k0 => ?_⟩
    obtain ⟨q, hq, hv⟩ := x_bind_some hv
    obtain ⟨⟨hq0, hi⟩, hv⟩ := x_if_some hv
    cases hv
    obtain ⟨ha, hc⟩ := x_row_some hq
    have he : (x_W b ad cy h)[a]? = some (b + a, .inl (cy 1, q.2.1, .inl q.2.2)) := by rw [x_W_at ha, hc, hq0]; rfl
    exact va_zald hx hb hK.1 hP a 1 he rfl hi hd (kk H locs L hl hlen hP hS h0 k0)
  case iastore =>
    replace hn := x_ln_some hn
    obtain ⟨e1, hn⟩ := hn
    subst e1
    replace hn := x_iir_some hn
    obtain ⟨x, i, a, r, e1, hn⟩ := hn
    subst e1
    replace hn := x_bind_some hn
    obtain ⟨h1, hv, hn⟩ := hn
    cases x_go_some hn
    refine ⟨rfl, rfl, fun H locs L hl hlen hP hS h0 k0 => ?_⟩
    obtain ⟨q, hq, hv⟩ := x_bind_some hv
    obtain ⟨⟨hq0, hi⟩, hv⟩ := x_if_some hv
    cases hv
    obtain ⟨ha, hc⟩ := x_row_some hq
    have he : (x_W b ad cy h)[a]? = some (b + a, .inl (cy 0, q.2.1, .inl q.2.2)) := by rw [x_W_at ha, hc, hq0]; rfl
    refine va_iast hx hb hK.1 hP (x_D b ad cy h) hS a 0 he rfl hi hd (fun H1 locs1 hP1 _ hS1 => kk H1 locs1 L hl hlen ?_ hS1 h0 k0)
    rw [hq0]
    rw [← x_W_set]
    exact hP1
  case bastore =>
    replace hn := x_ln_some hn
    obtain ⟨e1, hn⟩ := hn
    subst e1
    replace hn := x_iir_some hn
    obtain ⟨x, i, a, r, e1, hn⟩ := hn
    subst e1
    replace hn := x_bind_some hn
    obtain ⟨h1, hv, hn⟩ := hn
    cases x_go_some hn
    refine ⟨rfl, rfl, fun H locs L hl hlen hP hS h0 k0 => ?_⟩
    obtain ⟨q, hq, hv⟩ := x_bind_some hv
    obtain ⟨⟨hq0, hi⟩, hv⟩ := x_if_some hv
    cases hv
    obtain ⟨ha, hc⟩ := x_row_some hq
    have he : (x_W b ad cy h)[a]? = some (b + a, .inl (cy 1, q.2.1, .inl q.2.2)) := by rw [x_W_at ha, hc, hq0]; rfl
    refine va_zast hx hb hK.1 hP (x_D b ad cy h) hS a 1 he rfl hi hd (fun H1 locs1 hP1 _ hS1 => kk H1 locs1 L hl hlen ?_ hS1 h0 k0)
    rw [hq0]
    rw [← x_W_set]
    exact hP1
  case aaload =>
    replace hn := x_ln_some hn
    obtain ⟨e1, hn⟩ := hn
    subst e1
    replace hn := x_ir_some hn
    obtain ⟨i, a, r, e1, hn⟩ := hn
    subst e1
    replace hn := x_bind_some hn
    obtain ⟨v, hv, hn⟩ := hn
    cases x_go_some hn
    refine ⟨rfl, rfl, fun H locs L hl hlen hP hS h0 k0 => ?_⟩
    obtain ⟨q, hq, hv⟩ := x_bind_some hv
    obtain ⟨⟨hq0, hi⟩, hv⟩ := x_if_some hv
    cases hv
    obtain ⟨ha, hc⟩ := x_refs_some hq
    have he : (x_W b ad cy h)[a]? = some (b + a, .inl (cy q.1, q.2.1, .inr (.inr (.inr (.inr fun j => (q.2.2 j).map fun z => b + z))))) := by rw [x_W_at ha, hc]; rfl
    have ht : ∃ z, z < 5 ∧ (x_tys cy)[z]? = some (cy q.1, .object (xR (x_kc q.1))) := by
      rcases hq0 with e | e | e
      · rw [e]; exact ⟨2, by decide, rfl⟩
      · rw [e]; exact ⟨3, by decide, rfl⟩
      · rw [e]; exact ⟨4, by decide, rfl⟩
    obtain ⟨z, -, ht⟩ := ht
    have h8 := kk H locs L hl hlen hP hS h0 k0
    have e9 : x_tr b ad (va_rf (q.2.2 i.toNatClampNeg)) = va_rf ((q.2.2 i.toNatClampNeg).map fun z => b + z) := by cases q.2.2 i.toNatClampNeg <;> rfl
    rw [List.map_cons, e9] at h8
    exact va_aldq hx hb hK.1 hP a z he ht hi hd h8
  case aastore =>
    replace hn := x_ln_some hn
    obtain ⟨e1, hn⟩ := hn
    subst e1
    replace hn := x_rir_some hn
    obtain ⟨x, i, a, r, e1, hn⟩ := hn
    subst e1
    replace hn := x_bind_some hn
    obtain ⟨h1, hv, hn⟩ := hn
    cases x_go_some hn
    refine ⟨rfl, rfl, fun H locs L hl hlen hP hS h0 k0 => ?_⟩
    obtain ⟨q, hq, hv⟩ := x_bind_some hv
    obtain ⟨⟨hq0, hi⟩, hv⟩ := x_if_some hv
    obtain ⟨fs, hfs, hv⟩ := x_bind_some hv
    cases hv
    obtain ⟨ha, hc⟩ := x_refs_some hq
    obtain ⟨ho1, ho2⟩ := x_obj_some hfs
    have he : (x_W b ad cy h)[a]? = some (b + a, .inl (cy q.1, q.2.1, .inr (.inr (.inr (.inr fun j => (q.2.2 j).map fun z => b + z))))) := by rw [x_W_at ha, hc]; rfl
    have hv : (x_W b ad cy h)[x]? = some (b + x, .inr (x_kc q.1, fs.map (x_tr b ad))) := by rw [x_W_at ho1, ho2]; rfl
    have ht : ∃ z, z < 5 ∧ (x_tys cy)[z]? = some (cy q.1, .object (xR (x_kc q.1))) := by
      rcases hq0 with e | e | e
      · rw [e]; exact ⟨2, by decide, rfl⟩
      · rw [e]; exact ⟨3, by decide, rfl⟩
      · rw [e]; exact ⟨4, by decide, rfl⟩
    obtain ⟨z, -, ht⟩ := ht
    obtain ⟨cr, hcr, hcn⟩ : ∃ cr : vw_C, vwCl[x_kc q.1]? = some cr ∧ cr.1 = xR (x_kc q.1) := by
      rcases hq0 with e | e | e
      · rw [e]; exact ⟨_, rfl, rfl⟩
      · rw [e]; exact ⟨_, rfl, rfl⟩
      · rw [e]; exact ⟨_, rfl, rfl⟩
    rw [← hcn] at ht
    refine va_astq hx hb hK.1 hP (x_D b ad cy h) hS a z x (x_kc q.1) he ht hv hcr hi hd (fun H1 locs1 hP1 _ hS1 => kk H1 locs1 L hl hlen ?_ hS1 h0 k0)
    rw [← x_W_set]
    have e9 : (fun j => (va_up q.2.2 i.toNatClampNeg (some x) j).map fun z => b + z) = va_up (fun j => (q.2.2 j).map fun z => b + z) i.toNatClampNeg (some (b + x)) := by
      funext j
      by_cases ej : j = i.toNatClampNeg
      · simp [va_up, ej]
      · simp [va_up, ej]
    have e10 : x_cell b ad cy (.inl (q.1, q.2.1, .inr (.inr (.inr (.inr (va_up q.2.2 i.toNatClampNeg (some x))))))) = .inl (cy q.1, q.2.1, .inr (.inr (.inr (.inr (va_up (fun j => (q.2.2 j).map fun z => b + z) i.toNatClampNeg (some (b + x))))))) := by
      rw [← e9]; rfl
    rw [e10]
    exact hP1
  case arraylength =>
    replace hn := x_ln_some hn
    obtain ⟨e1, hn⟩ := hn
    subst e1
    replace hn := x_r1_some hn
    obtain ⟨a, r, e1, hn⟩ := hn
    subst e1
    replace hn := x_bind_some hn
    obtain ⟨v, hv, hn⟩ := hn
    cases x_go_some hn
    refine ⟨rfl, rfl, fun H locs L hl hlen hP hS h0 k0 => ?_⟩
    obtain ⟨q, hq, hv⟩ := x_bind_some hv
    obtain ⟨hq0, hv⟩ := x_if_some hv
    cases hv
    obtain ⟨ha, hc⟩ := x_arr_some hq
    have he : (x_W b ad cy h)[a]? = some (b + a, .inl (cy q.1, x_trA b q.2)) := by rw [x_W_at ha, hc]; rfl
    obtain ⟨ty, ht⟩ : ∃ ty, (x_tys cy)[q.1]? = some (cy q.1, ty) := by
      rcases (show q.1 = 0 ∨ q.1 = 1 ∨ q.1 = 2 ∨ q.1 = 3 ∨ q.1 = 4 by omega) with e | e | e | e | e <;> rw [e] <;> exact ⟨_, rfl⟩
    exact va_alen hx hb hK.1 hP a q.1 he ht rfl hd (kk H locs L hl hlen hP hS h0 k0)
  case new i =>
    replace hn := x_ln_some hn
    obtain ⟨e1, hn⟩ := hn
    subst e1
    replace hn := x_bind_some hn
    obtain ⟨ci, hci, hn⟩ := hn
    cases x_go_some hn
    refine ⟨rfl, rfl, fun H locs L hl hlen hP hS h0 k0 => ?_⟩
    obtain ⟨cr, hcr, hw1, hw2, hw3⟩ := x_nok hq9 hci
    obtain ⟨ty0, hty0, hnm, hnr, hdc, hdf, hln, hmp⟩ := x_tyok (b := b) (ad := ad) hcr
    have hcc' : h.1 + 1 - n0 ≤ R.cells := hcc
    have hcs' : h.2.1 + (x_new ci).length - k0' ≤ R.slots := hcs
    rw [hln] at hcs'
    refine va_new (fs := x_new ci) hx hb hts (x_uok hcr) ty0 hty0 hown (hts _ hw1) (hts _ hw2) (hts _ hw3) hK.1 hP (x_D b ad cy h) hS (fun q hq => by rw [hs] at hq; exact Nat.le_trans (Nat.le_add_right _ _) hq) hcr hdf (by omega) (by omega) hd (fun q H1 hP1 hD1 hS1 => ?_)
    refine x_size (fun hz => ?_)
    have hq : q = b + h.1 := x_fresh hP1 hD1 (by omega)
    subst hq
    have e1 : h.1 - n0 + 1 = h.1 + 1 - n0 := by omega
    have e2 : h.2.1 - k0' + cr.2.2 = h.2.1 + (x_new ci).length - k0' := by rw [hln]; omega
    rw [e1, e2]
    refine kk H1 locs L hl hlen ?_ hS1 (by show n0 ≤ h.1 + 1; omega) (by show k0' ≤ h.2.1 + _; omega)
    rw [← x_W_push]
    have e3 : x_cell b ad cy (.inr (ci, x_new ci)) = .inr (ci, x_new ci) := by
      show Sum.inr (ci, (x_new ci).map (x_tr b ad)) = _
      rw [hmp]
    rw [e3]
    exact hP1
  case newarray t =>
    cases t
    case int =>
      replace hn := x_ln_some hn
      obtain ⟨e1, hn⟩ := hn
      subst e1
      replace hn := x_i1_some hn
      obtain ⟨n, r, e1, hn⟩ := hn
      subst e1
      replace hn := x_nif_some hn
      obtain ⟨hbad, hn⟩ := hn
      cases x_go_some hn
      refine ⟨rfl, rfl, fun H locs L hl hlen hP hS h0 k0 => ?_⟩
      have hcc' : h.1 + 1 - n0 ≤ R.cells := hcc
      have hcs' : h.2.1 + n.toNatClampNeg - k0' ≤ R.slots := hcs
      have h65 : ¬ 65536 < n.toNatClampNeg := fun q => hbad (Or.inr q)
      refine va_newa (ty := .int) (a0 := (n.toNatClampNeg, .inl fun _ => 0)) hx hb (x_w14 hts 12 rfl) rfl hK.1 hP (x_D b ad cy h) hS (fun q hq => by rw [hs] at hq; exact Nat.le_trans (Nat.le_add_right _ _) hq) (fun cA => rfl) (fun q => hbad (Or.inl q)) rfl (by show n.toNatClampNeg * 4 ≤ _; omega) (by omega) (by omega) hd (fun q cA H1 hK1 hP1 hD1 hS1 => ?_)
      refine x_size (fun hz => ?_)
      have hq : q = b + h.1 := x_fresh hP1 hD1 (by omega)
      subst hq
      have hcA : cA = cy 0 := by
        have g1 := (hK1.2 (x_tys cy).length (cA, .int) (by simp)).2
        have g2 := (hK.1.2 0 (cy 0, .int) rfl).2
        exact Option.some.inj (g1.symm.trans g2)
      subst hcA
      have e1 : h.1 - n0 + 1 = h.1 + 1 - n0 := by omega
      have e2 : h.2.1 - k0' + n.toNatClampNeg = h.2.1 + n.toNatClampNeg - k0' := by omega
      rw [e1, e2]
      refine kk H1 locs L hl hlen ?_ hS1 (by show n0 ≤ h.1 + 1; omega) (by show k0' ≤ h.2.1 + _; omega)
      rw [← x_W_push]
      exact hP1
    case boolean =>
      replace hn := x_ln_some hn
      obtain ⟨e1, hn⟩ := hn
      subst e1
      replace hn := x_i1_some hn
      obtain ⟨n, r, e1, hn⟩ := hn
      subst e1
      replace hn := x_nif_some hn
      obtain ⟨hbad, hn⟩ := hn
      cases x_go_some hn
      refine ⟨rfl, rfl, fun H locs L hl hlen hP hS h0 k0 => ?_⟩
      have hcc' : h.1 + 1 - n0 ≤ R.cells := hcc
      have hcs' : h.2.1 + n.toNatClampNeg - k0' ≤ R.slots := hcs
      have h65 : ¬ 65536 < n.toNatClampNeg := fun q => hbad (Or.inr q)
      refine va_newa (ty := .boolean) (a0 := (n.toNatClampNeg, .inl fun _ => 0)) hx hb (x_w14 hts 13 rfl) rfl hK.1 hP (x_D b ad cy h) hS (fun q hq => by rw [hs] at hq; exact Nat.le_trans (Nat.le_add_right _ _) hq) (fun cA => rfl) (fun q => hbad (Or.inl q)) rfl (by show n.toNatClampNeg * 1 ≤ _; omega) (by omega) (by omega) hd (fun q cA H1 hK1 hP1 hD1 hS1 => ?_)
      refine x_size (fun hz => ?_)
      have hq : q = b + h.1 := x_fresh hP1 hD1 (by omega)
      subst hq
      have hcA : cA = cy 1 := by
        have g1 := (hK1.2 (x_tys cy).length (cA, .boolean) (by simp)).2
        have g2 := (hK.1.2 1 (cy 1, .boolean) rfl).2
        exact Option.some.inj (g1.symm.trans g2)
      subst hcA
      have e1 : h.1 - n0 + 1 = h.1 + 1 - n0 := by omega
      have e2 : h.2.1 - k0' + n.toNatClampNeg = h.2.1 + n.toNatClampNeg - k0' := by omega
      rw [e1, e2]
      refine kk H1 locs L hl hlen ?_ hS1 (by show n0 ≤ h.1 + 1; omega) (by show k0' ≤ h.2.1 + _; omega)
      rw [← x_W_push]
      exact hP1
    all_goals exact absurd hn (fun q => by cases (show (none : Option xN) = _ from q))
  case anewarray i =>
    replace hn := x_ln_some hn
    obtain ⟨e1, hn⟩ := hn
    subst e1
    replace hn := x_bind_some hn
    obtain ⟨ci, hci, hn⟩ := hn
    replace hn := x_i1_some hn
    obtain ⟨n, r, e1, hn⟩ := hn
    subst e1
    replace hn := x_nif_some hn
    obtain ⟨hbad, hn⟩ := hn
    cases x_go_some hn
    refine ⟨rfl, rfl, fun H locs L hl hlen hP hS h0 k0 => ?_⟩
    obtain ⟨cr, hcr, hw1, hw2, hw3⟩ := x_nok hq9 hci
    have hcc' : h.1 + 1 - n0 ≤ R.cells := hcc
    have hcs' : h.2.1 + n.toNatClampNeg - k0' ≤ R.slots := hcs
    have hci3 : ci = 0 ∨ ci = 2 ∨ ci = 5 := by
      by_cases z : ci = 0 ∨ ci = 2 ∨ ci = 5
      · exact z
      · exact absurd (Or.inr (Or.inr z)) hbad
    obtain ⟨hao, kx, hkx, hty⟩ : va_AO cr.1 s ∧ ∃ kx, kx = (if ci = 0 then 2 else if ci = 2 then 3 else 4) ∧ ∃ z, (x_tys cy)[z]? = some (cy kx, FieldType.object cr.1) := by
      rcases hci3 with e | e | e
      · subst e; cases hcr; exact ⟨hK.2.2.1, 2, rfl, 2, rfl⟩
      · subst e; cases hcr; exact ⟨hK.2.2.2.1, 3, rfl, 3, rfl⟩
      · subst e; cases hcr; exact ⟨hK.2.2.2.2, 4, rfl, 4, rfl⟩
    obtain ⟨z, hty⟩ := hty
    refine va_newq hx hb hown (hts _ hw1) hao hK.1 hP (x_D b ad cy h) hS (fun q hq => by rw [hs] at hq; exact Nat.le_trans (Nat.le_add_right _ _) hq) (N' := n.toNatClampNeg) (fun q => hbad (Or.inl q)) rfl (by have : ¬ 65536 < n.toNatClampNeg := fun q => hbad (Or.inr (Or.inl q)); omega) (by omega) (by omega) hd (fun q cA H1 hK1 hP1 hD1 hS1 => ?_)
    refine x_size (fun hz => ?_)
    have hq : q = b + h.1 := x_fresh hP1 hD1 (by omega)
    subst hq
    have hcA : cA = cy kx := by
      have g1 := (hK1.2 (x_tys cy).length (cA, .object cr.1) (by simp)).2
      have g2 := (hK.1.2 z _ hty).2
      obtain ⟨_, _, -, -, -, g1⟩ := g1
      obtain ⟨_, _, -, -, -, g2⟩ := g2
      exact Option.some.inj (g1.symm.trans g2)
    subst hcA
    have e1 : h.1 - n0 + 1 = h.1 + 1 - n0 := by omega
    have e2 : h.2.1 - k0' + n.toNatClampNeg = h.2.1 + n.toNatClampNeg - k0' := by omega
    rw [e1, e2]
    refine kk H1 locs L hl hlen ?_ hS1 (by show n0 ≤ h.1 + 1; omega) (by show k0' ≤ h.2.1 + _; omega)
    rw [← x_W_push, ← hkx]
    exact hP1
  case invokestatic i =>
    replace hn := x_ln_some hn
    obtain ⟨e1, hn⟩ := hn
    subst e1
    replace hn := x_bind_some hn
    obtain ⟨q, hq, hn⟩ := hn
    have hlk1 := x_lo _ hq9 _ (x_find_mem hq)
    cases d with
    | zero => cases hn
    | succ d =>
      change (if q.1 ≤ 1 then _ else _) = _ at hn
      by_cases q1 : q.1 ≤ 1
      · rw [if_pos q1] at hn
        replace hn := x_if_some hn
        obtain ⟨-, hn⟩ := hn
        replace hn := x_bind_some hn
        obtain ⟨w, -, hn⟩ := hn
        exact (x_call_not hn).elim
      · rw [if_neg q1] at hn
        obtain ⟨t1, t2⟩ := q
        unfold x_lokP at hlk1
        by_cases q3 : t1 = 3
        · rw [if_pos q3] at hn
          subst q3
          replace hn := x_i2_some hn
          obtain ⟨x, y, r, e1, hn⟩ := hn
          subst e1
          replace hn := x_if_some hn
          obtain ⟨hr8, hn⟩ := hn
          cases x_go_some hn
          refine ⟨rfl, rfl, fun H locs L hl hlen hP hS h0 k0 => ?_⟩
          exact va_mmax hx hb (hml.trans hl.1.symm) hown (hts _ hlk1) (x_w14 hts 2 rfl) (x_w14 hts 3 rfl) (x_w14 hts 4 rfl) (by omega) (by rw [x_tr_sum]; omega) hcc hcs hd (kk H locs L hl hlen hP hS h0 k0)
        · rw [if_neg q3] at hn
          by_cases q4 : t1 = 4
          · rw [if_pos q4] at hn
            subst q4
            replace hn := x_i2_some hn
            obtain ⟨x, y, r, e1, hn⟩ := hn
            subst e1
            replace hn := x_if_some hn
            obtain ⟨hr8, hn⟩ := hn
            cases x_go_some hn
            refine ⟨rfl, rfl, fun H locs L hl hlen hP hS h0 k0 => ?_⟩
            exact va_mmin hx hb (hml.trans hl.1.symm) hown (hts _ hlk1) (x_w14 hts 5 rfl) (x_w14 hts 3 rfl) (x_w14 hts 6 rfl) (by omega) (by rw [x_tr_sum]; omega) hcc hcs hd (kk H locs L hl hlen hP hS h0 k0)
          · rw [if_neg q4] at hn
            by_cases q5 : t1 = 5
            · rw [if_pos q5] at hn
              subst q5
              replace hn := x_i1_some hn
              obtain ⟨x, r, e1, hn⟩ := hn
              subst e1
              replace hn := x_if_some hn
              obtain ⟨hr8, hn⟩ := hn
              cases x_go_some hn
              refine ⟨rfl, rfl, fun H locs L hl hlen hP hS h0 k0 => ?_⟩
              exact va_mabs hx hb (hml.trans hl.1.symm) hown (hts _ hlk1) (x_w14 hts 7 rfl) (x_w14 hts 3 rfl) (x_w14 hts 8 rfl) (by omega) (by rw [x_tr_sum]; omega) hcc hcs hd (kk H locs L hl hlen hP hS h0 k0)
            · rw [if_neg q5] at hn
              by_cases q6 : t1 = 6
              · rw [if_pos q6] at hn
                subst q6
                replace hn := x_i2_some hn
                obtain ⟨dp, n, r, e1, hn⟩ := hn
                subst e1
                replace hn := x_r1_some hn
                obtain ⟨a, r, e1, hn⟩ := hn
                subst e1
                replace hn := x_ir_some hn
                obtain ⟨sp, a0, r, e1, hn⟩ := hn
                subst e1
                replace hn := x_if_some hn
                obtain ⟨hr8, hn⟩ := hn
                replace hn := x_bind_some hn
                obtain ⟨h1, hv, hn⟩ := hn
                cases x_go_some hn
                refine ⟨rfl, rfl, fun H locs L hl hlen hP hS h0 k0 => ?_⟩
                obtain ⟨u, hu, hv⟩ := x_bind_some hv
                obtain ⟨w, hw, hv⟩ := x_bind_some hv
                obtain ⟨⟨hu0, hw0, hs1, hs2, hs3, hs4, hs5⟩, hv⟩ := x_if_some hv
                cases hv
                obtain ⟨ha0, hc0⟩ := x_row_some hu
                obtain ⟨ha1, hc1⟩ := x_row_some hw
                have he0 : (x_W b ad cy h)[a0]? = some (b + a0, .inl (cy 0, u.2.1, .inl u.2.2)) := by rw [x_W_at ha0, hc0, hu0]; rfl
                have he1 : (x_W b ad cy h)[a]? = some (b + a, .inl (cy 0, w.2.1, .inl w.2.2)) := by rw [x_W_at ha1, hc1, hw0]; rfl
                refine va_copyi hx hb (hml.trans hl.1.symm) hown (hts _ hlk1) (x_w14 hts 9 rfl) (x_w14 hts 10 rfl) (x_w14 hts 11 rfl) hK.1 hP (x_D b ad cy h) hS a0 a 0 0 he0 he1 rfl rfl rfl hs1 hs2 hs3 hs4 hs5 (fun _ _ => rfl) (by omega) (by rw [x_tr_sum]; have := x_native; omega) hd (fun H1 locs1 hP1 _ hS1 => kk H1 locs1 L hl hlen ?_ hS1 h0 k0)
                rw [hw0]
                rw [← x_W_set]
                exact hP1
              · rw [if_neg q6] at hn
                cases hn
  case invokevirtual i =>
    replace hn := x_ln_some hn
    obtain ⟨e1, hn⟩ := hn
    subst e1
    replace hn := x_bind_some hn
    obtain ⟨q, hq, hn⟩ := hn
    have hlk1 := x_lo _ hq9 _ (x_find_mem hq)
    cases d with
    | zero => cases hn
    | succ d =>
      change (if q.1 = 0 then _ else _) = _ at hn
      by_cases q1 : q.1 = 0
      · rw [if_pos q1] at hn
        replace hn := x_if_some hn
        obtain ⟨-, hn⟩ := hn
        replace hn := x_bind_some hn
        obtain ⟨w, -, hn⟩ := hn
        replace hn := x_r1_some hn
        obtain ⟨a, r, -, hn⟩ := hn
        replace hn := x_bind_some hn
        obtain ⟨fs, -, hn⟩ := hn
        exact (x_call_not hn).elim
      · rw [if_neg q1] at hn
        obtain ⟨t1, t2⟩ := q
        unfold x_lokP at hlk1
        by_cases q7 : t1 = 7
        · subst q7
          rw [if_pos rfl] at hn
          split at hn
          · rename_i k2 r
            replace hn := x_if_some hn
            obtain ⟨hr8, hn⟩ := hn
            replace hn := x_bind_some hn
            obtain ⟨t, ht, hn⟩ := hn
            cases x_go_some hn
            refine ⟨rfl, rfl, fun H locs L hl hlen hP hS h0 k0 => ?_⟩
            obtain ⟨⟨adV, v, hY⟩, -⟩ := hT
            have hi : k2 < 6 := (List.getElem?_eq_some_iff.mp ht).1
            have et : x_tx.getD k2 [] = t := by rw [List.getD_eq_getElem?_getD, ht]; rfl
            refine va_calli (A0 := x_A b) (va_runV (As := []) (rest := r.map (x_tr b ad)) (C := RJ0) (n := 0) ⟨hx, hb, hml, hown, hts⟩ (c_length l b ad adV v k2 hi) ⟨callB_of 0 hts (x_wqG (x_gm (x_t3 (List.mem_of_getElem? (i := 12) rfl)) rfl)) rfl rfl rfl (hts _ (x_gm (x_t1 (List.mem_of_getElem? (i := 11) rfl)) rfl)) (hts _ (show Cond.methodLink (xR (xm k).1) i yJ0_length_8abf5 ∈ x_gw from hlk1)) (by decide) ⟨by show 1 + 1 ≤ R.frames; omega, by show 8 + (1 + 11) + 30 * 1 ≤ R.locals; omega⟩, hts _ (x_gm (x_t3 (List.mem_of_getElem? (i := 10) rfl)) rfl), hts _ (x_gm (x_t3 (List.mem_of_getElem? (i := 11) rfl)) rfl)⟩ (x_YV hi hY hS) rfl rfl hl.1 rfl (lv_room (by rw [x_tr_sum]; exact hr8)) hd ⟨hcc, hcs⟩) hS (fun _ _ z => z.elim) (fun _ z => z.elim) (fun r0 u t0 H1 locs1 ht0 hvm hp _ _ hk1 hS1 => ?_)
            subst hp
            rw [et]
            exact kk H1 locs1 L hl hlen (fun j w hw => (hP j w hw).kept (hk1 _ (hP j w hw).lt (fun z => z))) hS1 h0 k0
          · cases hn
        · rw [if_neg q7] at hn
          by_cases q8 : t1 = 8
          · subst q8
            rw [if_pos rfl] at hn
            split at hn
            · rename_i j k2 r
              replace hn := x_if_some hn
              obtain ⟨hr8, hn⟩ := hn
              replace hn := x_bind_some hn
              obtain ⟨t, ht, hn⟩ := hn
              replace hn := x_nif_some hn
              obtain ⟨hj, hn⟩ := hn
              replace hn := x_bind_some hn
              obtain ⟨w, hw, hn⟩ := hn
              cases x_go_some hn
              refine ⟨rfl, rfl, fun H locs L hl hlen hP hS h0 k0 => ?_⟩
              obtain ⟨⟨adV, v, hY⟩, -⟩ := hT
              have hi : k2 < 6 := (List.getElem?_eq_some_iff.mp ht).1
              have et : x_tx.getD k2 [] = t := by rw [List.getD_eq_getElem?_getD, ht]; rfl
              have ew : (x_tx.getD k2 []).getD j.toNatClampNeg 0 = w := by rw [et, List.getD_eq_getElem?_getD, hw]; rfl
              refine va_calli (A0 := x_A b) (va_runV (As := [.int j]) (rest := r.map (x_tr b ad)) (C := RJ0) (n := 1) ⟨hx, hb, hml, hown, hts⟩ (c_char l b ad adV v k2 hi j hj (by rw [et]; exact (List.getElem?_eq_some_iff.mp hw).1)) ⟨callB_of 1 hts (x_wqG (x_gm (x_t3 (List.mem_of_getElem? (i := 22) rfl)) rfl)) rfl rfl rfl (hts _ (x_gm (x_t1 (List.mem_of_getElem? (i := 11) rfl)) rfl)) (hts _ (show Cond.methodLink (xR (xm k).1) i yJ0_charAt_5068e ∈ x_gw from hlk1)) (by decide) ⟨by show 3 + 1 ≤ R.frames; omega, by show 8 + (2 + 11) + 30 * 3 ≤ R.locals; omega⟩, hts _ (x_gm (x_t3 (List.mem_of_getElem? (i := 20) rfl)) rfl), hts _ (x_gm (x_t3 (List.mem_of_getElem? (i := 21) rfl)) rfl)⟩ (x_YV hi hY hS) rfl rfl hl.1 rfl (lv_room (by rw [x_tr_sum]; exact hr8)) hd ⟨hcc, hcs⟩) hS (fun _ _ z => z.elim) (fun _ z => z.elim) (fun r0 u t0 H1 locs1 ht0 hvm hp _ _ hk1 hS1 => ?_)
              subst hp
              rw [ew]
              exact kk H1 locs1 L hl hlen (fun j w hw => (hP j w hw).kept (hk1 _ (hP j w hw).lt (fun z => z))) hS1 h0 k0
            · cases hn
          · rw [if_neg q8] at hn
            cases hn
  case invokespecial i =>
    replace hn := x_ln_some hn
    obtain ⟨e1, hn⟩ := hn
    subst e1
    replace hn := x_bind_some hn
    obtain ⟨q, hq, hn⟩ := hn
    have hlk1 := x_lo _ hq9 _ (x_find_mem hq)
    cases d with
    | zero => cases hn
    | succ d =>
      change (if q.1 ≤ 1 then _ else _) = _ at hn
      by_cases q1 : q.1 ≤ 1
      · rw [if_pos q1] at hn
        replace hn := x_if_some hn
        obtain ⟨-, hn⟩ := hn
        replace hn := x_bind_some hn
        obtain ⟨w, -, hn⟩ := hn
        replace hn := x_r1_some hn
        obtain ⟨a, r, -, hn⟩ := hn
        exact (x_call_not hn).elim
      · rw [if_neg q1] at hn
        obtain ⟨t1, t2⟩ := q
        unfold x_lokP at hlk1
        by_cases q3 : t1 = 2
        · rw [if_pos q3] at hn
          subst q3
          replace hn := x_r1_some hn
          obtain ⟨a, r, e1, hn⟩ := hn
          subst e1
          replace hn := x_if_some hn
          obtain ⟨hr8, hn⟩ := hn
          cases x_go_some hn
          refine ⟨rfl, rfl, fun H locs L hl hlen hP hS h0 k0 => ?_⟩
          exact W.objInit hx hb hown (hts _ hlk1) (x_w14 hts 0 rfl) (x_w14 hts 1 rfl) rfl (hl.1.trans hml.symm) rfl hd (by omega) (by show 2 * 0 + _ + 12 ≤ _; rw [x_tr_sum]; omega) (kk H locs L hl hlen hP hS h0 k0)
        · rw [if_neg q3] at hn
          cases hn
  case ireturn =>
    replace hn := x_ln_some hn
    obtain ⟨e1, hn⟩ := hn
    subst e1
    split at hn
    · cases hn
    · replace hn := x_if_some hn
      obtain ⟨-, hn⟩ := hn
      cases hn
    · cases hn
  case lreturn =>
    replace hn := x_ln_some hn
    obtain ⟨e1, hn⟩ := hn
    subst e1
    split at hn
    · cases hn
    · cases hn
  case areturn =>
    replace hn := x_ln_some hn
    obtain ⟨e1, hn⟩ := hn
    subst e1
    split at hn
    · replace hn := x_if_some hn
      obtain ⟨-, hn⟩ := hn
      cases hn
    · cases hn
  case return_ =>
    replace hn := x_ln_some hn
    obtain ⟨e1, hn⟩ := hn
    subst e1
    split at hn
    · cases hn
    · cases hn
  all_goals exact absurd hn (fun q => by cases (show (none : Option xN) = _ from q))
end

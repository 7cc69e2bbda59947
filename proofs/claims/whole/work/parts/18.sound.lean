/-! CALLS, and soundness -/
section
variable {b : Nat} {ad : Nat → Nat} {cy : Nat → ClassId} {D : va_G}
variable {p : Program} {l : Launch} {e : Env} {R : Room} {s : State} {m : MethodId} {args : Array Value} {below : List Frame} {meth : Method} {c : Code} {Q : State → Prop}
theorem x_gwgood : ∀ w ∈ x_gw, (w.onTables && w.keeps) = true ∨ ∃ ty, w = Cond.arrayClass ty := fun w h => good_of_word (List.mem_filter.mp h).2
theorem x_goodIn {k : Nat} (hk : k < 176) : GoodIn x_gw (x_ws k) := by
  intro w hw
  have h1 : w ∈ x_gw := by
    rcases List.mem_cons.mp hw with q | q
    · rw [q]; exact (x_mu k hk).1.1.1
    · exact q
  exact ⟨h1, x_gwgood w h1⟩
/-- behind a call -/
theorem x_after {H : Heap} {locs : List Loc} {cells slots mc ms pc : Nat} {L : Array Slot} {st0 rest : List Value} {q : xE} {a : Array Value}
    (hr : va_Run p l e R s m args below meth c H locs cells slots mc ms (F0 m pc L st0) rest (x_Q b ad cy D q a) (x_A b)) (hS : va_S (x_A b) s.heap H locs)
    (kk : ∀ (H1 : Heap) (locs1 : List Loc), va_P D vwCl (x_W b ad cy q.2) H1 → va_S (x_A b) s.heap H1 locs1 → W p l e R s m args below meth c H1 locs1 (cells + mc) (slots + ms) Q (F0 m (pc + 3) L ((q.1.map (x_tr b ad)).toList ++ rest))) :
    W p l e R s m args below meth c H locs cells slots Q (F0 m pc L st0) := by
  intro T hT X
  obtain ⟨v, st₀, t, T', L', h0, X', hL, e1, e2, ⟨hv, ⟨-, hP1, -, -⟩, hz, hk⟩, st⟩ := hr T hT X
  cases hv
  rw [h0] at hz hk
  rw [← e1] at hP1 hz hk
  obtain ⟨t2, a1, b1⟩ := kk T'.heap (locs ++ L') hP1 ⟨Nat.le_trans hS.1 hz, fun q h1 h2 => by rw [hk q (Nat.lt_of_lt_of_le h1 hS.1) h2]; exact hS.2.1 q h1 h2, fun q hq => by
      rcases List.mem_append.mp hq with h | h
      · exact hS.2.2 q h
      · exact hL q h⟩ T' rfl X'
  exact ⟨t2, st t2 a1, b1⟩
theorem x_pop_some {n : Nat} {st : List Value} {q : List Value × List Value} (h : x_pop n st = some q) : st = q.1.reverse ++ q.2 ∧ q.1.length = n := by
  unfold x_pop at h
  obtain ⟨h1, h⟩ := x_if_some h
  cases h
  refine ⟨?_, by simp [h1]⟩
  show st = (st.take n).reverse.reverse ++ st.drop n
  rw [List.reverse_reverse, List.take_append_drop]
/-- what a call of the function is -/
theorem x_call_some {d m pc : Nat} {ls : List Value} {k : Nat} {as st : List Value} {h : xH} {z : xF × (xE → xF)} (q : x_call d m pc ls k as st h = some (.inr (.inr z))) : ∃ d', d = d' + 1 ∧ (st.map fun v => v.category).sum ≤ 8 ∧ (x_sl as).length ≤ (xm k).2.2.2.1 ∧ z = ((d', k, 0, x_ent (xm k).2.2.2.1 as, [], h), fun r => (d' + 1, m, pc + 3, ls, r.1.toList ++ st, r.2)) := by
  unfold x_call at q
  split at q
  · cases q
  · rename_i d'
    obtain ⟨h1, q⟩ := x_if_some q
    injection q with q
    injection q with q
    injection q with q
    exact ⟨d', rfl, h1.1, h1.2, q.symm⟩
set_option maxRecDepth 100000 in
theorem x_roomN {n d f l : Nat} (h1 : n ≤ 13) (h2 : d + 1 + 4 ≤ f) (h3 : 100 * (d + 1 + 4) ≤ l) : d + 4 + 1 ≤ f ∧ 8 + (n + 11) + 100 * (d + 4) ≤ l := ⟨by omega, by omega⟩
theorem x_room {d' k : Nat} (hk : k < 176) (hRf : d' + 1 + 4 ≤ R.frames) (hRl : 100 * (d' + 1 + 4) ≤ R.locals) (mc ms : Nat) : (x_rm d' mc ms).frames + 1 ≤ R.frames ∧ 8 + ((xm k).2.2.2.1 + 11) + (x_rm d' mc ms).locals ≤ R.locals := by
  have h1 := (x_mu k hk).1.2.2.1
  exact x_roomN h1 hRf hRl
theorem x_pre {h : xH} {H : Heap} {locs : List Loc} {n0 : Nat} {as : List Value} (hK : x_K cy D s) (hT : x_T b ad s s.heap) (hs : s.heap.size = b + n0) (hP : va_P D vwCl (x_W b ad cy h) H) (hS : va_S (x_A b) s.heap H locs) (h0 : n0 ≤ h.1) (hz : H.size ≤ s.heap.size + (h.1 - n0)) :
    PreS s H (va_Pc (as.map (x_tr b ad)) (x_Inv b ad cy D h)) (as.map (x_tr b ad)) := by
  refine ⟨fun a U g mk q => ⟨q.1, q.2.calling⟩, fun U hU hW => ⟨rfl, ?_, by rw [hU]; exact hP, hK.warm hW, by rw [hU]; exact hT.go hW hS⟩⟩
  rw [hU]
  exact x_full hP hS hs h0 hz
theorem x_nestW {cl i k : Nat} (hm : Cond.methodLinkNest (xR cl) i (xm k).2.1 "OneLamp" ∈ lw_tbl) (hK : x_K cy D s) : va_Nw (.methodLinkNest (xR cl) i (xm k).2.1 "OneLamp") s := hK.2.1 _ (List.mem_filter.mpr ⟨hm, rfl⟩)
/-- the call's words: plain link -/
theorem x_cbP {cl i k d' mc ms : Nat} (hk : k < 176) (hts : ∀ w ∈ x_gw, w.before args s = true) (hlk : Cond.methodLink (xR cl) i (xm k).2.1 ∈ x_gw) (hRf : d' + 1 + 4 ≤ R.frames) (hRl : 100 * (d' + 1 + 4) ≤ R.locals) :
    CallB R s args (xR cl) i (xm k).2.1 (xm k).2.2.1 (xm k).2.2.2.1 (xm k).2.2.2.2.1 (x_ws k) (x_rm d' mc ms) mc ms (xm k).2.2.2.2.2.2 := by
  obtain ⟨⟨-, h2, -, -⟩, h5, -, -⟩ := (x_mu k hk).1
  exact callB_of _ hts (x_goodIn hk) rfl rfl rfl (hts _ h2) (hts _ hlk) h5 (x_room hk hRf hRl mc ms)
theorem x_cbN {cl i k d' mc ms : Nat} (hk : k < 176) (hts : ∀ w ∈ x_gw, w.before args s = true) (hK : x_K cy D s) (hlk : Cond.methodLinkNest (xR cl) i (xm k).2.1 "OneLamp" ∈ lw_tbl) (hRf : d' + 1 + 4 ≤ R.frames) (hRl : 100 * (d' + 1 + 4) ≤ R.locals) :
    va_CN R s args (xR cl) i (xm k).2.1 "OneLamp" (xm k).2.2.1 (xm k).2.2.2.1 (xm k).2.2.2.2.1 (x_ws k) (x_rm d' mc ms) mc ms (xm k).2.2.2.2.2.2 := by
  obtain ⟨⟨-, h2, -, -⟩, h5, -, -⟩ := (x_mu k hk).1
  exact va_cnB _ hts (x_goodIn hk) rfl rfl rfl (x_nestW hlk hK) (hts _ h2) h5 (x_room hk hRf hRl mc ms)
theorem x_arg {as : List Value} {r : List Value} : ((as.reverse ++ r).map (x_tr b ad)) = (as.map (x_tr b ad)).reverse ++ r.map (x_tr b ad) := by
  rw [List.map_append, List.map_reverse]
end

/-! THE CLAIM OUT OF ONE WALK OF THE LAW'S BODY. Your part is whole_start (and what it stands on); all else here is the same for every law, but numbers. -/
def R_law : String := "OneLampLaw"
def lw_P (b : Addr) (xs : List Int32) (args : Array Value) (s : State) : Prop := args = #[.ref b] ∧ s.IntsAt b xs ∧ xs.length ≤ 2560 ∧ (Jvm.Cond.and given_1 narrow_1).before args s = true
def lw_Q (_ : Array Value) (s : State) (o : Outcome) (t : State) : Prop := o = .returned (some (.int 1)) ∧ Framed s o t [] 600000 7302250
def lw_Z (below : List Frame) (a : Array Value) (s : State) : State → Prop := fun t => ∃ o, t.status = .running ∧ Ended t below o ∧ lw_Q a s o t
/-- the law's own end, with 1 on the stack, nothing written that was there before, its room as the claim has it -/
theorem lw_ret {p : Program} {l : Launch} {e : Env} {s : State} {m : MethodId} {below : List Frame} {meth : Method} {c : Code} {b : Nat} (hx : p.tables.exec = Jvm.exec) (hb : c.code = code) (hr : meth.sig.returnType = ret) (hlocks : meth.locks = false) {pc : Nat} {H : Heap} {ls : Array Slot} (hdg : decode code pc = .ok (.ireturn, 1)) : W p l e room_1 s m #[Value.ref b] below meth c H [] 600000 7302250 (lw_Z below #[Value.ref b] s) (F0 m pc ls [.int 1]) := by
  intro T hT X
  obtain ⟨fs, hret, hrun, hended, hW, hframe⟩ := X.leave (v := some (.int 1)) (hlocks := hlocks) (fun h => by rw [hr] at h; cases h)
  have hmeth' : T.vm.method? m = some meth := X.method'
  refine ⟨T.setFrames fs, ?_, .returned (some (.int 1)), hrun, hended, rfl, ⟨_, rfl⟩, hW, hframe⟩
  jvm_step X.here [X.here.top, hx, hb, hdg, hmeth', hr, ret, narrow_b1]
  (try refine ⟨rfl, ?_⟩); (try refine ⟨rfl, ?_⟩)
  first | (intro acts; rw [hret _ acts rfl rfl rfl]) | rw [hret _ _ rfl rfl rfl]
  exact Steps.refl _
/-- what holds at the law's entry: the machine, the code, the tables' words (any of lw_tbl by 'hts w (by decide +kernel)'), the script of L ints xs at the cell b, what the Statement gives of the start (any of its parts by flat_of_before) -/
def lw_At (p : Program) (s : State) (m : MethodId) (meth : Method) (c : Code) (b L : Nat) (xs : Nat → Int32) : Prop :=
  p.tables.exec = Jvm.exec ∧ c.code = code ∧ meth.sig.returnType = ret ∧ c.maxLocals = 4 ∧ s.vm.findClass R_law = some m.cls ∧ (∀ w ∈ lw_tbl, w.before #[Value.ref b] s = true) ∧ va_X b L xs s s.heap ∧ b < s.heap.size ∧ meth.locks = false ∧ (Jvm.Cond.and given_1 narrow_1).before #[Value.ref b] s = true
/-! ROWS of the law's frame (printed by wip/whole/gen99x.py) -/
theorem w_le {d k : Nat} {as : List Value} {h : xH} {r : xE} (e : x_cl d k as h = some r) : x_le h r.2 := by
  obtain ⟨n, hn⟩ := x_ev_iff.mp e
  exact x_run_le2 n _ r hn
theorem w_inst : vwCl.all (fun q => x_in (.instantiable q.1 q.2.2)) = true := by decide +kernel
section
variable {p : Program} {l : Launch} {e : Env} {s : State} {m : MethodId} {below : List Frame} {meth : Method} {c : Code} {Q : State → Prop}
variable {ad : Nat → Nat} {cy : Nat → ClassId} {D : va_G} {bs L : Nat} {xs : Nat → Int32} {args : Array Value}
theorem w_D (hg : ∀ w ∈ x_gw, w.before args s = true) : ∃ D : va_G, ∀ (c : Nat) (q : vw_C), vwCl[c]? = some q → u_Kn s q.1 q.2.1 q.2.2 (D.1 c) (D.2 c) := by
  have h0 : ∀ c : Nat, ∃ z : ClassId × (Nat → Nat), ∀ q : vw_C, vwCl[c]? = some q → u_Kn s q.1 q.2.1 q.2.2 z.1 z.2 := by
    intro c
    cases e : vwCl[c]? with
    | none => exact ⟨((0 : Nat), fun _ => 0), fun q h => by cases h⟩
    | some q =>
      obtain ⟨cC, iS, hk⟩ := u_known (C := q.1) (T := q.2.1) (N := q.2.2) (n := q.2.2) hg (x_uok e) (hg _ (x_in_gw (List.all_eq_true.mp w_inst q (List.mem_of_getElem? e))))
      exact ⟨(cC, iS), fun q' h => by cases h; exact hk⟩
  obtain ⟨f, hf⟩ := Classical.axiomOfChoice h0
  exact ⟨(fun c => (f c).1, fun c => (f c).2), fun c q h => hf c q h⟩
theorem w_A {ty : FieldType} (h : (Cond.arrayClass ty).before args s = true) : ∃ cA, ArrOfT s cA ty ∧ s.vm.findClass ("[" ++ ty.toString) = some cA := by
  obtain ⟨c, k, comp, h1, h2, h3⟩ := Cond.arrayClass_spec h
  exact ⟨c, fun n z => ⟨(fun k h => by cases h), k, h2, comp, h3⟩, h1⟩
theorem w_AO {C : String} (h : (Cond.arrayOver (.object C)).before args s = true) : ∃ cA, ArrOfT s cA (.object C) ∧ va_RA s cA (.object C) := by
  obtain ⟨comp, c, k, h1, h2, h3, h4, h5⟩ := Cond.arrayOver_spec h
  exact ⟨c, fun n z => ⟨(fun k h => by cases h), k, h3, comp, h4⟩, k, comp, h3, h4, h1, h5⟩
theorem w_K (hts : ∀ w ∈ lw_tbl, w.before args s = true) : ∃ (cy : Nat → ClassId) (D : va_G), x_K cy D s := by
  have hg : ∀ w ∈ x_gw, w.before args s = true := fun w hw => hts w (List.mem_filter.mp hw).1
  obtain ⟨D, hD⟩ := w_D hg
  have a0 := hts (.arrayOver (.object RX0)) (by decide +kernel)
  have a2 := hts (.arrayOver (.object RX2)) (by decide +kernel)
  have a5 := hts (.arrayOver (.object RX5)) (by decide +kernel)
  obtain ⟨c0, i1, i2⟩ := w_A (hts (.arrayClass .int) (by decide +kernel))
  obtain ⟨c1, z1, z2⟩ := w_A (hts (.arrayClass .boolean) (by decide +kernel))
  obtain ⟨c2, f1, f2⟩ := w_AO a0
  obtain ⟨c3, g1, g2⟩ := w_AO a2
  obtain ⟨c4, k1, k2⟩ := w_AO a5
  refine ⟨fun k => if k = 0 then c0 else if k = 1 then c1 else if k = 2 then c2 else if k = 3 then c3 else c4, D, ⟨hD, fun k q hq => ?_⟩, fun w hw => ?_, va_AO.of a0, va_AO.of a2, va_AO.of a5⟩
  · match k, hq with
    | 0, hq => cases hq; exact ⟨i1, i2⟩
    | 1, hq => cases hq; exact ⟨z1, z2⟩
    | 2, hq => cases hq; exact ⟨f1, f2⟩
    | 3, hq => cases hq; exact ⟨g1, g2⟩
    | 4, hq => cases hq; exact ⟨k1, k2⟩
    | k + 5, hq => simp [x_tys] at hq
  · have h1 := hts w (List.mem_filter.mp hw).1
    have h2 := (List.mem_filter.mp hw).2
    cases w <;> first | (exact va_Nw.of rfl h1) | (cases h2)
theorem w_f1 : ∀ i : Nat, i < 6 → Cond.exactly (.string "OneLamp$Card" (108 + 2 * i)) "java/lang/String" ∈ flatC (Jvm.Cond.and given_1 narrow_1) := by decide +kernel
theorem w_f2 : ∀ i : Nat, i < 6 → Cond.eq (.field (.string "OneLamp$Card" (108 + 2 * i)) "java/lang/String" "coder" "B") (.int 0) ∈ flatC (Jvm.Cond.and given_1 narrow_1) := by decide +kernel
theorem w_f3 : ∀ i : Nat, i < 6 → Cond.arrayOf (.field (.string "OneLamp$Card" (108 + 2 * i)) "java/lang/String" "value" "[B") .byte ∈ flatC (Jvm.Cond.and given_1 narrow_1) := by decide +kernel
theorem w_f4 : ∀ i : Nat, i < 6 → Cond.eq (.length (.field (.string "OneLamp$Card" (108 + 2 * i)) "java/lang/String" "value" "[B")) (.int (Int32.ofNat ((x_tx.map List.length).getD i 0))) ∈ flatC (Jvm.Cond.and given_1 narrow_1) := by decide +kernel
theorem w_f5 : ∀ i : Nat, i < 6 → ∀ j : Nat, j < (x_tx.map List.length).getD i 0 → Cond.eq (.elem (.field (.string "OneLamp$Card" (108 + 2 * i)) "java/lang/String" "value" "[B") (.int (Int32.ofNat j))) (.int ((x_tx.getD i []).getD j 0)) ∈ flatC (Jvm.Cond.and given_1 narrow_1) := by decide +kernel
theorem w_f6 : ∀ i : Nat, i < 6 → ∀ j : Nat, j < 6 → i ≠ j → Cond.not (Cond.eq (.string "OneLamp$Card" (108 + 2 * i)) (.string "OneLamp$Card" (108 + 2 * j))) ∈ flatC (Jvm.Cond.and given_1 narrow_1) ∨ Cond.not (Cond.eq (.string "OneLamp$Card" (108 + 2 * j)) (.string "OneLamp$Card" (108 + 2 * i))) ∈ flatC (Jvm.Cond.and given_1 narrow_1) := by decide +kernel
theorem w_T (hts : ∀ w ∈ lw_tbl, w.before args s = true) (hgv : (Jvm.Cond.and given_1 narrow_1).before args s = true) : ∃ ad, x_T s.heap.size ad s s.heap := by
  have hs := flat_of_before _ hgv
  have hA : ∀ a : Nat, a < s.heap.size → ¬ x_A s.heap.size a := fun a h q => by unfold x_A at q; omega
  obtain ⟨ad, adV, h1, h2⟩ := vk_Sof (N := 6) (tm := fun i => Term.string "OneLamp$Card" (108 + 2 * i)) (len := x_tx.map List.length) (byt := x_tx) (A := x_A s.heap.size) (s := s) (args := args) (by decide +kernel) (fun i hi => hs _ (w_f1 i hi)) (fun i hi => hs _ (w_f2 i hi)) (fun i hi => hs _ (w_f3 i hi)) (fun i hi => hs _ (w_f4 i hi)) (fun i hi j hj => hs _ (w_f5 i hi j hj)) (fun i j hi hj hij => (w_f6 i hi j hj hij).imp (fun z => hs _ z) (fun z => hs _ z)) hA
  have hc := va_Zof (A := x_A s.heap.size) (hts (.laysStatic "java/lang/String" "COMPACT_STRINGS" "Z") (by decide +kernel)) (hts (.initialized "java/lang/String") (by decide +kernel)) (va_eqi (z := 1) (hs _ (by decide +kernel))) hA
  have hf : ∃ v : Value, va_Z "jdk/internal/util/Preconditions" "SIOOBE_FORMATTER" "Ljava/util/function/BiFunction;" v (x_A s.heap.size) s s.heap ∧ (v = .null ∨ ∃ a, v = .ref a) := by
    rcases va_Zqof (A := x_A s.heap.size) (hts (.laysStatic "jdk/internal/util/Preconditions" "SIOOBE_FORMATTER" "Ljava/util/function/BiFunction;") (by decide +kernel)) (hts (.initialized "jdk/internal/util/Preconditions") (by decide +kernel)) (hs _ (by decide +kernel)) hA with h | ⟨t, h⟩
    · exact ⟨_, h, Or.inl rfl⟩
    · exact ⟨_, h, Or.inr ⟨t, rfl⟩⟩
  obtain ⟨v, hv1, hv2⟩ := hf
  refine ⟨ad, ⟨adV, v, h1, hc, hv1, hv2⟩, fun k q hq => ?_⟩
  have hk : k < 6 := (List.getElem?_eq_some_iff.mp hq).1
  rcases (show k = 0 ∨ k = 1 ∨ k = 2 ∨ k = 3 ∨ k = 4 ∨ k = 5 by omega) with e | e | e | e | e | e
  · subst e; cases hq; exact vk_R.of (hts (.stringRef RX1 108 "hall") (by decide +kernel)) (h2 0 (by decide))
  · subst e; cases hq; exact vk_R.of (hts (.stringRef RX1 110 "shelf") (by decide +kernel)) (h2 1 (by decide))
  · subst e; cases hq; exact vk_R.of (hts (.stringRef RX1 112 "reader") (by decide +kernel)) (h2 2 (by decide))
  · subst e; cases hq; exact vk_R.of (hts (.stringRef RX1 114 "lamp") (by decide +kernel)) (h2 3 (by decide))
  · subst e; cases hq; exact vk_R.of (hts (.stringRef RX1 116 "oil") (by decide +kernel)) (h2 4 (by decide))
  · subst e; cases hq; exact vk_R.of (hts (.stringRef RX1 118 "string") (by decide +kernel)) (h2 5 (by decide))
/-- what holds all along -/
def wC (ad : Nat → Nat) (cy : Nat → ClassId) (D : va_G) (p : Program) (s : State) (m : MethodId) (meth : Method) (c : Code) (bs L : Nat) (xs : Nat → Int32) : Prop := lw_At p s m meth c bs L xs ∧ x_K cy D s ∧ x_T s.heap.size ad s s.heap ∧ L ≤ 2560
/-- the law's frame at pc with these locals, this stack, this heap of both objects, comes to Q -/
def vW (ad : Nat → Nat) (cy : Nat → ClassId) (D : va_G) (p : Program) (l : Launch) (e : Env) (s : State) (m : MethodId) (below : List Frame) (meth : Method) (c : Code) (Q : State → Prop) (bs : Nat) (lv : List (Nat × Value)) (pc : Nat) (st : List Value) (h : xH) : Prop :=
  ∀ (H : Heap) (locs : List Loc) (Ls : Array Slot), lv_has Ls 4 lv → va_P D vwCl (x_W s.heap.size ad cy h) H → va_S (x_A s.heap.size) s.heap H locs → W p l e room_1 s m #[Value.ref bs] below meth c H locs h.1 h.2.1 Q (F0 m pc Ls st)
def wL (bs n : Nat) (i : Int32) : List (Nat × Value) := [(0, .ref bs), (1, .ref n), (2, .ref (n + 91)), (3, .int i)]
variable {lv : List (Nat × Value)} {pc : Nat} {st rest : List Value} {h h' : xH} {j : Nat} {i : Int32}
theorem w_g (C : wC ad cy D p s m meth c bs L xs) : ∀ w ∈ x_gw, w.before #[Value.ref bs] s = true := fun w hw => C.1.2.2.2.2.2.1 w (List.mem_filter.mp hw).1
theorem w_bA (C : wC ad cy D p s m meth c bs L xs) : ¬ x_A s.heap.size bs := fun q => by
  have := C.1.2.2.2.2.2.2.2.1
  unfold x_A at q
  omega
set_option maxHeartbeats 4000000 in
set_option maxRecDepth 100000 in
theorem w_call (C : wC ad cy D p s m meth c bs L xs) {ix kx a : Nat} {as : List Value} {v : Value} {fs : List Value} (hk : kx < 176) (hkind : (xm kx).2.2.2.2.2.1 = 1) (hn : as.length = (xm kx).2.2.2.2.2.2) (hsl : (x_sl (.ref a :: as)).length ≤ (xm kx).2.2.2.1) (hcl : x_cl 20 kx (.ref a :: as) h = some (some v, h')) (hs1 : h'.1 = h.1) (hs2 : h'.2.1 = h.2.1) (hR : h.1 ≤ 600000 ∧ h.2.1 ≤ 7302250) (hobj : x_obj h a (xm kx).1 = some fs) (hlk : Cond.methodLink R_law ix (xm kx).2.1 ∈ x_gw) (hr8 : (rest.map fun v => v.category).sum ≤ 8) (hd : decode code pc = .ok (.invokevirtual ix, 3)) (hst : st = (as.map (x_tr s.heap.size ad)).reverse ++ .ref (s.heap.size + a) :: rest) (kk : vW ad cy D p l e s m below meth c Q bs lv (pc + 3) (x_tr s.heap.size ad v :: rest) h') : vW ad cy D p l e s m below meth c Q bs lv pc st h := by
  have hg := w_g C
  obtain ⟨⟨hx, hb, hr, hml, hown, hts, hX, hbl, hlocks, hgv⟩, hK, hT, hL⟩ := C
  have hM := x_met (l := l) (b := s.heap.size) (ad := ad) (cy := cy) (D := D) hk hsl hcl
  obtain ⟨⟨-, h2, -, -⟩, h5, -, -⟩ := (x_mu kx hk).1
  obtain ⟨hv1, hv2, hv3, hv4⟩ := (x_mu kx hk).2.2.1 hkind
  subst hst
  intro H locs Ls hl hP hS
  refine x_size (fun hsz => ?_)
  have hpre := x_pre (as := .ref a :: as) (n0 := 0) hK hT rfl hP hS (Nat.zero_le _) hsz
  obtain ⟨ha, hc⟩ := x_obj_some hobj
  have he : (x_W s.heap.size ad cy h)[a]? = some (s.heap.size + a, .inr ((xm kx).1, fs.map (x_tr s.heap.size ad))) := by rw [x_W_at ha, hc]; rfl
  obtain ⟨cr, hcr, hcn⟩ : ∃ cr : vw_C, vwCl[(xm kx).1]? = some cr ∧ cr.1 = (xm kx).2.1.cls := by
    cases hc9 : vwCl[(xm kx).1]? with
    | none => rw [hc9] at hv4; cases hv4
    | some cr => rw [hc9] at hv4; exact ⟨cr, rfl, Option.some.inj hv4⟩
  have hrec := va_recv hK.1 hP hcr he
  rw [hcn] at hrec
  have hroom := x_room (R := room_1) (d' := 20) (k := kx) hk (by decide) (by decide) (h'.1 - h.1) (h'.2.1 - h.2.1)
  have r1 : h.1 + (h'.1 - h.1) ≤ room_1.cells := by show _ ≤ 600000; omega
  have r2 : h.2.1 + (h'.2.1 - h.2.1) ≤ room_1.slots := by show _ ≤ 7302250; omega
  refine x_after (va_runV (As := as.map (x_tr s.heap.size ad)) (rest := rest) (b := s.heap.size + a) (own := R_law) ⟨hx, hb, hml, hown, hg⟩ hM ⟨callB_of _ hg (x_goodIn hk) rfl rfl rfl (hg _ h2) (hg _ hlk) h5 hroom, hg _ hv1, hg _ hv2⟩ ⟨hpre.1, hrec, hpre.2⟩ rfl (by rw [List.length_map]; exact hn) hl.1 rfl (lv_room hr8) hd ⟨r1, r2⟩) hS (fun H1 locs1 hP1 hS1 => ?_)
  have e1 : h.1 + (h'.1 - h.1) = h'.1 := by omega
  have e2 : h.2.1 + (h'.2.1 - h.2.1) = h'.2.1 := by omega
  rw [e1, e2]
  exact kk H1 locs1 Ls hl hP1 hS1
set_option maxHeartbeats 4000000 in
set_option maxRecDepth 100000 in
theorem w_ini (C : wC ad cy D p s m meth c bs L xs) {ix kx a : Nat} (hk : kx < 176) (hkind : (xm kx).2.2.2.2.2.1 = 2) (hn : 0 = (xm kx).2.2.2.2.2.2) (hsl : (x_sl [.ref a]).length ≤ (xm kx).2.2.2.1) (hcl : x_cl 20 kx [.ref a] h = some (none, h')) (hs1 : h.1 ≤ h'.1) (hs2 : h.2.1 ≤ h'.2.1) (hR : h'.1 ≤ 600000 ∧ h'.2.1 ≤ 7302250) (hlk : Cond.methodLink R_law ix (xm kx).2.1 ∈ x_gw) (hr8 : (rest.map fun v => v.category).sum ≤ 8) (hd : decode code pc = .ok (.invokespecial ix, 3)) (kk : vW ad cy D p l e s m below meth c Q bs lv (pc + 3) rest h') : vW ad cy D p l e s m below meth c Q bs lv pc (.ref (s.heap.size + a) :: rest) h := by
  have hg := w_g C
  obtain ⟨⟨hx, hb, hr, hml, hown, hts, hX, hbl, hlocks, hgv⟩, hK, hT, hL⟩ := C
  have hM := x_met (l := l) (b := s.heap.size) (ad := ad) (cy := cy) (D := D) hk hsl hcl
  obtain ⟨⟨-, h2, -, -⟩, h5, -, -⟩ := (x_mu kx hk).1
  obtain ⟨hv1, hv2, hv3⟩ := (x_mu kx hk).2.2.2 hkind
  intro H locs Ls hl hP hS
  refine x_size (fun hsz => ?_)
  have hpre := x_pre (as := [.ref a]) (n0 := 0) hK hT rfl hP hS (Nat.zero_le _) hsz
  have hroom := x_room (R := room_1) (d' := 20) (k := kx) hk (by decide) (by decide) (h'.1 - h.1) (h'.2.1 - h.2.1)
  have r1 : h.1 + (h'.1 - h.1) ≤ room_1.cells := by show _ ≤ 600000; omega
  have r2 : h.2.1 + (h'.2.1 - h.2.1) ≤ room_1.slots := by show _ ≤ 7302250; omega
  have hcb := callB_of (own := R_law) (index := ix) (mc := h'.1 - h.1) (ms := h'.2.1 - h.2.1) (rm := x_rm 20 (h'.1 - h.1) (h'.2.1 - h.2.1)) _ hg (x_goodIn hk) rfl rfl rfl (hg _ h2) (hg _ hlk) h5 hroom
  rw [hv3] at hcb
  refine x_after (va_runI (As := []) (rest := rest) (b := s.heap.size + a) (own := R_law) ⟨hx, hb, hml, hown, hg⟩ hM ⟨hcb, hv2, hg _ hv1⟩ hpre rfl hn hl.1 rfl (lv_room hr8) hd ⟨r1, r2⟩) hS (fun H1 locs1 hP1 hS1 => ?_)
  have e1 : h.1 + (h'.1 - h.1) = h'.1 := by omega
  have e2 : h.2.1 + (h'.2.1 - h.2.1) = h'.2.1 := by omega
  rw [e1, e2]
  exact kk H1 locs1 Ls hl hP1 hS1
set_option maxHeartbeats 4000000 in
theorem w_new (C : wC ad cy D p s m meth c bs L xs) {ix ci : Nat} {cr : vw_C} (hcr : vwCl[ci]? = some cr) (hw1 : Cond.classLink R_law ix cr.1 ∈ x_gw) (hw3 : Cond.initialized cr.1 ∈ x_gw) (hR : h.1 + 1 ≤ 600000 ∧ h.2.1 + (x_new ci).length ≤ 7302250) (hd : decode code pc = .ok (.new ix, 3)) (kk : vW ad cy D p l e s m below meth c Q bs lv (pc + 3) (.ref (s.heap.size + h.1) :: st) (x_push h (x_new ci).length (.inr (ci, x_new ci)))) : vW ad cy D p l e s m below meth c Q bs lv pc st h := by
  have hg := w_g C
  obtain ⟨⟨hx, hb, hr, hml, hown, hts, hX, hbl, hlocks, hgv⟩, hK, hT, hL⟩ := C
  intro H locs Ls hl hP hS
  obtain ⟨ty0, hty0, hnm, hnr, hdc, hdf, hln, hmp⟩ := x_tyok (b := s.heap.size) (ad := ad) hcr
  have hw2 := x_in_gw (List.all_eq_true.mp w_inst cr (List.mem_of_getElem? hcr))
  have hR2 := hR.2
  rw [hln] at hR2
  have r1 : h.1 + 1 ≤ room_1.cells := hR.1
  have r2 : h.2.1 + cr.2.2 ≤ room_1.slots := hR2
  refine va_new (fs := x_new ci) hx hb hg (x_uok hcr) ty0 hty0 hown (hg _ hw1) (hg _ hw2) (hg _ hw3) hK.1 hP (x_D s.heap.size ad cy h) hS (fun q hq => hq) hcr hdf r1 r2 hd (fun q H1 hP1 hD1 hS1 => ?_)
  refine x_size (fun hz => ?_)
  have hq : q = s.heap.size + h.1 := x_fresh hP1 hD1 (by omega)
  subst hq
  rw [← hln]
  refine kk H1 locs Ls hl ?_ hS1
  rw [← x_W_push]
  have e3 : x_cell s.heap.size ad cy (.inr (ci, x_new ci)) = .inr (ci, x_new ci) := by
    show Sum.inr (ci, (x_new ci).map (x_tr s.heap.size ad)) = _
    rw [hmp]
  rw [e3]
  exact hP1
theorem w_al1 (C : wC ad cy D p s m meth c bs L xs) (hd : decode code pc = .ok (.aload_n 1, 1)) (kk : vW ad cy D p l e s m below meth c Q bs (wL bs s.heap.size i) (pc + 1) (.ref (s.heap.size + 0) :: st) h) : vW ad cy D p l e s m below meth c Q bs (wL bs s.heap.size i) pc st h := fun H locs Ls hl hP hS => lv_aload_n C.1.1 C.1.2.1 hd rfl (lv_at hl 1 rfl) (kk H locs Ls hl hP hS)
theorem w_al2 (C : wC ad cy D p s m meth c bs L xs) (hd : decode code pc = .ok (.aload_n 2, 1)) (kk : vW ad cy D p l e s m below meth c Q bs (wL bs s.heap.size i) (pc + 1) (.ref (s.heap.size + 91) :: st) h) : vW ad cy D p l e s m below meth c Q bs (wL bs s.heap.size i) pc st h := fun H locs Ls hl hP hS => lv_aload_n C.1.1 C.1.2.1 hd rfl (lv_at hl 2 rfl) (kk H locs Ls hl hP hS)
theorem w_ld (C : wC ad cy D p s m meth c bs L xs) (k : Nat) {z : Int} (d0 : decode code pc = .ok (.aload_n 0, 1)) (d1 : decode code (pc + 1) = .ok (.iload_n 3, 1)) (d2 : decode code (pc + 2) = .ok (.iconst z, 1)) (d3 : decode code (pc + 3) = .ok (.iadd, 1)) (d4 : decode code (pc + 4) = .ok (.iaload, 1)) (hz : Int32.ofInt z = nI k) (hk : k < 5) (hj : j + 5 ≤ L) (kk : vW ad cy D p l e s m below meth c Q bs (wL bs s.heap.size (nI j)) (pc + 5) (.int (xs (j + k)) :: st) h) : vW ad cy D p l e s m below meth c Q bs (wL bs s.heap.size (nI j)) pc st h := by
  intro H locs Ls hl hP hS
  have hb := w_bA C
  obtain ⟨⟨hx, hbb, -, -, -, -, hX, hbl, -, -⟩, -, -, hL⟩ := C
  refine lv_aload_n hx hbb d0 rfl (lv_at hl 0 rfl) ?_
  refine lv_iload_n hx hbb d1 rfl (lv_at hl 3 rfl) ?_
  refine lv_iconst hx hbb d2 hz ?_
  refine lv_iadd hx hbb d3 ?_
  rw [nI_add]
  refine va_sld hx hbb hX hbl hb hS (vp_in_nI (show j + k < L by omega) (by omega)) d4 ?_
  rw [nI_clamp (by omega)]
  exact kk H locs Ls hl hP hS
theorem w_bool (C : wC ad cy D p s m meth c bs L xs) {x : Int32} (d0 : decode code pc = .ok (.ifCond .eq 7, 3)) (d1 : decode code (pc + 3) = .ok (.iconst 1, 1)) (d2 : decode code (pc + 4) = .ok (.goto 4, 3)) (d3 : decode code (pc + 7) = .ok (.iconst 0, 1)) (kk : vW ad cy D p l e s m below meth c Q bs lv (pc + 8) (.int (zI (bZ (decide (x ≠ 0) = true))) :: st) h) : vW ad cy D p l e s m below meth c Q bs lv pc (.int x :: st) h := by
  intro H locs Ls hl hP hS
  have k1 := kk H locs Ls hl hP hS
  refine lv_if_eq C.1.1 C.1.2.1 d0 (tgt := pc + 7) (by omega) (fun q => ?_) (fun q => ?_)
  · refine lv_iconst C.1.1 C.1.2.1 d3 (v := zI (bZ (decide (x ≠ 0) = true))) ?_ k1
    rw [bZ_f (by simp [q])]
    rfl
  · refine lv_iconst C.1.1 C.1.2.1 d1 (v := zI (bZ (decide (x ≠ 0) = true))) ?_ ?_
    · rw [bZ_t (by simp [q])]
      rfl
    · exact lv_goto C.1.1 C.1.2.1 d2 (tgt := pc + 8) (by omega) k1
theorem w_eq (C : wC ad cy D p s m meth c bs L xs) {off : Int} {r : Int32} (hd : decode code pc = .ok (.if_icmp .eq off, 3)) (ht : (pc : Int) + off = ((904 : Nat) : Int)) (kk : vW ad cy D p l e s m below meth c Q bs lv 904 [] h) : vW ad cy D p l e s m below meth c Q bs lv pc [.int r, .int r] h := fun H locs Ls hl hP hS => lv_icmp_eq C.1.1 C.1.2.1 hd ht (fun _ => kk H locs Ls hl hP hS) (fun q => absurd rfl q)
theorem w_eql (C : wC ad cy D p s m meth c bs L xs) {r : Int64} (h0 : decode code pc = .ok (.lcmp, 1)) (h1 : decode code (pc + 1) = .ok (.ifCond .eq 5, 3)) (hpc : pc = 898) (kk : vW ad cy D p l e s m below meth c Q bs lv 904 [] h) : vW ad cy D p l e s m below meth c Q bs lv pc [.long r, .long r] h := fun H locs Ls hl hP hS => by
  refine W.lcmp C.1.1 C.1.2.1 h0 ?_
  have e1 : lg_cmp r r = 0 := by simp [lg_cmp]
  rw [e1]
  exact lv_if_eq C.1.1 C.1.2.1 h1 (tgt := 904) (by omega) (fun _ => kk H locs Ls hl hP hS) (fun q => absurd rfl q)
def wJ (a b : Int32) : Int64 := (a.toInt64 <<< (((Int8.ofInt 32).toInt32).toInt64 &&& 63)) ||| (b.toInt64 &&& 4294967295)
theorem w_j1 (C : wC ad cy D p s m meth c bs L xs) {a : Int32} (d0 : decode code pc = .ok (.i2l, 1)) (d1 : decode code (pc + 1) = .ok (.bipush 32, 2)) (d2 : decode code (pc + 3) = .ok (.lshl, 1)) (kk : vW ad cy D p l e s m below meth c Q bs lv (pc + 4) (.long (a.toInt64 <<< (((Int8.ofInt 32).toInt32).toInt64 &&& 63)) :: st) h) : vW ad cy D p l e s m below meth c Q bs lv pc (.int a :: st) h := fun H locs Ls hl hP hS => lv_i2l C.1.1 C.1.2.1 d0 rfl (lv_bipush C.1.1 C.1.2.1 d1 rfl (lv_lshl C.1.1 C.1.2.1 d2 rfl (kk H locs Ls hl hP hS)))
theorem w_j2 (C : wC ad cy D p s m meth c bs L xs) {a b : Int32} (d0 : decode code pc = .ok (.i2l, 1)) (d1 : decode code (pc + 1) = .ok (.ldc2_w 45, 3)) (d2 : decode code (pc + 4) = .ok (.land, 1)) (d3 : decode code (pc + 5) = .ok (.lor, 1)) (kk : vW ad cy D p l e s m below meth c Q bs lv (pc + 6) (.long (wJ a b) :: st) h) : vW ad cy D p l e s m below meth c Q bs lv pc (.int b :: .long (a.toInt64 <<< (((Int8.ofInt 32).toInt32).toInt64 &&& 63)) :: st) h := fun H locs Ls hl hP hS => lv_i2l C.1.1 C.1.2.1 d0 rfl (lv_ldc2 C.1.1 C.1.2.1 C.1.2.2.2.2.1 (w_g C _ (x_gm (x_t5 (List.mem_of_getElem? (i := 197) rfl)) rfl)) d1 (lv_land C.1.1 C.1.2.1 d2 (lv_lor C.1.1 C.1.2.1 d3 (kk H locs Ls hl hP hS))))
theorem w_o7 {G t : Nat → Nat → Int} (hh : 103 ≤ h.1) : x_obj (bH h G t) 0 7 = some (oF (G 0)) := by
  unfold bH
  rw [cm_e]
  exact c_oo (by show 91 ≤ h.1; omega)
theorem w_o8 {G t : Nat → Nat → Int} (hh : 103 ≤ h.1) : x_obj (bH h G t) 91 8 = some (mF 91 t) := mH_obj (by show 91 + 12 ≤ h.1; omega)
end

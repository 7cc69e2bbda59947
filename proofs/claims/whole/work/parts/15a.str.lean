/-! STRING'S METHODS on the constant texts: coder, length, isLatin1, checkIndex, charAt (printed by wip/whole/gen15a.py) -/
def x_N : Nat → Prop := fun _ => False
theorem x_NS {A : Nat → Prop} {H0 H : Heap} {locs : List Loc} (h : va_S x_N H0 H locs) : va_S A H0 H locs := ⟨h.1, fun a q _ => h.2.1 a q (fun z => z), fun q hq => (h.2.2 q hq).elim⟩
def x_wq (y : MethodName) (cc : ByteArray) (n : Nat) (ret : Option FieldType) : List Cond := Cond.code y cc n ret :: x_gw
def x_r (d : Nat) : Room := { frames := d, cells := 0, slots := 0, locals := 30 * d }
theorem x_wqG {y : MethodName} {cc : ByteArray} {n : Nat} {ret : Option FieldType} (h : Cond.code y cc n ret ∈ x_gw) : GoodIn x_gw (x_wq y cc n ret) := by
  intro w hw
  have h1 : w ∈ x_gw := by
    rcases List.mem_cons.mp hw with q | q
    · rw [q]; exact h
    · exact q
  exact ⟨h1, good_of_word (List.mem_filter.mp h1).2⟩
theorem x_YP {b : Nat} {ad adV : Nat → Nat} {v : Value} {s : State} {H : Heap} {locs : List Loc} {As : List Value} (hY : x_Y b ad adV v s s.heap) (hS : va_S (x_A b) s.heap H locs) : PreS s H (va_Pc As (fun U => x_Y b ad adV v U U.heap)) As :=
  ⟨fun a U g mk q => ⟨q.1, q.2.go (Vm.Alike.refl U.vm) (fun _ _ _ => rfl)⟩, fun U hU hW => ⟨rfl, by show x_Y b ad adV v U U.heap; rw [hU]; exact hY.go hW.alike (fun a q n => hS.2.1 a q n)⟩⟩
theorem x_YV {b : Nat} {ad adV : Nat → Nat} {v : Value} {s : State} {H : Heap} {locs : List Loc} {As : List Value} {i : Nat} (hi : i < 6) (hY : x_Y b ad adV v s s.heap) (hS : va_S (x_A b) s.heap H locs) : PreV s H RJ0 (ad i) (va_Pc (.ref (ad i) :: As) (fun U => x_Y b ad adV v U U.heap)) As :=
  ⟨fun a U g mk q => ⟨q.1, q.2.go (Vm.Alike.refl U.vm) (fun _ _ _ => rfl)⟩, vk_recv hY.1 hi hS, fun U hU hW => ⟨rfl, by show x_Y b ad adV v U U.heap; rw [hU]; exact hY.go hW.alike (fun a q n => hS.2.1 a q n)⟩⟩

theorem x_nz {z : Int32} (hz : ¬ z < 0) : z.toInt = (z.toNatClampNeg : Int) := by
  have hz0 : (0 : Int) ≤ z.toInt := by
    have := Int32.not_lt.mp hz
    simpa using Int32.le_iff_toInt_le.mp this
  show z.toInt = ((z.toInt.toNat : Nat) : Int)
  omega
theorem x_ltN {j : Int32} {n : Nat} (h0 : ¬ j < 0) (h1 : j.toNatClampNeg < n) (h2 : n < 10) : j < Int32.ofNat n := by
  have e := x_nz h0
  have e2 : (Int32.ofNat n).toInt = (n : Int) := Int32.toInt_ofNat_of_lt (by omega)
  rw [Int32.lt_iff_toInt_lt, e, e2]
  omega
theorem x_vin {j : Int32} {n : Nat} (h0 : ¬ j < 0) (h1 : j.toNatClampNeg < n) : vp_in j n := by
  unfold vp_in
  intro q
  rcases q with q | q
  · exact h0 q
  · omega
theorem x_len6 : ∀ i : Nat, i < 6 → (Int32.ofNat ((x_tx.map List.length).getD i 0) >>> ((0 : Int32) &&& 31)) = nI (x_tx.getD i []).length := by decide +kernel
theorem x_ch6 : ∀ i : Nat, i < 6 → ∀ j : Nat, j < (x_tx.getD i []).length → ((((x_tx.getD i []).getD j 0) &&& (Int16.ofInt 255).toInt32).toUInt32 % 65536).toInt32 = (x_tx.getD i []).getD j 0 ∧ narrow .char (.int ((x_tx.getD i []).getD j 0)) = .int ((x_tx.getD i []).getD j 0) := by decide +kernel
theorem x_ln6 : ∀ i : Nat, i < 6 → (x_tx.map List.length).getD i 0 = (x_tx.getD i []).length ∧ (x_tx.getD i []).length < 10 := by decide +kernel
set_option maxHeartbeats 4000000 in
set_option maxRecDepth 100000 in
theorem c_coder (l : Launch) (b : Nat) (ad adV : Nat → Nat) (v : Value) (i : Nat) (hi : i < 6) : Met l yJ0_coder_7d493 (x_wq yJ0_coder_7d493 cJ0_coder_7d493 1 (some .byte)) (x_r 0) (va_Pc [.ref (ad i)] (fun U => x_Y b ad adV v U U.heap)) (va_Qi (fun (r : Int32) (_ : Unit) => r = 0) (fun _ _ => True) x_N) 0 0 x_N := by
  refine Met.ofW (cc := cJ0_coder_7d493) (maxL := 1) (ret := (some .byte)) (by decide) rfl ?_
  intro p e s m args below meth c s₁ B hml hv
  obtain ⟨rfl, hY⟩ := hv
  have hx := B.exec
  have hb := B.bytes
  have hr := B.returns
  have hlocks := B.notSynchronized
  have hts := fun w hw => atoms_spec (ws := x_wq yJ0_coder_7d493 cJ0_coder_7d493 1 (some .byte)) B.pre w (List.mem_cons_of_mem _ hw)
  have hown : s.vm.findClass RJ0 = some m.cls := findClass_of_methodNamed B.named
  have hS : va_S x_N s.heap s.heap [] := va_S.rf
  have hl := lv_entry ([.ref (ad i)]) (n := 1) (Nat.le_of_ble_eq_true rfl)
  rw [lg_entry_eq]
  generalize (lg_sl ([.ref (ad i)]) ++ List.replicate (1 - (lg_sl ([.ref (ad i)])).length) Slot.unset).toArray = ls at hl ⊢
  have hl : lv_has ls 1 [(0, .ref (ad i))] := hl
  refine va_gets (A := x_A b) hx hb hY.2.1 (x_NS hS) hown (hts _ (x_gm (x_t3 (List.mem_of_getElem? (i := 17) rfl)) rfl)) (fun _ h => h) dJ0_coder_7d493_0 ?_
  refine lv_if_eq hx hb dJ0_coder_7d493_3 (tgt := 13) rfl (fun q => absurd q (by decide)) (fun _ => ?_)
  refine lv_aload_n hx hb dJ0_coder_7d493_6 rfl (lv_at hl 0 rfl) ?_
  refine vk_getf hx hb (hY.1.1 i hi).2.1 (x_NS hS) hown (hts _ (x_gm (x_t5 (List.mem_of_getElem? (i := 199) rfl)) rfl)) (fun _ h => h) dJ0_coder_7d493_7 ?_
  refine lv_goto hx hb dJ0_coder_7d493_10 (tgt := 14) rfl ?_
  exact W.zret hx hb hr rfl (fun t ht hW => ⟨⟨0, (), rfl, rfl, trivial⟩, hS.F ht⟩) hS.2.2 dJ0_coder_7d493_14
set_option maxHeartbeats 4000000 in
set_option maxRecDepth 100000 in
theorem c_latin (l : Launch) (b : Nat) (ad adV : Nat → Nat) (v : Value) (i : Nat) (hi : i < 6) : Met l yJ0_isLatin1_aae02 (x_wq yJ0_isLatin1_aae02 cJ0_isLatin1_aae02 1 (some .boolean)) (x_r 0) (va_Pc [.ref (ad i)] (fun U => x_Y b ad adV v U U.heap)) (va_Qi (fun (r : Int32) (_ : Unit) => r = 1) (fun _ _ => True) x_N) 0 0 x_N := by
  refine Met.ofW (cc := cJ0_isLatin1_aae02) (maxL := 1) (ret := (some .boolean)) (by decide) rfl ?_
  intro p e s m args below meth c s₁ B hml hv
  obtain ⟨rfl, hY⟩ := hv
  have hx := B.exec
  have hb := B.bytes
  have hr := B.returns
  have hlocks := B.notSynchronized
  have hts := fun w hw => atoms_spec (ws := x_wq yJ0_isLatin1_aae02 cJ0_isLatin1_aae02 1 (some .boolean)) B.pre w (List.mem_cons_of_mem _ hw)
  have hown : s.vm.findClass RJ0 = some m.cls := findClass_of_methodNamed B.named
  have hS : va_S x_N s.heap s.heap [] := va_S.rf
  have hl := lv_entry ([.ref (ad i)]) (n := 1) (Nat.le_of_ble_eq_true rfl)
  rw [lg_entry_eq]
  generalize (lg_sl ([.ref (ad i)]) ++ List.replicate (1 - (lg_sl ([.ref (ad i)])).length) Slot.unset).toArray = ls at hl ⊢
  have hl : lv_has ls 1 [(0, .ref (ad i))] := hl
  refine va_gets (A := x_A b) hx hb hY.2.1 (x_NS hS) hown (hts _ (x_gm (x_t3 (List.mem_of_getElem? (i := 17) rfl)) rfl)) (fun _ h => h) dJ0_isLatin1_aae02_0 ?_
  refine lv_if_eq hx hb dJ0_isLatin1_aae02_3 (tgt := 17) rfl (fun q => absurd q (by decide)) (fun _ => ?_)
  refine lv_aload_n hx hb dJ0_isLatin1_aae02_6 rfl (lv_at hl 0 rfl) ?_
  refine vk_getf hx hb (hY.1.1 i hi).2.1 (x_NS hS) hown (hts _ (x_gm (x_t5 (List.mem_of_getElem? (i := 199) rfl)) rfl)) (fun _ h => h) dJ0_isLatin1_aae02_7 ?_
  refine lv_if_ne hx hb dJ0_isLatin1_aae02_10 (tgt := 17) rfl (fun q => absurd rfl q) (fun _ => ?_)
  refine lv_iconst hx hb dJ0_isLatin1_aae02_13 rfl ?_
  refine lv_goto hx hb dJ0_isLatin1_aae02_14 (tgt := 18) rfl ?_
  exact W.zret hx hb hr rfl (fun t ht hW => ⟨⟨1, (), rfl, rfl, trivial⟩, hS.F ht⟩) hS.2.2 dJ0_isLatin1_aae02_18
set_option maxHeartbeats 4000000 in
set_option maxRecDepth 100000 in
theorem c_length (l : Launch) (b : Nat) (ad adV : Nat → Nat) (v : Value) (i : Nat) (hi : i < 6) : Met l yJ0_length_8abf5 (x_wq yJ0_length_8abf5 cJ0_length_8abf5 1 (some .int)) (x_r 1) (va_Pc [.ref (ad i)] (fun U => x_Y b ad adV v U U.heap)) (va_Qi (fun (r : Int32) (_ : Unit) => r = nI (x_tx.getD i []).length) (fun _ _ => True) x_N) 0 0 x_N := by
  refine Met.ofW (cc := cJ0_length_8abf5) (maxL := 1) (ret := (some .int)) (by decide) rfl ?_
  intro p e s m args below meth c s₁ B hml hv
  obtain ⟨rfl, hY⟩ := hv
  have hx := B.exec
  have hb := B.bytes
  have hr := B.returns
  have hlocks := B.notSynchronized
  have hts := fun w hw => atoms_spec (ws := x_wq yJ0_length_8abf5 cJ0_length_8abf5 1 (some .int)) B.pre w (List.mem_cons_of_mem _ hw)
  have hown : s.vm.findClass RJ0 = some m.cls := findClass_of_methodNamed B.named
  have hS : va_S x_N s.heap s.heap [] := va_S.rf
  have hl := lv_entry ([.ref (ad i)]) (n := 1) (Nat.le_of_ble_eq_true rfl)
  rw [lg_entry_eq]
  generalize (lg_sl ([.ref (ad i)]) ++ List.replicate (1 - (lg_sl ([.ref (ad i)])).length) Slot.unset).toArray = ls at hl ⊢
  have hl : lv_has ls 1 [(0, .ref (ad i))] := hl
  refine lv_aload_n hx hb dJ0_length_8abf5_0 rfl (lv_at hl 0 rfl) ?_
  refine vk_getf hx hb (hY.1.1 i hi).2.2.1 (x_NS hS) hown (hts _ (x_gm (x_t5 (List.mem_of_getElem? (i := 198) rfl)) rfl)) (fun _ h => h) dJ0_length_8abf5_1 ?_
  refine va_tlen hx hb (hY.1.1 i hi).2.2.2 (x_NS hS) rfl dJ0_length_8abf5_4 ?_
  refine lv_aload_n hx hb dJ0_length_8abf5_5 rfl (lv_at hl 0 rfl) ?_
  refine va_calli (A0 := x_N) (va_runV (As := []) (C := RJ0) (n := 0) (index := 335) (own := RJ0) ⟨hx, hb, hml, hown, hts⟩ (c_coder l b ad adV v i hi) ⟨callB_of 0 hts (x_wqG (x_gm (x_t3 (List.mem_of_getElem? (i := 16) rfl)) rfl)) rfl rfl rfl (hts _ (x_gm (x_t1 (List.mem_of_getElem? (i := 11) rfl)) rfl)) (hts _ (x_gm (x_t3 (List.mem_of_getElem? (i := 13) rfl)) rfl)) (by decide) (by decide), hts _ (x_gm (x_t3 (List.mem_of_getElem? (i := 14) rfl)) rfl), hts _ (x_gm (x_t3 (List.mem_of_getElem? (i := 15) rfl)) rfl)⟩ (x_YV hi hY (x_NS hS)) rfl rfl hl.1 rfl (lv_room (by show 1 ≤ 8; decide)) dJ0_length_8abf5_6 ⟨by decide, by decide⟩) hS (fun _ _ z => z) (fun _ z => z) (fun r u t H1 locs1 ht hvm hp _ _ _ hS1 => ?_)
  subst hp
  refine lv_ishr hx hb dJ0_length_8abf5_9 ?_
  refine W.iret hx hb hr (fun t ht hW => ⟨⟨_, (), rfl, ?_, trivial⟩, hS1.F ht⟩) hS1.2.2 dJ0_length_8abf5_10
  exact x_len6 i hi
set_option maxHeartbeats 4000000 in
set_option maxRecDepth 100000 in
theorem c_pre (l : Launch) (b : Nat) (ad adV : Nat → Nat) (v : Value) (j n : Int32) (h0 : ¬ j < 0) (h1 : j < n) : Met l yJ3_checkIndex_8e157 (x_wq yJ3_checkIndex_8e157 cJ3_checkIndex_8e157 3 (some .int)) (x_r 0) (va_Pc [.int j, .int n, v] (fun U => x_Y b ad adV v U U.heap)) (va_Qi (fun (r : Int32) (_ : Unit) => r = j) (fun _ _ => True) x_N) 0 0 x_N := by
  refine Met.ofW (cc := cJ3_checkIndex_8e157) (maxL := 3) (ret := (some .int)) (by decide) rfl ?_
  intro p e s m args below meth c s₁ B hml hv
  obtain ⟨rfl, hY⟩ := hv
  have hx := B.exec
  have hb := B.bytes
  have hr := B.returns
  have hlocks := B.notSynchronized
  have hts := fun w hw => atoms_spec (ws := x_wq yJ3_checkIndex_8e157 cJ3_checkIndex_8e157 3 (some .int)) B.pre w (List.mem_cons_of_mem _ hw)
  have hown : s.vm.findClass RJ3 = some m.cls := findClass_of_methodNamed B.named
  have hS : va_S x_N s.heap s.heap [] := va_S.rf
  have hv := hY.2.2.2
  have key : ∃ ls : Array Slot, entryFrame m ([.int j, .int n, v] : List Value).toArray 3 = F0 m 0 ls [] ∧ lv_has ls 3 [(0, .int j), (1, .int n)] := by
    rcases hv with rfl | ⟨a, rfl⟩
    · have hl := lv_entry ([.int j, .int n, .null]) (n := 3) (Nat.le_of_ble_eq_true rfl)
      exact ⟨_, lg_entry_eq _ _ _, lv_sub hl [0, 1] rfl⟩
    · have hl := lv_entry ([.int j, .int n, .ref a]) (n := 3) (Nat.le_of_ble_eq_true rfl)
      exact ⟨_, lg_entry_eq _ _ _, lv_sub hl [0, 1] rfl⟩
  obtain ⟨ls, e1, hl⟩ := key
  rw [e1]
  refine lv_iload_n hx hb dJ3_checkIndex_8e157_0 rfl (lv_at hl 0 rfl) ?_
  refine lv_if_lt hx hb dJ3_checkIndex_8e157_1 (tgt := 9) rfl (fun q => absurd q h0) (fun _ => ?_)
  refine lv_iload_n hx hb dJ3_checkIndex_8e157_4 rfl (lv_at hl 0 rfl) ?_
  refine lv_iload_n hx hb dJ3_checkIndex_8e157_5 rfl (lv_at hl 1 rfl) ?_
  refine lv_icmp_lt hx hb dJ3_checkIndex_8e157_6 (tgt := 16) rfl (fun _ => ?_) (fun q => absurd h1 q)
  refine lv_iload_n hx hb dJ3_checkIndex_8e157_16 rfl (lv_at hl 0 rfl) ?_
  exact W.iret hx hb hr (fun t ht hW => ⟨⟨_, (), rfl, rfl, trivial⟩, hS.F ht⟩) hS.2.2 dJ3_checkIndex_8e157_17
set_option maxHeartbeats 4000000 in
set_option maxRecDepth 100000 in
theorem c_chk (l : Launch) (b : Nat) (ad adV : Nat → Nat) (v : Value) (j n : Int32) (h0 : ¬ j < 0) (h1 : j < n) : Met l yJ0_checkIndex_df160 (x_wq yJ0_checkIndex_df160 cJ0_checkIndex_df160 2 none) (x_r 1) (va_Pc [.int j, .int n] (fun U => x_Y b ad adV v U U.heap)) (va_Qv (fun _ : Unit => True) (fun _ _ => True) x_N) 0 0 x_N := by
  refine Met.ofW (cc := cJ0_checkIndex_df160) (maxL := 2) (ret := none) (by decide) rfl ?_
  intro p e s m args below meth c s₁ B hml hv
  obtain ⟨rfl, hY⟩ := hv
  have hx := B.exec
  have hb := B.bytes
  have hr := B.returns
  have hlocks := B.notSynchronized
  have hts := fun w hw => atoms_spec (ws := x_wq yJ0_checkIndex_df160 cJ0_checkIndex_df160 2 none) B.pre w (List.mem_cons_of_mem _ hw)
  have hown : s.vm.findClass RJ0 = some m.cls := findClass_of_methodNamed B.named
  have hS : va_S x_N s.heap s.heap [] := va_S.rf
  have hl := lv_entry ([.int j, .int n]) (n := 2) (Nat.le_of_ble_eq_true rfl)
  rw [lg_entry_eq]
  generalize (lg_sl ([.int j, .int n]) ++ List.replicate (2 - (lg_sl ([.int j, .int n])).length) Slot.unset).toArray = ls at hl ⊢
  have hl : lv_has ls 2 [(0, .int j), (1, .int n)] := hl
  refine lv_iload_n hx hb dJ0_checkIndex_df160_0 rfl (lv_at hl 0 rfl) ?_
  refine lv_iload_n hx hb dJ0_checkIndex_df160_1 rfl (lv_at hl 1 rfl) ?_
  refine va_gets (A := x_A b) hx hb hY.2.2.1 (x_NS hS) hown (hts _ (x_gm (x_t3 (List.mem_of_getElem? (i := 33) rfl)) rfl)) (fun _ h => h) dJ0_checkIndex_df160_2 ?_
  refine va_calli (A0 := x_N) (rest := []) (va_runS (As := [.int j, .int n, v]) (n := 3) (index := 1059) (own := RJ0) ⟨hx, hb, hml, hown, hts⟩ (c_pre l b ad adV v j n h0 h1) ⟨callB_of 3 hts (x_wqG (x_gm (x_t3 (List.mem_of_getElem? (i := 37) rfl)) rfl)) rfl rfl rfl (hts _ (x_gm (x_t1 (List.mem_of_getElem? (i := 13) rfl)) rfl)) (hts _ (x_gm (x_t3 (List.mem_of_getElem? (i := 35) rfl)) rfl)) (by decide) (by decide), hts _ (x_gm (x_t3 (List.mem_of_getElem? (i := 36) rfl)) rfl)⟩ (x_YP hY (x_NS hS)) rfl rfl hl.1 rfl (lv_room (by decide)) dJ0_checkIndex_df160_5 ⟨by decide, by decide⟩) hS (fun _ _ z => z) (fun _ z => z) (fun r u t H1 locs1 ht hvm hp _ _ _ hS1 => ?_)
  refine lv_pop hx hb dJ0_checkIndex_df160_8 rfl ?_
  exact W.vret hx hb hr (fun t ht hW => ⟨⟨(), rfl, trivial, trivial⟩, hS1.F ht⟩) hS1.2.2 dJ0_checkIndex_df160_9
set_option maxHeartbeats 4000000 in
set_option maxRecDepth 100000 in
theorem c_lchar (l : Launch) (b : Nat) (ad adV : Nat → Nat) (v : Value) (i : Nat) (hi : i < 6) (j : Int32) (h0 : ¬ j < 0) (h1 : j.toNatClampNeg < (x_tx.getD i []).length) : Met l yJ1_charAt_3b067 (x_wq yJ1_charAt_3b067 cJ1_charAt_3b067 2 (some .char)) (x_r 2) (va_Pc [.ref (adV i), .int j] (fun U => x_Y b ad adV v U U.heap)) (va_Qi (fun (r : Int32) (_ : Unit) => r = (x_tx.getD i []).getD j.toNatClampNeg 0) (fun _ _ => True) x_N) 0 0 x_N := by
  refine Met.ofW (cc := cJ1_charAt_3b067) (maxL := 2) (ret := (some .char)) (by decide) rfl ?_
  intro p e s m args below meth c s₁ B hml hv
  obtain ⟨rfl, hY⟩ := hv
  have hx := B.exec
  have hb := B.bytes
  have hr := B.returns
  have hlocks := B.notSynchronized
  have hts := fun w hw => atoms_spec (ws := x_wq yJ1_charAt_3b067 cJ1_charAt_3b067 2 (some .char)) B.pre w (List.mem_cons_of_mem _ hw)
  have hown : s.vm.findClass RJ1 = some m.cls := findClass_of_methodNamed B.named
  have hS : va_S x_N s.heap s.heap [] := va_S.rf
  have hl := lv_entry ([.ref (adV i), .int j]) (n := 2) (Nat.le_of_ble_eq_true rfl)
  rw [lg_entry_eq]
  generalize (lg_sl ([.ref (adV i), .int j]) ++ List.replicate (2 - (lg_sl ([.ref (adV i), .int j])).length) Slot.unset).toArray = ls at hl ⊢
  have hl : lv_has ls 2 [(0, .ref (adV i)), (1, .int j)] := hl
  have h10 := x_ln6 i hi
  refine lv_iload_n hx hb dJ1_charAt_3b067_0 rfl (lv_at hl 1 rfl) ?_
  refine lv_aload_n hx hb dJ1_charAt_3b067_1 rfl (lv_at hl 0 rfl) ?_
  refine va_tlen hx hb (hY.1.1 i hi).2.2.2 (x_NS hS) rfl dJ1_charAt_3b067_2 ?_
  refine va_callv (A0 := x_N) (rest := []) (va_runS (As := [.int j, .int (Int32.ofNat ((x_tx.map List.length).getD i 0))]) (n := 2) (index := 9) (own := RJ1) ⟨hx, hb, hml, hown, hts⟩ (c_chk l b ad adV v j _ h0 (x_ltN h0 (by rw [h10.1]; exact h1) (by rw [h10.1]; omega))) ⟨callB_of 2 hts (x_wqG (x_gm (x_t3 (List.mem_of_getElem? (i := 32) rfl)) rfl)) rfl rfl rfl (hts _ (x_gm (x_t1 (List.mem_of_getElem? (i := 11) rfl)) rfl)) (hts _ (x_gm (x_t3 (List.mem_of_getElem? (i := 30) rfl)) rfl)) (by decide) (by decide), hts _ (x_gm (x_t3 (List.mem_of_getElem? (i := 31) rfl)) rfl)⟩ (x_YP hY (x_NS hS)) rfl rfl hl.1 rfl (lv_room (by decide)) dJ1_charAt_3b067_3 ⟨by decide, by decide⟩) hS (fun _ _ z => z) (fun _ z => z) (fun u t H1 locs1 ht hvm hp _ _ _ hS1 => ?_)
  refine lv_aload_n hx hb dJ1_charAt_3b067_6 rfl (lv_at hl 0 rfl) ?_
  refine lv_iload_n hx hb dJ1_charAt_3b067_7 rfl (lv_at hl 1 rfl) ?_
  refine va_tb hx hb (hY.1.1 i hi).2.2.2 (x_NS hS1) (x_vin h0 (by rw [h10.1]; exact h1)) rfl dJ1_charAt_3b067_8 ?_
  refine lv_sipush hx hb dJ1_charAt_3b067_9 rfl ?_
  refine lv_iand hx hb dJ1_charAt_3b067_12 ?_
  refine lv_i2c hx hb dJ1_charAt_3b067_13 (x_ch6 i hi _ h1).1 ?_
  exact W.zret hx hb hr (x_ch6 i hi _ h1).2 (fun t ht hW => ⟨⟨_, (), rfl, rfl, trivial⟩, hS1.F ht⟩) hS1.2.2 dJ1_charAt_3b067_14
set_option maxHeartbeats 4000000 in
set_option maxRecDepth 100000 in
theorem c_char (l : Launch) (b : Nat) (ad adV : Nat → Nat) (v : Value) (i : Nat) (hi : i < 6) (j : Int32) (h0 : ¬ j < 0) (h1 : j.toNatClampNeg < (x_tx.getD i []).length) : Met l yJ0_charAt_5068e (x_wq yJ0_charAt_5068e cJ0_charAt_5068e 2 (some .char)) (x_r 3) (va_Pc [.ref (ad i), .int j] (fun U => x_Y b ad adV v U U.heap)) (va_Qi (fun (r : Int32) (_ : Unit) => r = (x_tx.getD i []).getD j.toNatClampNeg 0) (fun _ _ => True) x_N) 0 0 x_N := by
  refine Met.ofW (cc := cJ0_charAt_5068e) (maxL := 2) (ret := (some .char)) (by decide) rfl ?_
  intro p e s m args below meth c s₁ B hml hv
  obtain ⟨rfl, hY⟩ := hv
  have hx := B.exec
  have hb := B.bytes
  have hr := B.returns
  have hlocks := B.notSynchronized
  have hts := fun w hw => atoms_spec (ws := x_wq yJ0_charAt_5068e cJ0_charAt_5068e 2 (some .char)) B.pre w (List.mem_cons_of_mem _ hw)
  have hown : s.vm.findClass RJ0 = some m.cls := findClass_of_methodNamed B.named
  have hS : va_S x_N s.heap s.heap [] := va_S.rf
  have hl := lv_entry ([.ref (ad i), .int j]) (n := 2) (Nat.le_of_ble_eq_true rfl)
  rw [lg_entry_eq]
  generalize (lg_sl ([.ref (ad i), .int j]) ++ List.replicate (2 - (lg_sl ([.ref (ad i), .int j])).length) Slot.unset).toArray = ls at hl ⊢
  have hl : lv_has ls 2 [(0, .ref (ad i)), (1, .int j)] := hl
  refine lv_aload_n hx hb dJ0_charAt_5068e_0 rfl (lv_at hl 0 rfl) ?_
  refine va_calli (A0 := x_N) (rest := []) (va_runV (As := []) (C := RJ0) (n := 0) (index := 492) (own := RJ0) ⟨hx, hb, hml, hown, hts⟩ (c_latin l b ad adV v i hi) ⟨callB_of 0 hts (x_wqG (x_gm (x_t3 (List.mem_of_getElem? (i := 26) rfl)) rfl)) rfl rfl rfl (hts _ (x_gm (x_t1 (List.mem_of_getElem? (i := 11) rfl)) rfl)) (hts _ (x_gm (x_t3 (List.mem_of_getElem? (i := 23) rfl)) rfl)) (by decide) (by decide), hts _ (x_gm (x_t3 (List.mem_of_getElem? (i := 24) rfl)) rfl), hts _ (x_gm (x_t3 (List.mem_of_getElem? (i := 25) rfl)) rfl)⟩ (x_YV hi hY (x_NS hS)) rfl rfl hl.1 rfl (lv_room (by decide)) dJ0_charAt_5068e_1 ⟨by decide, by decide⟩) hS (fun _ _ z => z) (fun _ z => z) (fun r u t H1 locs1 ht hvm hp _ _ _ hS1 => ?_)
  subst hp
  refine lv_if_eq hx hb dJ0_charAt_5068e_4 (tgt := 16) rfl (fun q => absurd q (by decide)) (fun _ => ?_)
  refine lv_aload_n hx hb dJ0_charAt_5068e_7 rfl (lv_at hl 0 rfl) ?_
  refine vk_getf hx hb (hY.1.1 i hi).2.2.1 (x_NS hS1) hown (hts _ (x_gm (x_t5 (List.mem_of_getElem? (i := 198) rfl)) rfl)) (fun _ h => h) dJ0_charAt_5068e_8 ?_
  refine lv_iload_n hx hb dJ0_charAt_5068e_11 rfl (lv_at hl 1 rfl) ?_
  refine va_calli (A0 := x_N) (rest := []) (va_runS (As := [.ref (adV i), .int j]) (n := 2) (index := 495) (own := RJ0) ⟨hx, hb, hml, hown, hts⟩ (c_lchar l b ad adV v i hi j h0 h1) ⟨callB_of 2 hts (x_wqG (x_gm (x_t3 (List.mem_of_getElem? (i := 29) rfl)) rfl)) rfl rfl rfl (hts _ (x_gm (x_t1 (List.mem_of_getElem? (i := 12) rfl)) rfl)) (hts _ (x_gm (x_t3 (List.mem_of_getElem? (i := 27) rfl)) rfl)) (by decide) (by decide), hts _ (x_gm (x_t3 (List.mem_of_getElem? (i := 28) rfl)) rfl)⟩ (x_YP hY (x_NS hS1)) rfl rfl hl.1 rfl (lv_room (by decide)) dJ0_charAt_5068e_12 ⟨by decide, by decide⟩) hS1 (fun _ _ z => z) (fun _ z => z) (fun r u t H2 locs2 ht hvm hp _ _ _ hS2 => ?_)
  subst hp
  exact W.zret hx hb hr (x_ch6 i hi _ h1).2 (fun t ht hW => ⟨⟨_, (), rfl, rfl, trivial⟩, hS2.F ht⟩) hS2.2.2 dJ0_charAt_5068e_15

/-! THE LOOP, and the start (printed by wip/whole/gen99x.py) -/
section
variable {p : Program} {l : Launch} {e : Env} {s : State} {m : MethodId} {below : List Frame} {meth : Method} {c : Code}
variable {ad : Nat → Nat} {cy : Nat → ClassId} {D : va_G} {bs L : Nat} {xs : Nat → Int32} {h : xH}
set_option maxRecDepth 100000 in
theorem w_sw (C : wC ad cy D p s m meth c bs L xs) {j : Nat} {G t : Nat → Nat → Int} {x : Int32} (hj : j + 5 ≤ L) (hh : 103 ≤ h.1) (hR : h.1 ≤ 600000 ∧ h.2.1 ≤ 7302250) (ho : oR G t) (kk : ∀ G' t', oR G' t' → vW ad cy D p l e s m below meth c (lw_Z below #[Value.ref bs] s) bs (wL bs s.heap.size (nI j)) 904 [] (bH h G' t')) : vW ad cy D p l e s m below meth c (lw_Z below #[Value.ref bs] s) bs (wL bs s.heap.size (nI j)) 32 [.int x] (bH h G t) := by
  intro H locs Ls hl hP hS
  by_cases hout : x.toInt < 0 ∨ 26 < x.toInt
  · exact lv_tableOut C.1.1 C.1.2.1 dL_law_32 hout (tgt := 904) (by decide) (kk G t ho H locs Ls hl hP hS)
  · have h1 : ¬ x.toInt < 0 := fun q => hout (Or.inl q)
    have h2 : ¬ 26 < x.toInt := fun q => hout (Or.inr q)
    rcases (show x.toInt = 0 ∨ x.toInt = 1 ∨ x.toInt = 2 ∨ x.toInt = 3 ∨ x.toInt = 4 ∨ x.toInt = 5 ∨ x.toInt = 6 ∨ x.toInt = 7 ∨ x.toInt = 8 ∨ x.toInt = 9 ∨ x.toInt = 10 ∨ x.toInt = 11 ∨ x.toInt = 12 ∨ x.toInt = 13 ∨ x.toInt = 14 ∨ x.toInt = 15 ∨ x.toInt = 16 ∨ x.toInt = 17 ∨ x.toInt = 18 ∨ x.toInt = 19 ∨ x.toInt = 20 ∨ x.toInt = 21 ∨ x.toInt = 22 ∨ x.toInt = 23 ∨ x.toInt = 24 ∨ x.toInt = 25 ∨ x.toInt = 26 by omega) with q | q | q | q | q | q | q | q | q | q | q | q | q | q | q | q | q | q | q | q | q | q | q | q | q | q | q
    · exact lv_tableIn C.1.1 C.1.2.1 dL_law_32 h1 h2 (off := 124) (by rw [q]; rfl) (tgt := 156) (by decide) (w_c0 C hj hh hR ho kk H locs Ls hl hP hS)
    · exact lv_tableIn C.1.1 C.1.2.1 dL_law_32 h1 h2 (off := 157) (by rw [q]; rfl) (tgt := 189) (by decide) (w_c1 C hj hh hR ho kk H locs Ls hl hP hS)
    · exact lv_tableIn C.1.1 C.1.2.1 dL_law_32 h1 h2 (off := 206) (by rw [q]; rfl) (tgt := 238) (by decide) (w_c2 C hj hh hR ho kk H locs Ls hl hP hS)
    · exact lv_tableIn C.1.1 C.1.2.1 dL_law_32 h1 h2 (off := 259) (by rw [q]; rfl) (tgt := 291) (by decide) (w_c3 C hj hh hR ho kk H locs Ls hl hP hS)
    · exact lv_tableIn C.1.1 C.1.2.1 dL_law_32 h1 h2 (off := 282) (by rw [q]; rfl) (tgt := 314) (by decide) (w_c4 C hj hh hR ho kk H locs Ls hl hP hS)
    · exact lv_tableIn C.1.1 C.1.2.1 dL_law_32 h1 h2 (off := 305) (by rw [q]; rfl) (tgt := 337) (by decide) (w_c5 C hj hh hR ho kk H locs Ls hl hP hS)
    · exact lv_tableIn C.1.1 C.1.2.1 dL_law_32 h1 h2 (off := 338) (by rw [q]; rfl) (tgt := 370) (by decide) (w_c6 C hj hh hR ho kk H locs Ls hl hP hS)
    · exact lv_tableIn C.1.1 C.1.2.1 dL_law_32 h1 h2 (off := 371) (by rw [q]; rfl) (tgt := 403) (by decide) (w_c7 C hj hh hR ho kk H locs Ls hl hP hS)
    · exact lv_tableIn C.1.1 C.1.2.1 dL_law_32 h1 h2 (off := 434) (by rw [q]; rfl) (tgt := 466) (by decide) (w_c8 C hj hh hR ho kk H locs Ls hl hP hS)
    · exact lv_tableIn C.1.1 C.1.2.1 dL_law_32 h1 h2 (off := 447) (by rw [q]; rfl) (tgt := 479) (by decide) (w_c9 C hj hh hR ho kk H locs Ls hl hP hS)
    · exact lv_tableIn C.1.1 C.1.2.1 dL_law_32 h1 h2 (off := 460) (by rw [q]; rfl) (tgt := 492) (by decide) (w_c10 C hj hh hR ho kk H locs Ls hl hP hS)
    · exact lv_tableIn C.1.1 C.1.2.1 dL_law_32 h1 h2 (off := 483) (by rw [q]; rfl) (tgt := 515) (by decide) (w_c11 C hj hh hR ho kk H locs Ls hl hP hS)
    · exact lv_tableIn C.1.1 C.1.2.1 dL_law_32 h1 h2 (off := 496) (by rw [q]; rfl) (tgt := 528) (by decide) (w_c12 C hj hh hR ho kk H locs Ls hl hP hS)
    · exact lv_tableIn C.1.1 C.1.2.1 dL_law_32 h1 h2 (off := 519) (by rw [q]; rfl) (tgt := 551) (by decide) (w_c13 C hj hh hR ho kk H locs Ls hl hP hS)
    · exact lv_tableIn C.1.1 C.1.2.1 dL_law_32 h1 h2 (off := 552) (by rw [q]; rfl) (tgt := 584) (by decide) (w_c14 C hj hh hR ho kk H locs Ls hl hP hS)
    · exact lv_tableIn C.1.1 C.1.2.1 dL_law_32 h1 h2 (off := 595) (by rw [q]; rfl) (tgt := 627) (by decide) (w_c15 C hj hh hR ho kk H locs Ls hl hP hS)
    · exact lv_tableIn C.1.1 C.1.2.1 dL_law_32 h1 h2 (off := 618) (by rw [q]; rfl) (tgt := 650) (by decide) (w_c16 C hj hh hR ho kk H locs Ls hl hP hS)
    · exact lv_tableIn C.1.1 C.1.2.1 dL_law_32 h1 h2 (off := 641) (by rw [q]; rfl) (tgt := 673) (by decide) (w_c17 C hj hh hR ho kk H locs Ls hl hP hS)
    · exact lv_tableIn C.1.1 C.1.2.1 dL_law_32 h1 h2 (off := 654) (by rw [q]; rfl) (tgt := 686) (by decide) (w_c18 C hj hh hR ho kk H locs Ls hl hP hS)
    · exact lv_tableIn C.1.1 C.1.2.1 dL_law_32 h1 h2 (off := 667) (by rw [q]; rfl) (tgt := 699) (by decide) (w_c19 C hj hh hR ho kk H locs Ls hl hP hS)
    · exact lv_tableIn C.1.1 C.1.2.1 dL_law_32 h1 h2 (off := 690) (by rw [q]; rfl) (tgt := 722) (by decide) (w_c20 C hj hh hR ho kk H locs Ls hl hP hS)
    · exact lv_tableIn C.1.1 C.1.2.1 dL_law_32 h1 h2 (off := 723) (by rw [q]; rfl) (tgt := 755) (by decide) (w_c21 C hj hh hR ho kk H locs Ls hl hP hS)
    · exact lv_tableIn C.1.1 C.1.2.1 dL_law_32 h1 h2 (off := 766) (by rw [q]; rfl) (tgt := 798) (by decide) (w_c22 C hj hh hR ho kk H locs Ls hl hP hS)
    · exact lv_tableIn C.1.1 C.1.2.1 dL_law_32 h1 h2 (off := 789) (by rw [q]; rfl) (tgt := 821) (by decide) (w_c23 C hj hh hR ho kk H locs Ls hl hP hS)
    · exact lv_tableIn C.1.1 C.1.2.1 dL_law_32 h1 h2 (off := 812) (by rw [q]; rfl) (tgt := 844) (by decide) (w_c24 C hj hh hR ho kk H locs Ls hl hP hS)
    · exact lv_tableIn C.1.1 C.1.2.1 dL_law_32 h1 h2 (off := 835) (by rw [q]; rfl) (tgt := 867) (by decide) (w_c25 C hj hh hR ho kk H locs Ls hl hP hS)
    · exact lv_tableIn C.1.1 C.1.2.1 dL_law_32 h1 h2 (off := 858) (by rw [q]; rfl) (tgt := 890) (by decide) (w_c26 C hj hh hR ho kk H locs Ls hl hP hS)
set_option maxRecDepth 100000 in
theorem w_loop (C : wC ad cy D p s m meth c bs L xs) (hh : 103 ≤ h.1) (hR : h.1 ≤ 600000 ∧ h.2.1 ≤ 7302250) : ∀ (n j : Nat) (G t : Nat → Nat → Int), oR G t → j ≤ L + 5 → L + 6 ≤ j + n → vW ad cy D p l e s m below meth c (lw_Z below #[Value.ref bs] s) bs (wL bs s.heap.size (nI j)) 18 [] (bH h G t) := by
  intro n
  induction n with
  | zero =>
    intro j G t _ h1 h2
    exact absurd h2 (by omega)
  | succ n ih =>
    intro j G t ho hj1 hj2 H locs Ls hl hP hS
    have C0 := C
    have hbA := w_bA C
    obtain ⟨⟨hx, hb, hr, hml, hown, hts, hX, hbl, hlocks, hgv⟩, -, -, hL⟩ := C0
    refine lv_iload_n hx hb dL_law_18 rfl (lv_at hl 3 rfl) ?_
    refine lv_aload_n hx hb dL_law_19 rfl (lv_at hl 0 rfl) ?_
    refine va_slen hx hb hX hbl hbA hS dL_law_20 ?_
    refine lv_iconst hx hb dL_law_21 (v := nI 5) rfl ?_
    refine lv_isub hx hb dL_law_22 ?_
    have e5 : (nI L - nI 5).toInt = (L : Int) - (5 : Nat) := pk_sub_toInt (by omega) (by omega)
    have ej : (nI j).toInt = (j : Int) := nI_toInt (by omega)
    refine lv_icmp_gt hx hb dL_law_23 (tgt := 910) (by decide) (fun q => ?_) (fun q => ?_)
    · refine lv_iconst (v := 1) hx hb dL_law_910 (by decide) ?_
      refine va_forget (fun z hz => hS.2.2 z hz) ?_
      refine W.widen (k := 600000) (n := 7302250) hR.1 hR.2 ?_
      exact lw_ret hx hb hr hlocks dL_law_911
    · have hj : j + 5 ≤ L := by
        have q2 := q
        rw [Int32.lt_iff_toInt_lt] at q2
        have q3 : ¬ ((L : Int) - (5 : Nat) < (j : Int)) := by rw [← e5, ← ej]; exact q2
        omega
      refine lv_aload_n hx hb dL_law_26 rfl (lv_at hl 0 rfl) ?_
      refine lv_iload_n hx hb dL_law_27 rfl (lv_at hl 3 rfl) ?_
      refine va_sld hx hb hX hbl hbA hS (vp_in_nI (show j < L by omega) (by omega)) dL_law_28 ?_
      refine lv_bipush hx hb dL_law_29 rfl ?_
      refine lv_iand hx hb dL_law_31 ?_
      refine w_sw C hj hh hR ho (fun G' t' ho' => ?_) H locs Ls hl hP hS
      intro H locs Ls hl hP hS
      refine lv_iinc (v := nI (j + 5)) (lv' := [(3, .int (nI (j + 5))), (0, .ref bs), (1, .ref s.heap.size), (2, .ref (s.heap.size + 91))]) hx hb dL_law_904 hl (k := 3) rfl (nI_add j 5) (by decide) rfl (fun Ls hl => ?_)
      refine lv_goto (tgt := 18) hx hb dL_law_907 (by decide) ?_
      exact ih (j + 5) G' t' ho' (by omega) (by omega) H locs Ls (lv_sub hl [1, 2, 3, 0] rfl) hP hS
end
set_option maxHeartbeats 4000000 in
set_option maxRecDepth 100000 in
/-- THE LAW, from its entry -/
theorem whole_start {p : Program} {e : Env} {s : State} {m : MethodId} {below : List Frame} {meth : Method} {c : Code} (l : Launch) {b L : Nat} {xs : Nat → Int32} (hL : L ≤ 2560) (C0 : lw_At p s m meth c b L xs) : W p l e room_1 s m #[Value.ref b] below meth c s.heap [] 0 0 (lw_Z below #[Value.ref b] s) (entryFrame m ([Value.ref b] : List Value).toArray 4) := by
  obtain ⟨hx, hb, hr, hml, hown, hts, hX, hbl, hlocks, hgv⟩ := id C0
  obtain ⟨ad, hT⟩ := w_T hts hgv
  obtain ⟨cy, D, hK⟩ := w_K hts
  have C : wC ad cy D p s m meth c b L xs := ⟨C0, hK, hT, hL⟩
  have k7 := k_new7
  have n7 := x_h7n
  have c7 := x_h7c
  have s7 : x_h7.2.1 ≤ 3000 := of_decide_eq_true x_s7
  have o0 := oR_0
  have m7 : x_n7.2.1 ≤ x_h7.2.1 := (w_le k_new7).2
  generalize x_h7 = h7 at k7 n7 c7 s7 o0 m7
  obtain ⟨sz, hsz, k8⟩ := k_new8 (h := h7) (o := 91) (d := 18) n7
  have e8 : mH (91 + 12, sz, h7.2.2) 91 (anT tz 0 4 4) = bH (103, sz, h7.2.2) (xG h7) (anT tz 0 4 4) := by
    unfold bH
    have e9 : cH (103, sz, h7.2.2) (xG h7) = (103, sz, h7.2.2) := by
      have e10 : (cH h7 (xG h7)).2.2 = h7.2.2 := congrArg (fun z : xH => z.2.2) c7.symm
      show ((103, sz, (cH h7 (xG h7)).2.2) : xH) = _
      rw [e10]
    rw [e9]
  rw [e8] at k8
  have m8 := (w_le k8).2
  have hl := lv_entry ([.ref b]) (n := 4) (Nat.le_of_ble_eq_true rfl)
  rw [lg_entry_eq]
  generalize (lg_sl ([.ref b]) ++ List.replicate (4 - (lg_sl ([.ref b])).length) Slot.unset).toArray = ls at hl ⊢
  have hl : lv_has ls 4 [(0, .ref b)] := hl
  have hP0 : va_P D vwCl (x_W s.heap.size ad cy x_e0) s.heap := fun k q hq => by
    obtain ⟨z, -⟩ := x_W_of hq
    exact absurd z (Nat.not_lt_zero _)
  have key : vW ad cy D p l e s m below meth c (lw_Z below #[Value.ref b] s) b [(0, .ref b)] 0 [] x_e0 := by
    refine w_new C (ci := 7) (cr := (RX7, TX7, 10)) rfl (x_gm (x_t1 (List.mem_of_getElem? (i := 17) rfl)) rfl) (x_gm (x_t1 (List.mem_of_getElem? (i := 1) rfl)) rfl) ⟨by decide, by decide⟩ dL_law_0 ?_
    intro H locs Ls hl hP hS
    refine lv_dup hx hb dL_law_3 rfl ?_
    refine w_ini C (lv := [(0, .ref b)]) (pc := 4) (h := x_n7) (h' := h7) (kx := n_X7_init) (a := 0) (rest := [.ref (s.heap.size + 0)]) (by decide) rfl rfl (Nat.le_of_ble_eq_true rfl) k7 (by rw [n7]; decide) m7 ⟨by omega, by omega⟩ (x_gm (x_t1 (List.mem_of_getElem? (i := 19) rfl)) rfl) (Nat.le_of_ble_eq_true rfl) dL_law_4 ?_ H locs Ls hl hP hS
    intro H locs Ls hl hP hS
    refine lv_astore_n (lv' := [(1, .ref s.heap.size), (0, .ref b)]) hx hb dL_law_7 rfl hl (by decide) rfl (fun Ls hl => ?_)
    refine w_new C (lv := [(1, .ref s.heap.size), (0, .ref b)]) (pc := 8) (st := []) (h := h7) (ci := 8) (cr := (RX8, TX8, 21)) rfl (x_gm (x_t4 (List.mem_of_getElem? (i := 92) rfl)) rfl) (x_gm (x_t1 (List.mem_of_getElem? (i := 9) rfl)) rfl) ⟨by omega, by show h7.2.1 + 21 ≤ _; omega⟩ dL_law_8 ?_ H locs Ls hl hP hS
    intro H locs Ls hl hP hS
    rw [n7]
    refine lv_dup hx hb dL_law_11 rfl ?_
    refine w_ini C (lv := [(1, .ref s.heap.size), (0, .ref b)]) (pc := 12) (h := x_push h7 21 (.inr (8, x_new 8))) (h' := bH (103, sz, h7.2.2) (xG h7) (anT tz 0 4 4)) (kx := n_X8_init) (a := 91) (rest := [.ref (s.heap.size + 91)]) (by decide) rfl rfl (Nat.le_of_ble_eq_true rfl) k8 (by show h7.1 + 1 ≤ 103; omega) m8 ⟨by show 103 ≤ 600000; omega, by show sz ≤ 7302250; omega⟩ (x_gm (x_t4 (List.mem_of_getElem? (i := 94) rfl)) rfl) (Nat.le_of_ble_eq_true rfl) dL_law_12 ?_ H locs Ls hl hP hS
    intro H locs Ls hl hP hS
    refine lv_astore_n (lv' := [(2, .ref (s.heap.size + 91)), (1, .ref s.heap.size), (0, .ref b)]) hx hb dL_law_15 rfl hl (by decide) rfl (fun Ls hl => ?_)
    refine lv_iconst (v := nI 0) hx hb dL_law_16 (by decide) ?_
    refine lv_istore_n (lv' := [(3, .int (nI 0)), (2, .ref (s.heap.size + 91)), (1, .ref s.heap.size), (0, .ref b)]) hx hb dL_law_17 rfl hl (by decide) rfl (fun Ls hl => ?_)
    exact w_loop (h := (103, sz, h7.2.2)) C (Nat.le_refl _) ⟨by show 103 ≤ 600000; omega, by show sz ≤ 7302250; omega⟩ (L + 6) 0 _ _ o0 (by omega) (by omega) H locs Ls (lv_sub hl [3, 2, 1, 0] rfl) hP hS
  exact key s.heap [] ls hl hP0 va_S.rf

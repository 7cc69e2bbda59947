/-! THE REFERENCE, NEW: heaps that grow by a list of cells -/
section
variable {h : xH} {d o s : Nat}
def hL (h : xH) (o s : Nat) (L : List xC) : xH := (o + L.length, s, fun q => if o ≤ q ∧ q < o + L.length then L.getD (q - o) (.inr (0, [])) else h.2.2 q)
theorem hL_at {L : List xC} {i : Nat} {c : xC} (hi : L[i]? = some c) : (hL h o s L).2.2 (o + i) = c := by
  have hl : i < L.length := (List.getElem?_eq_some_iff.mp hi).1
  show (if o ≤ o + i ∧ o + i < o + L.length then L.getD (o + i - o) (.inr (0, [])) else h.2.2 (o + i)) = c
  rw [if_pos ⟨by omega, by omega⟩, Nat.add_sub_cancel_left, List.getD_eq_getElem?_getD, hi]
  rfl
theorem hL_push {L : List xC} {k : Nat} {c : xC} : x_push (hL h o s L) k c = hL h o (s + k) (L ++ [c]) := by
  refine x_H_ext (by show o + L.length + 1 = o + (L ++ [c]).length; simp; omega) rfl fun q => ?_
  show (if q = o + L.length then c else (if o ≤ q ∧ q < o + L.length then L.getD (q - o) (.inr (0, [])) else h.2.2 q)) = (if o ≤ q ∧ q < o + (L ++ [c]).length then (L ++ [c]).getD (q - o) (.inr (0, [])) else h.2.2 q)
  rw [List.length_append, List.length_singleton, List.getD_eq_getElem?_getD, List.getD_eq_getElem?_getD]
  by_cases z : q = o + L.length
  · rw [if_pos z, if_pos ⟨by omega, by omega⟩, List.getElem?_append_right (by omega), show q - o - L.length = 0 by omega]
    rfl
  · rw [if_neg z]
    by_cases y : o ≤ q ∧ q < o + L.length
    · rw [if_pos y, if_pos ⟨by omega, by omega⟩, List.getElem?_append_left (by omega)]
    · rw [if_neg y, if_neg (by omega)]
theorem hL_set {L : List xC} {i : Nat} {c : xC} (hi : i < L.length) : x_set (hL h o s L) (o + i) c = hL h o s (L.set i c) := by
  refine x_H_ext (by show o + L.length = o + (L.set i c).length; simp) rfl fun q => ?_
  show (if q = o + i then c else (if o ≤ q ∧ q < o + L.length then L.getD (q - o) (.inr (0, [])) else h.2.2 q)) = (if o ≤ q ∧ q < o + (L.set i c).length then (L.set i c).getD (q - o) (.inr (0, [])) else h.2.2 q)
  rw [List.length_set, List.getD_eq_getElem?_getD, List.getD_eq_getElem?_getD, List.getElem?_set]
  by_cases z : q = o + i
  · rw [if_pos z, if_pos ⟨by omega, by omega⟩, if_pos (by omega), if_pos (by omega)]
    rfl
  · rw [if_neg z]
    by_cases y : o ≤ q ∧ q < o + L.length
    · rw [if_pos y, if_pos y, if_neg (by omega)]
    · rw [if_neg y, if_neg y]
theorem hL_obj {L : List xC} {i ci : Nat} {fs : List Value} (hi : L[i]? = some (.inr (ci, fs))) : x_obj (hL h o s L) (o + i) ci = some fs := x_obj_of (by have := (List.getElem?_eq_some_iff.mp hi).1; show o + i < o + L.length; omega) (hL_at hi)
theorem hL_get {L : List xC} {i ci k : Nat} {fs : List Value} {v : Value} (hi : L[i]? = some (.inr (ci, fs))) (hk : fs[k]? = some v) : x_get (hL h o s L) (o + i) ci k = some v := by
  unfold x_get
  rw [hL_obj hi]
  exact hk
theorem hL_put {L : List xC} {i ci k : Nat} {fs : List Value} {v : Value} (hi : L[i]? = some (.inr (ci, fs))) (hk : k < fs.length) : x_put (hL h o s L) (o + i) ci k v = some (hL h o s (L.set i (.inr (ci, fs.set k v)))) := by
  unfold x_put
  rw [hL_obj hi]
  show (if k < fs.length then some (x_set (hL h o s L) (o + i) (.inr (ci, fs.set k v))) else none) = _
  rw [if_pos hk, hL_set (List.getElem?_eq_some_iff.mp hi).1]
theorem hL_qst {L : List xC} {i v K n : Nat} {f : Nat → Option Nat} {fs : List Value} {j : Int} (hi : L[i]? = some (.inl (K, n, .inr (.inr (.inr (.inr f)))))) (hK : K = 2 ∨ K = 3 ∨ K = 4) (hn : n ≤ 65536) (h0 : 0 ≤ j) (h1 : j < n) (hv : L[v]? = some (.inr (x_kc K, fs))) : x_qst (hL h o s L) (o + i) (zI j) (o + v) = some (hL h o s (L.set i (.inl (K, n, .inr (.inr (.inr (.inr (va_up f j.toNat (some (o + v)))))))))) := by
  have hl := (List.getElem?_eq_some_iff.mp hi).1
  have hr : x_refs (hL h o s L) (o + i) = some (K, n, f) := by
    unfold x_refs x_arr
    rw [if_pos (show o + i < (hL h o s L).1 by show o + i < o + L.length; omega), hL_at hi]
    rfl
  unfold x_qst
  rw [hr]
  have hh2 : ¬ (zI j < 0 ∨ n ≤ j.toNat) := fun z => by
    rcases z with z | z
    · rw [zI_lt0 (by omega) (by omega)] at z; omega
    · omega
  show (if (K = 2 ∨ K = 3 ∨ K = 4) ∧ ¬ (zI j < 0 ∨ n ≤ (zI j).toNatClampNeg) then (x_obj (hL h o s L) (o + v) (x_kc K)).bind fun _ => some (x_set (hL h o s L) (o + i) (.inl (K, n, .inr (.inr (.inr (.inr (va_up f (zI j).toNatClampNeg (some (o + v)))))))))  else none) = _
  rw [zI_clamp (by omega) (by omega), if_pos ⟨hK, hh2⟩, hL_obj hv]
  show some (x_set (hL h o s L) (o + i) _) = _
  rw [hL_set hl]
/-- the first object of the list -/
theorem hL_put0 {L : List xC} {ci k : Nat} {fs : List Value} {v : Value} (hi : L[0]? = some (.inr (ci, fs))) (hk : k < fs.length) : x_put (hL h o s L) o ci k v = some (hL h o s (L.set 0 (.inr (ci, fs.set k v)))) := hL_put (i := 0) hi hk
theorem hL_get0 {L : List xC} {ci k : Nat} {fs : List Value} {v : Value} (hi : L[0]? = some (.inr (ci, fs))) (hk : fs[k]? = some v) : x_get (hL h o s L) o ci k = some v := hL_get (i := 0) hi hk
theorem hL_obj0 {L : List xC} {ci : Nat} {fs : List Value} (hi : L[0]? = some (.inr (ci, fs))) : x_obj (hL h o s L) o ci = some fs := hL_obj (i := 0) hi
theorem hL_n {L : List xC} : (hL h o s L).1 = o + L.length := rfl
/-- a heap whose last cell is the new object -/
theorem hL_b {c : xC} (ho : h.1 = o + 1) (hc : h.2.2 o = c) : h = hL h o h.2.1 [c] := by
  refine x_H_ext ho rfl fun q => ?_
  show h.2.2 q = (if o ≤ q ∧ q < o + 1 then [c].getD (q - o) (.inr (0, [])) else h.2.2 q)
  by_cases z : q = o
  · rw [if_pos ⟨by omega, by omega⟩, z, hc, Nat.sub_self]
    rfl
  · rw [if_neg (by omega)]
theorem hL_putc {R : List xC} {fs : List Value} {ci k : Nat} {v : Value} (hk : k < fs.length) : x_put (hL h o s (.inr (ci, fs) :: R)) o ci k v = some (hL h o s (.inr (ci, fs.set k v) :: R)) := hL_put0 rfl hk
theorem hL_0 {c : xC} {k : Nat} (ho : h.1 = o) : x_push h k c = hL h o (h.2.1 + k) [c] := by
  refine x_H_ext (by show h.1 + 1 = o + 1; omega) rfl fun q => ?_
  show (if q = h.1 then c else h.2.2 q) = (if o ≤ q ∧ q < o + 1 then [c].getD (q - o) (.inr (0, [])) else h.2.2 q)
  by_cases z : q = o
  · rw [if_pos (by omega), if_pos ⟨by omega, by omega⟩, z, Nat.sub_self]
    rfl
  · rw [if_neg (by omega), if_neg (by omega)]
def tz : Nat → Nat → Int := fun _ _ => 0
def mL (o : Nat) : List xC := [.inr (8, mF o tz), .inl (0, 800, .inl fun _ => 0), .inl (1, 2, .inl fun _ => 0), .inl (0, 200, .inl fun _ => 0), .inl (0, 3, .inl fun _ => 0), .inl (0, 50, .inl fun _ => 0), .inl (0, 200, .inl fun _ => 0), .inl (0, 40, .inl fun _ => 0), .inl (0, 40, .inl fun _ => 0), .inl (0, 8, .inl fun _ => 0), .inl (0, 8, .inl fun _ => 0), .inl (0, 8, .inl fun _ => 0)]
theorem mL_c {i : Nat} (hi : i < 12) : (mL o).getD i (.inr (0, [])) = mC o tz i := by
  rcases (show i = 0 ∨ i = 1 ∨ i = 2 ∨ i = 3 ∨ i = 4 ∨ i = 5 ∨ i = 6 ∨ i = 7 ∨ i = 8 ∨ i = 9 ∨ i = 10 ∨ i = 11 by omega) with e | e | e | e | e | e | e | e | e | e | e | e <;> subst e <;> rfl
theorem mL_m : hL h o s (mL o) = mH (o + 12, s, h.2.2) o tz := by
  refine x_H_ext rfl rfl fun q => ?_
  show (if o ≤ q ∧ q < o + 12 then (mL o).getD (q - o) (.inr (0, [])) else h.2.2 q) = (if o ≤ q ∧ q < o + 12 then mC o tz (q - o) else h.2.2 q)
  by_cases z : o ≤ q ∧ q < o + 12
  · rw [if_pos z, if_pos z, mL_c (by omega)]
  · rw [if_neg z, if_neg z]
/-- the reference's constructor -/
theorem k_new8 (ho : h.1 = o) : ∃ s, s ≤ h.2.1 + 2000 ∧ x_cl (d + 2) n_X8_init [.ref o] (x_push h 21 (.inr (8, x_new 8))) = some (none, mH (o + 12, s, h.2.2) o (anT tz 0 4 4)) := by
  have c800 : (zI 800).toNatClampNeg = 800 := by decide +kernel
  have c2 : (zI 2).toNatClampNeg = 2 := by decide +kernel
  have c200 : (zI 200).toNatClampNeg = 200 := by decide +kernel
  have c3 : (zI 3).toNatClampNeg = 3 := by decide +kernel
  have c50 : (zI 50).toNatClampNeg = 50 := by decide +kernel
  have c40 : (zI 40).toNatClampNeg = 40 := by decide +kernel
  have c8 : (zI 8).toNatClampNeg = 8 := by decide +kernel
  have n8 : x_new 8 = [.null, .null, .null, .int 0, .null, .null, .null, .int 0, .int 0, .int 0, .null, .null, .int 0, .null, .null, .null, .int 0, .int 0, .int 0, .int 0, .long 0] := rfl
  rw [hL_0 ho, n8]
  refine ⟨h.2.1 + 21 + 800 + 2 + 200 + 3 + 50 + 200 + 40 + 40 + 8 + 8 + 8, by omega, ?_⟩
  have mk := c_makeAnew (d := d + 1) (h := (o + 12, h.2.1 + 21 + 800 + 2 + 200 + 3 + 50 + 200 + 40 + 40 + 8 + 8 + 8, h.2.2)) (a := o) (t := tz) (r := 0) (w := 4) (hh := 4) (Nat.le_refl _) (by decide) (by decide)
  rw [← mL_m] at mk
  simp (disch := first | (simp only [List.length_cons, List.length_nil, Nat.zero_add, Nat.reduceAdd, Nat.reduceLT]; done) | decide +kernel) only [e_X8_init, s_X8_init_0, s_X8_init_1, s_X8_init_4, s_X8_init_5, s_X8_init_8, s_X8_init_10, s_X8_init_13, s_X8_init_14, s_X8_init_15, s_X8_init_17, s_X8_init_20, s_X8_init_21, s_X8_init_24, s_X8_init_26, s_X8_init_29, s_X8_init_30, s_X8_init_31, s_X8_init_33, s_X8_init_36, s_X8_init_37, s_X8_init_39, s_X8_init_41, s_X8_init_44, s_X8_init_45, s_X8_init_48, s_X8_init_50, s_X8_init_53, s_X8_init_54, s_X8_init_56, s_X8_init_58, s_X8_init_61, s_X8_init_62, s_X8_init_64, s_X8_init_66, s_X8_init_69, s_X8_init_70, s_X8_init_72, s_X8_init_74, s_X8_init_77, s_X8_init_78, s_X8_init_80, s_X8_init_82, s_X8_init_85, s_X8_init_86, s_X8_init_88, s_X8_init_90, hL_push, hL_n, hL_putc, c800, c2, c200, c3, c50, c40, c8, List.cons_append, List.nil_append, List.length_cons, List.length_nil, List.set_cons_zero, List.set_cons_succ, Option.bind_some, Nat.reduceAdd, Nat.zero_add]
  refine Eq.trans (b := x_ev (d + 2, n_X8_init, 93, [.ref o], [], hL h o (h.2.1 + 21 + 800 + 2 + 200 + 3 + 50 + 200 + 40 + 40 + 8 + 8 + 8) (mL o))) rfl ?_
  have ob : x_obj (hL h o (h.2.1 + 21 + 800 + 2 + 200 + 3 + 50 + 200 + 40 + 40 + 8 + 8 + 8) (mL o)) o 8 = some (mF o tz) := hL_obj0 rfl
  simp only [s_X8_init_93, s_X8_init_94, s_X8_init_95, s_X8_init_96, s_X8_init_97, s_X8_init_100, mk, ob, Option.bind_some, Option.toList_some, Option.toList_none, List.cons_append, List.nil_append]
  rfl
end
theorem an_r : rg (anT tz 0 4 4) 0 = anG 4 4 := by
  funext j
  unfold rg anT anG
  by_cases z : j < 200
  · rw [if_pos z, if_pos ⟨rfl, by omega, by omega⟩, Nat.zero_add]
  · rw [if_neg z, if_neg (by omega), if_neg (by omega), if_neg (by omega)]
theorem an_o {i j : Nat} (hi : i ≠ 1) : anT tz 0 4 4 i j = 0 := by
  unfold anT
  rw [if_neg (fun y => hi y.1)]
  rfl
/-- both new -/
theorem oR_0 : oR (xG x_h7) (anT tz 0 4 4) := by
  have g := fun (p : Nat × Nat × Int) (hp : p ∈ ([(1, 4, 4), (1, 5, 4), (1, 6, 16), (1, 7, 0), (1, 8, 8), (1, 9, 0), (1, 10, 0), (3, 1, 0), (5, 4, 0), (33, 0, 0), (32, 0, 0), (32, 1, 0), (0, 7, 0), (0, 8, 0), (0, 9, 0)] : List (Nat × Nat × Int))) => of_decide_eq_true (List.all_eq_true.mp x_g7 p hp)
  have x := fun (j : Nat) (hj : j < 200) => of_decide_eq_true (List.all_eq_true.mp x_x7 j (List.mem_range.mpr hj))
  have a14 : xG x_h7 1 4 = 4 := g (1, 4, 4) (by decide)
  have a15 : xG x_h7 1 5 = 4 := g (1, 5, 4) (by decide)
  have a16 : xG x_h7 1 6 = 16 := g (1, 6, 16) (by decide)
  have a17 : xG x_h7 1 7 = 0 := g (1, 7, 0) (by decide)
  have a18 : xG x_h7 1 8 = 8 := g (1, 8, 8) (by decide)
  have a19 : xG x_h7 1 9 = 0 := g (1, 9, 0) (by decide)
  have a10 : xG x_h7 1 10 = 0 := g (1, 10, 0) (by decide)
  have a31 : xG x_h7 3 1 = 0 := g (3, 1, 0) (by decide)
  have a54 : xG x_h7 5 4 = 0 := g (5, 4, 0) (by decide)
  have b33 : xG x_h7 33 0 = 0 := g (33, 0, 0) (by decide)
  have b0 : xG x_h7 32 0 = 0 := g (32, 0, 0) (by decide)
  have b1 : xG x_h7 32 1 = 0 := g (32, 1, 0) (by decide)
  have c7 : xG x_h7 0 7 = 0 := g (0, 7, 0) (by decide)
  have c8 : xG x_h7 0 8 = 0 := g (0, 8, 0) (by decide)
  have c9 : xG x_h7 0 9 = 0 := g (0, 9, 0) (by decide)
  clear g
  generalize xG x_h7 = G at *
  refine ⟨?_, by rw [an_r]; exact vI_an (by decide) (by decide), by rw [an_r]; rfl, ⟨by rw [b33, an_o (by decide)], fun j hj => by rw [x j hj, an_o (by decide)]⟩, ⟨by rw [an_o (by decide)]; decide, fun j => by rw [an_o (by decide)]; decide⟩, ⟨by rw [c7, an_o (by decide)], by rw [c8, an_o (by decide)], by rw [c9, an_o (by decide)]⟩, fun i hi => ?_⟩
  · rw [an_r]
    refine ⟨a14, a15, a16, a17, a18, a19, a10, fun p p1 p2 => ?_, fun k hk => ?_, a54, fun m m1 m2 => ?_⟩
    · have : (p : Int) < 0 := p2
      omega
    · show hasB (G 3 1) k = _
      rw [a31, hasB_0 hk]
      exact (decide_eq_false (fun y => by have : (k : Int) < 0 := y.2.1; omega)).symm
    · have : (m : Int) < 0 := m2
      omega
  · unfold imR
    rw [an_o (by decide)]
    refine ⟨by decide, ?_, fun y => absurd rfl y⟩
    rcases (show i = 0 ∨ i = 1 by omega) with e | e <;> subst e
    · exact b0
    · exact b1

/-! NEW OBJECTS: heaps that grow by a list of cells -/
section
variable {h : xH} {d o s : Nat}
def hL (h : xH) (o s : Nat) (L : List xC) : xH := (o + L.length, s, fun q => if o ≤ q ∧ q < o + L.length then L.getD (q - o) (.inr (0, [])) else h.2.2 q)
theorem hL_at {L : List xC} {i : Nat} {c : xC} (hi : L[i]? = some c) : (hL h o s L).2.2 (o + i) = c := by
  have hl : i < L.length := (List.getElem?_eq_some_iff.mp hi).1
  show (if o ≤ o + i ∧ o + i < o + L.length then L.getD (o + i - o) (.inr (0, [])) else h.2.2 (o + i)) = c
  rw [if_pos ⟨by omega, by omega⟩, Nat.add_sub_cancel_left, List.getD_eq_getElem?_getD, hi]
  rfl
theorem hL_push {L : List xC} {k : Nat} {c : xC} : x_push (hL h o s L) k c = hL h o (s + k) (L ++ [c]) := by
  refine x_H_ext (by show o + L.length + 1 = o + (L ++ [c]).length; simp; omega) rfl fun q => ?_
  show (if q = o + L.length then c else (if o ≤ q ∧ q < o + L.length then L.getD (q - o) (.inr (0, [])) else h.2.2 q)) = (if o ≤ q ∧ q < o + (L ++ [c]).length then (L ++ [c]).getD (q - o) (.inr (0, [])) else h.2.2 q)
  rw [List.length_append, List.length_singleton, List.getD_eq_getElem?_getD, List.getD_eq_getElem?_getD]
  by_cases z : q = o + L.length
  · rw [if_pos z, if_pos ⟨by omega, by omega⟩, List.getElem?_append_right (by omega), show q - o - L.length = 0 by omega]
    rfl
  · rw [if_neg z]
    by_cases y : o ≤ q ∧ q < o + L.length
    · rw [if_pos y, if_pos ⟨by omega, by omega⟩, List.getElem?_append_left (by omega)]
    · rw [if_neg y, if_neg (by omega)]
theorem hL_set {L : List xC} {i : Nat} {c : xC} (hi : i < L.length) : x_set (hL h o s L) (o + i) c = hL h o s (L.set i c) := by
  refine x_H_ext (by show o + L.length = o + (L.set i c).length; simp) rfl fun q => ?_
  show (if q = o + i then c else (if o ≤ q ∧ q < o + L.length then L.getD (q - o) (.inr (0, [])) else h.2.2 q)) = (if o ≤ q ∧ q < o + (L.set i c).length then (L.set i c).getD (q - o) (.inr (0, [])) else h.2.2 q)
  rw [List.length_set, List.getD_eq_getElem?_getD, List.getD_eq_getElem?_getD, List.getElem?_set]
  by_cases z : q = o + i
  · rw [if_pos z, if_pos ⟨by omega, by omega⟩, if_pos (by omega), if_pos (by omega)]
    rfl
  · rw [if_neg z]
    by_cases y : o ≤ q ∧ q < o + L.length
    · rw [if_pos y, if_pos y, if_neg (by omega)]
    · rw [if_neg y, if_neg y]
theorem hL_obj {L : List xC} {i ci : Nat} {fs : List Value} (hi : L[i]? = some (.inr (ci, fs))) : x_obj (hL h o s L) (o + i) ci = some fs := x_obj_of (by have := (List.getElem?_eq_some_iff.mp hi).1; show o + i < o + L.length; omega) (hL_at hi)
theorem hL_get {L : List xC} {i ci k : Nat} {fs : List Value} {v : Value} (hi : L[i]? = some (.inr (ci, fs))) (hk : fs[k]? = some v) : x_get (hL h o s L) (o + i) ci k = some v := by
  unfold x_get
  rw [hL_obj hi]
  exact hk
theorem hL_put {L : List xC} {i ci k : Nat} {fs : List Value} {v : Value} (hi : L[i]? = some (.inr (ci, fs))) (hk : k < fs.length) : x_put (hL h o s L) (o + i) ci k v = some (hL h o s (L.set i (.inr (ci, fs.set k v)))) := by
  unfold x_put
  rw [hL_obj hi]
  show (if k < fs.length then some (x_set (hL h o s L) (o + i) (.inr (ci, fs.set k v))) else none) = _
  rw [if_pos hk, hL_set (List.getElem?_eq_some_iff.mp hi).1]
theorem hL_qst {L : List xC} {i v K n : Nat} {f : Nat → Option Nat} {fs : List Value} {j : Int} (hi : L[i]? = some (.inl (K, n, .inr (.inr (.inr (.inr f)))))) (hK : K = 2 ∨ K = 3 ∨ K = 4) (hn : n ≤ 65536) (h0 : 0 ≤ j) (h1 : j < n) (hv : L[v]? = some (.inr (x_kc K, fs))) : x_qst (hL h o s L) (o + i) (zI j) (o + v) = some (hL h o s (L.set i (.inl (K, n, .inr (.inr (.inr (.inr (va_up f j.toNat (some (o + v)))))))))) := by
  have hl := (List.getElem?_eq_some_iff.mp hi).1
  have hr : x_refs (hL h o s L) (o + i) = some (K, n, f) := by
    unfold x_refs x_arr
    rw [if_pos (show o + i < (hL h o s L).1 by show o + i < o + L.length; omega), hL_at hi]
    rfl
  unfold x_qst
  rw [hr]
  have hh2 : ¬ (zI j < 0 ∨ n ≤ j.toNat) := fun z => by
    rcases z with z | z
    · rw [zI_lt0 (by omega) (by omega)] at z; omega
    · omega
  show (if (K = 2 ∨ K = 3 ∨ K = 4) ∧ ¬ (zI j < 0 ∨ n ≤ (zI j).toNatClampNeg) then (x_obj (hL h o s L) (o + v) (x_kc K)).bind fun _ => some (x_set (hL h o s L) (o + i) (.inl (K, n, .inr (.inr (.inr (.inr (va_up f (zI j).toNatClampNeg (some (o + v)))))))))  else none) = _
  rw [zI_clamp (by omega) (by omega), if_pos ⟨hK, hh2⟩, hL_obj hv]
  show some (x_set (hL h o s L) (o + i) _) = _
  rw [hL_set hl]
/-- the first object of the list -/
theorem hL_put0 {L : List xC} {ci k : Nat} {fs : List Value} {v : Value} (hi : L[0]? = some (.inr (ci, fs))) (hk : k < fs.length) : x_put (hL h o s L) o ci k v = some (hL h o s (L.set 0 (.inr (ci, fs.set k v)))) := hL_put (i := 0) hi hk
theorem hL_get0 {L : List xC} {ci k : Nat} {fs : List Value} {v : Value} (hi : L[0]? = some (.inr (ci, fs))) (hk : fs[k]? = some v) : x_get (hL h o s L) o ci k = some v := hL_get (i := 0) hi hk
theorem hL_obj0 {L : List xC} {ci : Nat} {fs : List Value} (hi : L[0]? = some (.inr (ci, fs))) : x_obj (hL h o s L) o ci = some fs := hL_obj (i := 0) hi
theorem hL_n {L : List xC} : (hL h o s L).1 = o + L.length := rfl
/-- a heap whose last cell is the new object -/
theorem hL_b {c : xC} (ho : h.1 = o + 1) (hc : h.2.2 o = c) : h = hL h o h.2.1 [c] := by
  refine x_H_ext ho rfl fun q => ?_
  show h.2.2 q = (if o ≤ q ∧ q < o + 1 then [c].getD (q - o) (.inr (0, [])) else h.2.2 q)
  by_cases z : q = o
  · rw [if_pos ⟨by omega, by omega⟩, z, hc, Nat.sub_self]
    rfl
  · rw [if_neg (by omega)]
-- @GLOBAL NEW = hL_push, hL_n, List.cons_append, List.nil_append, List.length_cons, List.length_nil, List.set_cons_zero, List.set_cons_succ, Nat.reduceAdd, Nat.zero_add
theorem k_booksI {L : List xC} {i : Nat} (hi : L[i]? = some (.inr (0, [.null, .int 0]))) : x_cl (d + 1) n_X0_init [.ref (o + i)] (hL h o s L) = some (none, hL h o (s + 5) ((L ++ [.inl (0, 5, .inl fun _ => 0)]).set i (.inr (0, [.ref (o + L.length), .int 0])))) := by
  have hl := (List.getElem?_eq_some_iff.mp hi).1
  have hi2 : (L ++ [Sum.inl (0, 5, .inl fun _ => 0)] : List xC)[i]? = some (.inr (0, [.null, .int 0])) := by rw [List.getElem?_append_left hl]; exact hi
  have e5 : (zI 5).toNatClampNeg = 5 := by decide +kernel
  have n5 : ¬ (zI 5 < 0 ∨ 65536 < (5 : Nat)) := by decide +kernel
  simp (disch := first | assumption | decide) only [e_X0_init, s_X0_init_0, s_X0_init_1, s_X0_init_4, s_X0_init_5, s_X0_init_6, s_X0_init_8, s_X0_init_11, e5, hL_push, hL_n, hL_put hi2, Option.bind_some, Option.toList_some, Option.toList_none, List.cons_append, List.nil_append]
  rfl
end

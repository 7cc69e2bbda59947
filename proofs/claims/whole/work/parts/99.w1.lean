/-! WAYS: five sides against all squares; what may still come -/
section
variable {g : Nat → Int} {t : Nat → Nat → Int}
def sdF (F : Int → xA → xA) (g : Nat → Int) (q : Int) : Nat → Int → xA → xA
  | 0, _, A => A
  | n + 1, s, A => sdF F g q n (s + 1) (if sbV g q s = -1 then A else F (sbV g q s) A)
def adA (W H q : Nat) : List Nat := (List.range (W * H)).filter fun b => decide (stp (W : Int) (q : Int) (b : Int) < 2)
def adB (W H q : Nat) : List Nat := [0, 1, 2, 3, 4].filterMap fun s : Nat => if (0 ≤ sbX (W : Int) (q : Int) (s : Int) ∧ sbX (W : Int) (q : Int) (s : Int) < W) ∧ (0 ≤ sbY (W : Int) (q : Int) (s : Int) ∧ sbY (W : Int) (q : Int) (s : Int) < H) then some (sbY (W : Int) (q : Int) (s : Int) * W + sbX (W : Int) (q : Int) (s : Int)).toNat else none
set_option maxRecDepth 100000 in
theorem ad_all : ∀ (W H : Fin 4) (q : Fin 25), q.val < (W.val + 2) * (H.val + 2) → adA (W.val + 2) (H.val + 2) q.val = adB (W.val + 2) (H.val + 2) q.val := by decide +kernel
theorem kdF_1 {F : Int → xA → xA} {ok : Int → Bool} : ∀ (n : Nat) (b : Int) (A : xA), kdF F ok (n + 1) b A = if ok (b + n) = true then F (b + n) (kdF F ok n b A) else kdF F ok n b A := by
  intro n
  induction n with
  | zero =>
    intro b A
    rw [kdF, kdF, kdF]
    simp
  | succ n ih =>
    intro b A
    rw [kdF, ih, kdF, show b + 1 + (n : Int) = b + ((n + 1 : Nat) : Int) by omega]
theorem kd_l {F : Int → xA → xA} {W S q : Int} {A : xA} : ∀ n : Nat, kdF F (bes W S q) n 0 A = ((List.range n).filter fun b : Nat => decide (stp W q (b : Int) < 2)).foldl (fun (A : xA) (b : Nat) => if hasB S (b : Int) = true then A else F (b : Int) A) A := by
  intro n
  induction n with
  | zero => rfl
  | succ n ih =>
    rw [kdF_1, List.range_succ, List.filter_append, List.foldl_append, ← ih, Int.zero_add]
    by_cases z : stp W q (n : Int) < 2
    · rw [List.filter_cons_of_pos (by simpa using z), List.filter_nil]
      unfold bes
      rw [decide_eq_true z, Bool.true_and]
      show _ = (if hasB S (n : Int) = true then kdF F (bes W S q) n 0 A else F (n : Int) (kdF F (bes W S q) n 0 A))
      cases hasB S (n : Int) <;> rfl
    · rw [List.filter_cons_of_neg (by simpa using z), List.filter_nil]
      unfold bes
      rw [decide_eq_false z, Bool.false_and]
      rfl
theorem fl_fm {f : Nat → Option Nat} {k : xA → Nat → xA} : ∀ (l : List Nat) (A : xA), (l.filterMap f).foldl k A = l.foldl (fun A s => (f s).elim A (k A)) A := by
  intro l
  induction l with
  | nil => intro A; rfl
  | cons x l ih =>
    intro A
    rw [List.foldl_cons]
    cases c : f x with
    | none => rw [List.filterMap_cons_none c, ih]; rfl
    | some b => rw [List.filterMap_cons_some c, List.foldl_cons, ih]; rfl
theorem sdF_l {F : Int → xA → xA} {q : Int} : ∀ (n s : Nat) (A : xA), sdF F g q n s A = (List.range' s n).foldl (fun (A : xA) (s : Nat) => if sbV g q s = -1 then A else F (sbV g q s) A) A := by
  intro n
  induction n with
  | zero => intro s A; rfl
  | succ n ih =>
    intro s A
    rw [sdF, List.range'_succ, List.foldl_cons, show (s : Int) + 1 = ((s + 1 : Nat) : Int) by omega, ih]
theorem sd_1 {F : Int → xA → xA} {A : xA} {W H q s : Nat} {S : Int} (hW : 2 ≤ W ∧ W ≤ 5) (e0 : g 0 = W) (e1 : g 1 = H) (e4 : g 4 = S) : (if sbV g q s = -1 then A else F (sbV g q s) A) = (if (0 ≤ sbX (W : Int) (q : Int) (s : Int) ∧ sbX (W : Int) (q : Int) (s : Int) < W) ∧ (0 ≤ sbY (W : Int) (q : Int) (s : Int) ∧ sbY (W : Int) (q : Int) (s : Int) < H) then some (sbY (W : Int) (q : Int) (s : Int) * W + sbX (W : Int) (q : Int) (s : Int)).toNat else none).elim A (fun b : Nat => if hasB S (b : Int) = true then A else F (b : Int) A) := by
  unfold sbV
  rw [e0, e1, e4]
  by_cases z : (0 ≤ sbX (W : Int) (q : Int) (s : Int) ∧ sbX (W : Int) (q : Int) (s : Int) < W) ∧ (0 ≤ sbY (W : Int) (q : Int) (s : Int) ∧ sbY (W : Int) (q : Int) (s : Int) < H)
  · have r := xy_lt (W := (W : Int)) (H := (H : Int)) (by omega) z.1 z.2
    rw [if_pos z, if_pos z]
    generalize sbY (W : Int) (q : Int) (s : Int) * (W : Int) + sbX (W : Int) (q : Int) (s : Int) = v at *
    show _ = (if hasB S ((v.toNat : Nat) : Int) = true then A else F ((v.toNat : Nat) : Int) A)
    rw [show ((v.toNat : Nat) : Int) = v by omega]
    cases c : hasB S v with
    | true => rw [if_neg (show ¬ true = false by decide), if_pos rfl, if_pos rfl]
    | false => rw [if_pos rfl, if_neg (by omega), if_neg (by decide)]
  · rw [if_neg z, if_neg z, if_pos rfl]
    rfl
theorem sd_kd {F : Int → xA → xA} {A : xA} {q : Int} (hv : vI g) (h0 : 0 ≤ q) (h1 : q < g 0 * g 1) : sdF F g q 5 0 A = kdF F (bes (g 0) (g 4) q) (g 0 * g 1).toNat 0 A := by
  have hsq := vI_sq hv
  have hw := hv.1
  have hw2 := hv.2.1
  obtain ⟨W, eW⟩ : ∃ W : Nat, g 0 = W := ⟨(g 0).toNat, by omega⟩
  obtain ⟨H, eH⟩ : ∃ H : Nat, g 1 = H := ⟨(g 1).toNat, by omega⟩
  obtain ⟨k, ek⟩ : ∃ k : Nat, q = k := ⟨q.toNat, by omega⟩
  rw [eW] at hw
  rw [eH] at hw2
  subst ek
  have eWH : (g 0 * g 1).toNat = W * H := by
    rw [eW, eH, ← Int.natCast_mul]
    rfl
  have a := ad_all ⟨W - 2, by omega⟩ ⟨H - 2, by omega⟩ ⟨k, by omega⟩
  dsimp only at a
  rw [show W - 2 + 2 = W by omega, show H - 2 + 2 = H by omega] at a
  have hk : k < W * H := by rw [← eWH]; omega
  rw [eWH, kd_l, eW]
  have a' := a hk
  unfold adA at a'
  rw [a']
  unfold adB
  have e := sdF_l (g := g) (F := F) (q := (k : Int)) 5 0 A
  rw [show ((0 : Nat) : Int) = 0 from rfl] at e
  rw [e, fl_fm, show List.range' 0 5 = [0, 1, 2, 3, 4] from rfl]
  congr 1
  funext B s
  exact sd_1 (by omega) eW eH rfl
end

/-! WAYS: what may still come -/
section
variable {t : Nat → Nat → Int}
def cap (t : Nat → Nat → Int) (p : Int) : Int := pgL (t 1 (11 + p).toNat) 12
theorem pgL_mo {k l : Int} (h0 : 0 ≤ l) (h1 : l ≤ 12) : pgL k l ≤ pgL k 12 := by
  unfold pgL
  by_cases a : k = 1
  · rw [if_pos a, if_pos a]
    split <;> omega
  · rw [if_neg a, if_neg a]
    by_cases b : k = 2 ∨ k = 4
    · rw [if_pos b, if_pos b]
      split <;> omega
    · rw [if_neg b, if_neg b]
      by_cases c : k = 3
      · rw [if_pos c, if_pos c]
        split <;> omega
      · rw [if_neg c, if_neg c]
        omega
theorem cap_rg {p : Int} : 0 ≤ cap t p ∧ cap t p ≤ 24 := pgL_rg (by omega)
theorem nrd_cap {b p : Int} {lf lt : Int → Int} (hs : srOk t) (hb : bkOk t lf lt) (h0 : 0 ≤ p) (h1 : p < t 1 5) : nrd t b lf lt p ≤ cap t p := by
  have hk := (hs.2.2.2 p h0 h1).2.1
  have hl := hb p h0 h1
  have hL := lgL_rg t b (-1) p
  have e := rdS_e (knd := t 1 (11 + p).toNat) (p := p) (l := lgL t b (-1) p) (lf := lf) (lt := lt) hk (by omega) (by omega)
  unfold nrd
  rw [← e]
  have m := pgL_mo (k := t 1 (11 + p).toNat) hL.1 hL.2
  unfold cap
  have r := pgL_rg (k := t 1 (11 + p).toNat) (l := 12) (by omega)
  by_cases a : t 1 (11 + p).toNat = 4 ∧ lgL t b (-1) p = 0 ∧ lt p = 1
  · rw [if_pos a, a.1]
    have : pgL 4 12 = 4 := by decide
    omega
  · rw [if_neg a]
    split <;> omega
/-- the worth that may come in n minutes -/
def toC (t : Nat → Nat → Int) (n : Nat) (lf : Int → Int) : Int := sumF (fun p => min ((n : Int) * cap t p) (lf p) * t 1 (21 + p).toNat) (t 1 5).toNat
theorem sumF_le2 {f f' k : Int → Int} : ∀ n : Nat, (∀ p : Nat, p < n → f p + f' p ≤ k p) → sumF f n + sumF f' n ≤ sumF k n := by
  intro n
  induction n with
  | zero => intro _; rw [sumF, sumF, sumF]; omega
  | succ n ih =>
    intro hp
    have a := ih fun p hq => hp p (by omega)
    have b := hp n (by omega)
    rw [sumF, sumF, sumF]
    omega
theorem nc_1 (n : Nat) (c : Int) : ((n + 1 : Nat) : Int) * c = (n : Int) * c + c := by
  rw [Int.natCast_add, Int.add_mul]
  simp
theorem toC_1 {b : Int} {lf lt : Int → Int} {n : Nat} (hs : srOk t) (hb : bkOk t lf lt) : nwt t b lf lt + toC t n (nlf t b lf lt) ≤ toC t (n + 1) lf := by
  unfold nwt toC
  refine sumF_le2 _ fun p hp => ?_
  have h5 := hs.2.2.1
  have a := nrd_cap (b := b) hs hb (show 0 ≤ (p : Int) by omega) (by omega)
  have r := nrd_rg (b := b) hb (show 0 ≤ (p : Int) by omega) (by omega)
  have w := (hs.2.2.2 p (by omega) (by omega)).2.2.1
  rw [nc_1, ← Int.add_mul]
  refine Int.mul_le_mul_of_nonneg_right ?_ w.1
  unfold nlf
  generalize (n : Int) * cap t p = N at *
  omega
theorem toC_0 {lf lt : Int → Int} (hs : srOk t) (hb : bkOk t lf lt) : toC t 0 lf = 0 := by
  have h5 := hs.2.2.1
  unfold toC
  have : ∀ n : Nat, n ≤ (t 1 5).toNat → sumF (fun p => min (((0 : Nat) : Int) * cap t p) (lf p) * t 1 (21 + p).toNat) n = 0 := by
    intro n
    induction n with
    | zero => intro _; rfl
    | succ n ih =>
      intro hn
      have a := (hb n (by omega) (by omega)).1
      rw [sumF, ih (by omega), show min (((0 : Nat) : Int) * cap t n) (lf n) = 0 by rw [show ((0 : Nat) : Int) = 0 from rfl, Int.zero_mul]; omega]
      simp
  exact this _ (Nat.le_refl _)
theorem toC_rg {lf lt : Int → Int} {n : Nat} (hs : srOk t) (hb : bkOk t lf lt) : 0 ≤ toC t n lf ∧ toC t n lf ≤ 900 := by
  have h5 := hs.2.2.1
  have := sumF_rg (f := fun p => min ((n : Int) * cap t p) (lf p) * t 1 (21 + p).toNat) (B := 180) (t 1 5).toNat fun k hk => by
    have a := (hb k (by omega) (by omega)).1
    have b := (hs.2.2.2 k (by omega) (by omega)).2.2.1
    have c : 0 ≤ (n : Int) * cap t k := Int.mul_nonneg (by omega) cap_rg.1
    generalize (n : Int) * cap t k = N at *
    exact ⟨Int.mul_nonneg (by omega) b.1, Int.le_trans (Int.mul_le_mul_of_nonneg_right (show min N (lf k) ≤ 20 by omega) b.1) (by omega)⟩
  unfold toC
  omega
theorem kdF_P {F : Int → xA → xA} {ok : Int → Bool} {P : xA → Prop} (hF : ∀ b A, P A → P (F b A)) : ∀ (n : Nat) (b : Int) (A : xA), P A → P (kdF F ok n b A) := by
  intro n
  induction n with
  | zero => intro b A hA; exact hA
  | succ n ih =>
    intro b A hA
    rw [kdF]
    refine ih (b + 1) _ ?_
    split
    · exact hF b A hA
    · exact hA
theorem okA_f {who : Int} {by' : Bool} {lf : Int → Int} {p : Nat} (hp : okP t who by' lf p = false) : ∀ n : Nat, p < n → okA t who by' lf n = false := by
  intro n
  induction n with
  | zero => intro hn; omega
  | succ n ih =>
    intro hn
    rw [okA]
    by_cases e : p = n
    · subst e
      rw [hp, Bool.and_false]
    · rw [ih (by omega), Bool.false_and]
theorem okA_t {who : Int} {by' : Bool} {lf : Int → Int} : ∀ n : Nat, (∀ p : Nat, p < n → okP t who by' lf p = true) → okA t who by' lf n = true := by
  intro n
  induction n with
  | zero => intro _; rfl
  | succ n ih =>
    intro hp
    rw [okA, ih (fun p hq => hp p (by omega)), hp n (by omega)]
    rfl
theorem vis_ub {m : Nat} {who : Int} {by' : Bool} (hs : srOk t) : ∀ (n : Nat) (q sum : Int) (lf lt : Int → Int) (path : Nat → Int) (k : Nat) (A : xA), bkOk t lf lt → sum + toC t n lf ≤ A.1 → (visF t m who by' n q sum lf lt path k A).1 = A.1 ∧ (visF t m who by' n q sum lf lt path k A).2.2.2 = A.2.2.2 := by
  intro n
  induction n with
  | zero =>
    intro q sum lf lt path k A hb hA
    rw [toC_0 hs hb] at hA
    rw [visF]
    unfold endA
    split
    · rw [if_neg (by omega)]
      exact ⟨rfl, rfl⟩
    · exact ⟨rfl, rfl⟩
  | succ n ih =>
    intro q sum lf lt path k A hb hA
    rw [visF]
    refine kdF_P (P := fun B => B.1 = A.1 ∧ B.2.2.2 = A.2.2.2) (fun b B hB => ?_) _ _ _ ⟨rfl, rfl⟩
    have e := toC_1 (b := b) (n := n) hs hb
    have := ih b (sum + nwt t b lf lt) (nlf t b lf lt) (nlt t b lf lt) (upP path (k + 1) b) (k + 1) B (bkOk_n hb) (by rw [hB.1]; omega)
    exact ⟨this.1.trans hB.1, this.2.trans hB.2⟩
theorem vis_who {m : Nat} {who : Int} {p : Nat} (hs : srOk t) (hp : (p : Int) < t 1 5) (hw : hasB who p = true) : ∀ (n : Nat) (q sum : Int) (lf lt : Int → Int) (path : Nat → Int) (k : Nat) (A : xA), bkOk t lf lt → (n : Int) * cap t p < lf p → visF t m who false n q sum lf lt path k A = A := by
  intro n
  induction n with
  | zero =>
    intro q sum lf lt path k A hb hA
    rw [show ((0 : Nat) : Int) = 0 from rfl, Int.zero_mul] at hA
    rw [visF, okA_f (p := p) (by unfold okP; rw [if_neg (by decide), hw, decide_eq_false (by omega)]; rfl) _ (by omega)]
    rfl
  | succ n ih =>
    intro q sum lf lt path k A hb hA
    rw [visF]
    refine kdF_P (P := fun B => B = A) (fun b B hB => ?_) _ _ _ rfl
    have a := nrd_cap (b := b) hs hb (show 0 ≤ (p : Int) by omega) hp
    rw [nc_1] at hA
    subst hB
    exact ih b _ _ _ _ _ B (bkOk_n hb) (by
      unfold nlf
      generalize (n : Int) * cap t p = N at *
      omega)
/-- what one must still read to come out as told -/
def wnt (t : Nat → Nat → Int) (lf : Int → Int) (p : Int) : Int := t 1 (41 + p).toNat - (t 1 (16 + p).toNat - lf p)
theorem vis_told {m : Nat} {who : Int} {p : Nat} (hs : srOk t) (hp : (p : Int) < t 1 5) : ∀ (n : Nat) (q sum : Int) (lf lt : Int → Int) (path : Nat → Int) (k : Nat) (A : xA), bkOk t lf lt → (wnt t lf p < 0 ∨ min ((n : Int) * cap t p) (lf p) < wnt t lf p) → visF t m who true n q sum lf lt path k A = A := by
  intro n
  induction n with
  | zero =>
    intro q sum lf lt path k A hb hA
    have hl := (hb p (by omega) hp).1
    rw [show ((0 : Nat) : Int) = 0 from rfl, Int.zero_mul] at hA
    rw [visF, okA_f (p := p) (by unfold okP; rw [if_pos rfl]; exact decide_eq_false (by unfold wnt at hA; omega)) _ (by omega)]
    rfl
  | succ n ih =>
    intro q sum lf lt path k A hb hA
    rw [visF]
    refine kdF_P (P := fun B => B = A) (fun b B hB => ?_) _ _ _ rfl
    have a := nrd_cap (b := b) hs hb (show 0 ≤ (p : Int) by omega) hp
    have r := nrd_rg (b := b) hb (show 0 ≤ (p : Int) by omega) hp
    rw [nc_1] at hA
    subst hB
    refine ih b _ _ _ _ _ B (bkOk_n hb) ?_
    unfold wnt at *
    unfold nlf
    generalize (n : Int) * cap t p = N at *
    omega
/-- the most never falls; it is as high as a way that stays -/
theorem endA_mo {ok : Bool} {m : Nat} {q sum : Int} {path : Nat → Int} {A : xA} : A.1 ≤ (endA ok m q sum path A).1 := by
  unfold endA
  split
  · split
    next z => exact Int.le_of_lt z
    · exact Int.le_refl _
  · exact Int.le_refl _
theorem vis_mo {m : Nat} {who : Int} {by' : Bool} : ∀ (n : Nat) (q sum : Int) (lf lt : Int → Int) (path : Nat → Int) (k : Nat) (A : xA), A.1 ≤ (visF t m who by' n q sum lf lt path k A).1 := by
  intro n
  induction n with
  | zero => intro q sum lf lt path k A; rw [visF]; exact endA_mo
  | succ n ih =>
    intro q sum lf lt path k A
    rw [visF]
    exact kdF_P (P := fun B => A.1 ≤ B.1) (fun b B hB => Int.le_trans hB (ih _ _ _ _ _ _ _)) _ _ _ (Int.le_refl _)
theorem kdF_ge {F : Int → xA → xA} {ok : Int → Bool} {B k : Int} (hF : ∀ b A, A.1 ≤ (F b A).1) (hk : ∀ A, B ≤ (F k A).1) (ho : ok k = true) : ∀ (n : Nat) (b : Int) (A : xA), b ≤ k → k < b + n → B ≤ (kdF F ok n b A).1 := by
  intro n
  induction n with
  | zero => intro b A h1 h2; omega
  | succ n ih =>
    intro b A h1 h2
    rw [kdF]
    by_cases e : k = b
    · subst e
      rw [if_pos ho]
      exact Int.le_trans (hk A) (kdF_P (P := fun C => (F k A).1 ≤ C.1) (fun b C hC => Int.le_trans hC (hF b C)) _ _ _ (Int.le_refl _))
    · exact ih (b + 1) _ (by omega) (by omega)
theorem stp_0 {W x : Int} : stp W x x = 0 := by
  unfold stp
  simp
theorem hasB_00 {p : Nat} (hp : p < 32) : hasB 0 p = false := hasB_0 hp
theorem vis_st {m : Nat} (hs : srOk t) {q : Int} (h0 : 0 ≤ q) (h1 : q < sqN t 0) (ho : hasB (t 1 4) q = false) : ∀ (n : Nat) (sum : Int) (lf lt : Int → Int) (path : Nat → Int) (k : Nat) (A : xA), bkOk t lf lt → sum ≤ (visF t m 0 false n q sum lf lt path k A).1 := by
  have h5 := hs.2.2.1
  intro n
  induction n with
  | zero =>
    intro sum lf lt path k A hb
    rw [visF, okA_t _ (fun p hp => by unfold okP; rw [if_neg (by decide), hasB_00 (by omega)]; rfl)]
    unfold endA
    rw [if_pos rfl]
    split
    · exact Int.le_refl _
    next z => exact Int.not_lt.mp z
  | succ n ih =>
    intro sum lf lt path k A hb
    rw [visF]
    refine kdF_ge (k := q) (fun b B => vis_mo _ _ _ _ _ _ _ _) (fun B => ?_) (by unfold bes; rw [stp_0, ho]; rfl) _ _ _ h0 (by omega)
    have w := nwt_rg (b := q) hs hb
    exact Int.le_trans (by omega) (ih _ _ _ _ _ _ (bkOk_n hb))
/-- found, just when there is a most -/
def fnI (A : xA) : Prop := 0 ≤ A.2.1 ∧ (A.2.1 = 0 ∧ A.1 = -1 ∨ 1 ≤ A.2.1 ∧ 0 ≤ A.1)
theorem vis_fn {m : Nat} {who : Int} {by' : Bool} (hs : srOk t) : ∀ (n : Nat) (q sum : Int) (lf lt : Int → Int) (path : Nat → Int) (k : Nat) (A : xA), bkOk t lf lt → 0 ≤ sum → fnI A → fnI (visF t m who by' n q sum lf lt path k A) := by
  intro n
  induction n with
  | zero =>
    intro q sum lf lt path k A hb h0 hA
    rw [visF]
    unfold endA fnI at *
    split
    · split
      · dsimp only
        omega
      · dsimp only
        omega
    · exact hA
  | succ n ih =>
    intro q sum lf lt path k A hb h0 hA
    rw [visF]
    have w := fun b => nwt_rg (b := b) hs hb
    exact kdF_P (P := fnI) (fun b B hB => ih _ _ _ _ _ _ _ (bkOk_n hb) (by have := w b; omega) hB) _ _ _ hA
end

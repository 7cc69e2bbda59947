/-! THE REFERENCE, part 16: all ways, one by one -/
section
variable {h : xH} {a : Nat} {t : Nat → Nat → Int} {d : Nat}
/-- what a search has found: most, how many, the ends, the best way -/
abbrev xA : Type := Int × Int × Int × (Nat → Int)
/-- a minute's step of the books: lf pages left, lt who read by light -/
def nrd (t : Nat → Nat → Int) (b : Int) (lf lt : Int → Int) (p : Int) : Int := rdS (t 1 (11 + p).toNat) p (lgL t b (-1) p) lf lt
def nlf (t : Nat → Nat → Int) (b : Int) (lf lt : Int → Int) : Int → Int := fun p => lf p - nrd t b lf lt p
def nlt (t : Nat → Nat → Int) (b : Int) (lf lt : Int → Int) : Int → Int := fun p => if 0 < lgL t b (-1) p ∧ 0 < nrd t b lf lt p then 1 else 0
def nwt (t : Nat → Nat → Int) (b : Int) (lf lt : Int → Int) : Int := sumF (fun p => nrd t b lf lt p * t 1 (21 + p).toNat) (t 1 5).toNat
def upP (f : Nat → Int) (k : Nat) (x : Int) : Nat → Int := fun j => if j = k then x else f j
def endA (ok : Bool) (m : Nat) (q sum : Int) (path : Nat → Int) (A : xA) : xA := if ok = true then (if A.1 < sum then (sum, A.2.1 + 1, orB A.2.2.1 q, fun k => if 1 ≤ k ∧ k ≤ m then path k else A.2.2.2 k) else (A.1, A.2.1 + 1, orB A.2.2.1 q, A.2.2.2)) else A
/-- over what is beside, rising -/
def kdF (F : Int → xA → xA) (ok : Int → Bool) : Nat → Int → xA → xA
  | 0, _, A => A
  | n + 1, b, A => kdF F ok n (b + 1) (if ok b = true then F b A else A)
/-- all ways from a place on: n minutes more, q the square, k the minutes behind -/
def visF (t : Nat → Nat → Int) (m : Nat) (who : Int) (by' : Bool) : Nat → Int → Int → (Int → Int) → (Int → Int) → (Nat → Int) → Nat → xA → xA
  | 0, q, sum, lf, _, path, _, A => endA (okA t who by' lf (t 1 5).toNat) m q sum path A
  | n + 1, q, sum, lf, lt, path, k, A => kdF (fun b A => visF t m who by' n b (sum + nwt t b lf lt) (nlf t b lf lt) (nlt t b lf lt) (upP path (k + 1) b) (k + 1) A) (bes (t 1 0) (t 1 4) q) (sqN t 0).toNat 0 A
/-- the tables hold what was found -/
def accR (T : Nat → Nat → Int) (A : xA) : Prop := T 0 16 = A.1 ∧ T 0 17 = A.2.1 ∧ T 0 18 = A.2.2.1 ∧ ∀ k, k < 8 → T 10 k = A.2.2.2 k
/-- the tables hold a place of the search -/
def ndR (t T : Nat → Nat → Int) (k : Nat) (q sum : Int) (lf lt : Int → Int) (path : Nat → Int) : Prop := (∀ i j, 1 ≤ i → i ≤ 6 → T i j = t i j) ∧ T 0 3 = t 0 3 ∧ (∀ p, 0 ≤ p → p < t 1 5 → T 7 (5 * (k : Int) + p).toNat = lf p ∧ T 8 (5 * (k : Int) + p).toNat = lt p) ∧ T 9 k = q ∧ T 11 k = sum ∧ ∀ j, 1 ≤ j → j ≤ k → T 9 j = path j
/-- alike up to a level -/
def lvS (k : Nat) (T T' : Nat → Nat → Int) : Prop := (∀ i j, 1 ≤ i → i ≤ 6 → T' i j = T i j) ∧ T' 0 3 = T 0 3 ∧ (∀ j, j < 5 * k + 5 → T' 7 j = T 7 j ∧ T' 8 j = T 8 j) ∧ ∀ j, j ≤ k → T' 9 j = T 9 j ∧ T' 11 j = T 11 j
theorem lvS.trans {k : Nat} {T1 T2 T3 : Nat → Nat → Int} (p : lvS k T1 T2) (q : lvS k T2 T3) : lvS k T1 T3 := ⟨fun i j h1 h2 => (q.1 i j h1 h2).trans (p.1 i j h1 h2), q.2.1.trans p.2.1, fun j hj => ⟨(q.2.2.1 j hj).1.trans (p.2.2.1 j hj).1, (q.2.2.1 j hj).2.trans (p.2.2.1 j hj).2⟩, fun j hj => ⟨(q.2.2.2 j hj).1.trans (p.2.2.2 j hj).1, (q.2.2.2 j hj).2.trans (p.2.2.2 j hj).2⟩⟩
theorem lvS.low {k : Nat} {T1 T2 : Nat → Nat → Int} (p : lvS (k + 1) T1 T2) : lvS k T1 T2 := ⟨p.1, p.2.1, fun j hj => p.2.2.1 j (by omega), fun j hj => p.2.2.2 j (by omega)⟩
theorem lvS.rfl' {k : Nat} {T : Nat → Nat → Int} : lvS k T T := ⟨fun _ _ _ _ => rfl, rfl, fun _ _ => ⟨rfl, rfl⟩, fun _ _ => ⟨rfl, rfl⟩⟩
theorem ndR.go {T T' : Nat → Nat → Int} {k : Nat} {q sum : Int} {lf lt : Int → Int} {path : Nat → Int} (hn : ndR t T k q sum lf lt path) (h5 : t 1 5 ≤ 5) (p : lvS k T T') : ndR t T' k q sum lf lt path := by
  obtain ⟨n1, n2, n3, n4, n5, n6⟩ := hn
  exact ⟨fun i j h1 h2 => (p.1 i j h1 h2).trans (n1 i j h1 h2), p.2.1.trans n2, fun x h1 h2 => ⟨((p.2.2.1 _ (by omega)).1).trans (n3 x h1 h2).1, ((p.2.2.1 _ (by omega)).2).trans (n3 x h1 h2).2⟩, (p.2.2.2 k (by omega)).1.trans n4, (p.2.2.2 k (by omega)).2.trans n5, fun j h1 h2 => (p.2.2.2 j h2).1.trans (n6 j h1 h2)⟩
theorem okA_congr {who : Int} {by' : Bool} {f g : Int → Int} : ∀ n : Nat, (∀ k : Nat, k < n → f k = g k) → okA t who by' f n = okA t who by' g n := by
  intro n
  induction n with
  | zero => intro _; rfl
  | succ n ih =>
    intro hfg
    rw [okA, okA, ih (fun k hk => hfg k (by omega))]
    unfold okP
    rw [hfg n (by omega)]
theorem okA_w {T : Nat → Nat → Int} {who : Int} {by' : Bool} {f : Int → Int} (hw : ∀ j, T 1 j = t 1 j) : ∀ n : Nat, okA T who by' f n = okA t who by' f n := by
  intro n
  induction n with
  | zero => rfl
  | succ n ih =>
    rw [okA, okA, ih]
    unfold okP
    rw [hw, hw]
theorem kd_nb {F : Int → xA → xA} {W S x : Int} : ∀ (n : Nat) (b : Int) (A : xA), 0 ≤ b → (nbF W S x n b = -1 ∧ kdF F (bes W S x) n b A = A) ∨ (b ≤ nbF W S x n b ∧ nbF W S x n b < b + n ∧ bes W S x (nbF W S x n b) = true ∧ kdF F (bes W S x) n b A = kdF F (bes W S x) (b + n - (nbF W S x n b + 1)).toNat (nbF W S x n b + 1) (F (nbF W S x n b) A)) := by
  intro n
  induction n with
  | zero => intro b A _; exact Or.inl ⟨rfl, rfl⟩
  | succ n ih =>
    intro b A hb
    rw [nbF, kdF]
    by_cases z : bes W S x b = true
    · rw [if_pos z, if_pos z]
      exact Or.inr ⟨Int.le_refl _, by omega, z, by rw [show (b + ((n + 1 : Nat) : Int) - (b + 1)).toNat = n by omega]⟩
    · rw [if_neg z, if_neg z]
      rcases ih (b + 1) A (by omega) with ⟨h1, h2⟩ | ⟨h1, h2, h3, h4⟩
      · exact Or.inl ⟨h1, h2⟩
      · exact Or.inr ⟨by omega, by omega, h3, by rw [h4, show b + 1 + (n : Int) = b + ((n + 1 : Nat) : Int) by omega]⟩
/-- what a search needs of the hall -/
def srOk (t : Nat → Nat → Int) : Prop := (2 ≤ t 1 0 ∧ t 1 0 ≤ 5) ∧ (0 ≤ sqN t 0 ∧ sqN t 0 ≤ 25) ∧ (0 ≤ t 1 5 ∧ t 1 5 ≤ 5) ∧ ∀ p, 0 ≤ p → p < t 1 5 → (0 ≤ t 1 (6 + p).toNat ∧ t 1 (6 + p).toNat < 25) ∧ (0 ≤ t 1 (11 + p).toNat ∧ t 1 (11 + p).toNat ≤ 5) ∧ (0 ≤ t 1 (21 + p).toNat ∧ t 1 (21 + p).toNat ≤ 9) ∧ (1 ≤ t 1 (16 + p).toNat ∧ t 1 (16 + p).toNat ≤ 20) ∧ (0 ≤ t 1 (41 + p).toNat ∧ t 1 (41 + p).toNat ≤ 20)
def bkOk (t : Nat → Nat → Int) (lf lt : Int → Int) : Prop := ∀ p, 0 ≤ p → p < t 1 5 → (0 ≤ lf p ∧ lf p ≤ 20) ∧ (0 ≤ lt p ∧ lt p ≤ 1)
theorem nrd_rg {b p : Int} {lf lt : Int → Int} (hb : bkOk t lf lt) (h0 : 0 ≤ p) (h1 : p < t 1 5) : 0 ≤ nrd t b lf lt p ∧ nrd t b lf lt p ≤ lf p := rdS_rg (hb p h0 h1).1.1
theorem bkOk_n {b : Int} {lf lt : Int → Int} (hb : bkOk t lf lt) : bkOk t (nlf t b lf lt) (nlt t b lf lt) := by
  intro p h0 h1
  have r := nrd_rg (b := b) hb h0 h1
  have q := (hb p h0 h1).1
  refine ⟨?_, ?_⟩
  · unfold nlf; omega
  · unfold nlt; split <;> omega
theorem nwt_rg {b : Int} {lf lt : Int → Int} (hs : srOk t) (hb : bkOk t lf lt) : 0 ≤ nwt t b lf lt ∧ nwt t b lf lt ≤ 900 := by
  have h5 := hs.2.2.1
  have := sumF_rg (f := fun p => nrd t b lf lt p * t 1 (21 + p).toNat) (B := 180) (t 1 5).toNat fun k hk => by
    obtain ⟨-, -, r3, -, -⟩ := hs.2.2.2 k (by omega) (by omega)
    have r := nrd_rg (b := b) hb (p := k) (by omega) (by omega)
    have q := (hb k (by omega) (by omega)).1
    refine ⟨Int.mul_nonneg r.1 r3.1, ?_⟩
    have := Int.mul_le_mul (show nrd t b lf lt k ≤ 20 by omega) r3.2 r3.1 (by decide : (0 : Int) ≤ 20)
    omega
  have h7 : nwt t b lf lt ≤ 180 * ((t 1 5).toNat : Int) := this.2
  exact ⟨this.1, by omega⟩
theorem nd_mnOk {T : Nat → Nat → Int} {k : Nat} {q sum : Int} {lf lt : Int → Int} {path : Nat → Int} (hn : ndR t T k q sum lf lt path) (hs : srOk t) (hb : bkOk t lf lt) : mnOk T k := by
  obtain ⟨n1, n2, n3, -⟩ := hn
  have w : ∀ j, T 1 j = t 1 j := fun j => n1 1 j (by decide) (by decide)
  refine ⟨by rw [w]; exact hs.1, by rw [w]; exact hs.2.2.1, fun p h0 h1 => ?_⟩
  rw [w] at h1
  obtain ⟨r1, r2, r3, -, -⟩ := hs.2.2.2 p h0 h1
  rw [w, w, w, (n3 p h0 h1).1, (n3 p h0 h1).2]
  exact ⟨r1, r2, r3, (hb p h0 h1).1, (hb p h0 h1).2⟩
theorem nd_rd {T : Nat → Nat → Int} {k : Nat} {q sum b p : Int} {lf lt : Int → Int} {path : Nat → Int} (hn : ndR t T k q sum lf lt path) (h0 : 0 ≤ p) (h1 : p < t 1 5) : rdT T k (lgL T b (-1)) p = nrd t b lf lt p := by
  obtain ⟨n1, n2, n3, -⟩ := hn
  have w : ∀ j, T 1 j = t 1 j := fun j => n1 1 j (by decide) (by decide)
  have e : lgL T b (-1) p = lgL t b (-1) p := by unfold lgL lg1; simp only [w]
  unfold rdT nrd
  rw [w, e]
  exact rdS_congr h0 (fun j h2 h3 => (n3 j h2 (by omega)).1) (n3 p h0 h1).2
theorem nd_wt {T : Nat → Nat → Int} {k : Nat} {q sum b : Int} {lf lt : Int → Int} {path : Nat → Int} (hn : ndR t T k q sum lf lt path) (h5 : 0 ≤ t 1 5) : mnW T k (lgL T b (-1)) (t 1 5).toNat = nwt t b lf lt := sumF_congr _ fun j hj => by
  rw [nd_rd hn (by omega) (by omega), hn.1 1 _ (by decide) (by decide)]
/-- the next place's tables -/
def nxT (T : Nat → Nat → Int) (k : Nat) (b : Int) (n : Nat) : Nat → Nat → Int := up2 (mnT (up2 T 9 (k + 1) b) k (lgL T b (-1)) n) 11 (k + 1) (T 11 k + mnW T k (lgL T b (-1)) n)
theorem nd_next {T : Nat → Nat → Int} {k : Nat} {q sum b : Int} {lf lt : Int → Int} {path : Nat → Int} (hn : ndR t T k q sum lf lt path) (h5 : 0 ≤ t 1 5 ∧ t 1 5 ≤ 5) : ndR t (nxT T k b (t 1 5).toNat) (k + 1) b (sum + nwt t b lf lt) (nlf t b lf lt) (nlt t b lf lt) (upP path (k + 1) b) ∧ lvS k T (nxT T k b (t 1 5).toNat) := by
  have hw := nd_wt (b := b) hn h5.1
  obtain ⟨n1, n2, n3, n4, n5, n6⟩ := id hn
  have hr : ∀ p, 0 ≤ p → p < t 1 5 → rdT (up2 T 9 (k + 1) b) k (lgL T b (-1)) p = nrd t b lf lt p := fun p h0 h1 => by
    rw [← nd_rd (b := b) hn h0 h1]
    unfold rdT
    rw [up2_n (by omega)]
    exact rdS_congr h0 (fun j h2 h3 => up2_n (by omega)) (up2_n (by omega))
  have lo : ∀ i j, 1 ≤ i → i ≤ 6 → nxT T k b (t 1 5).toNat i j = T i j := fun i j h1 h2 => by
    unfold nxT
    rw [up2_n (by omega), mnT_o (by omega) (by omega), up2_n (by omega)]
  have l3 : nxT T k b (t 1 5).toNat 0 3 = T 0 3 := by
    unfold nxT
    rw [up2_n (by omega), mnT_o (by omega) (by omega), up2_n (by omega)]
  have l9 : ∀ j, j ≠ k + 1 → nxT T k b (t 1 5).toNat 9 j = T 9 j := fun j hj => by
    unfold nxT
    rw [up2_n (by omega), mnT_o (by omega) (by omega), up2_n (by omega)]
  have l9s : nxT T k b (t 1 5).toNat 9 (k + 1) = b := by
    unfold nxT
    rw [up2_n (by omega), mnT_o (by omega) (by omega), up2_s]
  refine ⟨⟨fun i j h1 h2 => (lo i j h1 h2).trans (n1 i j h1 h2), l3.trans n2, fun p h0 h1 => ⟨?_, ?_⟩, l9s, ?_, fun j h1 h2 => ?_⟩, lo, l3, fun j hj => ⟨?_, ?_⟩, fun j hj => ⟨l9 j (by omega), ?_⟩⟩
  · unfold nxT nlf
    rw [up2_n (by omega), mnT_7h (by omega) (by omega), up2_n (by omega), show (((5 * ((k + 1 : Nat) : Int) + p).toNat : Nat) : Int) - 5 - 5 * (k : Int) = p by omega, hr p h0 h1, show (5 * ((k + 1 : Nat) : Int) + p).toNat - 5 = (5 * (k : Int) + p).toNat by omega, (n3 p h0 h1).1]
  · unfold nxT nlt
    have e : lgL T b (-1) p = lgL t b (-1) p := by unfold lgL lg1; simp only [fun j => n1 1 j (by decide) (by decide)]
    rw [up2_n (by omega), mnT_8h (by omega) (by omega), show (((5 * ((k + 1 : Nat) : Int) + p).toNat : Nat) : Int) - 5 - 5 * (k : Int) = p by omega, hr p h0 h1, e]
  · unfold nxT
    rw [up2_s, hw, n5]
  · unfold upP
    by_cases e : j = k + 1
    · rw [if_pos e, e]; exact l9s
    · rw [if_neg e, l9 j e]; exact n6 j h1 (by omega)
  · unfold nxT
    rw [up2_n (by omega), mnT_7 (by omega), up2_n (by omega)]
  · unfold nxT
    rw [up2_n (by omega), mnT_8 (by omega), up2_n (by omega)]
  · unfold nxT
    rw [up2_n (by omega), mnT_o (by omega) (by omega), up2_n (by omega)]
theorem acc_next {T : Nat → Nat → Int} {k n : Nat} {b : Int} {A : xA} (hA : accR T A) : accR (nxT T k b n) A := by
  obtain ⟨a1, a2, a3, a4⟩ := hA
  have e : ∀ j, j ≠ 12 → nxT T k b n 0 j = T 0 j := fun j hj => by
    unfold nxT
    rw [up2_n (by omega), mnT_o (by omega) (by omega), up2_n (by omega)]
  refine ⟨(e 16 (by decide)).trans a1, (e 17 (by decide)).trans a2, (e 18 (by decide)).trans a3, fun j hj => ?_⟩
  unfold nxT
  rw [up2_n (by omega), mnT_o (by omega) (by omega), up2_n (by omega)]
  exact a4 j hj
/-- what was found keeps in its bounds -/
def acB (A : xA) (B : Int) : Prop := (-1 ≤ A.1 ∧ A.1 ≤ 10000) ∧ (0 ≤ A.2.1 ∧ A.2.1 ≤ B)
theorem edT_R {T : Nat → Nat → Int} {m : Nat} {ok : Bool} {q sum : Int} {path : Nat → Int} {A : xA} (hA : accR T A) (hm : m ≤ 6) (hq : T 9 m = q) (hs : T 11 m = sum) (hp : ∀ j, 1 ≤ j → j ≤ m → T 9 j = path j) : accR (edT T m ok) (endA ok m q sum path A) ∧ lvS m T (edT T m ok) := by
  obtain ⟨a1, a2, a3, a4⟩ := hA
  have fl : lvS m T (fnT T m) := by
    unfold fnT
    exact ⟨fun i j h1 h2 => by rw [up2_n (by omega), up2_n (by omega)], by rw [up2_n (by omega), up2_n (by omega)], fun j hj => ⟨by rw [up2_n (by omega), up2_n (by omega)], by rw [up2_n (by omega), up2_n (by omega)]⟩, fun j hj => ⟨by rw [up2_n (by omega), up2_n (by omega)], by rw [up2_n (by omega), up2_n (by omega)]⟩⟩
  have f17 : fnT T m 0 17 = A.2.1 + 1 := by unfold fnT; rw [up2_n (by omega), up2_s, a2]
  have f18 : fnT T m 0 18 = orB A.2.2.1 q := by unfold fnT; rw [up2_s, a3, hq]
  have f16 : fnT T m 0 16 = A.1 := by unfold fnT; rw [up2_n (by omega), up2_n (by omega), a1]
  have f10 : ∀ j, j < 8 → fnT T m 10 j = A.2.2.2 j := fun j hj => by unfold fnT; rw [up2_n (by omega), up2_n (by omega), a4 j hj]
  have f9 : ∀ j, fnT T m 9 j = T 9 j := fun j => by unfold fnT; rw [up2_n (by omega), up2_n (by omega)]
  unfold edT endA
  cases ok with
  | false => exact ⟨⟨a1, a2, a3, a4⟩, lvS.rfl'⟩
  | true =>
    rw [if_pos rfl, if_pos rfl, a1, hs]
    by_cases z : A.1 < sum
    · rw [if_pos z, if_pos z]
      refine ⟨⟨by rw [bpT_o (by omega), up2_s], by rw [bpT_o (by omega), up2_n (by omega), f17], by rw [bpT_o (by omega), up2_n (by omega), f18], fun j hj => ?_⟩, ⟨fun i j h1 h2 => by rw [bpT_o (by omega), up2_n (by omega)]; exact fl.1 i j h1 h2, by rw [bpT_o (by omega), up2_n (by omega)]; exact fl.2.1, fun j hj => ⟨by rw [bpT_o (by omega), up2_n (by omega)]; exact (fl.2.2.1 j hj).1, by rw [bpT_o (by omega), up2_n (by omega)]; exact (fl.2.2.1 j hj).2⟩, fun j hj => ⟨by rw [bpT_o (by omega), up2_n (by omega)]; exact (fl.2.2.2 j hj).1, by rw [bpT_o (by omega), up2_n (by omega)]; exact (fl.2.2.2 j hj).2⟩⟩⟩
      show _ = (if 1 ≤ j ∧ j ≤ m then path j else A.2.2.2 j)
      by_cases y : 1 ≤ j ∧ j ≤ m
      · rw [if_pos y, bpT_i y.1 y.2, up2_n (by omega), f9, hp j y.1 y.2]
      · rw [if_neg y, bpT_o (by omega), up2_n (by omega), f10 j hj]
    · rw [if_neg z, if_neg z]
      exact ⟨⟨f16, f17, f18, f10⟩, fl⟩
end

/-! WHERE LAMPS STAND BEST, by rows: one function for both sides -/
section
variable {g : Nat → Int} {u t : Nat → Nat → Int}
def wtG (g : Nat → Int) (L : Int → Int) : Int := sumF (fun p => rdG g L p * g (21 + p.toNat)) (g 5).toNat
def lqG (g : Nat → Int) (q : Int) : Int → Int := fun p => lgt (g 0) (g 4) (g (6 + p.toNat)) q
def stW (g : Nat → Int) (q : Int) : Int := wtG g (lqG g q)
def stG (g : Nat → Int) (s : Int × Int) : Int × Int := scG (stW g) id (fun q => !hasB (g 4) q) (g 0 * g 1).toNat 0 s
def stA (g : Nat → Int) : Int := (stG g (-1, -1)).1
def bgC (u : Nat → Nat → Int) : Prop := ∀ p : Nat, p < 5 → u 7 p = u 1 (31 + p) ∧ u 8 p = u 1 (36 + p)
theorem bgC_bg : bgC (bgT t 0) := fun p hp => ⟨by rw [bgT_7 (by omega) hp, bg_1], by rw [bgT_8 (by omega) hp, bg_1]⟩
theorem rg_bg : rg (bgT t 0) 0 = rg t 0 := by
  funext j
  unfold rg
  split
  · exact bg_1
  · rfl
theorem rd_u {L L' : Int → Int} {p : Int} (hb : bgC u) (h0 : 0 ≤ p) (h1 : p < 5) (hL : L p = L' p) : rdT u 0 L p = rdG (rg u 0) L' p := by
  unfold rdT rdG
  rw [hL, rg_0 (by omega), show (11 + p).toNat = 11 + p.toNat by omega]
  refine rdS_congr h0 (fun k k0 k1 => ?_) ?_
  · show u 7 (5 * 0 + k).toNat = rg u 0 (31 + k.toNat)
    rw [rg_0 (by omega), ← (hb k.toNat (by omega)).1]
    congr 1
    omega
  · show u 8 (5 * 0 + p).toNat = rg u 0 (36 + p.toNat)
    rw [rg_0 (by omega), ← (hb p.toNat (by omega)).2]
    congr 1
    omega
theorem wt_u {L L' : Int → Int} (hb : bgC u) (h5 : u 1 5 ≤ 5) (hL : ∀ p : Nat, (p : Int) < u 1 5 → L p = L' p) : mnW u 0 L (u 1 5).toNat = wtG (rg u 0) L' := by
  unfold mnW wtG
  rw [rg_0 (show 5 < 200 by decide)]
  refine sumF_congr _ fun k hk => ?_
  rw [rd_u hb (by omega) (by omega) (hL k (by omega)), rg_0 (by omega), show (21 + (k : Int)).toNat = 21 + k by omega, Int.toNat_natCast]
theorem lq_u {q p : Int} (hq : 0 ≤ q) (h0 : 0 ≤ p) (h1 : p < 5) : lgL u q (-1) p = lqG (rg u 0) q p := by
  unfold lgL lg1 lqG
  rw [if_neg (show ¬ (0 : Int) ≤ -1 by decide), if_pos hq, rg_0 (by decide), rg_0 (by decide), rg_0 (by omega), show (6 + p).toNat = 6 + p.toNat by omega]
theorem st_u {q : Int} (hb : bgC u) (h5 : u 1 5 ≤ 5) (hq : 0 ≤ q) : stV u q = stW (rg u 0) q := wt_u hb h5 fun p hp => lq_u hq (by omega) (by omega)
theorem tw_u {x y : Int} (hb : bgC u) (h5 : u 1 5 ≤ 5) (hx : 0 ≤ x) (hy : 0 ≤ y) : twV u x y = wtG (rg u 0) (fun p => min 12 (lqG (rg u 0) x p + lqG (rg u 0) y p)) := wt_u hb h5 fun p hp => by
  have a := lq_u (u := u) (q := x) (p := p) hx (by omega) (by omega)
  unfold lgL at a ⊢
  rw [if_neg (show ¬ (0 : Int) ≤ -1 by decide)] at a
  rw [if_pos hy, a]
  unfold lqG
  rw [rg_0 (show 0 < 200 by decide), rg_0 (show 4 < 200 by decide), rg_0 (show 6 + (p : Int).toNat < 200 by omega), show (6 + (p : Int)).toNat = 6 + (p : Int).toNat by omega]
theorem scG_congr {f f' c c' : Int → Int} {ok ok' : Int → Bool} : ∀ (n : Nat) (q : Int) (s : Int × Int), (∀ k, q ≤ k → k < q + n → ok k = ok' k ∧ c k = c' k ∧ (ok k = true → f k = f' k)) → scG f c ok n q s = scG f' c' ok' n q s := by
  intro n
  induction n with
  | zero => intro q s hk; rfl
  | succ n ih =>
    intro q s hk
    obtain ⟨a, b, e⟩ := hk q (by omega) (by omega)
    rw [scG, scG, ih (q + 1) _ (fun k h1 h2 => hk k (by omega) (by omega)), ← a, ← b]
    congr 1
    by_cases z : ok q = true
    · rw [e z]
    · rw [if_neg (fun y => z y.1), if_neg (fun y => z y.1)]
theorem itO_congr {F F' : Int → Int × Int → Int × Int} : ∀ (n : Nat) (q : Int) (s : Int × Int), (∀ k s, q ≤ k → k < q + n → F k s = F' k s) → itO F n q s = itO F' n q s := by
  intro n
  induction n with
  | zero => intro q s hk; rfl
  | succ n ih =>
    intro q s hk
    rw [itO, itO, ih (q + 1) _ (fun k s h1 h2 => hk k s (by omega) (by omega)), hk q s (by omega) (by omega)]
theorem stS_u {s : Int × Int} (hb : bgC u) (h5 : u 1 5 ≤ 5) : stS u s = stG (rg u 0) s := by
  unfold stS stG
  rw [sq_v, rg_0 (show 4 < 200 by decide)]
  exact scG_congr _ _ _ fun k h1 h2 => ⟨rfl, rfl, fun _ => st_u hb h5 h1⟩
theorem stB_u (hb : bgC u) (h5 : u 1 5 ≤ 5) : stB u = stA (rg u 0) := by
  unfold stB stA
  rw [stS_u hb h5]
  exact scG_1 _ _ _ _ _ _ _ rfl
/-- only the first forty-six numbers count -/
theorem stG_congr {f : Nat → Int} {s : Int × Int} (h5 : g 5 ≤ 5) (he : ∀ j, j < 46 → f j = g j) : stG f s = stG g s := by
  unfold stG
  rw [he 0 (by decide), he 1 (by decide), he 4 (by decide)]
  refine scG_congr _ _ _ fun k h1 h2 => ⟨rfl, rfl, fun _ => ?_⟩
  unfold stW wtG
  rw [he 5 (by decide)]
  refine sumF_congr _ fun p hp => ?_
  rw [he (21 + (p : Int).toNat) (by omega)]
  congr 1
  unfold rdG
  rw [he (11 + (p : Int).toNat) (by omega)]
  have el : lqG f k p = lqG g k p := by
    unfold lqG
    rw [he 0 (by decide), he 4 (by decide), he (6 + (p : Int).toNat) (by omega)]
  rw [el]
  exact rdS_congr (by omega) (fun i i0 i1 => he _ (by omega)) (he _ (by omega))
theorem stA_congr {f : Nat → Int} (h5 : g 5 ≤ 5) (he : ∀ j, j < 46 → f j = g j) : stA f = stA g := by
  unfold stA
  rw [stG_congr h5 he]
/-- two lamps -/
def twW (g : Nat → Int) (x y : Int) : Int := wtG g (fun p => min 12 (lqG g x p + lqG g y p))
def twJ (g : Nat → Int) (x : Int) (s : Int × Int) : Int × Int := scG (twW g x) (fun y => 100 * x + y) (fun y => !hasB (g 4) x && !hasB (g 4) y) (g 0 * g 1 - (x + 1)).toNat (x + 1) s
def twG (g : Nat → Int) (s : Int × Int) : Int × Int := itO (twJ g) (g 0 * g 1).toNat 0 s
theorem twS_u (hb : bgC u) (h5 : u 1 5 ≤ 5) : twS u = twG (rg u 0) (-1, 0) := by
  unfold twS twG
  rw [sq_v]
  refine itO_congr _ _ _ fun x s h1 h2 => ?_
  unfold twI twJ twO
  rw [sq_v, rg_0 (show 4 < 200 by decide)]
  exact scG_congr _ _ _ fun k h3 h4 => ⟨rfl, rfl, fun _ => tw_u hb h5 h1 (by omega)⟩
/-- seats changed, a shelf moved -/
def swG (g : Nat → Int) (x y : Int) : Nat → Int := up1 (up1 g (6 + x.toNat) (g (6 + y.toNat))) (6 + y.toNat) (g (6 + x.toNat))
def swJ (g : Nat → Int) (x : Int) (s : Int × Int) : Int × Int := scG (fun y => stA (swG g x y)) (fun y => 100 * x + y) (fun _ => true) (g 5 - (x + 1)).toNat (x + 1) s
def mvJ (g : Nat → Int) (x : Int) (s : Int × Int) : Int × Int := scG (fun q => stA (up1 g (6 + x.toNat) q)) (fun q => 1000 + 100 * x + q) (fun q => !hasB (g 4) q && decide (sitY g q < 0)) (g 0 * g 1).toNat 0 s
def seG (g : Nat → Int) : Int := (itO (mvJ g) (g 5).toNat 0 (itO (swJ g) (g 5).toNat 0 (stA g, -1))).2
def shJ (g : Nat → Int) (x : Int) (s : Int × Int) : Int × Int := scG (fun q => stA (up1 g 4 (mvB (g 4) x q))) (fun q => 100 * x + q) (fun q => hasB (g 4) x && !hasB (g 4) q && decide (sitY g q < 0) && decide (¬ g 2 = q)) (g 0 * g 1).toNat 0 s
def smG (g : Nat → Int) : Int := (itO (shJ g) (g 0 * g 1).toNat 0 (stA g, -1)).2
theorem rg_up {j : Nat} {x : Int} (hj : j < 200) : rg (up2 u 1 j x) 0 = up1 (rg u 0) j x := by
  funext k
  by_cases hk : k < 200
  · rw [rg_0 hk]
    by_cases z : k = j
    · rw [z, up2_s, up1_s]
    · rw [up2_n (by omega), up1_n z, rg_0 hk]
  · rw [rg_ct _ 0 k (by omega), up1_n (by omega), rg_ct _ 0 k (by omega)]
theorem bgC_up {j : Nat} {x : Int} (hb : bgC u) (hj : j < 31) : bgC (up2 u 1 j x) := fun p hp => by
  rw [up2_n (by omega), up2_n (by omega), up2_n (by omega), up2_n (by omega)]
  exact hb p hp
theorem seG_u (hb : bgC u) (h5 : 0 ≤ u 1 5 ∧ u 1 5 ≤ 5) : aSeats u = seG (rg u 0) := by
  have e5 : rg u 0 5 = u 1 5 := rg_0 (by decide)
  unfold aSeats seG
  rw [e5, stB_u hb h5.2]
  have e1 : itO (swI u) (u 1 5).toNat 0 (stA (rg u 0), -1) = itO (swJ (rg u 0)) (u 1 5).toNat 0 (stA (rg u 0), -1) := by
    refine itO_congr _ _ _ fun x s h1 h2 => ?_
    unfold swI swJ
    rw [e5]
    refine scG_congr _ _ _ fun y h3 h4 => ⟨rfl, rfl, fun _ => ?_⟩
    unfold swT swG
    rw [stB_u (bgC_up (bgC_up hb (by omega)) (by omega)) (by rw [up2_n (by omega), up2_n (by omega)]; exact h5.2), rg_up (by omega), rg_up (by omega), rg_0 (by omega), rg_0 (by omega), show (6 + x).toNat = 6 + x.toNat by omega, show (6 + y).toNat = 6 + y.toNat by omega]
  rw [e1]
  congr 1
  refine itO_congr _ _ _ fun x s h1 h2 => ?_
  unfold mvI mvJ
  rw [sq_v]
  refine scG_congr _ _ _ fun q h3 h4 => ⟨?_, rfl, fun _ => ?_⟩
  · unfold mvO
    have := sitZ_u (t := u) (R := 0) (q := q) (by rw [e5]; exact h5.2)
    rw [show ((0 : Nat) : Int) = 0 from rfl] at this
    rw [this, rg_0 (by decide)]
  · unfold mvT
    rw [stB_u (bgC_up hb (by omega)) (by rw [up2_n (by omega)]; exact h5.2), rg_up (by omega), show (6 + x).toNat = 6 + x.toNat by omega]
theorem smG_u (hb : bgC u) (h5 : 0 ≤ u 1 5 ∧ u 1 5 ≤ 5) : aMoved u = smG (rg u 0) := by
  have e5 : rg u 0 5 = u 1 5 := rg_0 (by decide)
  unfold aMoved smG
  rw [stB_u hb h5.2, sq_v]
  congr 1
  refine itO_congr _ _ _ fun x s h1 h2 => ?_
  unfold shI shJ
  rw [sq_v]
  refine scG_congr _ _ _ fun q h3 h4 => ⟨?_, rfl, fun _ => ?_⟩
  · unfold shO
    have := sitZ_u (t := u) (R := 0) (q := q) (by rw [e5]; exact h5.2)
    rw [show ((0 : Nat) : Int) = 0 from rfl] at this
    rw [this, rg_0 (show 4 < 200 by decide), rg_0 (show 2 < 200 by decide)]
  · unfold slT
    rw [stB_u (bgC_up hb (by omega)) (by rw [up2_n (by omega)]; exact h5.2), rg_up (by omega), rg_0 (show 4 < 200 by decide)]
end

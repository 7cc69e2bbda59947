/-! THE COMPONENT'S CELLS by a table G of whole numbers, a row a cell (printed by wip/whole/gen59.py) -/
section
variable {h : xH} {G : Nat → Nat → Int}
def aC (K n : Nat) (g : Nat → Int) : xC := .inl (K, n, .inl fun j => zI (g j))
def fC (K n : Nat) (f : Nat → Nat) : xC := .inl (K, n, .inr (.inr (.inr (.inr fun j => if j < n then some (f j) else none))))
def hF (g : Nat → Int) (o : Nat) : List Value := [.ref (o + 1), .ref (o + 2), .ref (o + 4), .ref (o + 9), .int (zI (g 4)), .int (zI (g 5)), .int (zI (g 6)), .int (zI (g 7)), .int (zI (g 8)), .int (zI (g 9)), .int (zI (g 10))]
def bF (g : Nat → Int) (q : Nat) : List Value := [.ref (q + 1), .int (zI (g 1))]
def nF (g : Nat → Int) (o : Nat) : List Value := [.ref (o + 5), .ref (o + 6), .ref (o + 7), .ref (o + 8), .int (zI (g 4))]
def dF (g : Nat → Int) : List Value := [.int (zI (g 0)), .int (zI (g 1)), .int (zI (g 2)), .int (zI (g 3)), .int (zI (g 4)), .int (zI (g 5))]
def oF (g : Nat → Int) : List Value := [.ref 1, .ref 16, .ref 31, .ref 32, .ref 33, .ref 37, .ref 56, .int (zI (g 7)), .int (zI (g 8)), .int (zI (g 9))]
def kF (g : Nat → Int) : List Value := [.int (zI (g 0)), .int (zI (g 1)), .ref 34, .ref 35, .ref 36, .int (zI (g 5)), .int (zI (g 6))]
def wF (g : Nat → Int) : List Value := [.ref 38, .int (zI (g 1)), .int (zI (g 2)), .int (zI (g 3)), .ref 39, .ref 40, .ref 41, .int (zI (g 7)), .int (zI (g 8))]
def pF (g : Nat → Int) : List Value := [.int (zI (g 0)), .int (zI (g 1)), .int (zI (g 2)), .ref 57, .ref 58, .ref 59, .int (zI (g 6)), .int (zI (g 7))]
def hC (g : Nat → Int) (o : Nat) : Nat → xC
  | 0 => .inr (2, hF g o)
  | 1 => fC 4 5 fun j => o + 10 + j
  | 2 => .inr (0, bF g (o + 2))
  | 3 => aC 0 5 g
  | 4 => .inr (3, nF g o)
  | 5 => aC 0 12 g
  | 6 => aC 0 12 g
  | 7 => aC 0 12 g
  | 8 => aC 0 60 g
  | 9 => aC 0 5 g
  | _ + 10 => .inr (5, dF g)
def sC (g : Nat → Int) : Nat → xC
  | 0 => .inr (7, oF g)
  | 31 => fC 3 2 fun j => 61 + 15 * j
  | 32 => aC 1 2 g
  | 33 => .inr (1, kF g)
  | 34 => aC 0 200 g
  | 35 => aC 0 40 g
  | 36 => aC 0 160 g
  | 37 => .inr (6, wF g)
  | 38 => aC 0 6 g
  | 39 => fC 2 7 fun j => 42 + 2 * j
  | 40 => aC 0 125 g
  | 41 => aC 0 6 g
  | 56 => .inr (4, pF g)
  | 57 => aC 0 125 g
  | 58 => aC 0 5 g
  | 59 => .inr (0, bF g 59)
  | _ => aC 0 5 g
def cC (g : Nat → Int) (q : Nat) : xC := if 1 ≤ q ∧ q < 16 then hC g 1 (q - 1) else if 16 ≤ q ∧ q < 31 then hC g 16 (q - 16) else if 61 ≤ q ∧ q < 76 then hC g 61 (q - 61) else if 76 ≤ q ∧ q < 91 then hC g 76 (q - 76) else if 42 ≤ q ∧ q < 56 then (if q % 2 = 0 then .inr (0, bF g q) else aC 0 5 g) else sC g q
def cH (h : xH) (G : Nat → Nat → Int) : xH := (h.1, h.2.1, fun q => if q < 91 then cC (G q) q else h.2.2 q)
theorem c_at {q : Nat} (hq : q < 91) : (cH h G).2.2 q = cC (G q) q := if_pos hq
theorem c_set {q k : Nat} {x : Int} {c : xC} (hq : q < 91) (hc : c = cC (fun j => if j = k then x else G q j) q) : x_set (cH h G) q c = cH h (up2 G q k x) := by
  refine x_H_ext rfl rfl fun p => ?_
  show (if p = q then c else (if p < 91 then cC (G p) p else h.2.2 p)) = (if p < 91 then cC (up2 G q k x p) p else h.2.2 p)
  by_cases e : p = q
  · rw [if_pos e, e, if_pos hq, hc]
    congr 1
    funext j
    by_cases z : j = k
    · rw [if_pos z, z, up2_s]
    · rw [if_neg z, up2_n (fun w => z w.2)]
  · rw [if_neg e]
    by_cases f : p < 91
    · rw [if_pos f, if_pos f]
      congr 1
      funext j
      exact (up2_n (fun w => e w.1)).symm
    · rw [if_neg f, if_neg f]
theorem c_obj {q ci : Nat} {fs : List Value} (hh : 91 ≤ h.1) (hq : q < 91) (hc : cC (G q) q = .inr (ci, fs)) : x_obj (cH h G) q ci = some fs := x_obj_of (show q < h.1 by omega) ((c_at hq).trans hc)
theorem c_get {q ci k : Nat} {fs : List Value} {v : Value} (hh : 91 ≤ h.1) (hq : q < 91) (hc : cC (G q) q = .inr (ci, fs)) (hk : fs[k]? = some v) : x_get (cH h G) q ci k = some v := by
  unfold x_get
  rw [c_obj hh hq hc]
  exact hk
theorem c_put {q ci k : Nat} {x : Int} {F : (Nat → Int) → List Value} (hh : 91 ≤ h.1) (hq : q < 91) (hc : ∀ g, cC g q = .inr (ci, F g)) (hk : k < (F (G q)).length) (hs : (F (G q)).set k (.int (zI x)) = F (fun j => if j = k then x else G q j)) : x_put (cH h G) q ci k (.int (zI x)) = some (cH h (up2 G q k x)) := by
  unfold x_put
  rw [c_obj hh hq (hc _)]
  show (if k < (F (G q)).length then some (x_set (cH h G) q (.inr (ci, (F (G q)).set k (.int (zI x))))) else none) = _
  rw [if_pos hk, hs]
  exact congrArg some (c_set hq (hc _).symm)
theorem c_row {q K n : Nat} (hh : 91 ≤ h.1) (hq : q < 91) (hc : ∀ g, cC g q = aC K n g) : x_row (cH h G) q = some (K, n, fun j => zI (G q j)) := x_row_of (show q < h.1 by omega) ((c_at hq).trans (hc _))
theorem c_ald {q K n : Nat} {i : Int} (hh : 91 ≤ h.1) (hq : q < 91) (hc : ∀ g, cC g q = aC K n g) (hn : n ≤ 65536) (h0 : 0 ≤ i) (h1 : i < n) : x_ald (cH h G) q K (zI i) = some (zI (G q i.toNat)) := x_ald_row (c_row hh hq hc) h0 h1 hn
theorem c_upd {q K n k : Nat} {x : Int} (hq : q < 91) (hc : ∀ g, cC g q = aC K n g) : x_set (cH h G) q (.inl (K, n, .inl (upd (fun j => zI (G q j)) k (zI x)))) = cH h (up2 G q k x) := by
  refine c_set hq ?_
  rw [hc]
  unfold aC
  congr 4
  funext j
  by_cases z : j = k
  · subst z; simp [upd]
  · simp [upd, z]
theorem c_ast {q K n : Nat} {i x : Int} (hh : 91 ≤ h.1) (hq : q < 91) (hc : ∀ g, cC g q = aC K n g) (hn : n ≤ 65536) (h0 : 0 ≤ i) (h1 : i < n) : x_ast (cH h G) q K (zI i) (zI x) = some (cH h (up2 G q i.toNat x)) := (x_ast_row (c_row hh hq hc) h0 h1 hn).trans (congrArg some (c_upd hq hc))
theorem c_qld {q K n : Nat} {f : Nat → Nat} {i : Int} (hh : 91 ≤ h.1) (hq : q < 91) (hc : ∀ g, cC g q = fC K n f) (hK : K = 2 ∨ K = 3 ∨ K = 4) (hn : n ≤ 65536) (h0 : 0 ≤ i) (h1 : i < n) : x_qld (cH h G) q (zI i) = some (.ref (f i.toNat)) := by
  have hr : x_refs (cH h G) q = some (K, n, fun j => if j < n then some (f j) else none) := by
    unfold x_refs x_arr
    rw [if_pos (show q < (cH h G).1 from Nat.lt_of_lt_of_le hq hh), c_at hq, hc]
    rfl
  unfold x_qld
  rw [hr]
  show (if (K = 2 ∨ K = 3 ∨ K = 4) ∧ ¬ (zI i < 0 ∨ n ≤ (zI i).toNatClampNeg) then some (va_rf (if (zI i).toNatClampNeg < n then some (f (zI i).toNatClampNeg) else none)) else none) = _
  have hh2 : ¬ (zI i < 0 ∨ n ≤ i.toNat) := fun z => by
    rcases z with z | z
    · rw [zI_lt0 (by omega) (by omega)] at z; omega
    · omega
  rw [zI_clamp (by omega) (by omega), if_pos ⟨hK, hh2⟩, if_pos (show i.toNat < n by omega)]
  rfl
theorem c_len {q K n : Nat} (hh : 91 ≤ h.1) (hq : q < 91) (hc : ∀ g, cC g q = aC K n g) (hK : K < 5) : x_len (cH h G) q = some (zI n) := by
  unfold x_len x_arr
  rw [if_pos (show q < (cH h G).1 from Nat.lt_of_lt_of_le hq hh), c_at hq, hc]
  show (if K < 5 then some (Int32.ofNat n) else none) = _
  rw [if_pos hK]
  rfl
/-- a piece of a row laid into another -/
def cpU (G : Nat → Nat → Int) (q sp p dp n : Nat) : Nat → Nat → Int := fun i j => if i = p ∧ dp ≤ j ∧ j < dp + n then G q (sp + (j - dp)) else G i j
theorem c_cpy {q p a b : Nat} {sp dp n : Int} (hh : 91 ≤ h.1) (hq : q < 91) (hp : p < 91) (hc : ∀ g, cC g q = aC 0 a g) (hd : ∀ g, cC g p = aC 0 b g) (h0 : 0 ≤ sp) (h1 : 0 ≤ dp) (h2 : 0 ≤ n) (h3 : sp + n ≤ a) (h4 : dp + n ≤ b) (ha : a ≤ 65536) (hb : b ≤ 65536) : x_copy (cH h G) q (zI sp) p (zI dp) (zI n) = some (cH h (cpU G q sp.toNat p dp.toNat n.toNat)) := by
  unfold x_copy
  rw [c_row hh hq hc, c_row hh hp hd]
  have e1 := zI_clamp (a := sp) (by omega) (by omega)
  have e2 := zI_clamp (a := dp) (by omega) (by omega)
  have e3 := zI_clamp (a := n) (by omega) (by omega)
  show (if 0 = 0 ∧ 0 = 0 ∧ ¬ zI sp < 0 ∧ ¬ zI dp < 0 ∧ ¬ zI n < 0 ∧ (zI sp).toNatClampNeg + (zI n).toNatClampNeg ≤ a ∧ (zI dp).toNatClampNeg + (zI n).toNatClampNeg ≤ b then some (x_set (cH h G) p (.inl (0, b, .inl (va_cpy (fun j => zI (G q j)) (fun j => zI (G p j)) (zI sp).toNatClampNeg (zI dp).toNatClampNeg (zI n).toNatClampNeg)))) else none) = _
  have n1 : ¬ zI sp < 0 := by rw [zI_lt0 (by omega) (by omega)]; omega
  have n2 : ¬ zI dp < 0 := by rw [zI_lt0 (by omega) (by omega)]; omega
  have n3 : ¬ zI n < 0 := by rw [zI_lt0 (by omega) (by omega)]; omega
  rw [e1, e2, e3, if_pos ⟨rfl, rfl, n1, n2, n3, by omega, by omega⟩]
  congr 1
  refine x_H_ext rfl rfl fun k => ?_
  show (if k = p then _ else (if k < 91 then cC (G k) k else h.2.2 k)) = (if k < 91 then cC (cpU G q sp.toNat p dp.toNat n.toNat k) k else h.2.2 k)
  by_cases e : k = p
  · rw [if_pos e, e, if_pos hp, hd]
    unfold aC
    congr 4
    funext j
    unfold va_cpy cpU
    by_cases z : dp.toNat ≤ j ∧ j < dp.toNat + n.toNat
    · rw [if_pos z, if_pos ⟨rfl, z⟩]
    · rw [if_neg z, if_neg (fun w => z w.2)]
  · rw [if_neg e]
    by_cases f : k < 91
    · rw [if_pos f, if_pos f]
      congr 1
      funext j
      unfold cpU
      rw [if_neg (fun w => e w.1)]
    · rw [if_neg f, if_neg f]
/-- a hall's place -/
def isH (o : Nat) : Prop := o + 15 ≤ 91 ∧ ∀ g i, i < 15 → cC g (o + i) = hC g o i
theorem isH_1 : isH 1 := ⟨by decide, fun g i hi => by unfold cC; rw [if_pos (by omega), show 1 + i - 1 = i by omega]⟩
theorem isH_16 : isH 16 := ⟨by decide, fun g i hi => by unfold cC; rw [if_neg (by omega), if_pos (by omega), show 16 + i - 16 = i by omega]⟩
theorem isH_61 : isH 61 := ⟨by decide, fun g i hi => by unfold cC; rw [if_neg (by omega), if_neg (by omega), if_pos (by omega), show 61 + i - 61 = i by omega]⟩
theorem isH_76 : isH 76 := ⟨by decide, fun g i hi => by unfold cC; rw [if_neg (by omega), if_neg (by omega), if_neg (by omega), if_pos (by omega), show 76 + i - 76 = i by omega]⟩
/-- a place of books -/
def isB (q : Nat) : Prop := q + 2 ≤ 91 ∧ (∀ g, cC g q = .inr (0, bF g q)) ∧ ∀ g, cC g (q + 1) = aC 0 5 g
theorem isB_h {o : Nat} (hO : isH o) : isB (o + 2) := ⟨by have := hO.1; omega, fun g => hO.2 g 2 (by decide), fun g => hO.2 g 3 (by decide)⟩
theorem isB_59 : isB 59 := ⟨by decide, fun _ => rfl, fun _ => rfl⟩
theorem isB_w {i : Nat} (hi : i < 7) : isB (42 + 2 * i) := by
  rcases (show i = 0 ∨ i = 1 ∨ i = 2 ∨ i = 3 ∨ i = 4 ∨ i = 5 ∨ i = 6 by omega) with e | e | e | e | e | e | e <;> subst e <;> exact ⟨by decide, fun _ => rfl, fun _ => rfl⟩

theorem c_ho {o : Nat} (hh : 91 ≤ h.1) (hO : isH o) : x_obj (cH h G) o 2 = some (hF (G o) o) := c_obj hh (by have := hO.1; omega) (hO.2 _ 0 (by decide))
theorem c_hg0 {o : Nat} (hh : 91 ≤ h.1) (hO : isH o) : x_get (cH h G) o 2 0 = some (.ref (o + 1)) := c_get hh (by have := hO.1; omega) (hO.2 _ 0 (by decide)) rfl
theorem c_hg1 {o : Nat} (hh : 91 ≤ h.1) (hO : isH o) : x_get (cH h G) o 2 1 = some (.ref (o + 2)) := c_get hh (by have := hO.1; omega) (hO.2 _ 0 (by decide)) rfl
theorem c_hg2 {o : Nat} (hh : 91 ≤ h.1) (hO : isH o) : x_get (cH h G) o 2 2 = some (.ref (o + 4)) := c_get hh (by have := hO.1; omega) (hO.2 _ 0 (by decide)) rfl
theorem c_hg3 {o : Nat} (hh : 91 ≤ h.1) (hO : isH o) : x_get (cH h G) o 2 3 = some (.ref (o + 9)) := c_get hh (by have := hO.1; omega) (hO.2 _ 0 (by decide)) rfl
theorem c_hg4 {o : Nat} (hh : 91 ≤ h.1) (hO : isH o) : x_get (cH h G) o 2 4 = some (.int (zI (G o 4))) := c_get hh (by have := hO.1; omega) (hO.2 _ 0 (by decide)) rfl
theorem c_hp4 {o : Nat} (hh : 91 ≤ h.1) (hO : isH o) {x : Int} : x_put (cH h G) o 2 4 (.int (zI x)) = some (cH h (up2 G o 4 x)) := c_put (F := fun g => hF g o) hh (by have := hO.1; omega) (fun g => hO.2 g 0 (by decide)) (show 4 < 11 by decide) rfl
theorem c_hg5 {o : Nat} (hh : 91 ≤ h.1) (hO : isH o) : x_get (cH h G) o 2 5 = some (.int (zI (G o 5))) := c_get hh (by have := hO.1; omega) (hO.2 _ 0 (by decide)) rfl
theorem c_hp5 {o : Nat} (hh : 91 ≤ h.1) (hO : isH o) {x : Int} : x_put (cH h G) o 2 5 (.int (zI x)) = some (cH h (up2 G o 5 x)) := c_put (F := fun g => hF g o) hh (by have := hO.1; omega) (fun g => hO.2 g 0 (by decide)) (show 5 < 11 by decide) rfl
theorem c_hg6 {o : Nat} (hh : 91 ≤ h.1) (hO : isH o) : x_get (cH h G) o 2 6 = some (.int (zI (G o 6))) := c_get hh (by have := hO.1; omega) (hO.2 _ 0 (by decide)) rfl
theorem c_hp6 {o : Nat} (hh : 91 ≤ h.1) (hO : isH o) {x : Int} : x_put (cH h G) o 2 6 (.int (zI x)) = some (cH h (up2 G o 6 x)) := c_put (F := fun g => hF g o) hh (by have := hO.1; omega) (fun g => hO.2 g 0 (by decide)) (show 6 < 11 by decide) rfl
theorem c_hg7 {o : Nat} (hh : 91 ≤ h.1) (hO : isH o) : x_get (cH h G) o 2 7 = some (.int (zI (G o 7))) := c_get hh (by have := hO.1; omega) (hO.2 _ 0 (by decide)) rfl
theorem c_hp7 {o : Nat} (hh : 91 ≤ h.1) (hO : isH o) {x : Int} : x_put (cH h G) o 2 7 (.int (zI x)) = some (cH h (up2 G o 7 x)) := c_put (F := fun g => hF g o) hh (by have := hO.1; omega) (fun g => hO.2 g 0 (by decide)) (show 7 < 11 by decide) rfl
theorem c_hg8 {o : Nat} (hh : 91 ≤ h.1) (hO : isH o) : x_get (cH h G) o 2 8 = some (.int (zI (G o 8))) := c_get hh (by have := hO.1; omega) (hO.2 _ 0 (by decide)) rfl
theorem c_hp8 {o : Nat} (hh : 91 ≤ h.1) (hO : isH o) {x : Int} : x_put (cH h G) o 2 8 (.int (zI x)) = some (cH h (up2 G o 8 x)) := c_put (F := fun g => hF g o) hh (by have := hO.1; omega) (fun g => hO.2 g 0 (by decide)) (show 8 < 11 by decide) rfl
theorem c_hg9 {o : Nat} (hh : 91 ≤ h.1) (hO : isH o) : x_get (cH h G) o 2 9 = some (.int (zI (G o 9))) := c_get hh (by have := hO.1; omega) (hO.2 _ 0 (by decide)) rfl
theorem c_hp9 {o : Nat} (hh : 91 ≤ h.1) (hO : isH o) {x : Int} : x_put (cH h G) o 2 9 (.int (zI x)) = some (cH h (up2 G o 9 x)) := c_put (F := fun g => hF g o) hh (by have := hO.1; omega) (fun g => hO.2 g 0 (by decide)) (show 9 < 11 by decide) rfl
theorem c_hg10 {o : Nat} (hh : 91 ≤ h.1) (hO : isH o) : x_get (cH h G) o 2 10 = some (.int (zI (G o 10))) := c_get hh (by have := hO.1; omega) (hO.2 _ 0 (by decide)) rfl
theorem c_hp10 {o : Nat} (hh : 91 ≤ h.1) (hO : isH o) {x : Int} : x_put (cH h G) o 2 10 (.int (zI x)) = some (cH h (up2 G o 10 x)) := c_put (F := fun g => hF g o) hh (by have := hO.1; omega) (fun g => hO.2 g 0 (by decide)) (show 10 < 11 by decide) rfl
theorem c_hq {o : Nat} (hh : 91 ≤ h.1) (hO : isH o) {i : Int} (h0 : 0 ≤ i) (h1 : i < 5) : x_qld (cH h G) (o + 1) (zI i) = some (.ref (o + 10 + i.toNat)) := c_qld (f := fun j => o + 10 + j) hh (by have := hO.1; omega) (fun g => hO.2 g 1 (by decide)) (by decide) (show 5 ≤ 65536 by decide) h0 h1
theorem c_hbg0 {o : Nat} (hh : 91 ≤ h.1) (hO : isH o) : x_get (cH h G) (o + 2) 0 0 = some (.ref (o + 3)) := c_get hh (by have := hO.1; omega) (hO.2 _ 2 (by decide)) rfl
theorem c_hbg1 {o : Nat} (hh : 91 ≤ h.1) (hO : isH o) : x_get (cH h G) (o + 2) 0 1 = some (.int (zI (G (o + 2) 1))) := c_get hh (by have := hO.1; omega) (hO.2 _ 2 (by decide)) rfl
theorem c_hbo {o : Nat} (hh : 91 ≤ h.1) (hO : isH o) : x_obj (cH h G) (o + 2) 0 = some (bF (G (o + 2)) (o + 2)) := c_obj hh (by have := hO.1; omega) (hO.2 _ 2 (by decide))
theorem c_hbp {o : Nat} (hh : 91 ≤ h.1) (hO : isH o) {x : Int} : x_put (cH h G) (o + 2) 0 1 (.int (zI x)) = some (cH h (up2 G (o + 2) 1 x)) := c_put (F := fun g => bF g (o + 2)) hh (by have := hO.1; omega) (fun g => hO.2 g 2 (by decide)) (show 1 < 2 by decide) rfl
theorem c_hno {o : Nat} (hh : 91 ≤ h.1) (hO : isH o) : x_obj (cH h G) (o + 4) 3 = some (nF (G (o + 4)) o) := c_obj hh (by have := hO.1; omega) (hO.2 _ 4 (by decide))
theorem c_hng0 {o : Nat} (hh : 91 ≤ h.1) (hO : isH o) : x_get (cH h G) (o + 4) 3 0 = some (.ref (o + 5)) := c_get hh (by have := hO.1; omega) (hO.2 _ 4 (by decide)) rfl
theorem c_hng1 {o : Nat} (hh : 91 ≤ h.1) (hO : isH o) : x_get (cH h G) (o + 4) 3 1 = some (.ref (o + 6)) := c_get hh (by have := hO.1; omega) (hO.2 _ 4 (by decide)) rfl
theorem c_hng2 {o : Nat} (hh : 91 ≤ h.1) (hO : isH o) : x_get (cH h G) (o + 4) 3 2 = some (.ref (o + 7)) := c_get hh (by have := hO.1; omega) (hO.2 _ 4 (by decide)) rfl
theorem c_hng3 {o : Nat} (hh : 91 ≤ h.1) (hO : isH o) : x_get (cH h G) (o + 4) 3 3 = some (.ref (o + 8)) := c_get hh (by have := hO.1; omega) (hO.2 _ 4 (by decide)) rfl
theorem c_hng4 {o : Nat} (hh : 91 ≤ h.1) (hO : isH o) : x_get (cH h G) (o + 4) 3 4 = some (.int (zI (G (o + 4) 4))) := c_get hh (by have := hO.1; omega) (hO.2 _ 4 (by decide)) rfl
theorem c_hnp {o : Nat} (hh : 91 ≤ h.1) (hO : isH o) {x : Int} : x_put (cH h G) (o + 4) 3 4 (.int (zI x)) = some (cH h (up2 G (o + 4) 4 x)) := c_put (F := fun g => nF g o) hh (by have := hO.1; omega) (fun g => hO.2 g 4 (by decide)) (show 4 < 5 by decide) rfl
theorem c_hr3 {o : Nat} (hh : 91 ≤ h.1) (hO : isH o) {i : Int} (h0 : 0 ≤ i) (h1 : i < 5) : x_ald (cH h G) (o + 3) 0 (zI i) = some (zI (G (o + 3) i.toNat)) := c_ald hh (by have := hO.1; omega) (fun g => hO.2 g 3 (by decide)) (show 5 ≤ 65536 by decide) h0 h1
theorem c_hs3 {o : Nat} (hh : 91 ≤ h.1) (hO : isH o) {i x : Int} (h0 : 0 ≤ i) (h1 : i < 5) : x_ast (cH h G) (o + 3) 0 (zI i) (zI x) = some (cH h (up2 G (o + 3) i.toNat x)) := c_ast hh (by have := hO.1; omega) (fun g => hO.2 g 3 (by decide)) (show 5 ≤ 65536 by decide) h0 h1
theorem c_hr5 {o : Nat} (hh : 91 ≤ h.1) (hO : isH o) {i : Int} (h0 : 0 ≤ i) (h1 : i < 12) : x_ald (cH h G) (o + 5) 0 (zI i) = some (zI (G (o + 5) i.toNat)) := c_ald hh (by have := hO.1; omega) (fun g => hO.2 g 5 (by decide)) (show 12 ≤ 65536 by decide) h0 h1
theorem c_hs5 {o : Nat} (hh : 91 ≤ h.1) (hO : isH o) {i x : Int} (h0 : 0 ≤ i) (h1 : i < 12) : x_ast (cH h G) (o + 5) 0 (zI i) (zI x) = some (cH h (up2 G (o + 5) i.toNat x)) := c_ast hh (by have := hO.1; omega) (fun g => hO.2 g 5 (by decide)) (show 12 ≤ 65536 by decide) h0 h1
theorem c_hr6 {o : Nat} (hh : 91 ≤ h.1) (hO : isH o) {i : Int} (h0 : 0 ≤ i) (h1 : i < 12) : x_ald (cH h G) (o + 6) 0 (zI i) = some (zI (G (o + 6) i.toNat)) := c_ald hh (by have := hO.1; omega) (fun g => hO.2 g 6 (by decide)) (show 12 ≤ 65536 by decide) h0 h1
theorem c_hs6 {o : Nat} (hh : 91 ≤ h.1) (hO : isH o) {i x : Int} (h0 : 0 ≤ i) (h1 : i < 12) : x_ast (cH h G) (o + 6) 0 (zI i) (zI x) = some (cH h (up2 G (o + 6) i.toNat x)) := c_ast hh (by have := hO.1; omega) (fun g => hO.2 g 6 (by decide)) (show 12 ≤ 65536 by decide) h0 h1
theorem c_hr7 {o : Nat} (hh : 91 ≤ h.1) (hO : isH o) {i : Int} (h0 : 0 ≤ i) (h1 : i < 12) : x_ald (cH h G) (o + 7) 0 (zI i) = some (zI (G (o + 7) i.toNat)) := c_ald hh (by have := hO.1; omega) (fun g => hO.2 g 7 (by decide)) (show 12 ≤ 65536 by decide) h0 h1
theorem c_hs7 {o : Nat} (hh : 91 ≤ h.1) (hO : isH o) {i x : Int} (h0 : 0 ≤ i) (h1 : i < 12) : x_ast (cH h G) (o + 7) 0 (zI i) (zI x) = some (cH h (up2 G (o + 7) i.toNat x)) := c_ast hh (by have := hO.1; omega) (fun g => hO.2 g 7 (by decide)) (show 12 ≤ 65536 by decide) h0 h1
theorem c_hr8 {o : Nat} (hh : 91 ≤ h.1) (hO : isH o) {i : Int} (h0 : 0 ≤ i) (h1 : i < 60) : x_ald (cH h G) (o + 8) 0 (zI i) = some (zI (G (o + 8) i.toNat)) := c_ald hh (by have := hO.1; omega) (fun g => hO.2 g 8 (by decide)) (show 60 ≤ 65536 by decide) h0 h1
theorem c_hs8 {o : Nat} (hh : 91 ≤ h.1) (hO : isH o) {i x : Int} (h0 : 0 ≤ i) (h1 : i < 60) : x_ast (cH h G) (o + 8) 0 (zI i) (zI x) = some (cH h (up2 G (o + 8) i.toNat x)) := c_ast hh (by have := hO.1; omega) (fun g => hO.2 g 8 (by decide)) (show 60 ≤ 65536 by decide) h0 h1
theorem c_hr9 {o : Nat} (hh : 91 ≤ h.1) (hO : isH o) {i : Int} (h0 : 0 ≤ i) (h1 : i < 5) : x_ald (cH h G) (o + 9) 0 (zI i) = some (zI (G (o + 9) i.toNat)) := c_ald hh (by have := hO.1; omega) (fun g => hO.2 g 9 (by decide)) (show 5 ≤ 65536 by decide) h0 h1
theorem c_hs9 {o : Nat} (hh : 91 ≤ h.1) (hO : isH o) {i x : Int} (h0 : 0 ≤ i) (h1 : i < 5) : x_ast (cH h G) (o + 9) 0 (zI i) (zI x) = some (cH h (up2 G (o + 9) i.toNat x)) := c_ast hh (by have := hO.1; omega) (fun g => hO.2 g 9 (by decide)) (show 5 ≤ 65536 by decide) h0 h1
theorem isD {o i : Nat} (hO : isH o) (hi : i < 5) (g : Nat → Int) : cC g (o + 10 + i) = .inr (5, dF g) := by
  rw [show o + 10 + i = o + (i + 10) by omega, hO.2 g (i + 10) (by omega)]
  rfl
theorem c_hdo {o i : Nat} (hh : 91 ≤ h.1) (hO : isH o) (hi : i < 5) : x_obj (cH h G) (o + 10 + i) 5 = some (dF (G (o + 10 + i))) := c_obj hh (by have := hO.1; omega) (isD hO hi _)
theorem c_hdg0 {o i : Nat} (hh : 91 ≤ h.1) (hO : isH o) (hi : i < 5) : x_get (cH h G) (o + 10 + i) 5 0 = some (.int (zI (G (o + 10 + i) 0))) := c_get hh (by have := hO.1; omega) (isD hO hi _) rfl
theorem c_hdp0 {o i : Nat} (hh : 91 ≤ h.1) (hO : isH o) (hi : i < 5) {x : Int} : x_put (cH h G) (o + 10 + i) 5 0 (.int (zI x)) = some (cH h (up2 G (o + 10 + i) 0 x)) := c_put (F := dF) hh (by have := hO.1; omega) (fun g => isD hO hi g) (show 0 < 6 by decide) rfl
theorem c_hdg1 {o i : Nat} (hh : 91 ≤ h.1) (hO : isH o) (hi : i < 5) : x_get (cH h G) (o + 10 + i) 5 1 = some (.int (zI (G (o + 10 + i) 1))) := c_get hh (by have := hO.1; omega) (isD hO hi _) rfl
theorem c_hdp1 {o i : Nat} (hh : 91 ≤ h.1) (hO : isH o) (hi : i < 5) {x : Int} : x_put (cH h G) (o + 10 + i) 5 1 (.int (zI x)) = some (cH h (up2 G (o + 10 + i) 1 x)) := c_put (F := dF) hh (by have := hO.1; omega) (fun g => isD hO hi g) (show 1 < 6 by decide) rfl
theorem c_hdg2 {o i : Nat} (hh : 91 ≤ h.1) (hO : isH o) (hi : i < 5) : x_get (cH h G) (o + 10 + i) 5 2 = some (.int (zI (G (o + 10 + i) 2))) := c_get hh (by have := hO.1; omega) (isD hO hi _) rfl
theorem c_hdp2 {o i : Nat} (hh : 91 ≤ h.1) (hO : isH o) (hi : i < 5) {x : Int} : x_put (cH h G) (o + 10 + i) 5 2 (.int (zI x)) = some (cH h (up2 G (o + 10 + i) 2 x)) := c_put (F := dF) hh (by have := hO.1; omega) (fun g => isD hO hi g) (show 2 < 6 by decide) rfl
theorem c_hdg3 {o i : Nat} (hh : 91 ≤ h.1) (hO : isH o) (hi : i < 5) : x_get (cH h G) (o + 10 + i) 5 3 = some (.int (zI (G (o + 10 + i) 3))) := c_get hh (by have := hO.1; omega) (isD hO hi _) rfl
theorem c_hdp3 {o i : Nat} (hh : 91 ≤ h.1) (hO : isH o) (hi : i < 5) {x : Int} : x_put (cH h G) (o + 10 + i) 5 3 (.int (zI x)) = some (cH h (up2 G (o + 10 + i) 3 x)) := c_put (F := dF) hh (by have := hO.1; omega) (fun g => isD hO hi g) (show 3 < 6 by decide) rfl
theorem c_hdg4 {o i : Nat} (hh : 91 ≤ h.1) (hO : isH o) (hi : i < 5) : x_get (cH h G) (o + 10 + i) 5 4 = some (.int (zI (G (o + 10 + i) 4))) := c_get hh (by have := hO.1; omega) (isD hO hi _) rfl
theorem c_hdp4 {o i : Nat} (hh : 91 ≤ h.1) (hO : isH o) (hi : i < 5) {x : Int} : x_put (cH h G) (o + 10 + i) 5 4 (.int (zI x)) = some (cH h (up2 G (o + 10 + i) 4 x)) := c_put (F := dF) hh (by have := hO.1; omega) (fun g => isD hO hi g) (show 4 < 6 by decide) rfl
theorem c_hdg5 {o i : Nat} (hh : 91 ≤ h.1) (hO : isH o) (hi : i < 5) : x_get (cH h G) (o + 10 + i) 5 5 = some (.int (zI (G (o + 10 + i) 5))) := c_get hh (by have := hO.1; omega) (isD hO hi _) rfl
theorem c_hdp5 {o i : Nat} (hh : 91 ≤ h.1) (hO : isH o) (hi : i < 5) {x : Int} : x_put (cH h G) (o + 10 + i) 5 5 (.int (zI x)) = some (cH h (up2 G (o + 10 + i) 5 x)) := c_put (F := dF) hh (by have := hO.1; omega) (fun g => isD hO hi g) (show 5 < 6 by decide) rfl
theorem c_bg0 {q : Nat} (hh : 91 ≤ h.1) (hB : isB q) : x_get (cH h G) q 0 0 = some (.ref (q + 1)) := c_get hh (by have := hB.1; omega) (hB.2.1 _) rfl
theorem c_bg1 {q : Nat} (hh : 91 ≤ h.1) (hB : isB q) : x_get (cH h G) q 0 1 = some (.int (zI (G q 1))) := c_get hh (by have := hB.1; omega) (hB.2.1 _) rfl
theorem c_bo {q : Nat} (hh : 91 ≤ h.1) (hB : isB q) : x_obj (cH h G) q 0 = some (bF (G q) q) := c_obj hh (by have := hB.1; omega) (hB.2.1 _)
theorem c_bp {q : Nat} (hh : 91 ≤ h.1) (hB : isB q) {x : Int} : x_put (cH h G) q 0 1 (.int (zI x)) = some (cH h (up2 G q 1 x)) := c_put (F := fun g => bF g q) hh (by have := hB.1; omega) (fun g => hB.2.1 g) (show 1 < 2 by decide) rfl
theorem c_br {q : Nat} (hh : 91 ≤ h.1) (hB : isB q) {i : Int} (h0 : 0 ≤ i) (h1 : i < 5) : x_ald (cH h G) (q + 1) 0 (zI i) = some (zI (G (q + 1) i.toNat)) := c_ald hh (by have := hB.1; omega) hB.2.2 (show 5 ≤ 65536 by decide) h0 h1
theorem c_bs {q : Nat} (hh : 91 ≤ h.1) (hB : isB q) {i x : Int} (h0 : 0 ≤ i) (h1 : i < 5) : x_ast (cH h G) (q + 1) 0 (zI i) (zI x) = some (cH h (up2 G (q + 1) i.toNat x)) := c_ast hh (by have := hB.1; omega) hB.2.2 (show 5 ≤ 65536 by decide) h0 h1
theorem c_oo (hh : 91 ≤ h.1) : x_obj (cH h G) 0 7 = some (oF (G 0)) := c_obj hh (by decide) rfl
theorem c_og0 (hh : 91 ≤ h.1) : x_get (cH h G) 0 7 0 = some (.ref 1) := c_get hh (by decide) rfl rfl
theorem c_og1 (hh : 91 ≤ h.1) : x_get (cH h G) 0 7 1 = some (.ref 16) := c_get hh (by decide) rfl rfl
theorem c_og2 (hh : 91 ≤ h.1) : x_get (cH h G) 0 7 2 = some (.ref 31) := c_get hh (by decide) rfl rfl
theorem c_og3 (hh : 91 ≤ h.1) : x_get (cH h G) 0 7 3 = some (.ref 32) := c_get hh (by decide) rfl rfl
theorem c_og4 (hh : 91 ≤ h.1) : x_get (cH h G) 0 7 4 = some (.ref 33) := c_get hh (by decide) rfl rfl
theorem c_og5 (hh : 91 ≤ h.1) : x_get (cH h G) 0 7 5 = some (.ref 37) := c_get hh (by decide) rfl rfl
theorem c_og6 (hh : 91 ≤ h.1) : x_get (cH h G) 0 7 6 = some (.ref 56) := c_get hh (by decide) rfl rfl
theorem c_og7 (hh : 91 ≤ h.1) : x_get (cH h G) 0 7 7 = some (.int (zI (G 0 7))) := c_get hh (by decide) rfl rfl
theorem c_op7 (hh : 91 ≤ h.1) {x : Int} : x_put (cH h G) 0 7 7 (.int (zI x)) = some (cH h (up2 G 0 7 x)) := c_put (F := oF) hh (by decide) (fun _ => rfl) (show 7 < 10 by decide) rfl
theorem c_og8 (hh : 91 ≤ h.1) : x_get (cH h G) 0 7 8 = some (.int (zI (G 0 8))) := c_get hh (by decide) rfl rfl
theorem c_op8 (hh : 91 ≤ h.1) {x : Int} : x_put (cH h G) 0 7 8 (.int (zI x)) = some (cH h (up2 G 0 8 x)) := c_put (F := oF) hh (by decide) (fun _ => rfl) (show 8 < 10 by decide) rfl
theorem c_og9 (hh : 91 ≤ h.1) : x_get (cH h G) 0 7 9 = some (.int (zI (G 0 9))) := c_get hh (by decide) rfl rfl
theorem c_op9 (hh : 91 ≤ h.1) {x : Int} : x_put (cH h G) 0 7 9 (.int (zI x)) = some (cH h (up2 G 0 9 x)) := c_put (F := oF) hh (by decide) (fun _ => rfl) (show 9 < 10 by decide) rfl
theorem c_ko (hh : 91 ≤ h.1) : x_obj (cH h G) 33 1 = some (kF (G 33)) := c_obj hh (by decide) rfl
theorem c_kg0 (hh : 91 ≤ h.1) : x_get (cH h G) 33 1 0 = some (.int (zI (G 33 0))) := c_get hh (by decide) rfl rfl
theorem c_kp0 (hh : 91 ≤ h.1) {x : Int} : x_put (cH h G) 33 1 0 (.int (zI x)) = some (cH h (up2 G 33 0 x)) := c_put (F := kF) hh (by decide) (fun _ => rfl) (show 0 < 7 by decide) rfl
theorem c_kg1 (hh : 91 ≤ h.1) : x_get (cH h G) 33 1 1 = some (.int (zI (G 33 1))) := c_get hh (by decide) rfl rfl
theorem c_kp1 (hh : 91 ≤ h.1) {x : Int} : x_put (cH h G) 33 1 1 (.int (zI x)) = some (cH h (up2 G 33 1 x)) := c_put (F := kF) hh (by decide) (fun _ => rfl) (show 1 < 7 by decide) rfl
theorem c_kg2 (hh : 91 ≤ h.1) : x_get (cH h G) 33 1 2 = some (.ref 34) := c_get hh (by decide) rfl rfl
theorem c_kg3 (hh : 91 ≤ h.1) : x_get (cH h G) 33 1 3 = some (.ref 35) := c_get hh (by decide) rfl rfl
theorem c_kg4 (hh : 91 ≤ h.1) : x_get (cH h G) 33 1 4 = some (.ref 36) := c_get hh (by decide) rfl rfl
theorem c_kg5 (hh : 91 ≤ h.1) : x_get (cH h G) 33 1 5 = some (.int (zI (G 33 5))) := c_get hh (by decide) rfl rfl
theorem c_kp5 (hh : 91 ≤ h.1) {x : Int} : x_put (cH h G) 33 1 5 (.int (zI x)) = some (cH h (up2 G 33 5 x)) := c_put (F := kF) hh (by decide) (fun _ => rfl) (show 5 < 7 by decide) rfl
theorem c_kg6 (hh : 91 ≤ h.1) : x_get (cH h G) 33 1 6 = some (.int (zI (G 33 6))) := c_get hh (by decide) rfl rfl
theorem c_kp6 (hh : 91 ≤ h.1) {x : Int} : x_put (cH h G) 33 1 6 (.int (zI x)) = some (cH h (up2 G 33 6 x)) := c_put (F := kF) hh (by decide) (fun _ => rfl) (show 6 < 7 by decide) rfl
theorem c_wo (hh : 91 ≤ h.1) : x_obj (cH h G) 37 6 = some (wF (G 37)) := c_obj hh (by decide) rfl
theorem c_wg0 (hh : 91 ≤ h.1) : x_get (cH h G) 37 6 0 = some (.ref 38) := c_get hh (by decide) rfl rfl
theorem c_wg1 (hh : 91 ≤ h.1) : x_get (cH h G) 37 6 1 = some (.int (zI (G 37 1))) := c_get hh (by decide) rfl rfl
theorem c_wp1 (hh : 91 ≤ h.1) {x : Int} : x_put (cH h G) 37 6 1 (.int (zI x)) = some (cH h (up2 G 37 1 x)) := c_put (F := wF) hh (by decide) (fun _ => rfl) (show 1 < 9 by decide) rfl
theorem c_wg2 (hh : 91 ≤ h.1) : x_get (cH h G) 37 6 2 = some (.int (zI (G 37 2))) := c_get hh (by decide) rfl rfl
theorem c_wp2 (hh : 91 ≤ h.1) {x : Int} : x_put (cH h G) 37 6 2 (.int (zI x)) = some (cH h (up2 G 37 2 x)) := c_put (F := wF) hh (by decide) (fun _ => rfl) (show 2 < 9 by decide) rfl
theorem c_wg3 (hh : 91 ≤ h.1) : x_get (cH h G) 37 6 3 = some (.int (zI (G 37 3))) := c_get hh (by decide) rfl rfl
theorem c_wp3 (hh : 91 ≤ h.1) {x : Int} : x_put (cH h G) 37 6 3 (.int (zI x)) = some (cH h (up2 G 37 3 x)) := c_put (F := wF) hh (by decide) (fun _ => rfl) (show 3 < 9 by decide) rfl
theorem c_wg4 (hh : 91 ≤ h.1) : x_get (cH h G) 37 6 4 = some (.ref 39) := c_get hh (by decide) rfl rfl
theorem c_wg5 (hh : 91 ≤ h.1) : x_get (cH h G) 37 6 5 = some (.ref 40) := c_get hh (by decide) rfl rfl
theorem c_wg6 (hh : 91 ≤ h.1) : x_get (cH h G) 37 6 6 = some (.ref 41) := c_get hh (by decide) rfl rfl
theorem c_wg7 (hh : 91 ≤ h.1) : x_get (cH h G) 37 6 7 = some (.int (zI (G 37 7))) := c_get hh (by decide) rfl rfl
theorem c_wp7 (hh : 91 ≤ h.1) {x : Int} : x_put (cH h G) 37 6 7 (.int (zI x)) = some (cH h (up2 G 37 7 x)) := c_put (F := wF) hh (by decide) (fun _ => rfl) (show 7 < 9 by decide) rfl
theorem c_wg8 (hh : 91 ≤ h.1) : x_get (cH h G) 37 6 8 = some (.int (zI (G 37 8))) := c_get hh (by decide) rfl rfl
theorem c_wp8 (hh : 91 ≤ h.1) {x : Int} : x_put (cH h G) 37 6 8 (.int (zI x)) = some (cH h (up2 G 37 8 x)) := c_put (F := wF) hh (by decide) (fun _ => rfl) (show 8 < 9 by decide) rfl
theorem c_po (hh : 91 ≤ h.1) : x_obj (cH h G) 56 4 = some (pF (G 56)) := c_obj hh (by decide) rfl
theorem c_pg0 (hh : 91 ≤ h.1) : x_get (cH h G) 56 4 0 = some (.int (zI (G 56 0))) := c_get hh (by decide) rfl rfl
theorem c_pp0 (hh : 91 ≤ h.1) {x : Int} : x_put (cH h G) 56 4 0 (.int (zI x)) = some (cH h (up2 G 56 0 x)) := c_put (F := pF) hh (by decide) (fun _ => rfl) (show 0 < 8 by decide) rfl
theorem c_pg1 (hh : 91 ≤ h.1) : x_get (cH h G) 56 4 1 = some (.int (zI (G 56 1))) := c_get hh (by decide) rfl rfl
theorem c_pp1 (hh : 91 ≤ h.1) {x : Int} : x_put (cH h G) 56 4 1 (.int (zI x)) = some (cH h (up2 G 56 1 x)) := c_put (F := pF) hh (by decide) (fun _ => rfl) (show 1 < 8 by decide) rfl
theorem c_pg2 (hh : 91 ≤ h.1) : x_get (cH h G) 56 4 2 = some (.int (zI (G 56 2))) := c_get hh (by decide) rfl rfl
theorem c_pp2 (hh : 91 ≤ h.1) {x : Int} : x_put (cH h G) 56 4 2 (.int (zI x)) = some (cH h (up2 G 56 2 x)) := c_put (F := pF) hh (by decide) (fun _ => rfl) (show 2 < 8 by decide) rfl
theorem c_pg3 (hh : 91 ≤ h.1) : x_get (cH h G) 56 4 3 = some (.ref 57) := c_get hh (by decide) rfl rfl
theorem c_pg4 (hh : 91 ≤ h.1) : x_get (cH h G) 56 4 4 = some (.ref 58) := c_get hh (by decide) rfl rfl
theorem c_pg5 (hh : 91 ≤ h.1) : x_get (cH h G) 56 4 5 = some (.ref 59) := c_get hh (by decide) rfl rfl
theorem c_pg6 (hh : 91 ≤ h.1) : x_get (cH h G) 56 4 6 = some (.int (zI (G 56 6))) := c_get hh (by decide) rfl rfl
theorem c_pp6 (hh : 91 ≤ h.1) {x : Int} : x_put (cH h G) 56 4 6 (.int (zI x)) = some (cH h (up2 G 56 6 x)) := c_put (F := pF) hh (by decide) (fun _ => rfl) (show 6 < 8 by decide) rfl
theorem c_pg7 (hh : 91 ≤ h.1) : x_get (cH h G) 56 4 7 = some (.int (zI (G 56 7))) := c_get hh (by decide) rfl rfl
theorem c_pp7 (hh : 91 ≤ h.1) {x : Int} : x_put (cH h G) 56 4 7 (.int (zI x)) = some (cH h (up2 G 56 7 x)) := c_put (F := pF) hh (by decide) (fun _ => rfl) (show 7 < 8 by decide) rfl
theorem c_r32 (hh : 91 ≤ h.1) {i : Int} (h0 : 0 ≤ i) (h1 : i < 2) : x_ald (cH h G) 32 1 (zI i) = some (zI (G 32 i.toNat)) := c_ald hh (by decide) (fun _ => rfl) (show 2 ≤ 65536 by decide) h0 h1
theorem c_s32 (hh : 91 ≤ h.1) {i x : Int} (h0 : 0 ≤ i) (h1 : i < 2) : x_ast (cH h G) 32 1 (zI i) (zI x) = some (cH h (up2 G 32 i.toNat x)) := c_ast hh (by decide) (fun _ => rfl) (show 2 ≤ 65536 by decide) h0 h1
theorem c_r34 (hh : 91 ≤ h.1) {i : Int} (h0 : 0 ≤ i) (h1 : i < 200) : x_ald (cH h G) 34 0 (zI i) = some (zI (G 34 i.toNat)) := c_ald hh (by decide) (fun _ => rfl) (show 200 ≤ 65536 by decide) h0 h1
theorem c_s34 (hh : 91 ≤ h.1) {i x : Int} (h0 : 0 ≤ i) (h1 : i < 200) : x_ast (cH h G) 34 0 (zI i) (zI x) = some (cH h (up2 G 34 i.toNat x)) := c_ast hh (by decide) (fun _ => rfl) (show 200 ≤ 65536 by decide) h0 h1
theorem c_r35 (hh : 91 ≤ h.1) {i : Int} (h0 : 0 ≤ i) (h1 : i < 40) : x_ald (cH h G) 35 0 (zI i) = some (zI (G 35 i.toNat)) := c_ald hh (by decide) (fun _ => rfl) (show 40 ≤ 65536 by decide) h0 h1
theorem c_s35 (hh : 91 ≤ h.1) {i x : Int} (h0 : 0 ≤ i) (h1 : i < 40) : x_ast (cH h G) 35 0 (zI i) (zI x) = some (cH h (up2 G 35 i.toNat x)) := c_ast hh (by decide) (fun _ => rfl) (show 40 ≤ 65536 by decide) h0 h1
theorem c_r36 (hh : 91 ≤ h.1) {i : Int} (h0 : 0 ≤ i) (h1 : i < 160) : x_ald (cH h G) 36 0 (zI i) = some (zI (G 36 i.toNat)) := c_ald hh (by decide) (fun _ => rfl) (show 160 ≤ 65536 by decide) h0 h1
theorem c_s36 (hh : 91 ≤ h.1) {i x : Int} (h0 : 0 ≤ i) (h1 : i < 160) : x_ast (cH h G) 36 0 (zI i) (zI x) = some (cH h (up2 G 36 i.toNat x)) := c_ast hh (by decide) (fun _ => rfl) (show 160 ≤ 65536 by decide) h0 h1
theorem c_r38 (hh : 91 ≤ h.1) {i : Int} (h0 : 0 ≤ i) (h1 : i < 6) : x_ald (cH h G) 38 0 (zI i) = some (zI (G 38 i.toNat)) := c_ald hh (by decide) (fun _ => rfl) (show 6 ≤ 65536 by decide) h0 h1
theorem c_s38 (hh : 91 ≤ h.1) {i x : Int} (h0 : 0 ≤ i) (h1 : i < 6) : x_ast (cH h G) 38 0 (zI i) (zI x) = some (cH h (up2 G 38 i.toNat x)) := c_ast hh (by decide) (fun _ => rfl) (show 6 ≤ 65536 by decide) h0 h1
theorem c_r40 (hh : 91 ≤ h.1) {i : Int} (h0 : 0 ≤ i) (h1 : i < 125) : x_ald (cH h G) 40 0 (zI i) = some (zI (G 40 i.toNat)) := c_ald hh (by decide) (fun _ => rfl) (show 125 ≤ 65536 by decide) h0 h1
theorem c_s40 (hh : 91 ≤ h.1) {i x : Int} (h0 : 0 ≤ i) (h1 : i < 125) : x_ast (cH h G) 40 0 (zI i) (zI x) = some (cH h (up2 G 40 i.toNat x)) := c_ast hh (by decide) (fun _ => rfl) (show 125 ≤ 65536 by decide) h0 h1
theorem c_r41 (hh : 91 ≤ h.1) {i : Int} (h0 : 0 ≤ i) (h1 : i < 6) : x_ald (cH h G) 41 0 (zI i) = some (zI (G 41 i.toNat)) := c_ald hh (by decide) (fun _ => rfl) (show 6 ≤ 65536 by decide) h0 h1
theorem c_s41 (hh : 91 ≤ h.1) {i x : Int} (h0 : 0 ≤ i) (h1 : i < 6) : x_ast (cH h G) 41 0 (zI i) (zI x) = some (cH h (up2 G 41 i.toNat x)) := c_ast hh (by decide) (fun _ => rfl) (show 6 ≤ 65536 by decide) h0 h1
theorem c_r57 (hh : 91 ≤ h.1) {i : Int} (h0 : 0 ≤ i) (h1 : i < 125) : x_ald (cH h G) 57 0 (zI i) = some (zI (G 57 i.toNat)) := c_ald hh (by decide) (fun _ => rfl) (show 125 ≤ 65536 by decide) h0 h1
theorem c_s57 (hh : 91 ≤ h.1) {i x : Int} (h0 : 0 ≤ i) (h1 : i < 125) : x_ast (cH h G) 57 0 (zI i) (zI x) = some (cH h (up2 G 57 i.toNat x)) := c_ast hh (by decide) (fun _ => rfl) (show 125 ≤ 65536 by decide) h0 h1
theorem c_r58 (hh : 91 ≤ h.1) {i : Int} (h0 : 0 ≤ i) (h1 : i < 5) : x_ald (cH h G) 58 0 (zI i) = some (zI (G 58 i.toNat)) := c_ald hh (by decide) (fun _ => rfl) (show 5 ≤ 65536 by decide) h0 h1
theorem c_s58 (hh : 91 ≤ h.1) {i x : Int} (h0 : 0 ≤ i) (h1 : i < 5) : x_ast (cH h G) 58 0 (zI i) (zI x) = some (cH h (up2 G 58 i.toNat x)) := c_ast hh (by decide) (fun _ => rfl) (show 5 ≤ 65536 by decide) h0 h1
theorem c_q31 (hh : 91 ≤ h.1) {i : Int} (h0 : 0 ≤ i) (h1 : i < 2) : x_qld (cH h G) 31 (zI i) = some (.ref (61 + 15 * i.toNat)) := c_qld (f := fun j => 61 + 15 * j) hh (by decide) (fun _ => rfl) (by decide) (show 2 ≤ 65536 by decide) h0 h1
theorem c_q39 (hh : 91 ≤ h.1) {i : Int} (h0 : 0 ≤ i) (h1 : i < 7) : x_qld (cH h G) 39 (zI i) = some (.ref (42 + 2 * i.toNat)) := c_qld (f := fun j => 42 + 2 * j) hh (by decide) (fun _ => rfl) (by decide) (show 7 ≤ 65536 by decide) h0 h1
end
-- @GLOBAL HG = c_ho hh hO, c_hg0 hh hO, c_hg1 hh hO, c_hg2 hh hO, c_hg3 hh hO, c_hg4 hh hO, c_hg5 hh hO, c_hg6 hh hO, c_hg7 hh hO, c_hg8 hh hO, c_hg9 hh hO, c_hg10 hh hO, c_hq hh hO, c_hbg0 hh hO, c_hbg1 hh hO, c_hbo hh hO, c_hno hh hO, c_hng0 hh hO, c_hng1 hh hO, c_hng2 hh hO, c_hng3 hh hO, c_hng4 hh hO, c_hdo hh hO, c_hdg0 hh hO, c_hdg1 hh hO, c_hdg2 hh hO, c_hdg3 hh hO, c_hdg4 hh hO, c_hdg5 hh hO
-- @GLOBAL HP = c_hp4 hh hO, c_hp5 hh hO, c_hp6 hh hO, c_hp7 hh hO, c_hp8 hh hO, c_hp9 hh hO, c_hp10 hh hO, c_hbp hh hO, c_hnp hh hO, c_hdp0 hh hO, c_hdp1 hh hO, c_hdp2 hh hO, c_hdp3 hh hO, c_hdp4 hh hO, c_hdp5 hh hO
-- @GLOBAL HR = c_hr3 hh hO, c_hr5 hh hO, c_hr6 hh hO, c_hr7 hh hO, c_hr8 hh hO, c_hr9 hh hO
-- @GLOBAL HS = c_hs3 hh hO, c_hs5 hh hO, c_hs6 hh hO, c_hs7 hh hO, c_hs8 hh hO, c_hs9 hh hO
-- @GLOBAL BG = c_bg0 hh, c_bg1 hh, c_bo hh, c_bp hh, c_br hh, c_bs hh
-- @GLOBAL FG = c_oo hh, c_og0 hh, c_og1 hh, c_og2 hh, c_og3 hh, c_og4 hh, c_og5 hh, c_og6 hh, c_og7 hh, c_og8 hh, c_og9 hh, c_ko hh, c_kg0 hh, c_kg1 hh, c_kg2 hh, c_kg3 hh, c_kg4 hh, c_kg5 hh, c_kg6 hh, c_wo hh, c_wg0 hh, c_wg1 hh, c_wg2 hh, c_wg3 hh, c_wg4 hh, c_wg5 hh, c_wg6 hh, c_wg7 hh, c_wg8 hh, c_po hh, c_pg0 hh, c_pg1 hh, c_pg2 hh, c_pg3 hh, c_pg4 hh, c_pg5 hh, c_pg6 hh, c_pg7 hh, c_q31 hh, c_q39 hh
-- @GLOBAL FP = c_op7 hh, c_op8 hh, c_op9 hh, c_kp0 hh, c_kp1 hh, c_kp5 hh, c_kp6 hh, c_wp1 hh, c_wp2 hh, c_wp3 hh, c_wp7 hh, c_wp8 hh, c_pp0 hh, c_pp1 hh, c_pp2 hh, c_pp6 hh, c_pp7 hh
-- @GLOBAL FR = c_r32 hh, c_r34 hh, c_r35 hh, c_r36 hh, c_r38 hh, c_r40 hh, c_r41 hh, c_r57 hh, c_r58 hh
-- @GLOBAL FS = c_s32 hh, c_s34 hh, c_s35 hh, c_s36 hh, c_s38 hh, c_s40 hh, c_s41 hh, c_s57 hh, c_s58 hh
-- @GLOBAL HALL = c_ho hh hO, c_hg0 hh hO, c_hg1 hh hO, c_hg2 hh hO, c_hg3 hh hO, c_hg4 hh hO, c_hg5 hh hO, c_hg6 hh hO, c_hg7 hh hO, c_hg8 hh hO, c_hg9 hh hO, c_hg10 hh hO, c_hq hh hO, c_hbg0 hh hO, c_hbg1 hh hO, c_hbo hh hO, c_hno hh hO, c_hng0 hh hO, c_hng1 hh hO, c_hng2 hh hO, c_hng3 hh hO, c_hng4 hh hO, c_hdo hh hO, c_hdg0 hh hO, c_hdg1 hh hO, c_hdg2 hh hO, c_hdg3 hh hO, c_hdg4 hh hO, c_hdg5 hh hO, c_hp4 hh hO, c_hp5 hh hO, c_hp6 hh hO, c_hp7 hh hO, c_hp8 hh hO, c_hp9 hh hO, c_hp10 hh hO, c_hbp hh hO, c_hnp hh hO, c_hdp0 hh hO, c_hdp1 hh hO, c_hdp2 hh hO, c_hdp3 hh hO, c_hdp4 hh hO, c_hdp5 hh hO, c_hr3 hh hO, c_hr5 hh hO, c_hr6 hh hO, c_hr7 hh hO, c_hr8 hh hO, c_hr9 hh hO, c_hs3 hh hO, c_hs5 hh hO, c_hs6 hh hO, c_hs7 hh hO, c_hs8 hh hO, c_hs9 hh hO, zI_add, zI_sub, zI_mul, zI_neg, zL_add, zL_sub, zL_mul, Option.bind_some, Option.toList_some, Option.toList_none, List.cons_append, List.nil_append, zI_lt, zI_le, zI_eq, zI_eq0, zI_lt0, zI_le0, zI_0lt, zI_0le, bZ_e0, Int.add_zero, Int.zero_add
-- @GLOBAL HALL2 = c_ho hh hP, c_hg0 hh hP, c_hg1 hh hP, c_hg2 hh hP, c_hg3 hh hP, c_hg4 hh hP, c_hg5 hh hP, c_hg6 hh hP, c_hg7 hh hP, c_hg8 hh hP, c_hg9 hh hP, c_hg10 hh hP, c_hq hh hP, c_hbg0 hh hP, c_hbg1 hh hP, c_hbo hh hP, c_hno hh hP, c_hng0 hh hP, c_hng1 hh hP, c_hng2 hh hP, c_hng3 hh hP, c_hng4 hh hP, c_hdo hh hP, c_hdg0 hh hP, c_hdg1 hh hP, c_hdg2 hh hP, c_hdg3 hh hP, c_hdg4 hh hP, c_hdg5 hh hP, c_hp4 hh hP, c_hp5 hh hP, c_hp6 hh hP, c_hp7 hh hP, c_hp8 hh hP, c_hp9 hh hP, c_hp10 hh hP, c_hbp hh hP, c_hnp hh hP, c_hdp0 hh hP, c_hdp1 hh hP, c_hdp2 hh hP, c_hdp3 hh hP, c_hdp4 hh hP, c_hdp5 hh hP, c_hr3 hh hP, c_hr5 hh hP, c_hr6 hh hP, c_hr7 hh hP, c_hr8 hh hP, c_hr9 hh hP, c_hs3 hh hP, c_hs5 hh hP, c_hs6 hh hP, c_hs7 hh hP, c_hs8 hh hP, c_hs9 hh hP
-- @GLOBAL FALL = c_oo hh, c_og0 hh, c_og1 hh, c_og2 hh, c_og3 hh, c_og4 hh, c_og5 hh, c_og6 hh, c_og7 hh, c_og8 hh, c_og9 hh, c_ko hh, c_kg0 hh, c_kg1 hh, c_kg2 hh, c_kg3 hh, c_kg4 hh, c_kg5 hh, c_kg6 hh, c_wo hh, c_wg0 hh, c_wg1 hh, c_wg2 hh, c_wg3 hh, c_wg4 hh, c_wg5 hh, c_wg6 hh, c_wg7 hh, c_wg8 hh, c_po hh, c_pg0 hh, c_pg1 hh, c_pg2 hh, c_pg3 hh, c_pg4 hh, c_pg5 hh, c_pg6 hh, c_pg7 hh, c_q31 hh, c_q39 hh, c_op7 hh, c_op8 hh, c_op9 hh, c_kp0 hh, c_kp1 hh, c_kp5 hh, c_kp6 hh, c_wp1 hh, c_wp2 hh, c_wp3 hh, c_wp7 hh, c_wp8 hh, c_pp0 hh, c_pp1 hh, c_pp2 hh, c_pp6 hh, c_pp7 hh, c_r32 hh, c_r34 hh, c_r35 hh, c_r36 hh, c_r38 hh, c_r40 hh, c_r41 hh, c_r57 hh, c_r58 hh, c_s32 hh, c_s34 hh, c_s35 hh, c_s36 hh, c_s38 hh, c_s40 hh, c_s41 hh, c_s57 hh, c_s58 hh

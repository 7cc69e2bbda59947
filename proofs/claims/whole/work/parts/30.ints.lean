/-! WHOLE NUMBERS behind the machine's ints: zI z, zL z -/
theorem zI_add (a b : Int) : zI a + zI b = zI (a + b) := (Int32.ofInt_add a b).symm
theorem zI_sub (a b : Int) : zI a - zI b = zI (a - b) := (Int32.ofInt_sub a b).symm
theorem zI_mul (a b : Int) : zI a * zI b = zI (a * b) := (Int32.ofInt_mul a b).symm
theorem zI_neg (a : Int) : -zI a = zI (-a) := (Int32.ofInt_neg a).symm
theorem zL_add (a b : Int) : zL a + zL b = zL (a + b) := (Int64.ofInt_add a b).symm
theorem zL_sub (a b : Int) : zL a - zL b = zL (a - b) := (Int64.ofInt_sub a b).symm
theorem zL_mul (a b : Int) : zL a * zL b = zL (a * b) := (Int64.ofInt_mul a b).symm
theorem zI_0 : (0 : Int32) = zI 0 := rfl
theorem zI_of (x : Int32) : x = zI x.toInt := (Int32.ofInt_toInt x).symm
theorem zI_of2 (x : Int32) : ∃ z : Int, x = zI z ∧ -2147483648 ≤ z ∧ z < 2147483648 := ⟨x.toInt, zI_of x, by have := Int32.le_toInt x; omega, by have := Int32.toInt_lt x; omega⟩
theorem zL_of2 (x : Int64) : ∃ z : Int, x = zL z ∧ -9223372036854775808 ≤ z ∧ z < 9223372036854775808 := ⟨x.toInt, (Int64.ofInt_toInt x).symm, by have := Int64.le_toInt x; omega, by have := Int64.toInt_lt x; omega⟩
theorem zI_toInt {a : Int} (h1 : -2147483648 ≤ a) (h2 : a < 2147483648) : (zI a).toInt = a := Int32.toInt_ofInt_of_le (by omega) (by omega)
theorem zL_toInt {a : Int} (h1 : -9223372036854775808 ≤ a) (h2 : a < 9223372036854775808) : (zL a).toInt = a := Int64.toInt_ofInt_of_le (by omega) (by omega)
theorem zI_lt {a b : Int} (h1 : -2147483648 ≤ a) (h2 : a < 2147483648) (h3 : -2147483648 ≤ b) (h4 : b < 2147483648) : zI a < zI b ↔ a < b := by rw [Int32.lt_iff_toInt_lt, zI_toInt h1 h2, zI_toInt h3 h4]
theorem zI_le {a b : Int} (h1 : -2147483648 ≤ a) (h2 : a < 2147483648) (h3 : -2147483648 ≤ b) (h4 : b < 2147483648) : zI a ≤ zI b ↔ a ≤ b := by rw [Int32.le_iff_toInt_le, zI_toInt h1 h2, zI_toInt h3 h4]
theorem zI_eq {a b : Int} (h1 : -2147483648 ≤ a) (h2 : a < 2147483648) (h3 : -2147483648 ≤ b) (h4 : b < 2147483648) : zI a = zI b ↔ a = b := ⟨fun h => by have := congrArg Int32.toInt h; rwa [zI_toInt h1 h2, zI_toInt h3 h4] at this, fun h => by rw [h]⟩
theorem zI_eq0 {a : Int} (h1 : -2147483648 ≤ a) (h2 : a < 2147483648) : zI a = 0 ↔ a = 0 := by rw [zI_0]; exact zI_eq h1 h2 (by decide) (by decide)
theorem zI_lt0 {a : Int} (h1 : -2147483648 ≤ a) (h2 : a < 2147483648) : zI a < 0 ↔ a < 0 := by rw [zI_0]; exact zI_lt h1 h2 (by decide) (by decide)
theorem zI_le0 {a : Int} (h1 : -2147483648 ≤ a) (h2 : a < 2147483648) : zI a ≤ 0 ↔ a ≤ 0 := by rw [zI_0]; exact zI_le h1 h2 (by decide) (by decide)
theorem zI_0lt {a : Int} (h1 : -2147483648 ≤ a) (h2 : a < 2147483648) : 0 < zI a ↔ 0 < a := by rw [zI_0]; exact zI_lt (by decide) (by decide) h1 h2
theorem zI_0le {a : Int} (h1 : -2147483648 ≤ a) (h2 : a < 2147483648) : 0 ≤ zI a ↔ 0 ≤ a := by rw [zI_0]; exact zI_le (by decide) (by decide) h1 h2
theorem zI_ne0 {a : Int} (h1 : -2147483648 ≤ a) (h2 : a < 2147483648) (h : a ≠ 0) : ¬ zI a = 0 := fun q => h ((zI_eq0 h1 h2).mp q)
theorem zL_le {a b : Int} (h1 : -9223372036854775808 ≤ a) (h2 : a < 9223372036854775808) (h3 : -9223372036854775808 ≤ b) (h4 : b < 9223372036854775808) : zL a ≤ zL b ↔ a ≤ b := by rw [Int64.le_iff_toInt_le, zL_toInt h1 h2, zL_toInt h3 h4]
theorem zL_lt {a b : Int} (h1 : -9223372036854775808 ≤ a) (h2 : a < 9223372036854775808) (h3 : -9223372036854775808 ≤ b) (h4 : b < 9223372036854775808) : zL a < zL b ↔ a < b := by rw [Int64.lt_iff_toInt_lt, zL_toInt h1 h2, zL_toInt h3 h4]
theorem zL_eq {a b : Int} (h1 : -9223372036854775808 ≤ a) (h2 : a < 9223372036854775808) (h3 : -9223372036854775808 ≤ b) (h4 : b < 9223372036854775808) : zL a = zL b ↔ a = b := ⟨fun h => by have := congrArg Int64.toInt h; rwa [zL_toInt h1 h2, zL_toInt h3 h4] at this, fun h => by rw [h]⟩
theorem zI_64 {a : Int} (h1 : -2147483648 ≤ a) (h2 : a < 2147483648) : (zI a).toInt64 = zL a := by
  apply Int64.toInt_inj.mp
  rw [Int32.toInt_toInt64, zI_toInt h1 h2, zL_toInt (by omega) (by omega)]
theorem zI_clamp {a : Int} (h1 : -2147483648 ≤ a) (h2 : a < 2147483648) : (zI a).toNatClampNeg = a.toNat := by
  show (zI a).toInt.toNat = a.toNat
  rw [zI_toInt h1 h2]
theorem zI_div {a b : Int} (h1 : 0 ≤ a) (h2 : a < 2147483648) (h3 : 0 < b) (h4 : b < 2147483648) : zI a / zI b = zI (a / b) := by
  apply Int32.toInt_inj.mp
  have hb : zI b ≠ -1 := fun q => by
    have := congrArg Int32.toInt q
    rw [zI_toInt (by omega) (by omega)] at this
    have e : (-1 : Int32).toInt = -1 := by decide
    omega
  have hd : 0 ≤ a / b := Int.ediv_nonneg h1 (by omega)
  have hd2 : a / b ≤ a := Int.ediv_le_self b h1
  rw [Int32.toInt_div_of_ne_right _ _ hb, zI_toInt (by omega) (by omega), zI_toInt (by omega) (by omega), zI_toInt (by omega) (by omega), Int.tdiv_eq_ediv_of_nonneg h1]
theorem zI_tdiv {a b : Int} (h1 : -2147483648 < a) (h2 : a < 2147483648) (h3 : 0 < b) (h4 : b < 2147483648) : zI a / zI b = zI (a.tdiv b) := by
  apply Int32.toInt_inj.mp
  have hb : zI b ≠ -1 := fun q => by
    have := congrArg Int32.toInt q
    rw [zI_toInt (by omega) (by omega)] at this
    have e : (-1 : Int32).toInt = -1 := by decide
    omega
  have hd : (a.tdiv b).natAbs ≤ a.natAbs := Int.natAbs_tdiv_le_natAbs a b
  rw [Int32.toInt_div_of_ne_right _ _ hb, zI_toInt (by omega) (by omega), zI_toInt (by omega) (by omega), zI_toInt (by omega) (by omega)]
theorem zI_rem {a b : Int} (h1 : 0 ≤ a) (h2 : a < 2147483648) (h3 : 0 < b) (h4 : b < 2147483648) : zI a - zI a / zI b * zI b = zI (a % b) := by
  rw [zI_div h1 h2 h3 h4, zI_mul, zI_sub]
  congr 1
  have := Int.mul_ediv_add_emod a b
  have e : a / b * b = b * (a / b) := Int.mul_comm _ _
  omega
theorem zI_ite {p : Prop} [Decidable p] (a b : Int) : (if p then zI a else zI b) = zI (if p then a else b) := by
  by_cases h : p
  · rw [if_pos h, if_pos h]
  · rw [if_neg h, if_neg h]
/-- a truth as a number -/
def bZ (p : Prop) [Decidable p] : Int := if p then 1 else 0
theorem bZ_t {p : Prop} [Decidable p] (h : p) : bZ p = 1 := if_pos h
theorem bZ_f {p : Prop} [Decidable p] (h : ¬ p) : bZ p = 0 := if_neg h
theorem bZ_01 (p : Prop) [Decidable p] : bZ p = 0 ∨ bZ p = 1 := by
  by_cases h : p
  · exact Or.inr (bZ_t h)
  · exact Or.inl (bZ_f h)
theorem bZ_b (p : Prop) [Decidable p] : zI (bZ p) = 0 ∨ zI (bZ p) = 1 := by
  rcases bZ_01 p with h | h
  · left; rw [h]; rfl
  · right; rw [h]; rfl
theorem bZ_e0 (p : Prop) [Decidable p] : zI (bZ p) = 0 ↔ ¬ p := by
  by_cases h : p
  · rw [bZ_t h]
    exact ⟨fun q => absurd q (by decide), fun q => absurd h q⟩
  · rw [bZ_f h]
    exact ⟨fun _ => h, fun _ => rfl⟩
/-- a two-row table with one place changed -/
def up2 (t : Nat → Nat → Int) (r i : Nat) (x : Int) : Nat → Nat → Int := fun r' i' => if r' = r ∧ i' = i then x else t r' i'
theorem up2_s {t : Nat → Nat → Int} {r i : Nat} {x : Int} : up2 t r i x r i = x := if_pos ⟨rfl, rfl⟩
theorem up2_n {t : Nat → Nat → Int} {r i r' i' : Nat} {x : Int} (h : ¬ (r' = r ∧ i' = i)) : up2 t r i x r' i' = t r' i' := if_neg h
theorem x_ald_row {h : xH} {a K n : Nat} {f : Nat → Int32} {i : Int} (hr : x_row h a = some (K, n, f)) (h0 : 0 ≤ i) (h1 : i < n) (hn : n ≤ 65536) : x_ald h a K (zI i) = some (f i.toNat) := by
  unfold x_ald
  rw [hr]
  show (if K = K ∧ ¬ (zI i < 0 ∨ n ≤ (zI i).toNatClampNeg) then some (f (zI i).toNatClampNeg) else none) = _
  have hh : ¬ (zI i < 0 ∨ n ≤ i.toNat) := fun q => by
    rcases q with q | q
    · rw [zI_lt0 (by omega) (by omega)] at q; omega
    · omega
  rw [zI_clamp (by omega) (by omega), if_pos ⟨rfl, hh⟩]
theorem x_ast_row {h : xH} {a K n : Nat} {f : Nat → Int32} {i : Int} {x : Int32} (hr : x_row h a = some (K, n, f)) (h0 : 0 ≤ i) (h1 : i < n) (hn : n ≤ 65536) : x_ast h a K (zI i) x = some (x_set h a (.inl (K, n, .inl (upd f i.toNat x)))) := by
  unfold x_ast
  rw [hr]
  show (if K = K ∧ ¬ (zI i < 0 ∨ n ≤ (zI i).toNatClampNeg) then some _ else none) = _
  have hh : ¬ (zI i < 0 ∨ n ≤ i.toNat) := fun q => by
    rcases q with q | q
    · rw [zI_lt0 (by omega) (by omega)] at q; omega
    · omega
  rw [zI_clamp (by omega) (by omega), if_pos ⟨rfl, hh⟩]
theorem x_row_of {h : xH} {a K n : Nat} {f : Nat → Int32} (ha : a < h.1) (hc : h.2.2 a = .inl (K, n, .inl f)) : x_row h a = some (K, n, f) := by
  unfold x_row x_arr
  rw [if_pos ha, hc]
  rfl
theorem x_obj_of {h : xH} {a ci : Nat} {fs : List Value} (ha : a < h.1) (hc : h.2.2 a = .inr (ci, fs)) : x_obj h a ci = some fs := by
  unfold x_obj
  rw [if_pos ha, hc]
  exact if_pos rfl
theorem x_H_ext {h k : xH} (h1 : h.1 = k.1) (h2 : h.2.1 = k.2.1) (h3 : ∀ q, h.2.2 q = k.2.2 q) : h = k := Prod.ext h1 (Prod.ext h2 (funext h3))

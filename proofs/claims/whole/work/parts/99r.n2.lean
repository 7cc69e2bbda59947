/-! THE COMPONENT, NEW -/
def x_e0 : xH := (0, 0, fun _ => .inr (0, []))
def x_n7 : xH := x_push x_e0 10 (.inr (7, x_new 7))
def x_r7 : Option xE := x_run 2000 (20, n_X7_init, 0, [.ref 0, .null], [], x_n7)
def x_h7 : xH := match x_r7 with
  | some r => r.2
  | none => x_e0
def vI0 (v : Value) : Int := match v with
  | .int x => x.toInt
  | _ => 0
/-- the table of a heap's numbers -/
def xG (H : xH) : Nat → Nat → Int := fun q j => match H.2.2 q with
  | .inr (_, fs) => vI0 (fs.getD j .null)
  | .inl (_, _, .inl f) => (f j).toInt
  | _ => 0
/-- is a cell of the component's shape -/
def ckF (c : xC) (q : Nat) (g : Nat → Int) : Bool := match c, cC g q with
  | .inr (ci, fs), .inr (ci', fs') => decide (ci = ci' ∧ fs = fs')
  | .inl (K, n, .inl _), .inl (K', n', .inl _) => decide (K = K' ∧ n = n')
  | .inl (K, n, .inr (.inr (.inr (.inr f)))), .inl (K', n', .inr (.inr (.inr (.inr f')))) => decide (K = K' ∧ n = n') && (List.range n).all fun j => decide (f j = f' j)
  | _, _ => false
set_option maxRecDepth 1000000 in
theorem x_t7 : (x_r7.map fun r => (r.1, r.2.1)) = some (none, 91) := by decide +kernel
set_option maxRecDepth 1000000 in
theorem x_c7 : (List.range 91).all (fun q => ckF (x_h7.2.2 q) q (xG x_h7 q)) = true := by decide +kernel

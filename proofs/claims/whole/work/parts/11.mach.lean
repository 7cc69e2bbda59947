/-! THE MACHINE AS A FUNCTION: cells, heaps, frames by relative addresses; one step; runs with fuel; the limit 'ev' of the runs. -/
/-- a cell: an array (its kind: 0 int, 1 boolean, 2 Books, 3 Hall, 4 Reader) or an object (its class's number) -/
abbrev xC : Type := (Nat × vp_A) ⊕ (Nat × List Value)
/-- a heap: how many cells, how many slots, the cells -/
abbrev xH : Type := Nat × Nat × (Nat → xC)
/-- a frame: depth left, method, pc, locals, stack, heap -/
abbrev xF : Type := Nat × Nat × Nat × List Value × List Value × xH
abbrev xE : Type := Option Value × xH
abbrev xN : Type := xE ⊕ (xF ⊕ (xF × (xE → xF)))
def x_set (h : xH) (a : Nat) (c : xC) : xH := (h.1, h.2.1, fun q => if q = a then c else h.2.2 q)
def x_push (h : xH) (k : Nat) (c : xC) : xH := (h.1 + 1, h.2.1 + k, fun q => if q = h.1 then c else h.2.2 q)
/-- an object's fields, if the cell is one of that class -/
def x_obj (h : xH) (a ci : Nat) : Option (List Value) := if a < h.1 then (match h.2.2 a with
  | .inr (c, fs) => if c = ci then some fs else none
  | .inl _ => none) else none
def x_arr (h : xH) (a : Nat) : Option (Nat × vp_A) := if a < h.1 then (match h.2.2 a with
  | .inl q => some q
  | .inr _ => none) else none
/-- a row of numbers: its kind, its length, what it holds -/
def x_row (h : xH) (a : Nat) : Option (Nat × Nat × (Nat → Int32)) := (x_arr h a).bind fun q => match q.2.2 with
  | .inl f => some (q.1, q.2.1, f)
  | _ => none
/-- a row of references -/
def x_refs (h : xH) (a : Nat) : Option (Nat × Nat × (Nat → Option Nat)) := (x_arr h a).bind fun q => match q.2.2 with
  | .inr (.inr (.inr (.inr f))) => some (q.1, q.2.1, f)
  | _ => none
def x_get (h : xH) (a ci k : Nat) : Option Value := (x_obj h a ci).bind fun fs => fs[k]?
def x_put (h : xH) (a ci k : Nat) (v : Value) : Option xH := (x_obj h a ci).bind fun fs => if k < fs.length then some (x_set h a (.inr (ci, fs.set k v))) else none
def x_ald (h : xH) (a K : Nat) (i : Int32) : Option Int32 := (x_row h a).bind fun q => if q.1 = K ∧ ¬ (i < 0 ∨ q.2.1 ≤ i.toNatClampNeg) then some (q.2.2 i.toNatClampNeg) else none
def x_ast (h : xH) (a K : Nat) (i x : Int32) : Option xH := (x_row h a).bind fun q => if q.1 = K ∧ ¬ (i < 0 ∨ q.2.1 ≤ i.toNatClampNeg) then some (x_set h a (.inl (q.1, q.2.1, .inl (upd q.2.2 i.toNatClampNeg x)))) else none
def x_qld (h : xH) (a : Nat) (i : Int32) : Option Value := (x_refs h a).bind fun q => if (q.1 = 2 ∨ q.1 = 3 ∨ q.1 = 4) ∧ ¬ (i < 0 ∨ q.2.1 ≤ i.toNatClampNeg) then some (va_rf (q.2.2 i.toNatClampNeg)) else none
/-- the class of a reference row's kind -/
def x_kc (K : Nat) : Nat := if K = 2 then 0 else if K = 3 then 2 else 5
def x_qst (h : xH) (a : Nat) (i : Int32) (v : Nat) : Option xH := (x_refs h a).bind fun q => if (q.1 = 2 ∨ q.1 = 3 ∨ q.1 = 4) ∧ ¬ (i < 0 ∨ q.2.1 ≤ i.toNatClampNeg) then (x_obj h v (x_kc q.1)).bind fun _ => some (x_set h a (.inl (q.1, q.2.1, .inr (.inr (.inr (.inr (va_up q.2.2 i.toNatClampNeg (some v)))))))) else none
def x_len (h : xH) (a : Nat) : Option Int32 := (x_arr h a).bind fun q => if q.1 < 5 then some (Int32.ofNat q.2.1) else none
def x_copy (h : xH) (a0 : Nat) (sp : Int32) (a : Nat) (dp n : Int32) : Option xH := (x_row h a0).bind fun q => (x_row h a).bind fun r =>
  if q.1 = 0 ∧ r.1 = 0 ∧ ¬ sp < 0 ∧ ¬ dp < 0 ∧ ¬ n < 0 ∧ sp.toNatClampNeg + n.toNatClampNeg ≤ q.2.1 ∧ dp.toNatClampNeg + n.toNatClampNeg ≤ r.2.1 then some (x_set h a (.inl (r.1, r.2.1, .inl (va_cpy q.2.2 r.2.2 sp.toNatClampNeg dp.toNatClampNeg n.toNatClampNeg)))) else none
/-- the texts of the class's constants, by their places -/
def x_tx : List (List Int32) := [[104, 97, 108, 108], [115, 104, 101, 108, 102], [114, 101, 97, 100, 101, 114], [108, 97, 109, 112], [111, 105, 108], [115, 116, 114, 105, 110, 103]]
def x_i1 {α : Type} (st : List Value) (f : Int32 → List Value → Option α) : Option α := match st with
  | .int a :: r => f a r
  | _ => none
def x_i2 {α : Type} (st : List Value) (f : Int32 → Int32 → List Value → Option α) : Option α := match st with
  | .int b :: .int a :: r => f a b r
  | _ => none
def x_l1 {α : Type} (st : List Value) (f : Int64 → List Value → Option α) : Option α := match st with
  | .long a :: r => f a r
  | _ => none
def x_l2 {α : Type} (st : List Value) (f : Int64 → Int64 → List Value → Option α) : Option α := match st with
  | .long b :: .long a :: r => f a b r
  | _ => none
def x_li {α : Type} (st : List Value) (f : Int64 → Int32 → List Value → Option α) : Option α := match st with
  | .int b :: .long a :: r => f a b r
  | _ => none
def x_r1 {α : Type} (st : List Value) (f : Nat → List Value → Option α) : Option α := match st with
  | .ref a :: r => f a r
  | _ => none
def x_ir {α : Type} (st : List Value) (f : Int32 → Nat → List Value → Option α) : Option α := match st with
  | .int i :: .ref a :: r => f i a r
  | _ => none
def x_iir {α : Type} (st : List Value) (f : Int32 → Int32 → Nat → List Value → Option α) : Option α := match st with
  | .int x :: .int i :: .ref a :: r => f x i a r
  | _ => none
def x_rir {α : Type} (st : List Value) (f : Nat → Int32 → Nat → List Value → Option α) : Option α := match st with
  | .ref x :: .int i :: .ref a :: r => f x i a r
  | _ => none
def x_v1 {α : Type} (st : List Value) (f : Value → List Value → Option α) : Option α := match st with
  | v :: r => f v r
  | _ => none
/-- a reference: a cell, or a constant text -/
def x_isR (v : Value) : Bool := match v with
  | .ref _ => true
  | .retAddr _ => true
  | _ => false
def x_ln {α : Type} (a b : Nat) (o : Option α) : Option α := if a = b then o else none
def x_to {α : Type} (pc : Nat) (off : Int) (k : Nat → Option α) : Option α := match ((pc : Int) + off) with
  | .ofNat t => k t
  | _ => none
/-- may a local be written at i without breaking a long ahead of it -/
def x_ok (ls : List Value) (i : Nat) : Bool := decide (i < ls.length) && (match i with
  | 0 => true
  | j + 1 => match ls[j]? with
    | some v => v.category == 1
    | none => false)
def x_sl (vs : List Value) : List Value := vs.flatMap fun v => if v.category = 2 then [v, .null] else [v]
/-- the locals at a method's entry -/
def x_ent (n : Nat) (vs : List Value) : List Value := x_sl vs ++ List.replicate (n - (x_sl vs).length) .null
/-- the default value of a class's fields -/
def x_new (ci : Nat) : List Value := [[.null, .int 0], [.int 0, .int 0, .null, .null, .null, .int 0, .int 0], [.null, .null, .null, .null, .int 0, .int 0, .int 0, .int 0, .int 0, .int 0, .int 0], [.null, .null, .null, .null, .int 0], [.int 0, .int 0, .int 0, .null, .null, .null, .int 0, .int 0], [.int 0, .int 0, .int 0, .int 0, .int 0, .int 0], [.null, .int 0, .int 0, .int 0, .null, .null, .null, .int 0, .int 0], [.null, .null, .null, .null, .null, .null, .null, .int 0, .int 0, .int 0], [.null, .null, .null, .int 0, .null, .null, .null, .int 0, .int 0, .int 0, .null, .null, .int 0, .null, .null, .null, .int 0, .int 0, .int 0, .int 0, .long 0]].getD ci []
section
def x_go (d m pc : Nat) (ls st : List Value) (h : xH) : Option xN := some (.inr (.inl (d, m, pc, ls, st, h)))
/-- what a value must be for a field of a type -/
def x_fit (ty : FieldType) (v : Value) : Bool := match ty, v with
  | .int, .int _ => true
  | .long, .long _ => true
  | .array _, .ref _ => true
  | .object _, .ref _ => true
  | _, _ => false
/-- a call of method k: its arguments lie on the stack, the last on top -/
def x_call (d m pc : Nat) (ls : List Value) (k : Nat) (as st : List Value) (h : xH) : Option xN := match d with
  | 0 => none
  | e + 1 => if (st.map fun v => v.category).sum ≤ 8 ∧ (x_sl as).length ≤ (xm k).2.2.2.1 then some (.inr (.inr ((e, k, 0, x_ent (xm k).2.2.2.1 as, [], h), fun r => (e + 1, m, pc + 3, ls, r.1.toList ++ st, r.2)))) else none
/-- n values off the stack, the last that was pushed comes last -/
def x_pop (n : Nat) (st : List Value) : Option (List Value × List Value) := if n ≤ st.length then some ((st.take n).reverse, st.drop n) else none
end
def x_done (v : Option Value) (h : xH) : Option xN := some (.inl (v, h))
/-- one instruction -/
def x_I (d m pc : Nat) (ls st : List Value) (h : xH) (len : Nat) : Instr → Option xN
  | .iconst n => x_ln len 1 (x_go d m (pc + 1) ls (.int (Int32.ofInt n) :: st) h)
  | .bipush n => x_ln len 2 (x_go d m (pc + 2) ls (.int (Int8.ofInt n).toInt32 :: st) h)
  | .sipush n => x_ln len 3 (x_go d m (pc + 3) ls (.int (Int16.ofInt n).toInt32 :: st) h)
  | .lconst n => x_ln len 1 (x_go d m (pc + 1) ls (.long (Int64.ofNat (n : Nat)) :: st) h)
  | .ldc i => x_ln len 2 (match xst (xm m).1 i with
    | some k => x_go d m (pc + 2) ls (.retAddr k :: st) h
    | none => (xit (xm m).1 i).bind fun v => x_go d m (pc + 2) ls (.int v :: st) h)
  | .ldc_w i => x_ln len 3 ((xit (xm m).1 i).bind fun v => x_go d m (pc + 3) ls (.int v :: st) h)
  | .ldc2_w i => x_ln len 3 ((xlg (xm m).1 i).bind fun v => x_go d m (pc + 3) ls (.long v :: st) h)
  | .iload_n n => x_ln len 1 (match ls[(n : Nat)]? with
    | some (.int x) => x_go d m (pc + 1) ls (.int x :: st) h
    | _ => none)
  | .iload i => x_ln len 2 (match ls[i]? with
    | some (.int x) => x_go d m (pc + 2) ls (.int x :: st) h
    | _ => none)
  | .lload_n n => x_ln len 1 (match ls[(n : Nat)]? with
    | some (.long x) => x_go d m (pc + 1) ls (.long x :: st) h
    | _ => none)
  | .lload i => x_ln len 2 (match ls[i]? with
    | some (.long x) => x_go d m (pc + 2) ls (.long x :: st) h
    | _ => none)
  | .aload_n n => x_ln len 1 (match ls[(n : Nat)]? with
    | some v => if x_isR v = true then x_go d m (pc + 1) ls (v :: st) h else none
    | _ => none)
  | .aload i => x_ln len 2 (match ls[i]? with
    | some v => if x_isR v = true then x_go d m (pc + 2) ls (v :: st) h else none
    | _ => none)
  | .istore_n n => x_ln len 1 (x_i1 st fun x r => if x_ok ls n = true then x_go d m (pc + 1) (ls.set n (.int x)) r h else none)
  | .istore i => x_ln len 2 (x_i1 st fun x r => if x_ok ls i = true then x_go d m (pc + 2) (ls.set i (.int x)) r h else none)
  | .lstore_n n => x_ln len 1 (x_l1 st fun x r => if x_ok ls n = true ∧ (n : Nat) + 1 < ls.length then x_go d m (pc + 1) ((ls.set n (.long x)).set (n + 1) .null) r h else none)
  | .astore_n n => x_ln len 1 (x_v1 st fun v r => if x_isR v = true ∧ x_ok ls n = true then x_go d m (pc + 1) (ls.set n v) r h else none)
  | .astore i => x_ln len 2 (x_v1 st fun v r => if x_isR v = true ∧ x_ok ls i = true then x_go d m (pc + 2) (ls.set i v) r h else none)
  | .iinc i n => x_ln len 3 (match ls[i]? with
    | some (.int x) => if x_ok ls i = true then x_go d m (pc + 3) (ls.set i (.int (x + Int32.ofInt n))) st h else none
    | _ => none)
  | .iadd => x_ln len 1 (x_i2 st fun x y r => x_go d m (pc + 1) ls (.int (x + y) :: r) h)
  | .isub => x_ln len 1 (x_i2 st fun x y r => x_go d m (pc + 1) ls (.int (x - y) :: r) h)
  | .imul => x_ln len 1 (x_i2 st fun x y r => x_go d m (pc + 1) ls (.int (x * y) :: r) h)
  | .idiv => x_ln len 1 (x_i2 st fun x y r => if y = 0 then none else x_go d m (pc + 1) ls (.int (x / y) :: r) h)
  | .irem => x_ln len 1 (x_i2 st fun x y r => if y = 0 then none else x_go d m (pc + 1) ls (.int (x - x / y * y) :: r) h)
  | .ineg => x_ln len 1 (x_i1 st fun x r => x_go d m (pc + 1) ls (.int (-x) :: r) h)
  | .iand => x_ln len 1 (x_i2 st fun x y r => x_go d m (pc + 1) ls (.int (x &&& y) :: r) h)
  | .ior => x_ln len 1 (x_i2 st fun x y r => x_go d m (pc + 1) ls (.int (x ||| y) :: r) h)
  | .ixor => x_ln len 1 (x_i2 st fun x y r => x_go d m (pc + 1) ls (.int (x ^^^ y) :: r) h)
  | .ishl => x_ln len 1 (x_i2 st fun x y r => x_go d m (pc + 1) ls (.int (x <<< (y &&& 31)) :: r) h)
  | .ishr => x_ln len 1 (x_i2 st fun x y r => x_go d m (pc + 1) ls (.int (x >>> (y &&& 31)) :: r) h)
  | .iushr => x_ln len 1 (x_i2 st fun x y r => x_go d m (pc + 1) ls (.int (x.toUInt32 >>> (y.toUInt32 &&& Int32.toUInt32 31)).toInt32 :: r) h)
  | .ladd => x_ln len 1 (x_l2 st fun x y r => x_go d m (pc + 1) ls (.long (x + y) :: r) h)
  | .lsub => x_ln len 1 (x_l2 st fun x y r => x_go d m (pc + 1) ls (.long (x - y) :: r) h)
  | .lmul => x_ln len 1 (x_l2 st fun x y r => x_go d m (pc + 1) ls (.long (x * y) :: r) h)
  | .land => x_ln len 1 (x_l2 st fun x y r => x_go d m (pc + 1) ls (.long (x &&& y) :: r) h)
  | .lshr => x_ln len 1 (x_li st fun x y r => x_go d m (pc + 1) ls (.long (x >>> (y.toInt64 &&& 63)) :: r) h)
  | .i2l => x_ln len 1 (x_i1 st fun x r => x_go d m (pc + 1) ls (.long x.toInt64 :: r) h)
  | .l2i => x_ln len 1 (x_l1 st fun x r => x_go d m (pc + 1) ls (.int x.toInt32 :: r) h)
  | .lcmp => x_ln len 1 (x_l2 st fun x y r => x_go d m (pc + 1) ls (.int (lg_cmp x y) :: r) h)
  | .dup => x_ln len 1 (x_v1 st fun v r => if v.category = 1 then x_go d m (pc + 1) ls (v :: v :: r) h else none)
  | .dup2 => x_ln len 1 (x_v1 st fun v r => x_v1 r fun w q => if v.category = 1 ∧ w.category = 1 then x_go d m (pc + 1) ls (v :: w :: v :: w :: q) h else none)
  | .pop => x_ln len 1 (x_v1 st fun v r => if v.category = 1 then x_go d m (pc + 1) ls r h else none)
  | .goto off => x_ln len 3 (x_to pc off fun t => x_go d m t ls st h)
  | .if_icmp .eq off => x_ln len 3 (x_i2 st fun x y r => x_to pc off fun t => if x = y then x_go d m t ls r h else x_go d m (pc + 3) ls r h)
  | .if_icmp .ne off => x_ln len 3 (x_i2 st fun x y r => x_to pc off fun t => if x = y then x_go d m (pc + 3) ls r h else x_go d m t ls r h)
  | .if_icmp .lt off => x_ln len 3 (x_i2 st fun x y r => x_to pc off fun t => if x < y then x_go d m t ls r h else x_go d m (pc + 3) ls r h)
  | .if_icmp .ge off => x_ln len 3 (x_i2 st fun x y r => x_to pc off fun t => if y ≤ x then x_go d m t ls r h else x_go d m (pc + 3) ls r h)
  | .if_icmp .gt off => x_ln len 3 (x_i2 st fun x y r => x_to pc off fun t => if y < x then x_go d m t ls r h else x_go d m (pc + 3) ls r h)
  | .if_icmp .le off => x_ln len 3 (x_i2 st fun x y r => x_to pc off fun t => if x ≤ y then x_go d m t ls r h else x_go d m (pc + 3) ls r h)
  | .ifCond .eq off => x_ln len 3 (x_i1 st fun x r => x_to pc off fun t => if x = 0 then x_go d m t ls r h else x_go d m (pc + 3) ls r h)
  | .ifCond .ne off => x_ln len 3 (x_i1 st fun x r => x_to pc off fun t => if x = 0 then x_go d m (pc + 3) ls r h else x_go d m t ls r h)
  | .ifCond .lt off => x_ln len 3 (x_i1 st fun x r => x_to pc off fun t => if x < 0 then x_go d m t ls r h else x_go d m (pc + 3) ls r h)
  | .ifCond .ge off => x_ln len 3 (x_i1 st fun x r => x_to pc off fun t => if 0 ≤ x then x_go d m t ls r h else x_go d m (pc + 3) ls r h)
  | .ifCond .gt off => x_ln len 3 (x_i1 st fun x r => x_to pc off fun t => if 0 < x then x_go d m t ls r h else x_go d m (pc + 3) ls r h)
  | .ifCond .le off => x_ln len 3 (x_i1 st fun x r => x_to pc off fun t => if x ≤ 0 then x_go d m t ls r h else x_go d m (pc + 3) ls r h)
  | .tableswitch dflt lo hi offs => x_i1 st fun x r => if x.toInt < lo ∨ hi < x.toInt then x_to pc dflt fun t => x_go d m t ls r h else (offs[(x.toInt - lo).toNat]?).bind fun off => x_to pc off fun t => x_go d m t ls r h
  | .lookupswitch dflt ps => x_i1 st fun x r => if (ps.toList.zip (ps.toList.drop 1)).all (fun (a, next) => a.1 < next.1) = true then x_to pc (Op.lookupswitch.offset ps.toList dflt x.toInt) fun t => x_go d m t ls r h else none
  | .getfield i => x_ln len 3 ((xf (xm m).1 i).bind fun q => x_r1 st fun a r => (x_get h a q.1 q.2).bind fun v => x_go d m (pc + 3) ls (v :: r) h)
  | .putfield i => x_ln len 3 ((xf (xm m).1 i).bind fun q => x_v1 st fun v r => x_r1 r fun a r => (vwCl[q.1]?).bind fun c => (parseFieldDescriptor (c.2.1 q.2).2.2.1).bind fun ty =>
      if x_fit ty v = true ∧ ((c.2.1 q.2).2.2.2 = true → (xm m).2.1.name = "<init>" ∧ q.1 = (xm m).1) then (x_put h a q.1 q.2 v).bind fun h1 => x_go d m (pc + 3) ls r h1 else none)
  | .iaload => x_ln len 1 (x_ir st fun i a r => (x_ald h a 0 i).bind fun v => x_go d m (pc + 1) ls (.int v :: r) h)
  | .baload => x_ln len 1 (x_ir st fun i a r => (x_ald h a 1 i).bind fun v => x_go d m (pc + 1) ls (.int v :: r) h)
  | .aaload => x_ln len 1 (x_ir st fun i a r => (x_qld h a i).bind fun v => x_go d m (pc + 1) ls (v :: r) h)
  | .iastore => x_ln len 1 (x_iir st fun x i a r => (x_ast h a 0 i x).bind fun h1 => x_go d m (pc + 1) ls r h1)
  | .bastore => x_ln len 1 (x_iir st fun x i a r => (x_ast h a 1 i (vp_nar .boolean x)).bind fun h1 => x_go d m (pc + 1) ls r h1)
  | .aastore => x_ln len 1 (x_rir st fun x i a r => (x_qst h a i x).bind fun h1 => x_go d m (pc + 1) ls r h1)
  | .arraylength => x_ln len 1 (x_r1 st fun a r => (x_len h a).bind fun v => x_go d m (pc + 1) ls (.int v :: r) h)
  | .new i => x_ln len 3 ((xnw (xm m).1 i).bind fun ci => x_go d m (pc + 3) ls (.ref h.1 :: st) (x_push h (x_new ci).length (.inr (ci, x_new ci))))
  | .newarray .int => x_ln len 2 (x_i1 st fun n r => if n < 0 ∨ 65536 < n.toNatClampNeg then none else x_go d m (pc + 2) ls (.ref h.1 :: r) (x_push h n.toNatClampNeg (.inl (0, n.toNatClampNeg, .inl fun _ => 0))))
  | .newarray .boolean => x_ln len 2 (x_i1 st fun n r => if n < 0 ∨ 65536 < n.toNatClampNeg then none else x_go d m (pc + 2) ls (.ref h.1 :: r) (x_push h n.toNatClampNeg (.inl (1, n.toNatClampNeg, .inl fun _ => 0))))
  | .anewarray i => x_ln len 3 ((xnw (xm m).1 i).bind fun ci => x_i1 st fun n r => if n < 0 ∨ 65536 < n.toNatClampNeg ∨ ¬ (ci = 0 ∨ ci = 2 ∨ ci = 5) then none else x_go d m (pc + 3) ls (.ref h.1 :: r) (x_push h n.toNatClampNeg (.inl (if ci = 0 then 2 else if ci = 2 then 3 else 4, n.toNatClampNeg, .inr (.inr (.inr (.inr fun _ => none)))))))
  | .invokestatic i => x_ln len 3 ((xmt (xm m).1 i).bind fun q => match d with
    | 0 => none
    | _ + 1 => if q.1 ≤ 1 then (if (xm q.2).2.2.2.2.2.1 = 0 then (x_pop (xm q.2).2.2.2.2.2.2 st).bind fun p => x_call d m pc ls q.2 p.1 p.2 h else none)
      else if q.1 = 3 then x_i2 st fun x y r => if (r.map fun v => v.category).sum ≤ 8 then x_go d m (pc + 3) ls (.int (if x < y then y else x) :: r) h else none
      else if q.1 = 4 then x_i2 st fun x y r => if (r.map fun v => v.category).sum ≤ 8 then x_go d m (pc + 3) ls (.int (if y < x then y else x) :: r) h else none
      else if q.1 = 5 then x_i1 st fun x r => if (r.map fun v => v.category).sum ≤ 8 then x_go d m (pc + 3) ls (.int (if 0 ≤ x then x else 0 - x) :: r) h else none
      else if q.1 = 6 then x_i2 st fun dp n r => x_r1 r fun a r => x_ir r fun sp a0 r => if (r.map fun v => v.category).sum ≤ 8 then (x_copy h a0 sp a dp n).bind fun h1 => x_go d m (pc + 3) ls r h1 else none
      else none)
  | .invokevirtual i => x_ln len 3 ((xmt (xm m).1 i).bind fun q => match d with
    | 0 => none
    | _ + 1 => if q.1 = 0 then (if (xm q.2).2.2.2.2.2.1 = 1 then (x_pop (xm q.2).2.2.2.2.2.2 st).bind fun p => x_r1 p.2 fun a r => (x_obj h a (xm q.2).1).bind fun _ => x_call d m pc ls q.2 (.ref a :: p.1) r h else none)
      else if q.1 = 7 then (match st with
        | .retAddr k :: r => if (r.map fun v => v.category).sum ≤ 8 then (x_tx[k]?).bind fun t => x_go d m (pc + 3) ls (.int (nI t.length) :: r) h else none
        | _ => none)
      else if q.1 = 8 then (match st with
        | .int j :: .retAddr k :: r => if (r.map fun v => v.category).sum ≤ 8 then (x_tx[k]?).bind fun t => if j < 0 then none else (t[j.toNatClampNeg]?).bind fun v => x_go d m (pc + 3) ls (.int v :: r) h else none
        | _ => none)
      else none)
  | .invokespecial i => x_ln len 3 ((xmt (xm m).1 i).bind fun q => match d with
    | 0 => none
    | _ + 1 => if q.1 ≤ 1 then (if (xm q.2).2.2.2.2.2.1 = 2 then (x_pop (xm q.2).2.2.2.2.2.2 st).bind fun p => x_r1 p.2 fun a r => x_call d m pc ls q.2 (.ref a :: p.1) r h else none)
      else if q.1 = 2 then x_r1 st fun _ r => if (r.map fun v => v.category).sum ≤ 8 then x_go d m (pc + 3) ls r h else none
      else none)
  | .ireturn => x_ln len 1 (match st, (xm m).2.2.2.2.1 with
    | [.int v], some .int => x_done (some (.int v)) h
    | [.int v], some .boolean => if v = 0 ∨ v = 1 then x_done (some (.int v)) h else none
    | _, _ => none)
  | .lreturn => x_ln len 1 (match st, (xm m).2.2.2.2.1 with
    | [.long v], some .long => x_done (some (.long v)) h
    | _, _ => none)
  | .areturn => x_ln len 1 (match st, (xm m).2.2.2.2.1 with
    | [v], some (.object _) => if x_isR v = true then x_done (some v) h else none
    | _, _ => none)
  | .return_ => x_ln len 1 (match st, (xm m).2.2.2.2.1 with
    | [], none => x_done none h
    | _, _ => none)
  | _ => none
def x_nxt (f : xF) : Option xN := match decode (xm f.2.1).2.2.1 f.2.2.1 with
  | .ok (i, len) => x_I f.1 f.2.1 f.2.2.1 f.2.2.2.1 f.2.2.2.2.1 f.2.2.2.2.2 len i
  | .error _ => none
/-- a run with fuel -/
def x_run : Nat → xF → Option xE
  | 0, _ => none
  | n + 1, f => match x_nxt f with
    | none => none
    | some (.inl r) => some r
    | some (.inr (.inl g)) => x_run n g
    | some (.inr (.inr (g, k))) => (x_run n g).bind fun r => x_run n (k r)
theorem x_run_mono : ∀ (n : Nat) (f : xF) (r : xE), x_run n f = some r → x_run (n + 1) f = some r := by
  intro n
  induction n with
  | zero => intro f r h; cases h
  | succ n ih =>
    intro f r h
    rw [x_run] at h ⊢
    cases e : x_nxt f with
    | none => rw [e] at h; cases h
    | some y =>
      rw [e] at h
      match y, h with
      | .inl q, h => exact h
      | .inr (.inl g), h => exact ih g r h
      | .inr (.inr (g, k)), h =>
        obtain ⟨q, h1, h2⟩ := Option.bind_eq_some_iff.mp h
        exact Option.bind_eq_some_iff.mpr ⟨q, ih g q h1, ih (k q) r h2⟩
theorem x_run_le {n k : Nat} (hk : n ≤ k) {f : xF} {r : xE} (h : x_run n f = some r) : x_run k f = some r := by
  induction k with
  | zero =>
    have : n = 0 := by omega
    subst this
    exact h
  | succ k ih =>
    by_cases q : n = k + 1
    · subst q; exact h
    · exact x_run_mono k f r (ih (by omega))
/-- the answer of a frame, if some fuel brings one -/
noncomputable def x_ev (f : xF) : Option xE := @dite (Option xE) (∃ (r : xE) (n : Nat), x_run n f = some r) (Classical.propDecidable _) (fun h => some h.choose) (fun _ => none)
theorem x_ev_iff {f : xF} {r : xE} : x_ev f = some r ↔ ∃ n, x_run n f = some r := by
  unfold x_ev
  split
  · rename_i h
    obtain ⟨n, hn⟩ := h.choose_spec
    constructor
    · intro q
      cases q
      exact ⟨n, hn⟩
    · intro ⟨k, hk⟩
      have a := x_run_le (Nat.le_max_left n k) hn
      have b := x_run_le (Nat.le_max_right n k) hk
      rw [a] at b
      exact b
  · rename_i h
    constructor
    · intro q; cases q
    · intro ⟨k, hk⟩; exact absurd ⟨r, k, hk⟩ h
theorem x_ev_none {f : xF} (h : ∀ (r : xE) (n : Nat), x_run n f ≠ some r) : x_ev f = none := by
  cases e : x_ev f with
  | none => rfl
  | some r =>
    obtain ⟨n, hn⟩ := x_ev_iff.mp e
    exact absurd hn (h r n)
theorem x_ev_eq {f g : xF} (h : ∀ r : xE, (∃ n, x_run n f = some r) ↔ ∃ n, x_run n g = some r) : x_ev f = x_ev g := by
  cases e : x_ev g with
  | none =>
    refine x_ev_none fun r n hn => ?_
    have := x_ev_iff.mpr ((h r).mp ⟨n, hn⟩)
    rw [e] at this
    cases this
  | some r => exact x_ev_iff.mpr ((h r).mpr (x_ev_iff.mp e))
theorem x_go_ev {f g : xF} (h : x_nxt f = some (.inr (.inl g))) : x_ev f = x_ev g := by
  refine x_ev_eq fun r => ⟨fun ⟨n, hn⟩ => ?_, fun ⟨n, hn⟩ => ⟨n + 1, by rw [x_run, h]; exact hn⟩⟩
  cases n with
  | zero => cases hn
  | succ n => rw [x_run, h] at hn; exact ⟨n, hn⟩
theorem x_done_ev {f : xF} {r : xE} (h : x_nxt f = some (.inl r)) : x_ev f = some r := x_ev_iff.mpr ⟨1, by rw [x_run, h]⟩
theorem x_stuck_ev {f : xF} (h : x_nxt f = none) : x_ev f = none := x_ev_none fun r n hn => by
  cases n with
  | zero => cases hn
  | succ n => rw [x_run, h] at hn; cases hn
theorem x_call_ev {f g : xF} {k : xE → xF} (h : x_nxt f = some (.inr (.inr (g, k)))) : x_ev f = (x_ev g).bind fun r => x_ev (k r) := by
  cases e : x_ev g with
  | none =>
    refine x_ev_none fun r n hn => ?_
    cases n with
    | zero => cases hn
    | succ n =>
      rw [x_run, h] at hn
      obtain ⟨q, h1, -⟩ := Option.bind_eq_some_iff.mp hn
      have := x_ev_iff.mpr ⟨n, h1⟩
      rw [e] at this
      cases this
  | some q =>
    obtain ⟨a, ha⟩ := x_ev_iff.mp e
    show x_ev f = x_ev (k q)
    refine x_ev_eq fun r => ⟨fun ⟨n, hn⟩ => ?_, fun ⟨n, hn⟩ => ⟨a + n + 1, ?_⟩⟩
    · cases n with
      | zero => cases hn
      | succ n =>
        rw [x_run, h] at hn
        obtain ⟨q', h1, h2⟩ := Option.bind_eq_some_iff.mp hn
        have e1 := x_ev_iff.mpr ⟨n, h1⟩
        rw [e] at e1
        cases e1
        exact ⟨n, h2⟩
    · rw [x_run, h]
      exact Option.bind_eq_some_iff.mpr ⟨q, x_run_le (by omega) ha, x_run_le (by omega) hn⟩
/-- a step whose next frame hangs on a part of the heap -/
theorem x_bind_ev {α : Type} {f : xF} {o : Option α} {g : α → xF} (h : x_nxt f = o.bind fun v => some (.inr (.inl (g v)))) : x_ev f = o.bind fun v => x_ev (g v) := by
  cases o with
  | none => exact x_stuck_ev h
  | some v => exact x_go_ev h
theorem x_if_ev {f g1 g2 : xF} {p : Prop} [Decidable p] (h : x_nxt f = if p then some (.inr (.inl g1)) else some (.inr (.inl g2))) : x_ev f = if p then x_ev g1 else x_ev g2 := by
  by_cases hp : p
  · rw [if_pos hp] at h ⊢; exact x_go_ev h
  · rw [if_neg hp] at h ⊢; exact x_go_ev h
theorem x_if1_ev {f g1 : xF} {p : Prop} [Decidable p] (h : x_nxt f = if p then some (.inr (.inl g1)) else none) (hp : p) : x_ev f = x_ev g1 := by
  rw [if_pos hp] at h; exact x_go_ev h
theorem x_nif_ev {f g1 : xF} {p : Prop} [Decidable p] (h : x_nxt f = if p then none else some (.inr (.inl g1))) (hp : ¬ p) : x_ev f = x_ev g1 := by
  rw [if_neg hp] at h; exact x_go_ev h
theorem x_nx {d m pc : Nat} {ls st : List Value} {h : xH} {cc : ByteArray} {i : Instr} {len : Nat} {o : Option xN} (hc : (xm m).2.2.1 = cc) (hd : decode cc pc = .ok (i, len)) (ho : x_I d m pc ls st h len i = o) : x_nxt (d, m, pc, ls, st, h) = o := by
  unfold x_nxt
  show (match decode (xm m).2.2.1 pc with | .ok (i, len) => x_I d m pc ls st h len i | .error _ => none) = o
  rw [hc, hd]
  exact ho
/-- a call of a method: its answer and the heap behind it -/
noncomputable def x_cl (d k : Nat) (as : List Value) (h : xH) : Option xE := x_ev (d, k, 0, x_ent (xm k).2.2.2.1 as, [], h)

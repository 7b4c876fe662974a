/-! THE J MACHINE: a small machine of my own over cells that are numbers and rows of values; its steps are tied to the JVM's once, in general (parts 04 ..), so that a method's behaviour is said and proved over it alone. -/
/-- a cell: its tag, its length, what it holds -/
abbrev jC : Type := Nat × Nat × (Nat → Value)
/-- cells by address; the next address; how many slots were taken -/
abbrev jS : Type := (Nat → Option jC) × Nat × Nat
abbrev jL : Type := List (Option Value)
/-- how a method ends: returned, or threw an object of the class of that number -/
abbrev jO : Type := Option Value ⊕ Nat
abbrev jX : Type := Nat × jL × List Value × jS
abbrev jN : Type := Option (jX ⊕ (jO × jS))
def jnx (pc : Nat) (L : jL) (st : List Value) (σ : jS) : jN := some (.inl (pc, L, st, σ))
def jdn (o : jO) (σ : jS) : jN := some (.inr (o, σ))
def jup (h : Nat → Option jC) (a : Nat) (c : jC) : Nat → Option jC := fun b => if b = a then some c else h b
def jset (σ : jS) (a : Nat) (c : jC) : jS := (jup σ.1 a c, σ.2)
def jnew (σ : jS) (c : jC) (n : Nat) : jS := (jup σ.1 σ.2.1 c, σ.2.1 + 1, σ.2.2 + n)
def jkill (L : jL) (i : Nat) : jL := match i with
  | 0 => L
  | j + 1 => match L[j]? with
    | some (some v) => if v.category = 2 then L.set j none else L
    | _ => L
def jst1 (L : jL) (i : Nat) (v : Value) : jL := (jkill L i).set i (some v)
def jst2 (L : jL) (i : Nat) (v : Value) : jL := ((jkill L i).set i (some v)).set (i + 1) none
def jcat (st : List Value) : Nat := (st.map fun v => v.category).sum
def jfits : FieldType → Value → Bool
  | .int, .int _ => true
  | .long, .long _ => true
  | .boolean, .int x => x == 0 || x == 1
  | .object _, .ref _ => true
  | .object _, .null => true
  | .array _, .ref _ => true
  | .array _, .null => true
  | .byte, .int x => x == 0
  | .char, .int x => x.toUInt32.toUInt16.toUInt32.toInt32 == x && (decide (0 ≤ x) && decide (x ≤ 65535))
  | _, _ => false
/-- the classes: names, field tables, how many fields, how many slots -/
def jRN (k : Nat) : String := match k with
  | 0 => RX0 | 1 => RX1 | 2 => RX2 | 3 => RX3 | 4 => RX4 | 5 => RX5 | 6 => RX6 | 7 => RX7 | 8 => RX8 | 9 => RX9 | 10 => RX10 | 11 => RX11 | 12 => RX12 | 13 => RL | 27 => "java/lang/String" | 28 => "java/lang/StringLatin1" | 29 => "jdk/internal/util/Preconditions" | _ => RJ7
def jTX (k : Nat) : u_T := match k with
  | 0 => TX0 | 1 => TX1 | 2 => TX2 | 3 => TX3 | 4 => TX4 | 5 => TX5 | 6 => TX6 | 7 => TX7 | 8 => TX8 | 9 => TX9 | 10 => TX10 | 11 => TX11 | _ => TX12
def jTy (k : Nat) : Nat → FieldType := match k with
  | 0 => tyX0 | 1 => tyX1 | 2 => tyX2 | 3 => tyX3 | 4 => tyX4 | 5 => tyX5 | 6 => tyX6 | 7 => tyX7 | 8 => tyX8 | 9 => tyX9 | 10 => tyX10 | 11 => tyX11 | _ => tyX12
def jNf (k : Nat) : Nat := match k with
  | 0 => 13 | 1 => 5 | 2 => 15 | 3 => 3 | 4 => 10 | 5 => 18 | 6 => 7 | 7 => 8 | 8 => 16 | 9 => 13 | 10 => 14 | 11 => 6 | 12 => 101 | _ => 0
/-- how many fields are kept in sight -/
def jNt (k : Nat) : Nat := jNf k
/-- array tags -/
def jAt (k : Nat) : FieldType := match k with
  | 20 => .int | 21 => .long | 22 => .byte | 23 => .boolean | 24 => .object RX2 | _ => .int
def jAk : ArrayType → Option Nat
  | .int => some 20 | .long => some 21 | .byte => some 22 | .boolean => some 23 | _ => none
/-- the texts that are read -/
def jtx (t : Nat) : List Nat := match t with
  | 0 => [112, 114, 111, 99, 101, 115, 115, 32, 108, 101, 116, 32, 115, 116, 97, 114, 116, 32, 115, 116, 97, 116, 101, 32, 111, 110, 32, 102, 105, 114, 115, 116, 32, 115, 97, 118, 101, 32, 119, 104, 101, 110, 32, 97, 110, 121, 32, 115, 101, 110, 100, 32, 116, 111, 32, 115, 101, 116, 32, 114, 101, 115, 101, 116, 32, 109, 97, 107, 101, 32, 110, 101, 120, 116, 32, 115, 116, 111, 112, 32, 115, 97, 121, 32, 105, 102, 32, 101, 108, 115, 101, 32, 115, 101, 110, 100, 101, 114, 32, 115, 101, 108, 102, 32, 112, 97, 114, 101, 110, 116, 32, 99, 104, 105, 108, 100, 32, 111, 117, 116, 32, 110, 111, 119, 32]
  | 1 => [123, 125, 40, 41, 59, 44, 61, 60, 43, 45, 42, 62, 58]
  | _ => [112, 114, 111, 99, 101, 115, 115, 32, 108, 101, 116, 32, 115, 116, 97, 114, 116, 32, 115, 116, 97, 116, 101, 32, 111, 110, 32, 102, 105, 114, 115, 116, 32, 115, 97, 118, 101, 32, 97, 110, 121, 32, 115, 101, 110, 100, 32, 116, 111, 32, 115, 101, 116, 32, 114, 101, 115, 101, 116, 32, 109, 97, 107, 101, 32, 110, 101, 120, 116, 32, 115, 116, 111, 112, 32, 115, 97, 121, 32, 105, 102, 32, 101, 108, 115, 101, 32, 115, 101, 110, 100, 101, 114, 32, 115, 101, 108, 102, 32, 112, 97, 114, 101, 110, 116, 32, 99, 104, 105, 108, 100, 32, 111, 117, 116, 32, 110, 111, 119, 32, 119, 104, 101, 110, 32]
/-- which text stands at that address -/
def jtf (A : Nat → Nat) (a : Nat) : Option Nat := if a = A 0 then some 0 else if a = A 1 then some 1 else if a = A 2 then some 2 else none
/-- what the formatter's field holds -/
def jfmt (A : Nat → Nat) : Value := if A 61 = 0 then .ref (A 60) else .null
section JST
variable (C : Nat → List Value → jS → Option (jO × jS)) (A : Nat → Nat) (hs : List (Nat × Nat × Nat × Nat)) (ow na : Nat → Nat) (rt : Option FieldType)
def jget (k pc : Nat) (L : jL) (st : List Value) (σ : jS) : jN := match st with
  | .ref a :: r => match σ.1 a with
    | some c => if c.1 = k / 256 then jnx (pc + 3) L (c.2.2 (k % 256) :: r) σ else none
    | none => none
  | _ => none
def jput (k pc : Nat) (L : jL) (st : List Value) (σ : jS) : jN := match st with
  | v :: .ref a :: r => match σ.1 a with
    | some c => if c.1 = k / 256 ∧ jfits (jTy (k / 256) (k % 256)) v = true then jnx (pc + 3) L r (jset σ a (c.1, c.2.1, updV c.2.2 (k % 256) v)) else none
    | none => none
  | _ => none
def jld (i pc : Nat) (ok : Value → Bool) (L : jL) (st : List Value) (σ : jS) : jN := match L[i]? with
  | some (some v) => if ok v = true then jnx pc L (v :: st) σ else none
  | _ => none
def jisI : Value → Bool | .int _ => true | _ => false
def jisL : Value → Bool | .long _ => true | _ => false
def jisR : Value → Bool | .ref _ => true | .null => true | _ => false
def jsto (i pc : Nat) (ok : Value → Bool) (L : jL) (st : List Value) (σ : jS) : jN := match st with
  | v :: r => if ok v = true ∧ i < L.length then jnx pc (jst1 L i v) r σ else none
  | _ => none
def jstoL (i pc : Nat) (L : jL) (st : List Value) (σ : jS) : jN := match st with
  | .long v :: r => if i + 1 < L.length then jnx pc (jst2 L i (.long v)) r σ else none
  | _ => none
def jbI (f : Int32 → Int32 → Int32) (pc : Nat) (L : jL) (st : List Value) (σ : jS) : jN := match st with
  | .int y :: .int x :: r => jnx pc L (.int (f x y) :: r) σ
  | _ => none
def jbL (f : Int64 → Int64 → Int64) (pc : Nat) (L : jL) (st : List Value) (σ : jS) : jN := match st with
  | .long y :: .long x :: r => jnx pc L (.long (f x y) :: r) σ
  | _ => none
def jbS (f : Int64 → Int32 → Int64) (pc : Nat) (L : jL) (st : List Value) (σ : jS) : jN := match st with
  | .int y :: .long x :: r => jnx pc L (.long (f x y) :: r) σ
  | _ => none
def juI (f : Int32 → Value) (pc : Nat) (L : jL) (st : List Value) (σ : jS) : jN := match st with
  | .int x :: r => jnx pc L (f x :: r) σ
  | _ => none
def jdiv (f : Int32 → Int32 → Int32) (pc : Nat) (L : jL) (st : List Value) (σ : jS) : jN := match st with
  | .int y :: .int x :: r => if y = 0 then none else jnx pc L (.int (f x y) :: r) σ
  | _ => none
def jbr1 (f : Int32 → Bool) (pc : Nat) (o : Int) (L : jL) (st : List Value) (σ : jS) : jN := match st with
  | .int x :: r => if f x = true then jnx o.toNat L r σ else jnx (pc + 3) L r σ
  | _ => none
def jbr2 (f : Int32 → Int32 → Bool) (pc : Nat) (o : Int) (L : jL) (st : List Value) (σ : jS) : jN := match st with
  | .int y :: .int x :: r => if f x y = true then jnx o.toNat L r σ else jnx (pc + 3) L r σ
  | _ => none
def jc1 : ClassFile.Cond → Int32 → Bool
  | .eq, x => decide (x = 0) | .ne, x => decide (¬ x = 0) | .lt, x => decide (x < 0) | .ge, x => decide (0 ≤ x) | .gt, x => decide (0 < x) | .le, x => decide (x ≤ 0)
def jc2 : ClassFile.Cond → Int32 → Int32 → Bool
  | .eq, x, y => decide (x = y) | .ne, x, y => decide (¬ x = y) | .lt, x, y => decide (x < y) | .ge, x, y => decide (y ≤ x) | .gt, x, y => decide (y < x) | .le, x, y => decide (x ≤ y)
def jnul (b : Bool) (pc : Nat) (o : Int) (L : jL) (st : List Value) (σ : jS) : jN := match st with
  | .null :: r => if b = true then jnx o.toNat L r σ else jnx (pc + 3) L r σ
  | .ref _ :: r => if b = true then jnx (pc + 3) L r σ else jnx o.toNat L r σ
  | _ => none
/-- reading an array of the tag t -/
def jald (ok : Nat → Bool) (pc : Nat) (L : jL) (st : List Value) (σ : jS) : jN := match st with
  | .int j :: .ref a :: r => match σ.1 a with
    | some c => if ok c.1 = true ∧ 0 ≤ j ∧ j.toNatClampNeg < c.2.1 then jnx (pc + 1) L (c.2.2 j.toNatClampNeg :: r) σ else none
    | none => none
  | _ => none
def jast (ok : Nat → Bool) (g : Nat → Value → Option Value) (pc : Nat) (L : jL) (st : List Value) (σ : jS) : jN := match st with
  | v :: .int j :: .ref a :: r => match σ.1 a with
    | some c => match g c.1 v with
      | some w => if ok c.1 = true ∧ 0 ≤ j ∧ j.toNatClampNeg < c.2.1 then jnx (pc + 1) L r (jset σ a (c.1, c.2.1, updV c.2.2 j.toNatClampNeg w)) else none
      | none => none
    | none => none
  | _ => none
def jgI : Nat → Value → Option Value | _, .int x => some (.int x) | _, _ => none
def jgL : Nat → Value → Option Value | _, .long x => some (.long x) | _, _ => none
def jgB : Nat → Value → Option Value
  | 22, .int x => some (.int x.toInt8.toInt32)
  | 23, .int x => some (.int (x &&& 1))
  | _, _ => none
/-- only an instance comes into the row of instances -/
def jaast (pc : Nat) (L : jL) (st : List Value) (σ : jS) : jN := match st with
  | .ref q :: .int j :: .ref a :: r => match σ.1 a, σ.1 q with
    | some c, some d => if c.1 = 24 ∧ d.1 = 2 ∧ 0 ≤ j ∧ j.toNatClampNeg < c.2.1 then jnx (pc + 1) L r (jset σ a (c.1, c.2.1, updV c.2.2 j.toNatClampNeg (.ref q))) else none
    | _, _ => none
  | _ => none
def jlen (pc : Nat) (L : jL) (st : List Value) (σ : jS) : jN := match st with
  | .ref a :: r => match σ.1 a with
    | some c => if 20 ≤ c.1 ∧ c.1 < 26 then jnx (pc + 1) L (.int (nI c.2.1) :: r) σ else none
    | none => none
  | _ => none
def jnewa (t len pc : Nat) (L : jL) (st : List Value) (σ : jS) : jN := match st with
  | .int n :: r => if 0 ≤ n ∧ n.toNatClampNeg ≤ 60000000 then jnx (pc + len) L (.ref σ.2.1 :: r) (jnew σ (t, n.toNatClampNeg, fun _ => defaultValue (jAt t)) n.toNatClampNeg) else none
  | _ => none
def jnewc (k pc : Nat) (L : jL) (st : List Value) (σ : jS) : jN := jnx (pc + 3) L (.ref σ.2.1 :: st) (jnew σ (k, jNf k, fun f => defaultValue (jTy k f)) (jNf k))
/-- the handler for an exception of class E at pc: its pc, the local that the exception comes to, the length of that store -/
def jhd (pc E : Nat) : Option Nat := (hs.find? fun q => decide (q.1 ≤ pc) && decide (pc < q.2.1) && decide (q.2.2.2 = E)).map fun q => q.2.2.1
def jthr (code : Nat → Option (Instr × Nat)) (pc E : Nat) (L : jL) (σ : jS) : jN := match jhd hs pc E with
  | none => jdn (.inr E) σ
  | some h => match code h with
    | some (.astore i, n) => if i < L.length then jnx (h + n) ((jkill L i).set i none) [] σ else none
    | some (.astore_n i, n) => if i.val < L.length then jnx (h + n) ((jkill L i.val).set i.val none) [] σ else none
    | _ => none
def jrcv (b n : Nat) (as : List Value) (σ : jS) : Bool := match b with
  | 0 => true
  | _ => match as with
    | .ref a :: _ => if ow n = 27 then (jtf A a).isSome else match σ.1 a with
      | some c => c.1 == ow n
      | none => false
    | _ => false
/-- a call; b: 0 static, 1 of an object, 2 a constructor -/
def jinv (code : Nat → Option (Instr × Nat)) (b n pc : Nat) (L : jL) (st : List Value) (σ : jS) : jN :=
  if na n ≤ st.length ∧ jcat (st.drop (na n)) ≤ 8 ∧ jrcv A ow b n (st.take (na n)).reverse σ = true then
    match C n (st.take (na n)).reverse σ with
    | some (.inl v, τ) => jnx (pc + 3) L (v.toList ++ st.drop (na n)) τ
    | some (.inr E, τ) => if b = 2 then none else jthr hs code pc E L τ
    | none => none
  else none
def jret (ok : Value → Bool) (st : List Value) (σ : jS) : jN := match st, rt with
  | [v], some ty => if ok v = true ∧ jfits ty v = true then jdn (.inl (some v)) σ else none
  | _, _ => none
def jretv (st : List Value) (σ : jS) : jN := match st, rt with
  | [], none => jdn (.inl none) σ
  | _, _ => none
def jdup (pc : Nat) (L : jL) (st : List Value) (σ : jS) : jN := match st with
  | v :: r => if v.category = 1 then jnx (pc + 1) L (v :: v :: r) σ else none
  | _ => none
def jdup2 (pc : Nat) (L : jL) (st : List Value) (σ : jS) : jN := match st with
  | v :: w :: r => if v.category = 1 ∧ w.category = 1 then jnx (pc + 1) L (v :: w :: v :: w :: r) σ else none
  | _ => none
def jpop (pc : Nat) (L : jL) (st : List Value) (σ : jS) : jN := match st with
  | v :: r => if v.category = 1 then jnx (pc + 1) L r σ else none
  | _ => none
def jobj (pc : Nat) (L : jL) (st : List Value) (σ : jS) : jN := match st with
  | .ref _ :: r => if jcat r ≤ 8 then jnx (pc + 3) L r σ else none
  | _ => none
def jcmp (pc : Nat) (L : jL) (st : List Value) (σ : jS) : jN := match st with
  | .long y :: .long x :: r => jnx (pc + 1) L (.int (lg_cmp x y) :: r) σ
  | _ => none
def jl2i (pc : Nat) (L : jL) (st : List Value) (σ : jS) : jN := match st with
  | .long x :: r => jnx (pc + 1) L (.int x.toInt32 :: r) σ
  | _ => none
def jinc (i : Nat) (n : Int) (pc : Nat) (L : jL) (st : List Value) (σ : jS) : jN := match L[i]? with
  | some (some (.int x)) => jnx pc (jst1 L i (.int (x + Int32.ofInt n))) st σ
  | _ => none
def jtab (d lo hi : Int) (os : Array Int) (L : jL) (st : List Value) (σ : jS) : jN := match st with
  | .int x :: r => if x.toInt < lo ∨ hi < x.toInt then jnx d.toNat L r σ else match os[(x.toInt - lo).toNat]? with
    | some t => jnx t.toNat L r σ
    | none => none
  | _ => none
def jlku (d : Int) (ps : Array (Int × Int)) (L : jL) (st : List Value) (σ : jS) : jN := match st with
  | .int x :: r => jnx (Op.lookupswitch.offset ps.toList d x.toInt).toNat L r σ
  | _ => none
def jath (code : Nat → Option (Instr × Nat)) (pc : Nat) (L : jL) (st : List Value) (σ : jS) : jN := match st with
  | .ref a :: _ => match σ.1 a with
    | some c => if c.1 = 11 then jthr hs code pc 11 L σ else none
    | none => none
  | _ => none
/-- throw new E(..), with nothing on the stack -/
def jtnew (E : Nat) (st : List Value) (σ : jS) : jN := match st with
  | [] => jdn (.inr E) (jnew σ (E, 0, fun _ => .null) 6)
  | _ => none
/-- texts: a field (0 its bytes, 1 its coder), the length of its bytes, a byte of them -/
def jgtx (f pc : Nat) (L : jL) (st : List Value) (σ : jS) : jN := match st with
  | .ref a :: r => match jtf A a with
    | some t => jnx (pc + 3) L ((if f = 0 then .ref (A (50 + t)) else .int 0) :: r) σ
    | none => none
  | _ => none
def jtln (pc : Nat) (L : jL) (st : List Value) (σ : jS) : jN := match st with
  | .ref a :: r => match jtf (fun t => A (50 + t)) a with
    | some t => jnx (pc + 1) L (.int (nI (jtx t).length) :: r) σ
    | none => none
  | _ => none
def jtch (pc : Nat) (L : jL) (st : List Value) (σ : jS) : jN := match st with
  | .int j :: .ref a :: r => match jtf (fun t => A (50 + t)) a with
    | some t => if 0 ≤ j ∧ j.toNatClampNeg < (jtx t).length then jnx (pc + 1) L (.int (nI ((jtx t).getD j.toNatClampNeg 0)) :: r) σ else none
    | none => none
  | _ => none
def jmm (f : Int32 → Int32 → Int32) (pc : Nat) (L : jL) (st : List Value) (σ : jS) : jN := match st with
  | .int y :: .int x :: r => if jcat r ≤ 8 then jnx (pc + 3) L (.int (f x y) :: r) σ else none
  | _ => none
/-- System.arraycopy of ints -/
def jacp (pc : Nat) (L : jL) (st : List Value) (σ : jS) : jN := match st with
  | .int n :: .int dp :: .ref b :: .int sp :: .ref a :: r => match σ.1 a, σ.1 b with
    | some c, some d => if jcat r ≤ 8 ∧ c.1 = 20 ∧ d.1 = 20 ∧ 0 ≤ n ∧ 0 ≤ sp ∧ 0 ≤ dp ∧ sp.toNatClampNeg + n.toNatClampNeg ≤ c.2.1 ∧ dp.toNatClampNeg + n.toNatClampNeg ≤ d.2.1 then
        jnx (pc + 3) L r (jset σ b (d.1, d.2.1, va_cpy c.2.2 d.2.2 sp.toNatClampNeg dp.toNatClampNeg n.toNatClampNeg)) else none
    | _, _ => none
  | _ => none
/-- one step. What stands in a method's table is read so: fields, methods, classes and targets by their own numbers; jsr E: throw new E(..); monitorenter: Object's constructor; fload f: field f of a text; fstore, dload: length of a text's bytes, a byte of them; getstatic 0: COMPACT_STRINGS, 1: the formatter; dadd, dsub: Math.min, Math.max; dmul: arraycopy; freturn: Throwable's constructor of a Fault -/
def jstep (code : Nat → Option (Instr × Nat)) (ins : Instr) (len pc : Nat) (L : jL) (st : List Value) (σ : jS) : jN := match ins with
  | .aload i => jld i (pc + len) jisR L st σ
  | .aload_n i => jld i.val (pc + len) jisR L st σ
  | .iload i => jld i (pc + len) jisI L st σ
  | .iload_n i => jld i.val (pc + len) jisI L st σ
  | .lload i => jld i (pc + len) jisL L st σ
  | .lload_n i => jld i.val (pc + len) jisL L st σ
  | .astore i => jsto i (pc + len) jisR L st σ
  | .astore_n i => jsto i.val (pc + len) jisR L st σ
  | .istore i => jsto i (pc + len) jisI L st σ
  | .istore_n i => jsto i.val (pc + len) jisI L st σ
  | .lstore i => jstoL i (pc + len) L st σ
  | .lstore_n i => jstoL i.val (pc + len) L st σ
  | .iinc i n => jinc i n (pc + 3) L st σ
  | .iconst i => jnx (pc + 1) L (.int (Int32.ofInt i) :: st) σ
  | .bipush i => jnx (pc + 2) L (.int (Int32.ofInt i) :: st) σ
  | .sipush i => jnx (pc + 3) L (.int (Int32.ofInt i) :: st) σ
  | .lconst i => jnx (pc + 1) L (.long (Int64.ofNat i.val) :: st) σ
  | .ldc n => jnx (pc + len) L (.int (nI n) :: st) σ
  | .ldc_w t => jnx (pc + len) L (.ref (A t) :: st) σ
  | .getstatic k => jnx (pc + 3) L ((if k = 0 then .int 1 else jfmt A) :: st) σ
  | .ldc2_w n => jnx (pc + 3) L (.long (lN n) :: st) σ
  | .aconst_null => jnx (pc + 1) L (.null :: st) σ
  | .getfield k => jget k pc L st σ
  | .putfield k => jput k pc L st σ
  | .iaload => jald (fun t => t == 20 || t == 25) pc L st σ
  | .laload => jald (fun t => t == 21) pc L st σ
  | .baload => jald (fun t => t == 22 || t == 23) pc L st σ
  | .aaload => jald (fun t => t == 24) pc L st σ
  | .iastore => jast (fun t => t == 20) jgI pc L st σ
  | .lastore => jast (fun t => t == 21) jgL pc L st σ
  | .bastore => jast (fun t => t == 22 || t == 23) jgB pc L st σ
  | .aastore => jaast pc L st σ
  | .arraylength => jlen pc L st σ
  | .newarray k => match jAk k with
    | some t => jnewa t 2 pc L st σ
    | none => none
  | .anewarray _ => jnewa 24 3 pc L st σ
  | .new k => jnewc k pc L st σ
  | .dup => jdup pc L st σ
  | .dup2 => jdup2 pc L st σ
  | .pop => jpop pc L st σ
  | .iadd => jbI (fun x y => x + y) (pc + 1) L st σ
  | .isub => jbI (fun x y => x - y) (pc + 1) L st σ
  | .imul => jbI (fun x y => x * y) (pc + 1) L st σ
  | .iand => jbI (fun x y => x &&& y) (pc + 1) L st σ
  | .ior => jbI (fun x y => x ||| y) (pc + 1) L st σ
  | .ixor => jbI (fun x y => x ^^^ y) (pc + 1) L st σ
  | .ishl => jbI (fun x y => x <<< (y &&& 31)) (pc + 1) L st σ
  | .ishr => jbI (fun x y => x >>> (y &&& 31)) (pc + 1) L st σ
  | .iushr => jbI (fun x y => (x.toUInt32 >>> (y.toUInt32 &&& Int32.toUInt32 31)).toInt32) (pc + 1) L st σ
  | .idiv => jdiv (fun x y => x / y) (pc + 1) L st σ
  | .irem => jdiv (fun x y => x - x / y * y) (pc + 1) L st σ
  | .land => jbL (fun x y => x &&& y) (pc + 1) L st σ
  | .lor => jbL (fun x y => x ||| y) (pc + 1) L st σ
  | .lshl => jbS (fun x y => x <<< (y.toInt64 &&& 63)) (pc + 1) L st σ
  | .lushr => jbS (fun x y => (x.toUInt64 >>> (y.toInt64.toUInt64 &&& Int64.toUInt64 63)).toInt64) (pc + 1) L st σ
  | .lcmp => jcmp pc L st σ
  | .ineg => juI (fun x => .int (-x)) (pc + 1) L st σ
  | .i2l => juI (fun x => .long x.toInt64) (pc + 1) L st σ
  | .i2b => juI (fun x => .int x.toInt8.toInt32) (pc + 1) L st σ
  | .i2c => juI (fun x => .int (x.toUInt32 % 65536).toInt32) (pc + 1) L st σ
  | .l2i => jl2i pc L st σ
  | .ifCond q o => jbr1 (jc1 q) pc o L st σ
  | .if_icmp q o => jbr2 (jc2 q) pc o L st σ
  | .ifnull o => jnul true pc o L st σ
  | .ifnonnull o => jnul false pc o L st σ
  | .goto o => jnx o.toNat L st σ
  | .tableswitch d lo hi os => jtab d lo hi os L st σ
  | .lookupswitch d ps => jlku d ps L st σ
  | .ireturn => jret rt jisI st σ
  | .lreturn => jret rt jisL st σ
  | .areturn => jret rt jisR st σ
  | .return_ => jretv rt st σ
  | .athrow => jath hs code pc L st σ
  | .jsr q => jtnew q.toNat st σ
  | .invokestatic n => jinv C A hs ow na code 0 n pc L st σ
  | .invokevirtual n => jinv C A hs ow na code 1 n pc L st σ
  | .invokespecial n => jinv C A hs ow na code 2 n pc L st σ
  | .monitorenter => jobj pc L st σ
  | .fload f => jgtx A f pc L st σ
  | .fstore _ => jtln A pc L st σ
  | .dload _ => jtch A pc L st σ
  | .dadd => jmm (fun x y => if y < x then y else x) pc L st σ
  | .dsub => jmm (fun x y => if x < y then y else x) pc L st σ
  | .dmul => jacp pc L st σ
  | _ => none
def jexec (code : Nat → Option (Instr × Nat)) : Nat → Nat → jL → List Value → jS → Option (jO × jS)
  | 0, _, _, _, _ => none
  | k + 1, pc, L, st, σ => match code pc with
    | none => none
    | some (ins, len) => match jstep C A hs ow na rt code ins len pc L st σ with
      | none => none
      | some (.inr r) => some r
      | some (.inl (pc', L', st', σ')) => jexec code k pc' L' st' σ'
end JST

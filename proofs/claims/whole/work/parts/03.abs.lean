/-! THE ABSTRACT MACHINE: the class's methods over a world of numbered places; references are places. Its judgement 'wp d n k pc L st w Q': method k at pc, with locals L, operands st, world w, ends within n steps and d calls deep, with an answer and a world that Q holds of. -/
abbrev aL : Type := List (Option Value)
abbrev hW : Type := (Nat → Nat → Int32) × (Nat → Nat → Int64)
abbrev aPost : Type := Option Value → hW → Prop
def wI (w : hW) (p i : Nat) (x : Int32) : hW := (fun q j => if q = p ∧ j = i then x else w.1 q j, w.2)
def wJ (w : hW) (p i : Nat) (x : Int64) : hW := (w.1, fun q j => if q = p ∧ j = i then x else w.2 q j)
def ins (k pc : Nat) : Option (Instr × Nat) := match decode (gCd k) pc with
  | .ok q => some q
  | .error _ => none
def aLd : aL → Nat → Option Value
  | [], _ => none
  | x :: _, 0 => x
  | _ :: L, i + 1 => aLd L i
def okP : Option Value → Bool
  | none => true
  | some (.long _) => false
  | some (.double _) => false
  | some (.int _) => true
  | some (.ref _) => true
  | some _ => true
def okSt (L : aL) (i : Nat) : Bool := decide (i < L.length) && (match i with
  | 0 => true
  | j + 1 => okP (aLd L j))
def spv : List Value → aL
  | [] => []
  | .long x :: vs => some (.long x) :: none :: spv vs
  | .double x :: vs => some (.double x) :: none :: spv vs
  | .int x :: vs => some (.int x) :: spv vs
  | .ref x :: vs => some (.ref x) :: spv vs
  | v :: vs => some v :: spv vs
def padL : Nat → aL → aL
  | 0, _ => []
  | n + 1, [] => none :: padL n []
  | n + 1, x :: L => x :: padL n L
def ldI (L : aL) (i : Nat) (f : Int32 → Prop) : Prop := match aLd L i with
  | some (.int x) => f x
  | _ => False
def ldJ (L : aL) (i : Nat) (f : Int64 → Prop) : Prop := match aLd L i with
  | some (.long x) => f x
  | _ => False
def ldR (L : aL) (i : Nat) (f : Nat → Prop) : Prop := match aLd L i with
  | some (.ref x) => f x
  | _ => False
def sI (st : List Value) (f : Int32 → List Value → Prop) : Prop := match st with
  | .int x :: r => f x r
  | _ => False
def sJ (st : List Value) (f : Int64 → List Value → Prop) : Prop := match st with
  | .long x :: r => f x r
  | _ => False
def sR (st : List Value) (f : Nat → List Value → Prop) : Prop := match st with
  | .ref x :: r => f x r
  | _ => False
def jmp (pc : Nat) (off : Int) (f : Nat → Prop) : Prop := 0 ≤ (pc : Int) + off ∧ f ((pc : Int) + off).toNat
def swT (x : Int32) (f : Int → Prop) (dflt : Int) : Int → List Int → Prop
  | _, [] => f dflt
  | lo, o :: os => if x = Int32.ofInt lo then f o else swT x f dflt (lo + 1) os
def swL (x : Int32) (f : Int → Prop) (dflt : Int) : List (Int × Int) → Prop
  | [] => f dflt
  | (a, o) :: r => if x = Int32.ofInt a then f o else swL x f dflt r
def inb (i : Int32) (n : Nat) : Prop := 0 ≤ i.toInt ∧ i.toInt < n
def popA : Nat → List Value → List Value → (List Value → List Value → Prop) → Prop
  | 0, st, as, f => f as st
  | n + 1, v :: st, as, f => popA n st (v :: as) f
  | _ + 1, [], _, _ => False
def catS : List Value → Nat
  | [] => 0
  | v :: r => v.category + catS r
/-- an entry of a class's pool as a call: kind, method, arguments -/
def gCall (c i : Nat) : Option (Nat × Nat × Nat) := (gCalls.find? fun q => q.1 == c && q.2.1 == i).map fun q => (q.2.2.1, q.2.2.2.1, q.2.2.2.2.1)
/-- a field read at a place: an int's number, or the place that it refers to -/
def gGet (c i p : Nat) : Option (Nat ⊕ Nat) := match gFlds.find? fun q => q.1 == c && q.2.1 == i with
  | none => none
  | some q => match gSh[p]? with
    | some (0, ci, l) => if ci = q.2.2.1 then match l[q.2.2.2.1]? with
      | some none => some (.inl q.2.2.2.1)
      | some (some r) => some (.inr r)
      | none => none
      else none
    | _ => none
/-- a field written at a place: its number, and whether it is a boolean -/
def gPut (c i p : Nat) : Option (Nat × Bool) := match gFlds.find? fun q => q.1 == c && q.2.1 == i with
  | none => none
  | some q => match gSh[p]? with
    | some (0, ci, l) => if ci = q.2.2.1 ∧ (gT ci q.2.2.2.1).2.2.2 = false then match l[q.2.2.2.1]? with
      | some none => if (gT ci q.2.2.2.1).2.2.1 = "I" then some (q.2.2.2.1, false) else if (gT ci q.2.2.2.1).2.2.1 = "Z" then some (q.2.2.2.1, true) else none
      | _ => none
      else none
    | _ => none
/-- the class of the object at a place -/
def gRcv (p : Nat) : Option Nat := match gSh[p]? with
  | some (0, ci, _) => some ci
  | _ => none
/-- an array: ints of the world (1), longs (2), ints of a static (4), and its length -/
def gArr (p : Nat) : Option (Nat × Nat) := match gSh[p]? with
  | some (1, n, _) => some (1, n)
  | some (2, n, _) => some (2, n)
  | _ => if p = 100 ∨ p = 101 ∨ p = 102 then some (4, (gSta p).length) else none
/-- an array of references: its length, and the place of its first -/
def gRows (p : Nat) : Option (Nat × Nat) := if p = 26 then some (8, 27) else none
def gLen (p : Nat) : Option Nat := match gSh[p]? with
  | some (1, n, _) => some n
  | some (2, n, _) => some n
  | some (3, n, _) => some n
  | _ => if p = 100 ∨ p = 101 ∨ p = 102 then some (gSta p).length else none
def gStat (c i : Nat) : Option Nat := (gStats.find? fun q => q.1 == c && q.2.1 == i).map fun q => q.2.2.1
def gCon (c i : Nat) : Option Int32 := (gCons.find? fun q => q.1 == c && q.2.1 == i).map fun q => q.2.2.1
/-- the String constants: their places are 200.., their texts' 210.. -/
def gStrs : List (Nat × Nat × Nat) := [(1, 83, 200), (1, 126, 201), (1, 137, 202), (1, 152, 203), (1, 160, 204), (1, 172, 205)]
def gTxs : List (List Int32) := [[116, 104, 105, 110, 103], [109, 97, 110], [119, 97, 110, 116], [108, 111, 110, 103], [114, 105, 118, 101, 114], [119, 105, 110, 100]]
def gStr (c i : Nat) : Option Nat := (gStrs.find? fun q => q.1 == c && q.2.1 == i).map fun q => q.2.2
def gTx (q : Nat) : Option (List Int32) := if 200 ≤ q then gTxs[q - 200]? else none
def gLdc (c i : Nat) : Option Value := match gCon c i with
  | some x => some (.int x)
  | none => (gStr c i).map Value.ref
def gCoL (c i : Nat) : Option Int64 := (gConL.find? fun q => q.1 == c && q.2.1 == i).map fun q => q.2.2.1
def oo {α : Type} (o : Option α) (f : α → Prop) : Prop := match o with
  | some x => f x
  | none => False
def retI (k : Nat) (x : Int32) (Q : aPost) (w : hW) : Prop := match gRt k with
  | some .int => Q (some (.int x)) w
  | some .boolean => (x = 0 ∨ x = 1) ∧ Q (some (.int x)) w
  | _ => False
/-- System.arraycopy between places -/
def cpyA (p q : Nat) (sp dp n : Int32) (w : hW) (f : hW → Prop) : Prop := match gArr p, gArr q with
  | some (1, n0), some (1, n1) => (¬ sp < 0 ∧ ¬ dp < 0 ∧ ¬ n < 0 ∧ sp.toNatClampNeg + n.toNatClampNeg ≤ n0 ∧ dp.toNatClampNeg + n.toNatClampNeg ≤ n1) ∧ f (fun r => if r = q then va_cpy (w.1 p) (w.1 q) sp.toNatClampNeg dp.toNatClampNeg n.toNatClampNeg else w.1 r, w.2)
  | some (2, n0), some (2, n1) => (¬ sp < 0 ∧ ¬ dp < 0 ∧ ¬ n < 0 ∧ sp.toNatClampNeg + n.toNatClampNeg ≤ n0 ∧ dp.toNatClampNeg + n.toNatClampNeg ≤ n1) ∧ f (w.1, fun r => if r = q then va_cpy (w.2 p) (w.2 q) sp.toNatClampNeg dp.toNatClampNeg n.toNatClampNeg else w.2 r)
  | _, _ => False
/-- a call, by its kind -/
def doC (nx : Nat → aL → List Value → hW → aPost → Prop) (cl : Nat → aL → hW → aPost → Prop) (Q : aPost) (pc : Nat) (L : aL) (st : List Value) (w : hW) : Option (Nat × Nat × Nat) → Prop
  | some (0, c, na) => popA na st [] fun as r => sR r fun p r => gRcv p = some (gOw c) ∧ catS r ≤ 8 ∧ (spv (.ref p :: as)).length ≤ gML c ∧ as.length = na ∧ cl c (padL (gML c) (spv (.ref p :: as))) w fun v w' => nx (pc + 3) L (v.toList ++ r) w' Q
  | some (1, c, na) => popA na st [] fun as r => catS r ≤ 8 ∧ (spv as).length ≤ gML c ∧ as.length = na ∧ cl c (padL (gML c) (spv as)) w fun v w' => nx (pc + 3) L (v.toList ++ r) w' Q
  | some (3, c, na) => popA na st [] fun as r => catS r ≤ 8 ∧ (spv as).length ≤ gML c ∧ as.length = na ∧ cl c (padL (gML c) (spv as)) w fun v w' => nx (pc + 3) L (v.toList ++ r) w' Q
  | some (4, _, _) => sI st fun y r => sI r fun x r => catS r ≤ 8 ∧ nx (pc + 3) L (.int (if y < x then y else x) :: r) w Q
  | some (5, _, _) => sI st fun y r => sI r fun x r => catS r ≤ 8 ∧ nx (pc + 3) L (.int (if x < y then y else x) :: r) w Q
  | some (6, _, _) => sI st fun x r => catS r ≤ 8 ∧ nx (pc + 3) L (.int (if 0 ≤ x then x else 0 - x) :: r) w Q
  | some (7, _, _) => sI st fun n r => sI r fun dp r => sR r fun q r => sI r fun sp r => sR r fun p r => catS r ≤ 8 ∧ cpyA p q sp dp n w fun w' => nx (pc + 3) L r w' Q
  | some (8, _, _) => sR st fun p r => oo (gTx p) fun tx => catS r ≤ 8 ∧ nx (pc + 3) L (.int (Int32.ofNat tx.length) :: r) w Q
  | some (9, _, _) => sI st fun i r => sR r fun p r => oo (gTx p) fun tx => (catS r ≤ 8 ∧ inb i tx.length) ∧ nx (pc + 3) L (.int (tx.getD i.toNatClampNeg 0) :: r) w Q
  | _ => False
def stI (nx : Nat → aL → List Value → hW → aPost → Prop) (cl : Nat → aL → hW → aPost → Prop) (Q : aPost) (k pc : Nat) (L : aL) (st : List Value) (w : hW) (len : Nat) : Instr → Prop
  | .iconst n => len = 1 ∧ nx (pc + 1) L (.int (Int32.ofInt n) :: st) w Q
  | .bipush n => len = 2 ∧ nx (pc + 2) L (.int (Int8.ofInt n).toInt32 :: st) w Q
  | .sipush n => len = 3 ∧ nx (pc + 3) L (.int (Int16.ofInt n).toInt32 :: st) w Q
  | .lconst n => len = 1 ∧ nx (pc + 1) L (.long (Int64.ofNat n) :: st) w Q
  | .ldc i => len = 2 ∧ oo (gLdc (gOw k) i) fun v => nx (pc + 2) L (v :: st) w Q
  | .ldc_w i => len = 3 ∧ oo (gCon (gOw k) i) fun x => nx (pc + 3) L (.int x :: st) w Q
  | .ldc2_w i => len = 3 ∧ oo (gCoL (gOw k) i) fun x => nx (pc + 3) L (.long x :: st) w Q
  | .iload_n n => len = 1 ∧ ldI L n fun x => nx (pc + 1) L (.int x :: st) w Q
  | .iload n => len = 2 ∧ ldI L n fun x => nx (pc + 2) L (.int x :: st) w Q
  | .lload_n n => len = 1 ∧ ldJ L n fun x => nx (pc + 1) L (.long x :: st) w Q
  | .lload n => len = 2 ∧ ldJ L n fun x => nx (pc + 2) L (.long x :: st) w Q
  | .aload_n n => len = 1 ∧ ldR L n fun x => nx (pc + 1) L (.ref x :: st) w Q
  | .aload n => len = 2 ∧ ldR L n fun x => nx (pc + 2) L (.ref x :: st) w Q
  | .istore_n n => len = 1 ∧ sI st fun x r => okSt L n = true ∧ nx (pc + 1) (L.set n (some (.int x))) r w Q
  | .istore n => len = 2 ∧ sI st fun x r => okSt L n = true ∧ nx (pc + 2) (L.set n (some (.int x))) r w Q
  | .lstore n => len = 2 ∧ sJ st fun x r => (okSt L n = true ∧ n + 1 < L.length) ∧ nx (pc + 2) ((L.set n (some (.long x))).set (n + 1) none) r w Q
  | .iinc n c => len = 3 ∧ ldI L n fun x => okSt L n = true ∧ nx (pc + 3) (L.set n (some (.int (x + Int32.ofInt c)))) st w Q
  | .iadd => len = 1 ∧ sI st fun y r => sI r fun x r => nx (pc + 1) L (.int (x + y) :: r) w Q
  | .isub => len = 1 ∧ sI st fun y r => sI r fun x r => nx (pc + 1) L (.int (x - y) :: r) w Q
  | .imul => len = 1 ∧ sI st fun y r => sI r fun x r => nx (pc + 1) L (.int (x * y) :: r) w Q
  | .iand => len = 1 ∧ sI st fun y r => sI r fun x r => nx (pc + 1) L (.int (x &&& y) :: r) w Q
  | .ior => len = 1 ∧ sI st fun y r => sI r fun x r => nx (pc + 1) L (.int (x ||| y) :: r) w Q
  | .ixor => len = 1 ∧ sI st fun y r => sI r fun x r => nx (pc + 1) L (.int (x ^^^ y) :: r) w Q
  | .idiv => len = 1 ∧ sI st fun y r => sI r fun x r => ¬ y = 0 ∧ nx (pc + 1) L (.int (x / y) :: r) w Q
  | .irem => len = 1 ∧ sI st fun y r => sI r fun x r => ¬ y = 0 ∧ nx (pc + 1) L (.int (x - x / y * y) :: r) w Q
  | .ineg => len = 1 ∧ sI st fun x r => nx (pc + 1) L (.int (-x) :: r) w Q
  | .ishl => len = 1 ∧ sI st fun y r => sI r fun x r => nx (pc + 1) L (.int (x <<< (y &&& 31)) :: r) w Q
  | .ishr => len = 1 ∧ sI st fun y r => sI r fun x r => nx (pc + 1) L (.int (x >>> (y &&& 31)) :: r) w Q
  | .iushr => len = 1 ∧ sI st fun y r => sI r fun x r => nx (pc + 1) L (.int (x.toUInt32 >>> (y.toUInt32 &&& Int32.toUInt32 31)).toInt32 :: r) w Q
  | .i2l => len = 1 ∧ sI st fun x r => nx (pc + 1) L (.long x.toInt64 :: r) w Q
  | .l2i => len = 1 ∧ sJ st fun x r => nx (pc + 1) L (.int x.toInt32 :: r) w Q
  | .i2b => len = 1 ∧ sI st fun x r => nx (pc + 1) L (.int x.toInt8.toInt32 :: r) w Q
  | .i2s => len = 1 ∧ sI st fun x r => nx (pc + 1) L (.int x.toInt16.toInt32 :: r) w Q
  | .ladd => len = 1 ∧ sJ st fun y r => sJ r fun x r => nx (pc + 1) L (.long (x + y) :: r) w Q
  | .lmul => len = 1 ∧ sJ st fun y r => sJ r fun x r => nx (pc + 1) L (.long (x * y) :: r) w Q
  | .land => len = 1 ∧ sJ st fun y r => sJ r fun x r => nx (pc + 1) L (.long (x &&& y) :: r) w Q
  | .lor => len = 1 ∧ sJ st fun y r => sJ r fun x r => nx (pc + 1) L (.long (x ||| y) :: r) w Q
  | .lshl => len = 1 ∧ sI st fun y r => sJ r fun x r => nx (pc + 1) L (.long (x <<< (y.toInt64 &&& 63)) :: r) w Q
  | .lcmp => len = 1 ∧ sJ st fun y r => sJ r fun x r => nx (pc + 1) L (.int (lg_cmp x y) :: r) w Q
  | .dup => len = 1 ∧ (match st with
    | v :: r => v.category = 1 ∧ nx (pc + 1) L (v :: v :: r) w Q
    | _ => False)
  | .pop => len = 1 ∧ (match st with
    | v :: r => v.category = 1 ∧ nx (pc + 1) L r w Q
    | _ => False)
  | .dup_x1 => len = 1 ∧ (match st with
    | a :: b :: r => (a.category = 1 ∧ b.category = 1) ∧ nx (pc + 1) L (a :: b :: a :: r) w Q
    | _ => False)
  | .dup2 => len = 1 ∧ (match st with
    | a :: b :: r => (a.category = 1 ∧ b.category = 1) ∧ nx (pc + 1) L (a :: b :: a :: b :: r) w Q
    | _ => False)
  | .ifCond .eq off => len = 3 ∧ sI st fun x r => jmp pc off fun t => if x = 0 then nx t L r w Q else nx (pc + 3) L r w Q
  | .ifCond .ne off => len = 3 ∧ sI st fun x r => jmp pc off fun t => if x = 0 then nx (pc + 3) L r w Q else nx t L r w Q
  | .ifCond .lt off => len = 3 ∧ sI st fun x r => jmp pc off fun t => if x < 0 then nx t L r w Q else nx (pc + 3) L r w Q
  | .ifCond .ge off => len = 3 ∧ sI st fun x r => jmp pc off fun t => if x < 0 then nx (pc + 3) L r w Q else nx t L r w Q
  | .ifCond .gt off => len = 3 ∧ sI st fun x r => jmp pc off fun t => if 0 < x then nx t L r w Q else nx (pc + 3) L r w Q
  | .ifCond .le off => len = 3 ∧ sI st fun x r => jmp pc off fun t => if 0 < x then nx (pc + 3) L r w Q else nx t L r w Q
  | .if_icmp .eq off => len = 3 ∧ sI st fun y r => sI r fun x r => jmp pc off fun t => if x = y then nx t L r w Q else nx (pc + 3) L r w Q
  | .if_icmp .ne off => len = 3 ∧ sI st fun y r => sI r fun x r => jmp pc off fun t => if x = y then nx (pc + 3) L r w Q else nx t L r w Q
  | .if_icmp .lt off => len = 3 ∧ sI st fun y r => sI r fun x r => jmp pc off fun t => if x < y then nx t L r w Q else nx (pc + 3) L r w Q
  | .if_icmp .ge off => len = 3 ∧ sI st fun y r => sI r fun x r => jmp pc off fun t => if x < y then nx (pc + 3) L r w Q else nx t L r w Q
  | .if_icmp .gt off => len = 3 ∧ sI st fun y r => sI r fun x r => jmp pc off fun t => if y < x then nx t L r w Q else nx (pc + 3) L r w Q
  | .if_icmp .le off => len = 3 ∧ sI st fun y r => sI r fun x r => jmp pc off fun t => if y < x then nx (pc + 3) L r w Q else nx t L r w Q
  | .goto off => len = 3 ∧ jmp pc off fun t => nx t L st w Q
  | .tableswitch dflt lo hi offs => sI st fun x r => (-2147483648 ≤ lo ∧ hi ≤ 2147483647 ∧ hi + 1 - lo = offs.toList.length) ∧ swT x (fun o => jmp pc o fun t => nx t L r w Q) dflt lo offs.toList
  | .lookupswitch dflt ps => sI st fun x r => ((ps.toList.zip (ps.toList.drop 1)).all (fun (a, next) => a.1 < next.1) = true ∧ ps.toList.all (fun a => decide (-2147483648 ≤ a.1) && decide (a.1 ≤ 2147483647)) = true) ∧ swL x (fun o => jmp pc o fun t => nx t L r w Q) dflt ps.toList
  | .getfield i => len = 3 ∧ sR st fun p r => oo (gGet (gOw k) i p) fun q => match q with
    | .inl j => nx (pc + 3) L (.int (w.1 p j) :: r) w Q
    | .inr q => nx (pc + 3) L (.ref q :: r) w Q
  | .putfield i => len = 3 ∧ sI st fun x r => sR r fun p r => oo (gPut (gOw k) i p) fun q => (q.2 = false ∨ x = 0 ∨ x = 1) ∧ nx (pc + 3) L r (wI w p q.1 x) Q
  | .getstatic i => len = 3 ∧ oo (gStat (gOw k) i) fun p => nx (pc + 3) L (.ref p :: st) w Q
  | .iaload => len = 1 ∧ sI st fun i r => sR r fun p r => oo (gArr p) fun a => inb i a.2 ∧ (match a.1 with
    | 1 => nx (pc + 1) L (.int (w.1 p i.toNatClampNeg) :: r) w Q
    | 4 => nx (pc + 1) L (.int ((gSta p).getD i.toNatClampNeg 0) :: r) w Q
    | _ => False)
  | .iastore => len = 1 ∧ sI st fun x r => sI r fun i r => sR r fun p r => oo (gArr p) fun a => (a.1 = 1 ∧ inb i a.2) ∧ nx (pc + 1) L r (wI w p i.toNatClampNeg x) Q
  | .laload => len = 1 ∧ sI st fun i r => sR r fun p r => oo (gArr p) fun a => (a.1 = 2 ∧ inb i a.2) ∧ nx (pc + 1) L (.long (w.2 p i.toNatClampNeg) :: r) w Q
  | .lastore => len = 1 ∧ sJ st fun x r => sI r fun i r => sR r fun p r => oo (gArr p) fun a => (a.1 = 2 ∧ inb i a.2) ∧ nx (pc + 1) L r (wJ w p i.toNatClampNeg x) Q
  | .aaload => len = 1 ∧ sI st fun i r => sR r fun p r => oo (gRows p) fun a => inb i a.1 ∧ nx (pc + 1) L (.ref (a.2 + i.toNatClampNeg) :: r) w Q
  | .arraylength => len = 1 ∧ sR st fun p r => oo (gLen p) fun n => nx (pc + 1) L (.int (Int32.ofNat n) :: r) w Q
  | .invokevirtual i => len = 3 ∧ (∀ q, gCall (gOw k) i = some q → q.1 = 0 ∨ q.1 = 8 ∨ q.1 = 9) ∧ doC nx cl Q pc L st w (gCall (gOw k) i)
  | .invokestatic i => len = 3 ∧ (∀ q, gCall (gOw k) i = some q → q.1 ≠ 0 ∧ q.1 < 8) ∧ doC nx cl Q pc L st w (gCall (gOw k) i)
  | .ireturn => len = 1 ∧ (match st with
    | [.int x] => retI k x Q w
    | _ => False)
  | .lreturn => len = 1 ∧ (match st with
    | [.long x] => gRt k = some .long ∧ Q (some (.long x)) w
    | _ => False)
  | .return_ => len = 1 ∧ (match st with
    | [] => gRt k = none ∧ Q none w
    | _ => False)
  | _ => False
def wp (d n k pc : Nat) (L : aL) (st : List Value) (w : hW) (Q : aPost) : Prop := match n with
  | 0 => False
  | n + 1 => oo (ins k pc) fun q => stI (fun pc' L' st' w' Q' => wp d n k pc' L' st' w' Q') (fun c L' w' Q' => match d with
    | 0 => False
    | d' + 1 => wp d' n c 0 L' [] w' Q') Q k pc L st w q.2 q.1
/-- the same, however many steps -/
def Tr (d k pc : Nat) (L : aL) (st : List Value) (w : hW) (Q : aPost) : Prop := ∃ n, wp d n k pc L st w Q

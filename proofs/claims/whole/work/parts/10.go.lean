/-! SYMBOLIC RUNS: 'Go' is 'Tr', to be stepped; a row an instruction -/
def Go (d k pc : Nat) (L : aL) (st : List Value) (w : hW) (Q : aPost) : Prop := Tr d k pc L st w Q
/-- a call of method k with arguments as, d deep -/
def Cl (d k : Nat) (as : List Value) (w : hW) (Q : aPost) : Prop := Tr d k 0 (padL (gML k) (spv as)) [] w Q
theorem Cl_iff {d k : Nat} {as : List Value} {w w' : hW} {r : Option Value} (h : Cl d k as w (fun v u => v = r ∧ u = w')) (Q : aPost) : Cl d k as w Q = Q r w' := propext (Tr_iff h Q)
theorem Cl_deep {d k : Nat} {as : List Value} {w : hW} {Q : aPost} (d' : Nat) (hd : d ≤ d') (h : Cl d k as w Q) : Cl d' k as w Q := Tr_deep d' hd h
theorem Go_ins {d k pc : Nat} {L : aL} {st : List Value} {w : hW} {Q : aPost} {i : Instr} {len : Nat} (h : ins k pc = some (i, len)) : Go d k pc L st w Q = stI (fun pc' L' st' w' Q' => Go d k pc' L' st' w' Q') (TrC d) Q k pc L st w len i := propext (by
  unfold Go
  rw [Tr_step, h]
  exact Iff.rfl)
theorem T1 {c : Prop} : ((1 : Nat) = 1 ∧ c) = c := propext ⟨fun h => h.2, fun h => ⟨rfl, h⟩⟩
theorem T2 {c : Prop} : ((2 : Nat) = 2 ∧ c) = c := propext ⟨fun h => h.2, fun h => ⟨rfl, h⟩⟩
theorem T3 {c : Prop} : ((3 : Nat) = 3 ∧ c) = c := propext ⟨fun h => h.2, fun h => ⟨rfl, h⟩⟩
def gF (o : Option (Nat ⊕ Nat)) (w : hW) (p : Nat) (f : Value → Prop) : Prop := match o with
  | some (.inl j) => f (.int (w.1 p j))
  | some (.inr q) => f (.ref q)
  | none => False
theorem gF_i {w : hW} {p j : Nat} {f : Value → Prop} : gF (some (.inl j)) w p f = f (.int (w.1 p j)) := rfl
theorem gF_r {w : hW} {p q : Nat} {f : Value → Prop} : gF (some (.inr q)) w p f = f (.ref q) := rfl
def gP (o : Option (Nat × Bool)) (x : Int32) (f : Nat → Prop) : Prop := match o with
  | some q => (q.2 = false ∨ x = 0 ∨ x = 1) ∧ f q.1
  | none => False
theorem gP_f {x : Int32} {j : Nat} {f : Nat → Prop} : gP (some (j, false)) x f = f j := propext ⟨fun h => h.2, fun h => ⟨Or.inl rfl, h⟩⟩
theorem gP_t {j : Nat} {f : Nat → Prop} : gP (some (j, true)) 1 f = f j := propext ⟨fun h => h.2, fun h => ⟨Or.inr (Or.inr rfl), h⟩⟩
def aRd (o : Option (Nat × Nat)) (i : Int32) (w : hW) (p : Nat) (f : Int32 → Prop) : Prop := match o with
  | some (1, n) => inb i n ∧ f (w.1 p i.toNatClampNeg)
  | some (4, n) => inb i n ∧ f ((gSta p).getD i.toNatClampNeg 0)
  | _ => False
theorem aRd_1 {i : Int32} {w : hW} {p n : Nat} {f : Int32 → Prop} : aRd (some (1, n)) i w p f = (inb i n ∧ f (w.1 p i.toNatClampNeg)) := rfl
theorem aRd_4 {i : Int32} {w : hW} {p n : Nat} {f : Int32 → Prop} : aRd (some (4, n)) i w p f = (inb i n ∧ f ((gSta p).getD i.toNatClampNeg 0)) := rfl
/-- an array's length, of kind t -/
def aKd (t : Nat) (o : Option (Nat × Nat)) (f : Nat → Prop) : Prop := match o with
  | some q => q.1 = t ∧ f q.2
  | none => False
theorem aKd_e {t n : Nat} {f : Nat → Prop} : aKd t (some (t, n)) f = f n := propext ⟨fun h => h.2, fun h => ⟨rfl, h⟩⟩
/-- the callee's receiver is of its class, the operands below leave room -/
def cRc (p c : Nat) (st : List Value) : Prop := gRcv p = some c ∧ catS st ≤ 8
section Q
variable {d k pc : Nat} {L L' : aL} {st : List Value} {w : hW} {Q : aPost}
theorem q_iconst {n : Int} {v : Int32} (h : ins k pc = some (.iconst n, 1)) (hv : Int32.ofInt n = v) : Go d k pc L st w Q = Go d k (pc + 1) L (.int v :: st) w Q := by rw [Go_ins h, ← hv]; exact T1
theorem q_bipush {n : Int} {v : Int32} (h : ins k pc = some (.bipush n, 2)) (hv : (Int8.ofInt n).toInt32 = v) : Go d k pc L st w Q = Go d k (pc + 2) L (.int v :: st) w Q := by rw [Go_ins h, ← hv]; exact T2
theorem q_sipush {n : Int} {v : Int32} (h : ins k pc = some (.sipush n, 3)) (hv : (Int16.ofInt n).toInt32 = v) : Go d k pc L st w Q = Go d k (pc + 3) L (.int v :: st) w Q := by rw [Go_ins h, ← hv]; exact T3
theorem q_lconst {n : Fin 2} {v : Int64} (h : ins k pc = some (.lconst n, 1)) (hv : Int64.ofNat n = v) : Go d k pc L st w Q = Go d k (pc + 1) L (.long v :: st) w Q := by rw [Go_ins h, ← hv]; exact T1
theorem q_ldc {i : Nat} {v : Value} (h : ins k pc = some (.ldc i, 2)) (hv : gLdc (gOw k) i = some v) : Go d k pc L st w Q = Go d k (pc + 2) L (v :: st) w Q := by rw [Go_ins h]; refine T2.trans ?_; rw [hv]; rfl
theorem q_ldc_w {i : Nat} {v : Int32} (h : ins k pc = some (.ldc_w i, 3)) (hv : gCon (gOw k) i = some v) : Go d k pc L st w Q = Go d k (pc + 3) L (.int v :: st) w Q := by rw [Go_ins h]; refine T3.trans ?_; rw [hv]; rfl
theorem q_ldc2_w {i : Nat} {v : Int64} (h : ins k pc = some (.ldc2_w i, 3)) (hv : gCoL (gOw k) i = some v) : Go d k pc L st w Q = Go d k (pc + 3) L (.long v :: st) w Q := by rw [Go_ins h]; refine T3.trans ?_; rw [hv]; rfl
theorem q_iload_n {n : Fin 4} {x : Int32} (h : ins k pc = some (.iload_n n, 1)) (hl : aLd L n = some (.int x)) : Go d k pc L st w Q = Go d k (pc + 1) L (.int x :: st) w Q := by rw [Go_ins h]; refine T1.trans ?_; unfold ldI; rw [hl]
theorem q_iload {n : Nat} {x : Int32} (h : ins k pc = some (.iload n, 2)) (hl : aLd L n = some (.int x)) : Go d k pc L st w Q = Go d k (pc + 2) L (.int x :: st) w Q := by rw [Go_ins h]; refine T2.trans ?_; unfold ldI; rw [hl]
theorem q_lload_n {n : Fin 4} {x : Int64} (h : ins k pc = some (.lload_n n, 1)) (hl : aLd L n = some (.long x)) : Go d k pc L st w Q = Go d k (pc + 1) L (.long x :: st) w Q := by rw [Go_ins h]; refine T1.trans ?_; unfold ldJ; rw [hl]
theorem q_lload {n : Nat} {x : Int64} (h : ins k pc = some (.lload n, 2)) (hl : aLd L n = some (.long x)) : Go d k pc L st w Q = Go d k (pc + 2) L (.long x :: st) w Q := by rw [Go_ins h]; refine T2.trans ?_; unfold ldJ; rw [hl]
theorem q_aload_n {n : Fin 4} {x : Nat} (h : ins k pc = some (.aload_n n, 1)) (hl : aLd L n = some (.ref x)) : Go d k pc L st w Q = Go d k (pc + 1) L (.ref x :: st) w Q := by rw [Go_ins h]; refine T1.trans ?_; unfold ldR; rw [hl]
theorem q_aload {n : Nat} {x : Nat} (h : ins k pc = some (.aload n, 2)) (hl : aLd L n = some (.ref x)) : Go d k pc L st w Q = Go d k (pc + 2) L (.ref x :: st) w Q := by rw [Go_ins h]; refine T2.trans ?_; unfold ldR; rw [hl]
theorem q_istore_n {n : Fin 4} {x : Int32} {b : Bool} (h : ins k pc = some (.istore_n n, 1)) (ho : okSt L n = b) (hL : L.set n (some (.int x)) = L') : Go d k pc L (.int x :: st) w Q = (b = true ∧ Go d k (pc + 1) L' st w Q) := by rw [Go_ins h, ← ho, ← hL]; exact T1
theorem q_istore {n : Nat} {x : Int32} {b : Bool} (h : ins k pc = some (.istore n, 2)) (ho : okSt L n = b) (hL : L.set n (some (.int x)) = L') : Go d k pc L (.int x :: st) w Q = (b = true ∧ Go d k (pc + 2) L' st w Q) := by rw [Go_ins h, ← ho, ← hL]; exact T2
theorem q_lstore {n : Nat} {x : Int64} {b : Bool} (h : ins k pc = some (.lstore n, 2)) (ho : okSt L n = b) (hn : n + 1 < L.length) (hL : (L.set n (some (.long x))).set (n + 1) none = L') : Go d k pc L (.long x :: st) w Q = (b = true ∧ Go d k (pc + 2) L' st w Q) := by
  rw [Go_ins h, ← ho, ← hL]
  refine T2.trans (propext ⟨fun z => ⟨z.1.1, z.2⟩, fun z => ⟨⟨z.1, hn⟩, z.2⟩⟩)
theorem q_iinc {n : Nat} {c : Int} {x v : Int32} {b : Bool} (h : ins k pc = some (.iinc n c, 3)) (hl : aLd L n = some (.int x)) (hv : Int32.ofInt c = v) (ho : okSt L n = b) (hL : L.set n (some (.int (x + v))) = L') : Go d k pc L st w Q = (b = true ∧ Go d k (pc + 3) L' st w Q) := by rw [Go_ins h, ← ho, ← hL, ← hv]; refine T3.trans ?_; unfold ldI; rw [hl]
theorem q_iadd {x y : Int32} (h : ins k pc = some (.iadd, 1)) : Go d k pc L (.int y :: .int x :: st) w Q = Go d k (pc + 1) L (.int (x + y) :: st) w Q := by rw [Go_ins h]; exact T1
theorem q_isub {x y : Int32} (h : ins k pc = some (.isub, 1)) : Go d k pc L (.int y :: .int x :: st) w Q = Go d k (pc + 1) L (.int (x - y) :: st) w Q := by rw [Go_ins h]; exact T1
theorem q_imul {x y : Int32} (h : ins k pc = some (.imul, 1)) : Go d k pc L (.int y :: .int x :: st) w Q = Go d k (pc + 1) L (.int (x * y) :: st) w Q := by rw [Go_ins h]; exact T1
theorem q_iand {x y : Int32} (h : ins k pc = some (.iand, 1)) : Go d k pc L (.int y :: .int x :: st) w Q = Go d k (pc + 1) L (.int (x &&& y) :: st) w Q := by rw [Go_ins h]; exact T1
theorem q_ior {x y : Int32} (h : ins k pc = some (.ior, 1)) : Go d k pc L (.int y :: .int x :: st) w Q = Go d k (pc + 1) L (.int (x ||| y) :: st) w Q := by rw [Go_ins h]; exact T1
theorem q_ixor {x y : Int32} (h : ins k pc = some (.ixor, 1)) : Go d k pc L (.int y :: .int x :: st) w Q = Go d k (pc + 1) L (.int (x ^^^ y) :: st) w Q := by rw [Go_ins h]; exact T1
theorem q_idiv {x y : Int32} (h : ins k pc = some (.idiv, 1)) : Go d k pc L (.int y :: .int x :: st) w Q = (¬ y = 0 ∧ Go d k (pc + 1) L (.int (x / y) :: st) w Q) := by rw [Go_ins h]; exact T1
theorem q_irem {x y : Int32} (h : ins k pc = some (.irem, 1)) : Go d k pc L (.int y :: .int x :: st) w Q = (¬ y = 0 ∧ Go d k (pc + 1) L (.int (x - x / y * y) :: st) w Q) := by rw [Go_ins h]; exact T1
theorem q_ineg {x : Int32} (h : ins k pc = some (.ineg, 1)) : Go d k pc L (.int x :: st) w Q = Go d k (pc + 1) L (.int (-x) :: st) w Q := by rw [Go_ins h]; exact T1
theorem q_ishl {x y : Int32} (h : ins k pc = some (.ishl, 1)) : Go d k pc L (.int y :: .int x :: st) w Q = Go d k (pc + 1) L (.int (x <<< (y &&& 31)) :: st) w Q := by rw [Go_ins h]; exact T1
theorem q_ishr {x y : Int32} (h : ins k pc = some (.ishr, 1)) : Go d k pc L (.int y :: .int x :: st) w Q = Go d k (pc + 1) L (.int (x >>> (y &&& 31)) :: st) w Q := by rw [Go_ins h]; exact T1
theorem q_iushr {x y : Int32} (h : ins k pc = some (.iushr, 1)) : Go d k pc L (.int y :: .int x :: st) w Q = Go d k (pc + 1) L (.int (x.toUInt32 >>> (y.toUInt32 &&& Int32.toUInt32 31)).toInt32 :: st) w Q := by rw [Go_ins h]; exact T1
theorem q_i2l {x : Int32} (h : ins k pc = some (.i2l, 1)) : Go d k pc L (.int x :: st) w Q = Go d k (pc + 1) L (.long x.toInt64 :: st) w Q := by rw [Go_ins h]; exact T1
theorem q_l2i {x : Int64} (h : ins k pc = some (.l2i, 1)) : Go d k pc L (.long x :: st) w Q = Go d k (pc + 1) L (.int x.toInt32 :: st) w Q := by rw [Go_ins h]; exact T1
theorem q_i2b {x : Int32} (h : ins k pc = some (.i2b, 1)) : Go d k pc L (.int x :: st) w Q = Go d k (pc + 1) L (.int x.toInt8.toInt32 :: st) w Q := by rw [Go_ins h]; exact T1
theorem q_i2s {x : Int32} (h : ins k pc = some (.i2s, 1)) : Go d k pc L (.int x :: st) w Q = Go d k (pc + 1) L (.int x.toInt16.toInt32 :: st) w Q := by rw [Go_ins h]; exact T1
theorem q_ladd {x y : Int64} (h : ins k pc = some (.ladd, 1)) : Go d k pc L (.long y :: .long x :: st) w Q = Go d k (pc + 1) L (.long (x + y) :: st) w Q := by rw [Go_ins h]; exact T1
theorem q_lmul {x y : Int64} (h : ins k pc = some (.lmul, 1)) : Go d k pc L (.long y :: .long x :: st) w Q = Go d k (pc + 1) L (.long (x * y) :: st) w Q := by rw [Go_ins h]; exact T1
theorem q_land {x y : Int64} (h : ins k pc = some (.land, 1)) : Go d k pc L (.long y :: .long x :: st) w Q = Go d k (pc + 1) L (.long (x &&& y) :: st) w Q := by rw [Go_ins h]; exact T1
theorem q_lor {x y : Int64} (h : ins k pc = some (.lor, 1)) : Go d k pc L (.long y :: .long x :: st) w Q = Go d k (pc + 1) L (.long (x ||| y) :: st) w Q := by rw [Go_ins h]; exact T1
theorem q_lshl {x : Int64} {y : Int32} (h : ins k pc = some (.lshl, 1)) : Go d k pc L (.int y :: .long x :: st) w Q = Go d k (pc + 1) L (.long (x <<< (y.toInt64 &&& 63)) :: st) w Q := by rw [Go_ins h]; exact T1
theorem q_lcmp {x y : Int64} (h : ins k pc = some (.lcmp, 1)) : Go d k pc L (.long y :: .long x :: st) w Q = Go d k (pc + 1) L (.int (lg_cmp x y) :: st) w Q := by rw [Go_ins h]; exact T1
theorem q_dupi {x : Int32} (h : ins k pc = some (.dup, 1)) : Go d k pc L (.int x :: st) w Q = Go d k (pc + 1) L (.int x :: .int x :: st) w Q := by rw [Go_ins h]; exact T1.trans T1
theorem q_dupr {x : Nat} (h : ins k pc = some (.dup, 1)) : Go d k pc L (.ref x :: st) w Q = Go d k (pc + 1) L (.ref x :: .ref x :: st) w Q := by rw [Go_ins h]; exact T1.trans T1
theorem q_popi {x : Int32} (h : ins k pc = some (.pop, 1)) : Go d k pc L (.int x :: st) w Q = Go d k (pc + 1) L st w Q := by rw [Go_ins h]; exact T1.trans T1
theorem TT {c : Prop} : (((1 : Nat) = 1 ∧ (1 : Nat) = 1) ∧ c) = c := propext ⟨fun h => h.2, fun h => ⟨⟨rfl, rfl⟩, h⟩⟩
theorem q_dup_x1 {x : Int32} {p : Nat} (h : ins k pc = some (.dup_x1, 1)) : Go d k pc L (.int x :: .ref p :: st) w Q = Go d k (pc + 1) L (.int x :: .ref p :: .int x :: st) w Q := by rw [Go_ins h]; exact T1.trans TT
theorem q_dup2 {x : Int32} {p : Nat} (h : ins k pc = some (.dup2, 1)) : Go d k pc L (.int x :: .ref p :: st) w Q = Go d k (pc + 1) L (.int x :: .ref p :: .int x :: .ref p :: st) w Q := by rw [Go_ins h]; exact T1.trans TT
theorem jmp_lit {off : Int} {t : Nat} {f : Nat → Prop} (h : (pc : Int) + off = (t : Int)) : jmp pc off f = f t := by
  unfold jmp
  rw [h]
  exact propext ⟨fun z => by simpa using z.2, fun z => ⟨by omega, by simpa using z⟩⟩
theorem q_goto {off : Int} {t : Nat} (h : ins k pc = some (.goto off, 3)) (ht : (pc : Int) + off = (t : Int)) : Go d k pc L st w Q = Go d k t L st w Q := by rw [Go_ins h]; exact T3.trans (jmp_lit ht)
theorem q_ifeq {x : Int32} {off : Int} {t : Nat} (h : ins k pc = some (.ifCond .eq off, 3)) (ht : (pc : Int) + off = (t : Int)) : Go d k pc L (.int x :: st) w Q = if x = 0 then Go d k t L st w Q else Go d k (pc + 3) L st w Q := by rw [Go_ins h]; exact T3.trans (jmp_lit (f := fun t => if x = 0 then Go d k t L st w Q else Go d k (pc + 3) L st w Q) ht)
theorem q_ifne {x : Int32} {off : Int} {t : Nat} (h : ins k pc = some (.ifCond .ne off, 3)) (ht : (pc : Int) + off = (t : Int)) : Go d k pc L (.int x :: st) w Q = if x = 0 then Go d k (pc + 3) L st w Q else Go d k t L st w Q := by rw [Go_ins h]; exact T3.trans (jmp_lit (f := fun t => if x = 0 then Go d k (pc + 3) L st w Q else Go d k t L st w Q) ht)
theorem q_iflt {x : Int32} {off : Int} {t : Nat} (h : ins k pc = some (.ifCond .lt off, 3)) (ht : (pc : Int) + off = (t : Int)) : Go d k pc L (.int x :: st) w Q = if x < 0 then Go d k t L st w Q else Go d k (pc + 3) L st w Q := by rw [Go_ins h]; exact T3.trans (jmp_lit (f := fun t => if x < 0 then Go d k t L st w Q else Go d k (pc + 3) L st w Q) ht)
theorem q_ifge {x : Int32} {off : Int} {t : Nat} (h : ins k pc = some (.ifCond .ge off, 3)) (ht : (pc : Int) + off = (t : Int)) : Go d k pc L (.int x :: st) w Q = if x < 0 then Go d k (pc + 3) L st w Q else Go d k t L st w Q := by rw [Go_ins h]; exact T3.trans (jmp_lit (f := fun t => if x < 0 then Go d k (pc + 3) L st w Q else Go d k t L st w Q) ht)
theorem q_ifgt {x : Int32} {off : Int} {t : Nat} (h : ins k pc = some (.ifCond .gt off, 3)) (ht : (pc : Int) + off = (t : Int)) : Go d k pc L (.int x :: st) w Q = if 0 < x then Go d k t L st w Q else Go d k (pc + 3) L st w Q := by rw [Go_ins h]; exact T3.trans (jmp_lit (f := fun t => if 0 < x then Go d k t L st w Q else Go d k (pc + 3) L st w Q) ht)
theorem q_ifle {x : Int32} {off : Int} {t : Nat} (h : ins k pc = some (.ifCond .le off, 3)) (ht : (pc : Int) + off = (t : Int)) : Go d k pc L (.int x :: st) w Q = if 0 < x then Go d k (pc + 3) L st w Q else Go d k t L st w Q := by rw [Go_ins h]; exact T3.trans (jmp_lit (f := fun t => if 0 < x then Go d k (pc + 3) L st w Q else Go d k t L st w Q) ht)
theorem q_icmpeq {x y : Int32} {off : Int} {t : Nat} (h : ins k pc = some (.if_icmp .eq off, 3)) (ht : (pc : Int) + off = (t : Int)) : Go d k pc L (.int y :: .int x :: st) w Q = if x = y then Go d k t L st w Q else Go d k (pc + 3) L st w Q := by rw [Go_ins h]; exact T3.trans (jmp_lit (f := fun t => if x = y then Go d k t L st w Q else Go d k (pc + 3) L st w Q) ht)
theorem q_icmpne {x y : Int32} {off : Int} {t : Nat} (h : ins k pc = some (.if_icmp .ne off, 3)) (ht : (pc : Int) + off = (t : Int)) : Go d k pc L (.int y :: .int x :: st) w Q = if x = y then Go d k (pc + 3) L st w Q else Go d k t L st w Q := by rw [Go_ins h]; exact T3.trans (jmp_lit (f := fun t => if x = y then Go d k (pc + 3) L st w Q else Go d k t L st w Q) ht)
theorem q_icmplt {x y : Int32} {off : Int} {t : Nat} (h : ins k pc = some (.if_icmp .lt off, 3)) (ht : (pc : Int) + off = (t : Int)) : Go d k pc L (.int y :: .int x :: st) w Q = if x < y then Go d k t L st w Q else Go d k (pc + 3) L st w Q := by rw [Go_ins h]; exact T3.trans (jmp_lit (f := fun t => if x < y then Go d k t L st w Q else Go d k (pc + 3) L st w Q) ht)
theorem q_icmpge {x y : Int32} {off : Int} {t : Nat} (h : ins k pc = some (.if_icmp .ge off, 3)) (ht : (pc : Int) + off = (t : Int)) : Go d k pc L (.int y :: .int x :: st) w Q = if x < y then Go d k (pc + 3) L st w Q else Go d k t L st w Q := by rw [Go_ins h]; exact T3.trans (jmp_lit (f := fun t => if x < y then Go d k (pc + 3) L st w Q else Go d k t L st w Q) ht)
theorem q_icmpgt {x y : Int32} {off : Int} {t : Nat} (h : ins k pc = some (.if_icmp .gt off, 3)) (ht : (pc : Int) + off = (t : Int)) : Go d k pc L (.int y :: .int x :: st) w Q = if y < x then Go d k t L st w Q else Go d k (pc + 3) L st w Q := by rw [Go_ins h]; exact T3.trans (jmp_lit (f := fun t => if y < x then Go d k t L st w Q else Go d k (pc + 3) L st w Q) ht)
theorem q_icmple {x y : Int32} {off : Int} {t : Nat} (h : ins k pc = some (.if_icmp .le off, 3)) (ht : (pc : Int) + off = (t : Int)) : Go d k pc L (.int y :: .int x :: st) w Q = if y < x then Go d k (pc + 3) L st w Q else Go d k t L st w Q := by rw [Go_ins h]; exact T3.trans (jmp_lit (f := fun t => if y < x then Go d k (pc + 3) L st w Q else Go d k t L st w Q) ht)
theorem q_getfield {i p : Nat} {o : Nat} (h : ins k pc = some (.getfield i, 3)) (ho : gOw k = o) : Go d k pc L (.ref p :: st) w Q = gF (gGet o i p) w p fun v => Go d k (pc + 3) L (v :: st) w Q := by
  rw [Go_ins h, ← ho]
  refine T3.trans ?_
  show oo (gGet (gOw k) i p) _ = _
  rcases gGet (gOw k) i p with _ | q
  · rfl
  · cases q <;> rfl
theorem q_putfield {i p : Nat} {x : Int32} {o : Nat} (h : ins k pc = some (.putfield i, 3)) (ho : gOw k = o) : Go d k pc L (.int x :: .ref p :: st) w Q = gP (gPut o i p) x fun j => Go d k (pc + 3) L st (wI w p j x) Q := by
  rw [Go_ins h, ← ho]
  refine T3.trans ?_
  show oo (gPut (gOw k) i p) _ = _
  rcases gPut (gOw k) i p with _ | q <;> rfl
theorem q_getstatic {i p : Nat} (h : ins k pc = some (.getstatic i, 3)) (ho : gStat (gOw k) i = some p) : Go d k pc L st w Q = Go d k (pc + 3) L (.ref p :: st) w Q := by
  rw [Go_ins h]
  refine T3.trans ?_
  rw [ho]; rfl
theorem q_iaload {i : Int32} {p : Nat} (h : ins k pc = some (.iaload, 1)) : Go d k pc L (.int i :: .ref p :: st) w Q = aRd (gArr p) i w p fun v => Go d k (pc + 1) L (.int v :: st) w Q := by
  rw [Go_ins h]
  refine T1.trans ?_
  show oo (gArr p) _ = _
  unfold aRd
  rcases gArr p with _ | ⟨t, n⟩
  · rfl
  · show (inb i n ∧ _) = _
    dsimp only
    split <;> rename_i h1 <;> split <;> rename_i h2 <;> first | (cases h2; rfl) | (cases h2; contradiction) | skip
    all_goals simp_all
theorem q_iastore {i x : Int32} {p : Nat} (h : ins k pc = some (.iastore, 1)) : Go d k pc L (.int x :: .int i :: .ref p :: st) w Q = aKd 1 (gArr p) fun n => inb i n ∧ Go d k (pc + 1) L st (wI w p i.toNatClampNeg x) Q := by
  rw [Go_ins h]
  refine T1.trans ?_
  show oo (gArr p) _ = _
  rcases gArr p with _ | ⟨t, n⟩
  · rfl
  · exact propext ⟨fun z => ⟨z.1.1, z.1.2, z.2⟩, fun z => ⟨⟨z.1, z.2.1⟩, z.2.2⟩⟩
theorem q_laload {i : Int32} {p : Nat} (h : ins k pc = some (.laload, 1)) : Go d k pc L (.int i :: .ref p :: st) w Q = aKd 2 (gArr p) fun n => inb i n ∧ Go d k (pc + 1) L (.long (w.2 p i.toNatClampNeg) :: st) w Q := by
  rw [Go_ins h]
  refine T1.trans ?_
  show oo (gArr p) _ = _
  rcases gArr p with _ | ⟨t, n⟩
  · rfl
  · exact propext ⟨fun z => ⟨z.1.1, z.1.2, z.2⟩, fun z => ⟨⟨z.1, z.2.1⟩, z.2.2⟩⟩
theorem q_lastore {i : Int32} {x : Int64} {p : Nat} (h : ins k pc = some (.lastore, 1)) : Go d k pc L (.long x :: .int i :: .ref p :: st) w Q = aKd 2 (gArr p) fun n => inb i n ∧ Go d k (pc + 1) L st (wJ w p i.toNatClampNeg x) Q := by
  rw [Go_ins h]
  refine T1.trans ?_
  show oo (gArr p) _ = _
  rcases gArr p with _ | ⟨t, n⟩
  · rfl
  · exact propext ⟨fun z => ⟨z.1.1, z.1.2, z.2⟩, fun z => ⟨⟨z.1, z.2.1⟩, z.2.2⟩⟩
theorem q_aaload {i : Int32} (h : ins k pc = some (.aaload, 1)) : Go d k pc L (.int i :: .ref 26 :: st) w Q = (inb i 8 ∧ Go d k (pc + 1) L (.ref (27 + i.toNatClampNeg) :: st) w Q) := by
  rw [Go_ins h]
  exact T1
theorem q_arraylength {p n : Nat} (h : ins k pc = some (.arraylength, 1)) : Go d k pc L (.ref p :: st) w Q = oo (gLen p) fun n => Go d k (pc + 1) L (.int (Int32.ofNat n) :: st) w Q := by
  rw [Go_ins h]
  exact T1
theorem q_ireturn {x : Int32} (h : ins k pc = some (.ireturn, 1)) (hr : gRt k = some .int) : Go d k pc L [.int x] w Q = Q (some (.int x)) w := by
  rw [Go_ins h]
  refine T1.trans ?_
  show retI k x Q w = _
  unfold retI
  rw [hr]
theorem q_zreturn {x : Int32} (h : ins k pc = some (.ireturn, 1)) (hr : gRt k = some .boolean) : Go d k pc L [.int x] w Q = ((x = 0 ∨ x = 1) ∧ Q (some (.int x)) w) := by
  rw [Go_ins h]
  refine T1.trans ?_
  show retI k x Q w = _
  unfold retI
  rw [hr]
theorem q_lreturn {x : Int64} (h : ins k pc = some (.lreturn, 1)) (hr : gRt k = some .long) : Go d k pc L [.long x] w Q = Q (some (.long x)) w := by
  rw [Go_ins h]
  refine T1.trans ?_
  exact propext ⟨fun z => z.2, fun z => ⟨hr, z⟩⟩
theorem q_return (h : ins k pc = some (.return_, 1)) (hr : gRt k = none) : Go d k pc L [] w Q = Q none w := by
  rw [Go_ins h]
  refine T1.trans ?_
  exact propext ⟨fun z => z.2, fun z => ⟨hr, z⟩⟩
theorem q_switch {df lo hi : Int} {offs : Array Int} {len : Nat} {x : Int32} (h : ins k pc = some (.tableswitch df lo hi offs, len)) (h1 : -2147483648 ≤ lo ∧ hi ≤ 2147483647 ∧ hi + 1 - lo = offs.toList.length) : Go d k pc L (.int x :: st) w Q = swT x (fun o => jmp pc o fun t => Go d k t L st w Q) df lo offs.toList := by
  rw [Go_ins h]
  exact propext ⟨fun z => z.2, fun z => ⟨h1, z⟩⟩
theorem q_lookup {df : Int} {ps : Array (Int × Int)} {len : Nat} {x : Int32} (h : ins k pc = some (.lookupswitch df ps, len)) (h1 : (ps.toList.zip (ps.toList.drop 1)).all (fun (a, next) => a.1 < next.1) = true ∧ ps.toList.all (fun a => decide (-2147483648 ≤ a.1) && decide (a.1 ≤ 2147483647)) = true) : Go d k pc L (.int x :: st) w Q = swL x (fun o => jmp pc o fun t => Go d k t L st w Q) df ps.toList := by
  rw [Go_ins h]
  exact propext ⟨fun z => z.2, fun z => ⟨h1, z⟩⟩
theorem doC_0 {nx : Nat → aL → List Value → hW → aPost → Prop} {cl : Nat → aL → hW → aPost → Prop} {c na : Nat} : doC nx cl Q pc L st w (some (0, c, na)) = popA na st [] fun as r => sR r fun p r => gRcv p = some (gOw c) ∧ catS r ≤ 8 ∧ (spv (.ref p :: as)).length ≤ gML c ∧ as.length = na ∧ cl c (padL (gML c) (spv (.ref p :: as))) w fun v w' => nx (pc + 3) L (v.toList ++ r) w' Q := rfl
theorem doC_1 {nx : Nat → aL → List Value → hW → aPost → Prop} {cl : Nat → aL → hW → aPost → Prop} {c na : Nat} : doC nx cl Q pc L st w (some (1, c, na)) = popA na st [] fun as r => catS r ≤ 8 ∧ (spv as).length ≤ gML c ∧ as.length = na ∧ cl c (padL (gML c) (spv as)) w fun v w' => nx (pc + 3) L (v.toList ++ r) w' Q := rfl
theorem doC_3 {nx : Nat → aL → List Value → hW → aPost → Prop} {cl : Nat → aL → hW → aPost → Prop} {c na : Nat} : doC nx cl Q pc L st w (some (3, c, na)) = popA na st [] fun as r => catS r ≤ 8 ∧ (spv as).length ≤ gML c ∧ as.length = na ∧ cl c (padL (gML c) (spv as)) w fun v w' => nx (pc + 3) L (v.toList ++ r) w' Q := rfl
/-- calls -/
theorem q_callV {i c na p o : Nat} {as ast : List Value} (h : ins k pc = some (.invokevirtual i, 3)) (hc : gCall (gOw k) i = some (0, c, na)) (hp : ∀ f, popA na (ast ++ .ref p :: st) [] f = f as (.ref p :: st)) (ho : gOw c = o) (hl : (spv (.ref p :: as)).length ≤ gML c) (hn : as.length = na) : Go (d + 1) k pc L (ast ++ .ref p :: st) w Q = (cRc p o st ∧ Cl d c (.ref p :: as) w fun v w' => Go (d + 1) k (pc + 3) L (v.toList ++ st) w' Q) := by
  rw [Go_ins h]
  refine T3.trans ?_
  rw [hc, doC_0, hp]
  refine propext ⟨fun z => ?_, fun z => ⟨fun q hq => by cases hq; exact Or.inl rfl, ?_⟩⟩
  · obtain ⟨a1, a2, a3, a4, a5⟩ := z.2
    rw [ho] at a1
    exact ⟨⟨a1, a2⟩, a5⟩
  · exact ⟨by rw [ho]; exact z.1.1, z.1.2, hl, hn, z.2⟩
theorem q_slen {i c na p : Nat} (h : ins k pc = some (.invokevirtual i, 3)) (hc : gCall (gOw k) i = some (8, c, na)) : Go d k pc L (.ref p :: st) w Q = oo (gTx p) fun tx => catS st ≤ 8 ∧ Go d k (pc + 3) L (.int (Int32.ofNat tx.length) :: st) w Q := by
  rw [Go_ins h]
  refine T3.trans ?_
  rw [hc]
  exact propext ⟨fun z => z.2, fun z => ⟨fun q hq => by cases hq; exact Or.inr (Or.inl rfl), z⟩⟩
theorem q_schar {i c na p : Nat} {j : Int32} (h : ins k pc = some (.invokevirtual i, 3)) (hc : gCall (gOw k) i = some (9, c, na)) : Go d k pc L (.int j :: .ref p :: st) w Q = oo (gTx p) fun tx => (catS st ≤ 8 ∧ inb j tx.length) ∧ Go d k (pc + 3) L (.int (tx.getD j.toNatClampNeg 0) :: st) w Q := by
  rw [Go_ins h]
  refine T3.trans ?_
  rw [hc]
  exact propext ⟨fun z => z.2, fun z => ⟨fun q hq => by cases hq; exact Or.inr (Or.inr rfl), z⟩⟩
theorem ne_of_call {q q2 : Nat × Nat × Nat} (h : some q = some q2) (h1 : q.1 ≠ 0 ∧ q.1 < 8) : q2.1 ≠ 0 ∧ q2.1 < 8 := by cases h; exact h1
theorem q_callS {i c na : Nat} {as ast : List Value} (h : ins k pc = some (.invokestatic i, 3)) (hc : gCall (gOw k) i = some (1, c, na) ∨ gCall (gOw k) i = some (3, c, na)) (hp : ∀ f, popA na (ast ++ st) [] f = f as st) (hl : (spv as).length ≤ gML c) (hn : as.length = na) : Go (d + 1) k pc L (ast ++ st) w Q = (catS st ≤ 8 ∧ Cl d c as w fun v w' => Go (d + 1) k (pc + 3) L (v.toList ++ st) w' Q) := by
  rw [Go_ins h]
  refine T3.trans ?_
  rcases hc with hc | hc
  · rw [hc, doC_1, hp]
    exact propext ⟨fun z => ⟨z.2.1, z.2.2.2.2⟩, fun z => ⟨fun q hq => ne_of_call hq (by simp), z.1, hl, hn, z.2⟩⟩
  · rw [hc, doC_3, hp]
    exact propext ⟨fun z => ⟨z.2.1, z.2.2.2.2⟩, fun z => ⟨fun q hq => ne_of_call hq (by simp), z.1, hl, hn, z.2⟩⟩
theorem q_min {i c na : Nat} {x y : Int32} (h : ins k pc = some (.invokestatic i, 3)) (hc : gCall (gOw k) i = some (4, c, na)) : Go d k pc L (.int y :: .int x :: st) w Q = (catS st ≤ 8 ∧ Go d k (pc + 3) L (.int (if y < x then y else x) :: st) w Q) := by
  rw [Go_ins h]
  refine T3.trans ?_
  rw [hc]
  exact propext ⟨fun z => z.2, fun z => ⟨fun q hq => ne_of_call hq (by simp), z⟩⟩
theorem q_max {i c na : Nat} {x y : Int32} (h : ins k pc = some (.invokestatic i, 3)) (hc : gCall (gOw k) i = some (5, c, na)) : Go d k pc L (.int y :: .int x :: st) w Q = (catS st ≤ 8 ∧ Go d k (pc + 3) L (.int (if x < y then y else x) :: st) w Q) := by
  rw [Go_ins h]
  refine T3.trans ?_
  rw [hc]
  exact propext ⟨fun z => z.2, fun z => ⟨fun q hq => ne_of_call hq (by simp), z⟩⟩
theorem q_abs {i c na : Nat} {x : Int32} (h : ins k pc = some (.invokestatic i, 3)) (hc : gCall (gOw k) i = some (6, c, na)) : Go d k pc L (.int x :: st) w Q = (catS st ≤ 8 ∧ Go d k (pc + 3) L (.int (if 0 ≤ x then x else 0 - x) :: st) w Q) := by
  rw [Go_ins h]
  refine T3.trans ?_
  rw [hc]
  exact propext ⟨fun z => z.2, fun z => ⟨fun q hq => ne_of_call hq (by simp), z⟩⟩
theorem q_cpy {i c na p q : Nat} {sp dp n : Int32} (h : ins k pc = some (.invokestatic i, 3)) (hc : gCall (gOw k) i = some (7, c, na)) : Go d k pc L (.int n :: .int dp :: .ref q :: .int sp :: .ref p :: st) w Q = (catS st ≤ 8 ∧ cpyA p q sp dp n w fun w' => Go d k (pc + 3) L st w' Q) := by
  rw [Go_ins h]
  refine T3.trans ?_
  rw [hc]
  exact propext ⟨fun z => z.2, fun z => ⟨fun q hq => ne_of_call hq (by simp), z⟩⟩
end Q

/-! CONTRACTS of Table (class 5), for each of the nine tables -/
def bI (b : Bool) : Int32 := if b then 1 else 0
theorem bI_ite {α : Sort _} {b : Bool} {A B : α} : (if bI b = 0 then A else B) = (if b = true then B else A) := by cases b <;> rfl
theorem bI_01 {b : Bool} : (bI b = 0 ∨ bI b = 1) = True := by cases b <;> simp [bI]
theorem z0 : (((0 : Int32) = 0 ∨ (0 : Int32) = 1)) = True := by simp
theorem z1 : (((1 : Int32) = 0 ∨ (1 : Int32) = 1)) = True := by simp
theorem okP_n : (okP none = true) = True := by simp [okP]
theorem okP_i {x : Int32} : (okP (some (.int x)) = true) = True := by simp [okP]
theorem okP_r {x : Nat} : (okP (some (.ref x)) = true) = True := by simp [okP]
theorem vtl {v : Value} {st : List Value} : (some v).toList ++ st = v :: st := rfl
theorem vtn {st : List Value} : (none : Option Value).toList ++ st = st := rfl
theorem oo_s {α : Type} {x : α} {f : α → Prop} : oo (some x) f = f x := rfl
theorem cRc_ok {p c : Nat} {st : List Value} (h : gRcv p = some c) (h2 : catS st ≤ 8) : cRc p c st = True := eq_true ⟨h, h2⟩
theorem Cl_go {d k : Nat} {as : List Value} {L : aL} {w : hW} {Q : aPost} (h : padL (gML k) (spv as) = L) : Cl d k as w Q = Go d k 0 L [] w Q := by rw [← h]; rfl
def isTab (p : Nat) : Prop := p = 3 ∨ p = 5 ∨ p = 7 ∨ p = 10 ∨ p = 12 ∨ p = 14 ∨ p = 17 ∨ p = 19 ∨ p = 21
theorem tb_9 {p : Nat} (h : isTab p) : gGet 5 9 p = some (.inr (p + 1)) := by rcases h with rfl | rfl | rfl | rfl | rfl | rfl | rfl | rfl | rfl <;> decide +kernel
theorem tb_15 {p : Nat} (h : isTab p) : gGet 5 15 p = some (.inl 1) := by rcases h with rfl | rfl | rfl | rfl | rfl | rfl | rfl | rfl | rfl <;> decide +kernel
theorem tb_19 {p : Nat} (h : isTab p) : gGet 5 19 p = some (.inl 2) := by rcases h with rfl | rfl | rfl | rfl | rfl | rfl | rfl | rfl | rfl <;> decide +kernel
theorem tb_22 {p : Nat} (h : isTab p) : gGet 5 22 p = some (.inl 3) := by rcases h with rfl | rfl | rfl | rfl | rfl | rfl | rfl | rfl | rfl <;> decide +kernel
theorem tb_p22 {p : Nat} (h : isTab p) : gPut 5 22 p = some (3, false) := by rcases h with rfl | rfl | rfl | rfl | rfl | rfl | rfl | rfl | rfl <;> decide +kernel
theorem tb_arr {p : Nat} (h : isTab p) : gArr (p + 1) = some (1, 48) := by rcases h with rfl | rfl | rfl | rfl | rfl | rfl | rfl | rfl | rfl <;> decide +kernel
theorem tb_len {p : Nat} (h : isTab p) : gLen (p + 1) = some 48 := by rcases h with rfl | rfl | rfl | rfl | rfl | rfl | rfl | rfl | rfl <;> decide +kernel
theorem tb_rcv {p : Nat} (h : isTab p) : gRcv p = some 5 := by rcases h with rfl | rfl | rfl | rfl | rfl | rfl | rfl | rfl | rfl <;> decide +kernel
theorem catS0 : (catS [] ≤ 8) = True := by simp [catS]
def tHas (w : hW) (p : Nat) (i : Int32) : Bool := decide (¬ i < 0) && decide (i < w.1 p 3)
theorem c5_has {d p : Nat} (h : isTab p) {i : Int32} {w : hW} {Q : aPost} : Cl d 59 [.ref p, .int i] w Q = Q (some (.int (bI (tHas w p i)))) w := by
  rw [Cl_go (L := [some (.ref p), some (.int i)]) rfl]
  simp only [s59_0, s59_1, s59_4, s59_5, s59_6, s59_9, s59_12, s59_13, s59_16, s59_17, tb_22 h, gF_i, z0, z1, true_and]
  repeat' split
  all_goals simp_all [tHas, bI]

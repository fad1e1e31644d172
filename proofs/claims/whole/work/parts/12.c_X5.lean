/-! CONTRACTS of Table (class 5), for each of the nine tables -/
def bI (b : Bool) : Int32 := if b then 1 else 0
theorem bI_ite {α : Sort _} {b : Bool} {A B : α} : (if bI b = 0 then A else B) = (if b = true then B else A) := by cases b <;> rfl
theorem bI_01 {b : Bool} : (bI b = 0 ∨ bI b = 1) = True := by cases b <;> simp [bI]
theorem z0 : (((0 : Int32) = 0 ∨ (0 : Int32) = 1)) = True := by simp
theorem z1 : (((1 : Int32) = 0 ∨ (1 : Int32) = 1)) = True := by simp
theorem okP_n : (okP none = true) = True := by simp [okP]
theorem okP_i {x : Int32} : (okP (some (.int x)) = true) = True := by simp [okP]
theorem okP_r {x : Nat} : (okP (some (.ref x)) = true) = True := by simp [okP]
theorem vtl {v : Value} {st : List Value} : (some v).toList ++ st = v :: st := rfl
theorem vtn {st : List Value} : (none : Option Value).toList ++ st = st := rfl
theorem oo_s {α : Type} {x : α} {f : α → Prop} : oo (some x) f = f x := rfl
theorem cRc_ok {p c : Nat} {st : List Value} (h : gRcv p = some c) (h2 : catS st ≤ 8) : cRc p c st = True := eq_true ⟨h, h2⟩
theorem Cl_go {d k : Nat} {as : List Value} {L : aL} {w : hW} {Q : aPost} (h : padL (gML k) (spv as) = L) : Cl d k as w Q = Go d k 0 L [] w Q := by rw [← h]; rfl
def isTab (p : Nat) : Prop := p = 3 ∨ p = 5 ∨ p = 7 ∨ p = 10 ∨ p = 12 ∨ p = 14 ∨ p = 17 ∨ p = 19 ∨ p = 21
theorem tb_9 {p : Nat} (h : isTab p) : gGet 5 9 p = some (.inr (p + 1)) := by rcases h with rfl | rfl | rfl | rfl | rfl | rfl | rfl | rfl | rfl <;> decide +kernel
theorem tb_15 {p : Nat} (h : isTab p) : gGet 5 15 p = some (.inl 1) := by rcases h with rfl | rfl | rfl | rfl | rfl | rfl | rfl | rfl | rfl <;> decide +kernel
theorem tb_19 {p : Nat} (h : isTab p) : gGet 5 19 p = some (.inl 2) := by rcases h with rfl | rfl | rfl | rfl | rfl | rfl | rfl | rfl | rfl <;> decide +kernel
theorem tb_22 {p : Nat} (h : isTab p) : gGet 5 22 p = some (.inl 3) := by rcases h with rfl | rfl | rfl | rfl | rfl | rfl | rfl | rfl | rfl <;> decide +kernel
theorem tb_p22 {p : Nat} (h : isTab p) : gPut 5 22 p = some (3, false) := by rcases h with rfl | rfl | rfl | rfl | rfl | rfl | rfl | rfl | rfl <;> decide +kernel
theorem tb_arr {p : Nat} (h : isTab p) : gArr (p + 1) = some (1, 48) := by rcases h with rfl | rfl | rfl | rfl | rfl | rfl | rfl | rfl | rfl <;> decide +kernel
theorem tb_len {p : Nat} (h : isTab p) : gLen (p + 1) = some 48 := by rcases h with rfl | rfl | rfl | rfl | rfl | rfl | rfl | rfl | rfl <;> decide +kernel
theorem tb_rcv {p : Nat} (h : isTab p) {st : List Value} : cRc p 5 st = (catS st ≤ 8) := by
  have h1 : gRcv p = some 5 := by rcases h with rfl | rfl | rfl | rfl | rfl | rfl | rfl | rfl | rfl <;> decide +kernel
  unfold cRc
  rw [h1]
  simp
theorem cs0 : (catS [] ≤ 8) = True := by simp [catS]
theorem cs_n : catS [] = 0 := rfl
theorem cs_i {x : Int32} {st : List Value} : catS (.int x :: st) = 1 + catS st := rfl
theorem cs_r {x : Nat} {st : List Value} : catS (.ref x :: st) = 1 + catS st := rfl
theorem cs_l {x : Int64} {st : List Value} : catS (.long x :: st) = 2 + catS st := rfl
theorem n48 : Int32.ofNat 48 = 48 := rfl
/-! numbers -/
theorem i32_add {a b : Int32} (h1 : -2147483648 ≤ a.toInt + b.toInt) (h2 : a.toInt + b.toInt < 2147483648) : (a + b).toInt = a.toInt + b.toInt := by
  rw [Int32.toInt_add]
  exact Int.bmod_eq_of_le (by omega) (by omega)
theorem i32_mul {a b : Int32} (h1 : -2147483648 ≤ a.toInt * b.toInt) (h2 : a.toInt * b.toInt < 2147483648) : (a * b).toInt = a.toInt * b.toInt := by
  rw [Int32.toInt_mul]
  exact Int.bmod_eq_of_le (by omega) (by omega)
theorem i32_sub {a b : Int32} (h1 : -2147483648 ≤ a.toInt - b.toInt) (h2 : a.toInt - b.toInt < 2147483648) : (a - b).toInt = a.toInt - b.toInt := by
  rw [Int32.toInt_sub]
  exact Int.bmod_eq_of_le (by omega) (by omega)
theorem i32_lt {a b : Int32} : a < b ↔ a.toInt < b.toInt := Int32.lt_iff_toInt_lt
theorem i32_le {a b : Int32} : a ≤ b ↔ a.toInt ≤ b.toInt := Int32.le_iff_toInt_le
theorem i32_eq {a b : Int32} : a = b ↔ a.toInt = b.toInt := Int32.toInt_inj.symm
theorem i32_clamp (a : Int32) : a.toNatClampNeg = a.toInt.toNat := rfl
/-! what a table's methods answer; tI: a table's numbers keep to its room -/
def tI (w : hW) (p : Nat) : Prop := 0 ≤ (w.1 p 3).toInt ∧ (w.1 p 3).toInt ≤ (w.1 p 1).toInt ∧ 1 ≤ (w.1 p 2).toInt ∧ (w.1 p 1).toInt * (w.1 p 2).toInt ≤ 48
def tHas (w : hW) (p : Nat) (i : Int32) : Bool := !decide (i < 0) && decide (i < w.1 p 3)
def tFull (w : hW) (p : Nat) : Bool := !decide (w.1 p 3 < w.1 p 1)
def tHasC (w : hW) (p : Nat) (i k : Int32) : Bool := tHas w p i && (!decide (k < 0) && decide (k < w.1 p 2))
def tAt (w : hW) (p : Nat) (i k : Int32) : Nat := i.toInt.toNat * (w.1 p 2).toInt.toNat + k.toInt.toNat
def tCell (w : hW) (p : Nat) (i k : Int32) : Int32 := if tHasC w p i k then w.1 (p + 1) (tAt w p i k) else -1
def tPut (w : hW) (p : Nat) (i k v : Int32) : hW := if tHasC w p i k then wI w (p + 1) (tAt w p i k) v else w
def tTake (w : hW) (p o : Nat) : hW := (fun q j => if q = p ∧ j = 3 then w.1 o 3 else if q = p + 1 ∧ j < 48 then w.1 (o + 1) j else w.1 q j, w.2)
theorem tAt_lt {w : hW} {p : Nat} {i k : Int32} (h : tI w p) (hc : tHasC w p i k = true) : (i * w.1 p 2 + k).toInt = (tAt w p i k : Int) ∧ tAt w p i k < 48 := by
  obtain ⟨h1, h2, h3, h4⟩ := h
  simp only [tHasC, tHas, Bool.and_eq_true, Bool.not_eq_true', decide_eq_false_iff_not, decide_eq_true_eq, i32_lt] at hc
  obtain ⟨⟨a1, a2⟩, a3, a4⟩ := hc
  have z : (0 : Int32).toInt = 0 := rfl
  rw [z] at a1 a3
  obtain ⟨I, hI⟩ : ∃ n : Nat, i.toInt = n := ⟨i.toInt.toNat, by omega⟩
  obtain ⟨K, hK⟩ : ∃ n : Nat, k.toInt = n := ⟨k.toInt.toNat, by omega⟩
  obtain ⟨W, hW⟩ : ∃ n : Nat, (w.1 p 2).toInt = n := ⟨(w.1 p 2).toInt.toNat, by omega⟩
  obtain ⟨R, hR⟩ : ∃ n : Nat, (w.1 p 1).toInt = n := ⟨(w.1 p 1).toInt.toNat, by omega⟩
  have hRW : R * W ≤ 48 := by rw [hR, hW] at h4; exact_mod_cast h4
  have hIR : I + 1 ≤ R := by omega
  have hKW : K < W := by omega
  have hm : (I + 1) * W ≤ R * W := Nat.mul_le_mul_right W hIR
  rw [Nat.add_mul, Nat.one_mul] at hm
  have e1 : (i * w.1 p 2).toInt = (I * W : Nat) := by
    rw [i32_mul (by rw [hI, hW]; have : (0 : Int) ≤ (I : Int) * (W : Int) := by exact_mod_cast Nat.zero_le _
                    omega) (by rw [hI, hW]; have : ((I : Int) * (W : Int)) = ((I * W : Nat) : Int) := by norm_cast
                               omega), hI, hW]
    norm_cast
  have e2 : tAt w p i k = I * W + K := by
    unfold tAt
    rw [hI, hW, hK]
    simp
  refine ⟨?_, by omega⟩
  rw [i32_add (by omega) (by omega), e1, e2, hK]
  norm_cast
theorem c5_has {d p : Nat} (h : isTab p) {i : Int32} {w : hW} {Q : aPost} : Cl d 59 [.ref p, .int i] w Q = Q (some (.int (bI (tHas w p i)))) w := by
  rw [Cl_go (L := [some (.ref p), some (.int i)]) rfl]
  simp only [s59_0, s59_1, s59_4, s59_5, s59_6, s59_9, s59_12, s59_13, s59_16, s59_17, gF_i, gF_r, gP_f, gP_t, aRd_1, aRd_4, aKd_e, oo_s, z0, z1, okP_n, okP_i, okP_r, vtl, vtn, true_and, and_true, bI_ite, bI_01, tb_22 h]
  repeat' split
  all_goals simp only [tHas, bI, *, decide_true, decide_false, not_true_eq_false, not_false_eq_true, Bool.and_true, Bool.true_and, Bool.and_false, Bool.false_and, Bool.or_true, Bool.true_or, Bool.or_false, Bool.false_or, Bool.not_true, Bool.not_false, ite_true, ite_false, if_true, if_false, Bool.false_eq_true, reduceIte, decide_not, and_true, true_and, and_false, false_and, or_true, true_or, or_false, false_or, not_false, not_true]
theorem c5_isFull {d p : Nat} (h : isTab p) {w : hW} {Q : aPost} : Cl d 60 [.ref p] w Q = Q (some (.int (bI (tFull w p)))) w := by
  rw [Cl_go (L := [some (.ref p)]) rfl]
  simp only [s60_0, s60_1, s60_4, s60_5, s60_8, s60_11, s60_12, s60_15, s60_16, gF_i, gF_r, gP_f, gP_t, aRd_1, aRd_4, aKd_e, oo_s, z0, z1, okP_n, okP_i, okP_r, vtl, vtn, true_and, and_true, bI_ite, bI_01, tb_22 h, tb_15 h]
  repeat' split
  all_goals simp only [tFull, bI, *, decide_true, decide_false, not_true_eq_false, not_false_eq_true, Bool.and_true, Bool.true_and, Bool.and_false, Bool.false_and, Bool.or_true, Bool.true_or, Bool.or_false, Bool.false_or, Bool.not_true, Bool.not_false, ite_true, ite_false, if_true, if_false, Bool.false_eq_true, reduceIte, decide_not, and_true, true_and, and_false, false_and, or_true, true_or, or_false, false_or, not_false, not_true]
theorem c5_hasCell {d p : Nat} (h : isTab p) {i k : Int32} {w : hW} {Q : aPost} : Cl (d + 1) 61 [.ref p, .int i, .int k] w Q = Q (some (.int (bI (tHasC w p i k)))) w := by
  rw [Cl_go (L := [some (.ref p), some (.int i), some (.int k)]) rfl]
  simp only [s61_0, s61_1, s61_2, s61_5, s61_8, s61_9, s61_12, s61_13, s61_14, s61_17, s61_20, s61_21, s61_24, s61_25, gF_i, gF_r, gP_f, gP_t, aRd_1, aRd_4, aKd_e, oo_s, z0, z1, okP_n, okP_i, okP_r, vtl, vtn, true_and, and_true, bI_ite, bI_01, tb_19 h, tb_rcv h, cs0, c5_has h]
  repeat' split
  all_goals simp only [tHasC, bI, *, decide_true, decide_false, not_true_eq_false, not_false_eq_true, Bool.and_true, Bool.true_and, Bool.and_false, Bool.false_and, Bool.or_true, Bool.true_or, Bool.or_false, Bool.false_or, Bool.not_true, Bool.not_false, ite_true, ite_false, if_true, if_false, Bool.false_eq_true, reduceIte, decide_not, and_true, true_and, and_false, false_and, or_true, true_or, or_false, false_or, not_false, not_true]
theorem c5_cell {d p : Nat} (h : isTab p) {i k : Int32} {w : hW} (hI : tI w p) {Q : aPost} : Cl d 62 [.ref p, .int i, .int k] w Q = Q (some (.int (tCell w p i k))) w := by
  rw [Cl_go (L := [some (.ref p), some (.int i), some (.int k), none, none]) rfl]
  simp only [s62_0, s62_1, s62_2, s62_5, s62_6, s62_7, s62_8, s62_9, s62_10, s62_13, s62_14, s62_15, s62_18, s62_21, s62_22, s62_25, s62_26, s62_27, s62_30, s62_33, s62_34, s62_37, s62_38, s62_40, s62_42, s62_45, s62_46, s62_47, s62_50, s62_51, s62_54, s62_55, s62_58, s62_59, s62_60, s62_63, s62_64, gF_i, gF_r, gP_f, gP_t, aRd_1, aRd_4, aKd_e, oo_s, z0, z1, okP_n, okP_i, okP_r, vtl, vtn, true_and, and_true, bI_ite, bI_01, tb_19 h, tb_22 h, tb_9 h, tb_arr h, tb_len h, n48]
  by_cases hc : tHasC w p i k = true
  · obtain ⟨e1, e2⟩ := tAt_lt hI hc
    have hc' := hc
    simp only [tHasC, tHas, Bool.and_eq_true, Bool.not_eq_true', decide_eq_false_iff_not, decide_eq_true_eq] at hc'
    obtain ⟨⟨a1, a2⟩, a3, a4⟩ := hc'
    have e3 : i * w.1 p 2 + k < 48 := by
      rw [i32_lt, e1]
      show (tAt w p i k : Int) < 48
      omega
    have e4 : inb (i * w.1 p 2 + k) 48 := ⟨by rw [e1]; omega, by rw [e1]; omega⟩
    simp only [a1, a2, a3, a4, e3, e4, decide_true, decide_false, not_true_eq_false, not_false_eq_true, Bool.and_true, Bool.true_and, Bool.and_false, Bool.false_and, Bool.or_true, Bool.true_or, Bool.or_false, Bool.false_or, Bool.not_true, Bool.not_false, ite_true, ite_false, if_true, if_false, Bool.false_eq_true, reduceIte, decide_not, and_true, true_and, and_false, false_and, or_true, true_or, or_false, false_or, not_false, not_true, tCell, hc, i32_clamp, e1, Int.toNat_natCast]
    rfl
  · have hc2 : tCell w p i k = -1 := by simp only [tCell, hc, decide_true, decide_false, not_true_eq_false, not_false_eq_true, Bool.and_true, Bool.true_and, Bool.and_false, Bool.false_and, Bool.or_true, Bool.true_or, Bool.or_false, Bool.false_or, Bool.not_true, Bool.not_false, ite_true, ite_false, if_true, if_false, Bool.false_eq_true, reduceIte, decide_not, and_true, true_and, and_false, false_and, or_true, true_or, or_false, false_or, not_false, not_true]
    rw [hc2]
    simp only [tHasC, tHas, Bool.and_eq_true, Bool.not_eq_true', decide_eq_false_iff_not, decide_eq_true_eq] at hc
    repeat' split
    all_goals first | rfl | (exfalso; simp_all; done) | simp_all
theorem wI_s {w : hW} {p i : Nat} {x : Int32} : (wI w p i x).1 p i = x := by simp [wI]
theorem wI_o {w : hW} {p i q j : Nat} {x : Int32} (h : ¬ (q = p ∧ j = i)) : (wI w p i x).1 q j = w.1 q j := by simp [wI, h]
theorem wI_p {w : hW} {p i q j : Nat} {x : Int32} (h : q ≠ p) : (wI w p i x).1 q j = w.1 q j := by simp [wI, h]
theorem wI_2 {w : hW} {p i : Nat} {x : Int32} : (wI w p i x).2 = w.2 := rfl
theorem tab_ne {p o : Nat} (hp : isTab p) (ho : isTab o) : o ≠ p + 1 := by
  rcases hp with rfl | rfl | rfl | rfl | rfl | rfl | rfl | rfl | rfl <;> rcases ho with rfl | rfl | rfl | rfl | rfl | rfl | rfl | rfl | rfl <;> decide
theorem c5_put {d p : Nat} (h : isTab p) {i k v : Int32} {w : hW} (hI : tI w p) {Q : aPost} : Cl (d + 2) 63 [.ref p, .int i, .int k, .int v] w Q = Q none (tPut w p i k v) := by
  rw [Cl_go (L := [some (.ref p), some (.int i), some (.int k), some (.int v), none]) rfl]
  simp only [s63_0, s63_1, s63_2, s63_5, s63_6, s63_7, s63_8, s63_10, s63_11, s63_12, s63_13, s63_16, s63_19, s63_21, s63_22, s63_25, s63_26, s63_29, s63_30, s63_33, s63_35, s63_36, s63_37, gF_i, gF_r, gP_f, gP_t, aRd_1, aRd_4, aKd_e, oo_s, z0, z1, okP_n, okP_i, okP_r, vtl, vtn, true_and, and_true, bI_ite, bI_01, tb_19 h, tb_9 h, tb_arr h, tb_len h, tb_rcv h, cs0, c5_hasCell h, n48]
  by_cases hc : tHasC w p i k = true
  · obtain ⟨e1, e2⟩ := tAt_lt hI hc
    have e3 : i * w.1 p 2 + k < 48 := by
      rw [i32_lt, e1]
      show (tAt w p i k : Int) < 48
      omega
    have e4 : inb (i * w.1 p 2 + k) 48 := ⟨by rw [e1]; omega, by rw [e1]; omega⟩
    simp only [hc, e3, e4, decide_true, decide_false, not_true_eq_false, not_false_eq_true, Bool.and_true, Bool.true_and, Bool.and_false, Bool.false_and, Bool.or_true, Bool.true_or, Bool.or_false, Bool.false_or, Bool.not_true, Bool.not_false, ite_true, ite_false, if_true, if_false, Bool.false_eq_true, reduceIte, decide_not, and_true, true_and, and_false, false_and, or_true, true_or, or_false, false_or, not_false, not_true, tPut, i32_clamp, e1, Int.toNat_natCast]
  · simp only [hc, decide_true, decide_false, not_true_eq_false, not_false_eq_true, Bool.and_true, Bool.true_and, Bool.and_false, Bool.false_and, Bool.or_true, Bool.true_or, Bool.or_false, Bool.false_or, Bool.not_true, Bool.not_false, ite_true, ite_false, if_true, if_false, Bool.false_eq_true, reduceIte, decide_not, and_true, true_and, and_false, false_and, or_true, true_or, or_false, false_or, not_false, not_true, tPut]
theorem c5_append {d p : Nat} (h : isTab p) {w : hW} {Q : aPost} : Cl d 64 [.ref p] w Q = Q (some (.int (w.1 p 3))) (wI w p 3 (w.1 p 3 + 1)) := by
  rw [Cl_go (L := [some (.ref p)]) rfl]
  simp only [s64_0, s64_1i, s64_1, s64_2, s64_5, s64_6, s64_7, s64_10, s64_11, s64_14, s64_15, s64_16, gF_i, gF_r, gP_f, gP_t, aRd_1, aRd_4, aKd_e, oo_s, z0, z1, okP_n, okP_i, okP_r, vtl, vtn, true_and, and_true, bI_ite, bI_01, tb_22 h, tb_p22 h, wI_s]
  rw [show w.1 p 3 + 1 - 1 = w.1 p 3 from Int32.add_sub_cancel _ _]
theorem tb_cpy {p o : Nat} (h : isTab p) (ho : isTab o) {w : hW} {f : hW → Prop} : cpyA (o + 1) (p + 1) 0 0 48 w f = f (fun r => if r = p + 1 then va_cpy (w.1 (o + 1)) (w.1 (p + 1)) 0 0 48 else w.1 r, w.2) := by
  unfold cpyA
  rw [tb_arr h, tb_arr ho]
  exact propext ⟨fun z => z.2, fun z => ⟨by decide, z⟩⟩
theorem c5_takeOver {d p o : Nat} (h : isTab p) (ho : isTab o) {w : hW} {Q : aPost} : Cl d 65 [.ref p, .ref o] w Q = Q none (tTake w p o) := by
  rw [Cl_go (L := [some (.ref p), some (.ref o)]) rfl]
  simp only [s65_0, s65_1, s65_4, s65_5, s65_6, s65_9, s65_10, s65_12, s65_15, s65_16, s65_17, s65_20, s65_23, gF_i, gF_r, gP_f, gP_t, aRd_1, aRd_4, aKd_e, oo_s, z0, z1, okP_n, okP_i, okP_r, vtl, vtn, true_and, and_true, bI_ite, bI_01, tb_22 ho, tb_p22 h, tb_9 h, tb_9 ho, cs0, tb_cpy h ho, if_neg (tab_ne h ho)]
  have e : wI (fun r => if r = p + 1 then va_cpy (w.1 (o + 1)) (w.1 (p + 1)) 0 0 48 else w.1 r, w.2) p 3 (w.1 o 3) = tTake w p o := by
    refine Prod.ext (funext fun q => funext fun j => ?_) rfl
    simp only [wI, tTake, va_cpy]
    by_cases h1 : q = p ∧ j = 3
    · simp [h1]
    · simp only [h1, if_false]
      by_cases h2 : q = p + 1
      · subst h2
        simp [va_cpy]
      · simp [h2]
  rw [e]

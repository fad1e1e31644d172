/-! CONTRACTS of Valley.takeOver and of Shelves (class 4) -/
def vTake3 (w : hW) (b o : Nat) : hW := tTake (tTake (tTake w (b + 1) (o + 1)) (b + 3) (o + 3)) (b + 5) (o + 5)
def vTake (w : hW) (b o : Nat) : hW := wI (wI (wI (wI (wI (wI (vTake3 w b o) b 3 (w.1 o 3)) b 4 (w.1 o 4)) b 5 (w.1 o 5)) b 6 (w.1 o 6)) b 7 (w.1 o 7)) b 8 (w.1 o 8)
theorem tTake_p {w : hW} {p o q j : Nat} (h1 : q ≠ p) (h2 : q ≠ p + 1) : (tTake w p o).1 q j = w.1 q j := by simp [tTake, h1, h2]
theorem vTake3_val {w : hW} {b o c j : Nat} (hb : isVal b) (hc : isVal c) : (vTake3 w b o).1 c j = w.1 c j := by
  unfold vTake3
  rw [tTake_p (val_ne hc (vt5 hb)).2 (val_ne hc (vt5 hb)).1, tTake_p (val_ne hc (vt3 hb)).2 (val_ne hc (vt3 hb)).1, tTake_p (val_ne hc (vt1 hb)).2 (val_ne hc (vt1 hb)).1]
def sHas (s : Int32) : Bool := !decide (s < 0) && decide (s < 8)
def sCont (w : hW) (s : Int32) : Int32 := if sHas s then w.1 24 s.toNatClampNeg else -1
def sRow (w : hW) (s : Int32) : Bool := !decide (sCont w s < 100)
def sThing (w : hW) (s : Int32) : Bool := !decide (sCont w s = -1) && !sRow w s
def sNo (w : hW) (s : Int32) : Int32 := if sHas s then (if sRow w s then 0 else if sThing w s then -2 else -3) else -1
def sNo2 (w : hW) (p q : Int32) : Int32 := if (sHas p && sHas q) = false then -1 else if (sThing w p || (sThing w q || (sRow w p && (sRow w q && !decide (sCont w p = sCont w q))))) = true then -2 else if (sRow w p && sRow w q) = true then 0 else -3
def sSize (w : hW) (s : Int32) : Int32 := if sHas s then w.1 25 s.toNatClampNeg else 0
def sSpan (w : hW) (s i n : Int32) : Bool := !decide (i < 0) && (!decide (n < 0) && !decide ((sSize w s).toInt64 < i.toInt64 + n.toInt64))
def sLow (o : Int32) (v : Int64) : Int64 := if o = 0 then v.toInt32.toInt8.toInt32.toInt64 else if o = 1 then v.toInt32.toInt16.toInt32.toInt64 else if o = 2 then v.toInt32.toInt64 else v
def sPut (w : hW) (s i : Int32) (v : Int64) : hW := if sSpan w s i 1 then wJ w (27 + s.toNatClampNeg) i.toNatClampNeg (sLow (w.1 24 s.toNatClampNeg - 100) v) else w
def sLong (w : hW) (s i : Int32) : Int64 := if sSpan w s i 1 then w.2 (27 + s.toNatClampNeg) i.toNatClampNeg else 0
def sBring (w : hW) (p q i j n : Int32) : hW := if (sSpan w p i n && sSpan w q j n) = true then (w.1, fun r => if r = 27 + q.toNatClampNeg then va_cpy (w.2 (27 + p.toNatClampNeg)) (w.2 (27 + q.toNatClampNeg)) i.toNatClampNeg j.toNatClampNeg n.toNatClampNeg else w.2 r) else w
def sZero (w : hW) (s : Int32) (n : Nat) : hW := (w.1, fun q j => if q = 27 + s.toNatClampNeg ∧ j < n then 0 else w.2 q j)
def sMake (w : hW) (s o n : Int32) : hW := sZero (wI (wI w 24 s.toNatClampNeg (100 + o)) 25 s.toNatClampNeg n) s 160
def sHold (w : hW) (s t : Int32) : hW := if sHas s then wI (wI w 24 s.toNatClampNeg t) 25 s.toNatClampNeg 0 else w
def sDrop (n : Int32) : Nat → Nat → hW → hW
  | _, 0, w => w
  | i, m + 1, w => sDrop n (i + 1) m (if (sThing w (nI i) && !decide (w.1 24 i < n)) = true then wI w 24 i (-1) else w)
/-- the shelves' numbers keep to their room -/
def shI (w : hW) : Prop := ∀ s : Nat, s < 8 → 0 ≤ (w.1 25 s).toInt ∧ (w.1 25 s).toInt ≤ 160
theorem sHas_in {s : Int32} (h : sHas s = true) : inb s 8 := by
  simp only [sHas, Bool.and_eq_true, Bool.not_eq_true', decide_eq_false_iff_not, decide_eq_true_eq, i32_lt] at h
  have z : (0 : Int32).toInt = 0 := rfl
  have z8 : (8 : Int32).toInt = 8 := rfl
  exact ⟨by omega, by omega⟩
theorem sHas_lt {s : Int32} (h : sHas s = true) : s.toNatClampNeg < 8 := by
  have e : s.toNatClampNeg = s.toInt.toNat := rfl
  obtain ⟨h1, h2⟩ := sHas_in h
  omega
theorem row_arr {s : Nat} (h : s < 8) : gArr (27 + s) = some (2, 160) := by
  match s, h with
  | 0, _ => decide +kernel
  | 1, _ => decide +kernel
  | 2, _ => decide +kernel
  | 3, _ => decide +kernel
  | 4, _ => decide +kernel
  | 5, _ => decide +kernel
  | 6, _ => decide +kernel
  | 7, _ => decide +kernel
theorem toI64 (x : Int32) : x.toInt64.toInt = x.toInt := Int32.toInt_toInt64 x
theorem i64_lt {a b : Int64} : a < b ↔ a.toInt < b.toInt := Int64.lt_iff_toInt_lt
theorem i64_addI {x y : Int32} : (x.toInt64 + y.toInt64).toInt = x.toInt + y.toInt := by
  have h1 := Int32.toInt_lt x
  have h2 := Int32.toInt_lt y
  have h3 := Int32.le_toInt x
  have h4 := Int32.le_toInt y
  rw [Int64.toInt_add, toI64, toI64]
  exact Int.bmod_eq_of_le (by omega) (by omega)
theorem sSpan_has {w : hW} {s i n : Int32} (h : sSpan w s i n = true) (hn : 0 < n.toInt) : sHas s = true := by
  simp only [sSpan, Bool.and_eq_true, Bool.not_eq_true', decide_eq_false_iff_not, i32_lt, i64_lt, i64_addI, toI64] at h
  obtain ⟨h1, h2, h3⟩ := h
  have z : (0 : Int32).toInt = 0 := rfl
  by_cases hs : sHas s = true
  · exact hs
  · unfold sSize at h3
    simp only [hs] at h3
    simp only [z, Bool.false_eq_true, if_false] at h1 h3
    omega
theorem sSpan_le {w : hW} {s i n : Int32} (hI : shI w) (h : sSpan w s i n = true) : 0 ≤ i.toInt ∧ 0 ≤ n.toInt ∧ i.toInt + n.toInt ≤ (sSize w s).toInt ∧ (sSize w s).toInt ≤ 160 := by
  simp only [sSpan, Bool.and_eq_true, Bool.not_eq_true', decide_eq_false_iff_not, i32_lt, i64_lt, i64_addI, toI64] at h
  obtain ⟨h1, h2, h3⟩ := h
  have z : (0 : Int32).toInt = 0 := rfl
  rw [z] at h1 h2
  refine ⟨by omega, by omega, by omega, ?_⟩
  unfold sSize
  by_cases hs : sHas s = true
  · rw [if_pos hs]; exact (hI _ (sHas_lt hs)).2
  · rw [if_neg hs]; decide
section
variable {d b : Nat} {w : hW} {Q : aPost}
theorem c6_takeOver (hb : isVal b) {o : Nat} (ho : isVal o) (hne : o ≠ b) : Cl (d + 1) 66 [.ref b, .ref o] w Q = Q none (vTake w b o) := by
  rw [Cl_go (L := [some (.ref b), some (.ref o)]) rfl]
  simp only [s66_0, s66_1, s66_4, s66_5, s66_8, s66_11, s66_12, s66_15, s66_16, s66_19, s66_22, s66_23, s66_26, s66_27, s66_30, s66_33, s66_34, s66_35, s66_38, s66_41, s66_42, s66_43, s66_46, s66_49, s66_50, s66_51, s66_54, s66_57, s66_58, s66_59, s66_62, s66_65, s66_66, s66_67, s66_70, s66_73, s66_74, s66_75, s66_78, s66_81, gF_i, gF_r, gP_f, gP_t, aRd_1, aRd_4, aKd_e, oo_s, z0, z1, okP_n, okP_i, okP_r, vtl, vtn, true_and, and_true, bI_ite, bI_01, F6_14, F6_20, F6_23, F6_26, F6_30, F6_43, F6_37, F6_40, F6_46, F6_64, P6_26, P6_30, P6_43, P6_37, P6_40, P6_46, P6_64, hb, ho, vt1 hb, vt3 hb, vt5 hb, vt1 ho, vt3 ho, vt5 ho, tb_rcv (vt1 hb), tb_rcv (vt3 hb), tb_rcv (vt5 hb), cs_n, Nat.zero_le, cs_i, cs_r, cs_l, Nat.reduceAdd, Nat.reduceLeDiff, c5_takeOver]
  have e : tTake (tTake (tTake w (b + 1) (o + 1)) (b + 3) (o + 3)) (b + 5) (o + 5) = vTake3 w b o := rfl
  simp only [e, wI_p hne, vTake3_val hb ho]
  rfl
theorem c4_has {s : Int32} : Cl d 43 [.ref 23, .int s] w Q = Q (some (.int (bI (sHas s)))) w := by
  rw [Cl_go (L := [some (.ref 23), some (.int s)]) rfl]
  simp only [s43_0, s43_1, s43_4, s43_5, s43_7, s43_10, s43_11, s43_14, s43_15, gF_i, gF_r, gP_f, gP_t, aRd_1, aRd_4, aKd_e, oo_s, z0, z1, okP_n, okP_i, okP_r, vtl, vtn, true_and, and_true, bI_ite, bI_01]
  repeat' split
  all_goals simp only [sHas, bI, *, decide_true, decide_false, not_true_eq_false, not_false_eq_true, Bool.and_true, Bool.true_and, Bool.and_false, Bool.false_and, Bool.or_true, Bool.true_or, Bool.or_false, Bool.false_or, Bool.not_true, Bool.not_false, ite_true, ite_false, if_true, if_false, Bool.false_eq_true, reduceIte, decide_not, and_true, true_and, and_false, false_and, or_true, true_or, or_false, false_or, not_false, not_true]
theorem c4_content {s : Int32} : Cl (d + 1) 44 [.ref 23, .int s] w Q = Q (some (.int (sCont w s))) w := by
  rw [Cl_go (L := [some (.ref 23), some (.int s)]) rfl]
  simp only [s44_0, s44_1, s44_2, s44_5, s44_8, s44_9, s44_12, s44_13, s44_14, s44_17, s44_18, gF_i, gF_r, gP_f, gP_t, aRd_1, aRd_4, aKd_e, oo_s, z0, z1, okP_n, okP_i, okP_r, vtl, vtn, true_and, and_true, bI_ite, bI_01, F4_9, F4_15, F4_20, cs_n, Nat.zero_le, cs_i, cs_r, cs_l, Nat.reduceAdd, Nat.reduceLeDiff, R_4, A_24, c4_has]
  unfold sCont
  by_cases h : sHas s = true
  · simp only [h, sHas_in h, decide_true, decide_false, not_true_eq_false, not_false_eq_true, Bool.and_true, Bool.true_and, Bool.and_false, Bool.false_and, Bool.or_true, Bool.true_or, Bool.or_false, Bool.false_or, Bool.not_true, Bool.not_false, ite_true, ite_false, if_true, if_false, Bool.false_eq_true, reduceIte, decide_not, and_true, true_and, and_false, false_and, or_true, true_or, or_false, false_or, not_false, not_true]
  · simp only [h, decide_true, decide_false, not_true_eq_false, not_false_eq_true, Bool.and_true, Bool.true_and, Bool.and_false, Bool.false_and, Bool.or_true, Bool.true_or, Bool.or_false, Bool.false_or, Bool.not_true, Bool.not_false, ite_true, ite_false, if_true, if_false, Bool.false_eq_true, reduceIte, decide_not, and_true, true_and, and_false, false_and, or_true, true_or, or_false, false_or, not_false, not_true]
theorem c4_isRow {s : Int32} : Cl (d + 2) 45 [.ref 23, .int s] w Q = Q (some (.int (bI (sRow w s)))) w := by
  rw [Cl_go (L := [some (.ref 23), some (.int s)]) rfl]
  simp only [s45_0, s45_1, s45_2, s45_5, s45_7, s45_10, s45_11, s45_14, s45_15, gF_i, gF_r, gP_f, gP_t, aRd_1, aRd_4, aKd_e, oo_s, z0, z1, okP_n, okP_i, okP_r, vtl, vtn, true_and, and_true, bI_ite, bI_01, F4_9, F4_15, F4_20, cs_n, Nat.zero_le, cs_i, cs_r, cs_l, Nat.reduceAdd, Nat.reduceLeDiff, R_4, c4_content]
  repeat' split
  all_goals simp only [sRow, bI, *, decide_true, decide_false, not_true_eq_false, not_false_eq_true, Bool.and_true, Bool.true_and, Bool.and_false, Bool.false_and, Bool.or_true, Bool.true_or, Bool.or_false, Bool.false_or, Bool.not_true, Bool.not_false, ite_true, ite_false, if_true, if_false, Bool.false_eq_true, reduceIte, decide_not, and_true, true_and, and_false, false_and, or_true, true_or, or_false, false_or, not_false, not_true]
theorem c4_isThing {s : Int32} : Cl (d + 3) 46 [.ref 23, .int s] w Q = Q (some (.int (bI (sThing w s)))) w := by
  rw [Cl_go (L := [some (.ref 23), some (.int s)]) rfl]
  simp only [s46_0, s46_1, s46_2, s46_5, s46_6, s46_9, s46_10, s46_11, s46_14, s46_17, s46_18, s46_21, s46_22, gF_i, gF_r, gP_f, gP_t, aRd_1, aRd_4, aKd_e, oo_s, z0, z1, okP_n, okP_i, okP_r, vtl, vtn, true_and, and_true, bI_ite, bI_01, F4_9, F4_15, F4_20, cs_n, Nat.zero_le, cs_i, cs_r, cs_l, Nat.reduceAdd, Nat.reduceLeDiff, R_4, c4_content, c4_isRow]
  repeat' split
  all_goals simp only [sThing, bI, *, decide_true, decide_false, not_true_eq_false, not_false_eq_true, Bool.and_true, Bool.true_and, Bool.and_false, Bool.false_and, Bool.or_true, Bool.true_or, Bool.or_false, Bool.false_or, Bool.not_true, Bool.not_false, ite_true, ite_false, if_true, if_false, Bool.false_eq_true, reduceIte, decide_not, and_true, true_and, and_false, false_and, or_true, true_or, or_false, false_or, not_false, not_true]
theorem c4_noRow {s : Int32} : Cl (d + 4) 47 [.ref 23, .int s] w Q = Q (some (.int (sNo w s))) w := by
  rw [Cl_go (L := [some (.ref 23), some (.int s)]) rfl]
  simp only [s47_0, s47_1, s47_2, s47_5, s47_8, s47_9, s47_10, s47_11, s47_12, s47_15, s47_18, s47_19, s47_20, s47_21, s47_22, s47_25, s47_28, s47_30, s47_33, s47_35, gF_i, gF_r, gP_f, gP_t, aRd_1, aRd_4, aKd_e, oo_s, z0, z1, okP_n, okP_i, okP_r, vtl, vtn, true_and, and_true, bI_ite, bI_01, F4_9, F4_15, F4_20, cs_n, Nat.zero_le, cs_i, cs_r, cs_l, Nat.reduceAdd, Nat.reduceLeDiff, R_4, c4_has, c4_isRow, c4_isThing]
  unfold sNo
  repeat' split
  all_goals first | rfl | simp_all
theorem c4_noTwoRows {p q : Int32} : Cl (d + 4) 48 [.ref 23, .int p, .int q] w Q = Q (some (.int (sNo2 w p q))) w := by
  rw [Cl_go (L := [some (.ref 23), some (.int p), some (.int q), none]) rfl]
  simp only [s48_0, s48_1, s48_2, s48_5, s48_8, s48_9, s48_10, s48_13, s48_16, s48_17, s48_18, s48_19, s48_20, s48_23, s48_26, s48_27, s48_28, s48_31, s48_34, s48_35, s48_36, s48_39, s48_40, s48_41, s48_44, s48_47, s48_48, s48_51, s48_52, s48_53, s48_54, s48_55, s48_58, s48_61, s48_62, s48_63, s48_66, s48_69, s48_70, s48_73, s48_75, s48_76, s48_77, s48_78, s48_81, s48_84, s48_85, s48_86, s48_89, s48_92, s48_93, s48_96, s48_98, gF_i, gF_r, gP_f, gP_t, aRd_1, aRd_4, aKd_e, oo_s, z0, z1, okP_n, okP_i, okP_r, vtl, vtn, true_and, and_true, bI_ite, bI_01, F4_9, F4_15, F4_20, cs_n, Nat.zero_le, cs_i, cs_r, cs_l, Nat.reduceAdd, Nat.reduceLeDiff, R_4, c4_has, c4_isRow, c4_isThing, c4_content]
  unfold sNo2
  by_cases h1 : sHas p = true <;> by_cases h2 : sHas q = true <;> by_cases h3 : sThing w p = true <;> by_cases h4 : sThing w q = true <;> by_cases h5 : sRow w p = true <;> by_cases h6 : sRow w q = true <;> by_cases h7 : sCont w p = sCont w q <;> simp [h1, h2, h3, h4, h5, h6, h7]
theorem c4_sizeOf {s : Int32} : Cl (d + 1) 49 [.ref 23, .int s] w Q = Q (some (.int (sSize w s))) w := by
  rw [Cl_go (L := [some (.ref 23), some (.int s)]) rfl]
  simp only [s49_0, s49_1, s49_2, s49_5, s49_8, s49_9, s49_12, s49_13, s49_14, s49_17, s49_18, gF_i, gF_r, gP_f, gP_t, aRd_1, aRd_4, aKd_e, oo_s, z0, z1, okP_n, okP_i, okP_r, vtl, vtn, true_and, and_true, bI_ite, bI_01, F4_9, F4_15, F4_20, cs_n, Nat.zero_le, cs_i, cs_r, cs_l, Nat.reduceAdd, Nat.reduceLeDiff, R_4, A_25, c4_has]
  unfold sSize
  by_cases h : sHas s = true
  · simp only [h, sHas_in h, decide_true, decide_false, not_true_eq_false, not_false_eq_true, Bool.and_true, Bool.true_and, Bool.and_false, Bool.false_and, Bool.or_true, Bool.true_or, Bool.or_false, Bool.false_or, Bool.not_true, Bool.not_false, ite_true, ite_false, if_true, if_false, Bool.false_eq_true, reduceIte, decide_not, and_true, true_and, and_false, false_and, or_true, true_or, or_false, false_or, not_false, not_true]
  · simp only [h, decide_true, decide_false, not_true_eq_false, not_false_eq_true, Bool.and_true, Bool.true_and, Bool.and_false, Bool.false_and, Bool.or_true, Bool.true_or, Bool.or_false, Bool.false_or, Bool.not_true, Bool.not_false, ite_true, ite_false, if_true, if_false, Bool.false_eq_true, reduceIte, decide_not, and_true, true_and, and_false, false_and, or_true, true_or, or_false, false_or, not_false, not_true]
theorem c4_span {s i n : Int32} : Cl (d + 2) 50 [.ref 23, .int s, .int i, .int n] w Q = Q (some (.int (bI (sHas s && sSpan w s i n)))) w := by
  rw [Cl_go (L := [some (.ref 23), some (.int s), some (.int i), some (.int n)]) rfl]
  by_cases hs : sHas s = true
  · simp only [s50_0, s50_1, s50_2, s50_5, s50_8, s50_9, s50_12, s50_13, s50_16, s50_17, s50_18, s50_19, s50_20, s50_21, s50_22, s50_23, s50_26, s50_27, s50_28, s50_31, s50_32, s50_35, s50_36, gF_i, gF_r, gP_f, gP_t, aRd_1, aRd_4, aKd_e, oo_s, z0, z1, okP_n, okP_i, okP_r, vtl, vtn, true_and, and_true, bI_ite, bI_01, F4_9, F4_15, F4_20, cs_n, Nat.zero_le, cs_i, cs_r, cs_l, Nat.reduceAdd, Nat.reduceLeDiff, R_4, c4_has, c4_sizeOf, lc_gt, lc_lt, hs, decide_true, decide_false, not_true_eq_false, not_false_eq_true, Bool.and_true, Bool.true_and, Bool.and_false, Bool.false_and, Bool.or_true, Bool.true_or, Bool.or_false, Bool.false_or, Bool.not_true, Bool.not_false, ite_true, ite_false, if_true, if_false, Bool.false_eq_true, reduceIte, decide_not, and_true, true_and, and_false, false_and, or_true, true_or, or_false, false_or, not_false, not_true]
    repeat' split
    all_goals simp only [sSpan, bI, *, decide_true, decide_false, not_true_eq_false, not_false_eq_true, Bool.and_true, Bool.true_and, Bool.and_false, Bool.false_and, Bool.or_true, Bool.true_or, Bool.or_false, Bool.false_or, Bool.not_true, Bool.not_false, ite_true, ite_false, if_true, if_false, Bool.false_eq_true, reduceIte, decide_not, and_true, true_and, and_false, false_and, or_true, true_or, or_false, false_or, not_false, not_true]
  · simp only [s50_0, s50_1, s50_2, s50_5, s50_8, s50_9, s50_12, s50_13, s50_16, s50_17, s50_18, s50_19, s50_20, s50_21, s50_22, s50_23, s50_26, s50_27, s50_28, s50_31, s50_32, s50_35, s50_36, gF_i, gF_r, gP_f, gP_t, aRd_1, aRd_4, aKd_e, oo_s, z0, z1, okP_n, okP_i, okP_r, vtl, vtn, true_and, and_true, bI_ite, bI_01, F4_9, F4_15, F4_20, cs_n, Nat.zero_le, cs_i, cs_r, cs_l, Nat.reduceAdd, Nat.reduceLeDiff, R_4, c4_has, hs, bI, decide_true, decide_false, not_true_eq_false, not_false_eq_true, Bool.and_true, Bool.true_and, Bool.and_false, Bool.false_and, Bool.or_true, Bool.true_or, Bool.or_false, Bool.false_or, Bool.not_true, Bool.not_false, ite_true, ite_false, if_true, if_false, Bool.false_eq_true, reduceIte, decide_not, and_true, true_and, and_false, false_and, or_true, true_or, or_false, false_or, not_false, not_true]
theorem c4_spans {s i n : Int32} (hs : sHas s = true) : Cl (d + 2) 50 [.ref 23, .int s, .int i, .int n] w Q = Q (some (.int (bI (sSpan w s i n)))) w := by
  rw [c4_span, hs, Bool.true_and]
theorem c4_span1 {s i : Int32} : Cl (d + 2) 50 [.ref 23, .int s, .int i, .int 1] w Q = Q (some (.int (bI (sSpan w s i 1)))) w := by
  rw [c4_span]
  by_cases h : sSpan w s i 1 = true
  · rw [sSpan_has h (by decide), Bool.true_and]
  · rw [Bool.not_eq_true] at h
    rw [h, Bool.and_false]
theorem no_has {s : Int32} (h : sNo w s = 0) : sHas s = true := by
  unfold sNo at h
  by_cases h1 : sHas s = true
  · exact h1
  · simp only [h1, decide_true, decide_false, not_true_eq_false, not_false_eq_true, Bool.and_true, Bool.true_and, Bool.and_false, Bool.false_and, Bool.or_true, Bool.true_or, Bool.or_false, Bool.false_or, Bool.not_true, Bool.not_false, ite_true, ite_false, if_true, if_false, Bool.false_eq_true, reduceIte, decide_not, and_true, true_and, and_false, false_and, or_true, true_or, or_false, false_or, not_false, not_true] at h
    exact absurd h (by decide)
theorem c4_lowest {o : Int32} {v : Int64} : Cl d 54 [.int o, .long v] w Q = Q (some (.long (sLow o v))) w := by
  rw [Cl_go (L := [some (.int o), some (.long v), none]) rfl]
  simp only [s54_0, s54_1, s54_28, s54_29, s54_30, s54_31, s54_32, s54_33, s54_34, s54_35, s54_36, s54_37, s54_38, s54_39, s54_40, s54_41, s54_42, s54_43, gF_i, gF_r, gP_f, gP_t, aRd_1, aRd_4, aKd_e, oo_s, z0, z1, okP_n, okP_i, okP_r, vtl, vtn, true_and, and_true, bI_ite, bI_01]
  unfold sLow
  repeat' split
  all_goals first | rfl | simp_all
theorem c4_longAt (hI : shI w) {s i : Int32} : Cl (d + 3) 55 [.ref 23, .int s, .int i] w Q = Q (some (.long (sLong w s i))) w := by
  rw [Cl_go (L := [some (.ref 23), some (.int s), some (.int i)]) rfl]
  simp only [s55_0, s55_1, s55_2, s55_3, s55_4, s55_7, s55_10, s55_11, s55_14, s55_15, s55_16, s55_17, s55_18, s55_21, s55_22, gF_i, gF_r, gP_f, gP_t, aRd_1, aRd_4, aKd_e, oo_s, z0, z1, okP_n, okP_i, okP_r, vtl, vtn, true_and, and_true, bI_ite, bI_01, F4_9, F4_15, F4_20, cs_n, Nat.zero_le, cs_i, cs_r, cs_l, Nat.reduceAdd, Nat.reduceLeDiff, R_4, c4_span1]
  unfold sLong
  by_cases h : sSpan w s i 1 = true
  · have h2 := sSpan_has h (by decide)
    obtain ⟨a1, a2, a3, a4⟩ := sSpan_le hI h
    have o1 : (1 : Int32).toInt = 1 := rfl
    have h3 : inb i 160 := ⟨a1, by omega⟩
    simp only [h, sHas_in h2, row_arr (sHas_lt h2), aKd_e, h3, decide_true, decide_false, not_true_eq_false, not_false_eq_true, Bool.and_true, Bool.true_and, Bool.and_false, Bool.false_and, Bool.or_true, Bool.true_or, Bool.or_false, Bool.false_or, Bool.not_true, Bool.not_false, ite_true, ite_false, if_true, if_false, Bool.false_eq_true, reduceIte, decide_not, and_true, true_and, and_false, false_and, or_true, true_or, or_false, false_or, not_false, not_true]
  · simp only [h, decide_true, decide_false, not_true_eq_false, not_false_eq_true, Bool.and_true, Bool.true_and, Bool.and_false, Bool.false_and, Bool.or_true, Bool.true_or, Bool.or_false, Bool.false_or, Bool.not_true, Bool.not_false, ite_true, ite_false, if_true, if_false, Bool.false_eq_true, reduceIte, decide_not, and_true, true_and, and_false, false_and, or_true, true_or, or_false, false_or, not_false, not_true]
theorem c4_intAt (hI : shI w) {s i : Int32} : Cl (d + 4) 56 [.ref 23, .int s, .int i] w Q = Q (some (.int (sLong w s i).toInt32)) w := by
  rw [Cl_go (L := [some (.ref 23), some (.int s), some (.int i)]) rfl]
  simp only [s56_0, s56_1, s56_2, s56_3, s56_6, s56_7, gF_i, gF_r, gP_f, gP_t, aRd_1, aRd_4, aKd_e, oo_s, z0, z1, okP_n, okP_i, okP_r, vtl, vtn, true_and, and_true, bI_ite, bI_01, F4_9, F4_15, F4_20, cs_n, Nat.zero_le, cs_i, cs_r, cs_l, Nat.reduceAdd, Nat.reduceLeDiff, R_4, hI, c4_longAt]
theorem c4_put (hI : shI w) {s i : Int32} {v : Int64} : Cl (d + 3) 53 [.ref 23, .int s, .int i, .long v] w Q = Q none (sPut w s i v) := by
  rw [Cl_go (L := [some (.ref 23), some (.int s), some (.int i), some (.long v), none]) rfl]
  simp only [s53_0, s53_1, s53_2, s53_3, s53_4, s53_7, s53_10, s53_11, s53_14, s53_15, s53_16, s53_17, s53_18, s53_21, s53_22, s53_23, s53_25, s53_26, s53_27, s53_30, s53_31, gF_i, gF_r, gP_f, gP_t, aRd_1, aRd_4, aKd_e, oo_s, z0, z1, okP_n, okP_i, okP_r, vtl, vtn, true_and, and_true, bI_ite, bI_01, F4_9, F4_15, F4_20, cs_n, Nat.zero_le, cs_i, cs_r, cs_l, Nat.reduceAdd, Nat.reduceLeDiff, R_4, c4_span1, A_24]
  unfold sPut
  by_cases h : sSpan w s i 1 = true
  · have h2 := sSpan_has h (by decide)
    obtain ⟨a1, a2, a3, a4⟩ := sSpan_le hI h
    have o1 : (1 : Int32).toInt = 1 := rfl
    have h3 : inb i 160 := ⟨a1, by omega⟩
    simp only [h, sHas_in h2, row_arr (sHas_lt h2), aKd_e, h3, decide_true, decide_false, not_true_eq_false, not_false_eq_true, Bool.and_true, Bool.true_and, Bool.and_false, Bool.false_and, Bool.or_true, Bool.true_or, Bool.or_false, Bool.false_or, Bool.not_true, Bool.not_false, ite_true, ite_false, if_true, if_false, Bool.false_eq_true, reduceIte, decide_not, and_true, true_and, and_false, false_and, or_true, true_or, or_false, false_or, not_false, not_true, c4_lowest, s53_0, s53_1, s53_2, s53_3, s53_4, s53_7, s53_10, s53_11, s53_14, s53_15, s53_16, s53_17, s53_18, s53_21, s53_22, s53_23, s53_25, s53_26, s53_27, s53_30, s53_31, gF_i, gF_r, gP_f, gP_t, aRd_1, aRd_4, aKd_e, oo_s, z0, z1, okP_n, okP_i, okP_r, vtl, vtn, true_and, and_true, bI_ite, bI_01]
  · simp only [h, decide_true, decide_false, not_true_eq_false, not_false_eq_true, Bool.and_true, Bool.true_and, Bool.and_false, Bool.false_and, Bool.or_true, Bool.true_or, Bool.or_false, Bool.false_or, Bool.not_true, Bool.not_false, ite_true, ite_false, if_true, if_false, Bool.false_eq_true, reduceIte, decide_not, and_true, true_and, and_false, false_and, or_true, true_or, or_false, false_or, not_false, not_true]
theorem c4_hold {s t : Int32} : Cl (d + 1) 52 [.ref 23, .int s, .int t] w Q = Q none (sHold w s t) := by
  rw [Cl_go (L := [some (.ref 23), some (.int s), some (.int t)]) rfl]
  simp only [s52_0, s52_1, s52_2, s52_5, s52_8, s52_9, s52_12, s52_13, s52_14, s52_15, s52_16, s52_19, s52_20, s52_21, s52_22, gF_i, gF_r, gP_f, gP_t, aRd_1, aRd_4, aKd_e, oo_s, z0, z1, okP_n, okP_i, okP_r, vtl, vtn, true_and, and_true, bI_ite, bI_01, F4_9, F4_15, F4_20, cs_n, Nat.zero_le, cs_i, cs_r, cs_l, Nat.reduceAdd, Nat.reduceLeDiff, R_4, c4_has, A_24, A_25]
  unfold sHold
  by_cases h : sHas s = true
  · simp only [h, sHas_in h, decide_true, decide_false, not_true_eq_false, not_false_eq_true, Bool.and_true, Bool.true_and, Bool.and_false, Bool.false_and, Bool.or_true, Bool.true_or, Bool.or_false, Bool.false_or, Bool.not_true, Bool.not_false, ite_true, ite_false, if_true, if_false, Bool.false_eq_true, reduceIte, decide_not, and_true, true_and, and_false, false_and, or_true, true_or, or_false, false_or, not_false, not_true]
  · simp only [h, decide_true, decide_false, not_true_eq_false, not_false_eq_true, Bool.and_true, Bool.true_and, Bool.and_false, Bool.false_and, Bool.or_true, Bool.true_or, Bool.or_false, Bool.false_or, Bool.not_true, Bool.not_false, ite_true, ite_false, if_true, if_false, Bool.false_eq_true, reduceIte, decide_not, and_true, true_and, and_false, false_and, or_true, true_or, or_false, false_or, not_false, not_true]
theorem c4_bring (hI : shI w) {p q i j n : Int32} (hp : sHas p = true) (hq : sHas q = true) : Cl (d + 3) 57 [.ref 23, .int p, .int q, .int i, .int j, .int n] w Q = Q none (sBring w p q i j n) := by
  rw [Cl_go (L := [some (.ref 23), some (.int p), some (.int q), some (.int i), some (.int j), some (.int n)]) rfl]
  simp only [s57_0, s57_1, s57_2, s57_3, s57_5, s57_8, s57_11, s57_12, s57_13, s57_15, s57_17, s57_20, s57_23, s57_24, s57_27, s57_28, s57_29, s57_30, s57_31, s57_34, s57_35, s57_36, s57_38, s57_40, s57_43, gF_i, gF_r, gP_f, gP_t, aRd_1, aRd_4, aKd_e, oo_s, z0, z1, okP_n, okP_i, okP_r, vtl, vtn, true_and, and_true, bI_ite, bI_01, F4_9, F4_15, F4_20, cs_n, Nat.zero_le, cs_i, cs_r, cs_l, Nat.reduceAdd, Nat.reduceLeDiff, R_4, c4_spans hp, c4_spans hq]
  unfold sBring
  by_cases h : sSpan w p i n = true
  · by_cases h2 : sSpan w q j n = true
    · obtain ⟨a1, a2, a3, a4⟩ := sSpan_le hI h
      obtain ⟨b1, b2, b3, b4⟩ := sSpan_le hI h2
      have hc : cpyA (27 + p.toNatClampNeg) (27 + q.toNatClampNeg) i j n w = fun f => f (w.1, fun r => if r = 27 + q.toNatClampNeg then va_cpy (w.2 (27 + p.toNatClampNeg)) (w.2 (27 + q.toNatClampNeg)) i.toNatClampNeg j.toNatClampNeg n.toNatClampNeg else w.2 r) := by
        funext f
        unfold cpyA
        rw [row_arr (sHas_lt hp), row_arr (sHas_lt hq)]
        have z : (0 : Int32).toInt = 0 := rfl
        have e1 : i.toNatClampNeg = i.toInt.toNat := rfl
        have e2 : j.toNatClampNeg = j.toInt.toNat := rfl
        have e3 : n.toNatClampNeg = n.toInt.toNat := rfl
        refine propext ⟨fun z => z.2, fun z9 => ⟨⟨?_, ?_, ?_, ?_, ?_⟩, z9⟩⟩
        · rw [i32_lt]; omega
        · rw [i32_lt]; omega
        · rw [i32_lt]; omega
        · omega
        · omega
      simp only [h, h2, sHas_in hp, sHas_in hq, decide_true, decide_false, not_true_eq_false, not_false_eq_true, Bool.and_true, Bool.true_and, Bool.and_false, Bool.false_and, Bool.or_true, Bool.true_or, Bool.or_false, Bool.false_or, Bool.not_true, Bool.not_false, ite_true, ite_false, if_true, if_false, Bool.false_eq_true, reduceIte, decide_not, and_true, true_and, and_false, false_and, or_true, true_or, or_false, false_or, not_false, not_true, hc, cs_n, Nat.zero_le, cs_i, cs_r, cs_l, Nat.reduceAdd, Nat.reduceLeDiff]
    · simp only [h, h2, decide_true, decide_false, not_true_eq_false, not_false_eq_true, Bool.and_true, Bool.true_and, Bool.and_false, Bool.false_and, Bool.or_true, Bool.true_or, Bool.or_false, Bool.false_or, Bool.not_true, Bool.not_false, ite_true, ite_false, if_true, if_false, Bool.false_eq_true, reduceIte, decide_not, and_true, true_and, and_false, false_and, or_true, true_or, or_false, false_or, not_false, not_true]
  · simp only [h, decide_true, decide_false, not_true_eq_false, not_false_eq_true, Bool.and_true, Bool.true_and, Bool.and_false, Bool.false_and, Bool.or_true, Bool.true_or, Bool.or_false, Bool.false_or, Bool.not_true, Bool.not_false, ite_true, ite_false, if_true, if_false, Bool.false_eq_true, reduceIte, decide_not, and_true, true_and, and_false, false_and, or_true, true_or, or_false, false_or, not_false, not_true]
theorem makeL {s o n : Int32} (hs : sHas s = true) : ∀ (m i : Nat) (w : hW), i + m = 160 → Tr d 51 40 [some (.ref 23), some (.int s), some (.int o), some (.int n), some (.int (nI i))] [] w Q = Q none (w.1, fun q j => if q = 27 + s.toNatClampNeg ∧ i ≤ j ∧ j < 160 then 0 else w.2 q j) := by
  intro m
  induction m with
  | zero =>
    intro i w hi
    have h1 : ¬ nI i < 160 := by rw [nIlt (by omega)]; have : (160 : Int32).toInt = 160 := rfl; omega
    show Go d 51 40 _ _ _ _ = _
    simp only [s51_0, s51_1, s51_2, s51_5, s51_8, s51_9, s51_12, s51_13, s51_16, s51_19, s51_20, s51_21, s51_24, s51_25, s51_27, s51_28, s51_29, s51_30, s51_31, s51_34, s51_35, s51_36, s51_37, s51_38, s51_40, s51_42, s51_45, s51_48, s51_49, s51_52, s51_53, s51_54, s51_56, s51_57, s51_58, s51_61, s51_64, gF_i, gF_r, gP_f, gP_t, aRd_1, aRd_4, aKd_e, oo_s, z0, z1, okP_n, okP_i, okP_r, vtl, vtn, true_and, and_true, bI_ite, bI_01, F4_9, F4_15, F4_20, cs_n, Nat.zero_le, cs_i, cs_r, cs_l, Nat.reduceAdd, Nat.reduceLeDiff, h1, decide_true, decide_false, not_true_eq_false, not_false_eq_true, Bool.and_true, Bool.true_and, Bool.and_false, Bool.false_and, Bool.or_true, Bool.true_or, Bool.or_false, Bool.false_or, Bool.not_true, Bool.not_false, ite_true, ite_false, if_true, if_false, Bool.false_eq_true, reduceIte, decide_not, and_true, true_and, and_false, false_and, or_true, true_or, or_false, false_or, not_false, not_true]
    congr 1
    refine Prod.ext rfl (funext fun q => funext fun j => ?_)
    have : ¬ (q = 27 + s.toNatClampNeg ∧ i ≤ j ∧ j < 160) := by omega
    simp only [this, if_false]
  | succ m ih =>
    intro i w hi
    have h1 : nI i < 160 := by rw [nIlt (by omega)]; have : (160 : Int32).toInt = 160 := rfl; omega
    have h3 : inb (nI i) 160 := ⟨by rw [nI_toInt (by omega)]; omega, by rw [nI_toInt (by omega)]; omega⟩
    have e : (nI i).toNatClampNeg = i := by rw [i32_clamp, nI_toInt (by omega)]; omega
    show Go d 51 40 _ _ _ _ = _
    simp only [s51_0, s51_1, s51_2, s51_5, s51_8, s51_9, s51_12, s51_13, s51_16, s51_19, s51_20, s51_21, s51_24, s51_25, s51_27, s51_28, s51_29, s51_30, s51_31, s51_34, s51_35, s51_36, s51_37, s51_38, s51_40, s51_42, s51_45, s51_48, s51_49, s51_52, s51_53, s51_54, s51_56, s51_57, s51_58, s51_61, s51_64, gF_i, gF_r, gP_f, gP_t, aRd_1, aRd_4, aKd_e, oo_s, z0, z1, okP_n, okP_i, okP_r, vtl, vtn, true_and, and_true, bI_ite, bI_01, F4_9, F4_15, F4_20, cs_n, Nat.zero_le, cs_i, cs_r, cs_l, Nat.reduceAdd, Nat.reduceLeDiff, h1, sHas_in hs, row_arr (sHas_lt hs), h3, nI_1, ih (i + 1) _ (by omega), decide_true, decide_false, not_true_eq_false, not_false_eq_true, Bool.and_true, Bool.true_and, Bool.and_false, Bool.false_and, Bool.or_true, Bool.true_or, Bool.or_false, Bool.false_or, Bool.not_true, Bool.not_false, ite_true, ite_false, if_true, if_false, Bool.false_eq_true, reduceIte, decide_not, and_true, true_and, and_false, false_and, or_true, true_or, or_false, false_or, not_false, not_true, e]
    congr 1
    refine Prod.ext rfl (funext fun q => funext fun j => ?_)
    simp only [wJ]
    by_cases hq : q = 27 + s.toNatClampNeg
    · by_cases hj : j = i
      · subst hj
        have e1 : ¬ (j + 1 ≤ j ∧ j < 160) := by omega
        have e2 : j ≤ j ∧ j < 160 := by omega
        simp [hq, e1, e2]
      · by_cases h5 : i + 1 ≤ j ∧ j < 160
        · have e2 : i ≤ j ∧ j < 160 := by omega
          simp [hq, h5, e2]
        · have e2 : ¬ (i ≤ j ∧ j < 160) := by omega
          simp [hq, h5, e2, hj]
    · simp [hq]
theorem c4_makeRow {s o n : Int32} (hs : sHas s = true) (h1 : ¬ n < 0) (h2 : ¬ 160 < n) : Cl (d + 1) 51 [.ref 23, .int s, .int o, .int n] w Q = Q none (sMake w s o n) := by
  rw [Cl_go (L := [some (.ref 23), some (.int s), some (.int o), some (.int n), none]) rfl]
  have h3 := makeL (d := d + 1) (Q := Q) (o := o) (n := n) hs 160 0 (wI (wI w 24 s.toNatClampNeg (100 + o)) 25 s.toNatClampNeg n) rfl
  rw [nI_0] at h3
  simp only [s51_0, s51_1, s51_2, s51_5, s51_8, s51_9, s51_12, s51_13, s51_16, s51_19, s51_20, s51_21, s51_24, s51_25, s51_27, s51_28, s51_29, s51_30, s51_31, s51_34, s51_35, s51_36, s51_37, s51_38, s51_40, s51_42, s51_45, s51_48, s51_49, s51_52, s51_53, s51_54, s51_56, s51_57, s51_58, s51_61, s51_64, gF_i, gF_r, gP_f, gP_t, aRd_1, aRd_4, aKd_e, oo_s, z0, z1, okP_n, okP_i, okP_r, vtl, vtn, true_and, and_true, bI_ite, bI_01, F4_9, F4_15, F4_20, cs_n, Nat.zero_le, cs_i, cs_r, cs_l, Nat.reduceAdd, Nat.reduceLeDiff, R_4, A_24, A_25, c4_has, hs, h1, h2, sHas_in hs, h3, decide_true, decide_false, not_true_eq_false, not_false_eq_true, Bool.and_true, Bool.true_and, Bool.and_false, Bool.false_and, Bool.or_true, Bool.true_or, Bool.or_false, Bool.false_or, Bool.not_true, Bool.not_false, ite_true, ite_false, if_true, if_false, Bool.false_eq_true, reduceIte, decide_not, and_true, true_and, and_false, false_and, or_true, true_or, or_false, false_or, not_false, not_true]
  rfl
theorem dropL {n : Int32} : ∀ (m i : Nat) (w : hW), i + m = 8 → Tr (d + 4) 58 2 [some (.ref 23), some (.int n), some (.int (nI i))] [] w Q = Q none (sDrop n i m w) := by
  intro m
  induction m with
  | zero =>
    intro i w hi
    have h1 : ¬ nI i < 8 := by rw [nIlt (by omega)]; rw [i8]; omega
    show Go (d + 4) 58 2 _ _ _ _ = _
    simp only [s58_0, s58_1, s58_2, s58_3, s58_5, s58_8, s58_9, s58_10, s58_13, s58_16, s58_17, s58_20, s58_21, s58_22, s58_23, s58_26, s58_27, s58_30, s58_31, s58_32, s58_33, s58_36, s58_39, gF_i, gF_r, gP_f, gP_t, aRd_1, aRd_4, aKd_e, oo_s, z0, z1, okP_n, okP_i, okP_r, vtl, vtn, true_and, and_true, bI_ite, bI_01, F4_9, F4_15, F4_20, cs_n, Nat.zero_le, cs_i, cs_r, cs_l, Nat.reduceAdd, Nat.reduceLeDiff, h1, decide_true, decide_false, not_true_eq_false, not_false_eq_true, Bool.and_true, Bool.true_and, Bool.and_false, Bool.false_and, Bool.or_true, Bool.true_or, Bool.or_false, Bool.false_or, Bool.not_true, Bool.not_false, ite_true, ite_false, if_true, if_false, Bool.false_eq_true, reduceIte, decide_not, and_true, true_and, and_false, false_and, or_true, true_or, or_false, false_or, not_false, not_true]
    rfl
  | succ m ih =>
    intro i w hi
    have h1 : nI i < 8 := by rw [nIlt (by omega)]; rw [i8]; omega
    have h3 : inb (nI i) 8 := ⟨by rw [nI_toInt (by omega)]; omega, by rw [nI_toInt (by omega)]; omega⟩
    have e : (nI i).toNatClampNeg = i := by rw [i32_clamp, nI_toInt (by omega)]; omega
    show Go (d + 4) 58 2 _ _ _ _ = _
    simp only [s58_0, s58_1, s58_2, s58_3, s58_5, s58_8, s58_9, s58_10, s58_13, s58_16, s58_17, s58_20, s58_21, s58_22, s58_23, s58_26, s58_27, s58_30, s58_31, s58_32, s58_33, s58_36, s58_39, gF_i, gF_r, gP_f, gP_t, aRd_1, aRd_4, aKd_e, oo_s, z0, z1, okP_n, okP_i, okP_r, vtl, vtn, true_and, and_true, bI_ite, bI_01, F4_9, F4_15, F4_20, cs_n, Nat.zero_le, cs_i, cs_r, cs_l, Nat.reduceAdd, Nat.reduceLeDiff, R_4, A_24, h1, h3, nI_1, ih (i + 1) _ (by omega), decide_true, decide_false, not_true_eq_false, not_false_eq_true, Bool.and_true, Bool.true_and, Bool.and_false, Bool.false_and, Bool.or_true, Bool.true_or, Bool.or_false, Bool.false_or, Bool.not_true, Bool.not_false, ite_true, ite_false, if_true, if_false, Bool.false_eq_true, reduceIte, decide_not, and_true, true_and, and_false, false_and, or_true, true_or, or_false, false_or, not_false, not_true, e, c4_isThing, sDrop]
    by_cases h5 : sThing w (nI i) = true
    · by_cases h6 : w.1 24 i < n
      · simp only [h5, h6, decide_true, decide_false, not_true_eq_false, not_false_eq_true, Bool.and_true, Bool.true_and, Bool.and_false, Bool.false_and, Bool.or_true, Bool.true_or, Bool.or_false, Bool.false_or, Bool.not_true, Bool.not_false, ite_true, ite_false, if_true, if_false, Bool.false_eq_true, reduceIte, decide_not, and_true, true_and, and_false, false_and, or_true, true_or, or_false, false_or, not_false, not_true]
      · simp only [h5, h6, decide_true, decide_false, not_true_eq_false, not_false_eq_true, Bool.and_true, Bool.true_and, Bool.and_false, Bool.false_and, Bool.or_true, Bool.true_or, Bool.or_false, Bool.false_or, Bool.not_true, Bool.not_false, ite_true, ite_false, if_true, if_false, Bool.false_eq_true, reduceIte, decide_not, and_true, true_and, and_false, false_and, or_true, true_or, or_false, false_or, not_false, not_true]
    · simp only [h5, decide_true, decide_false, not_true_eq_false, not_false_eq_true, Bool.and_true, Bool.true_and, Bool.and_false, Bool.false_and, Bool.or_true, Bool.true_or, Bool.or_false, Bool.false_or, Bool.not_true, Bool.not_false, ite_true, ite_false, if_true, if_false, Bool.false_eq_true, reduceIte, decide_not, and_true, true_and, and_false, false_and, or_true, true_or, or_false, false_or, not_false, not_true]
theorem c4_dropThingsFrom {n : Int32} : Cl (d + 4) 58 [.ref 23, .int n] w Q = Q none (sDrop n 0 8 w) := by
  rw [Cl_go (L := [some (.ref 23), some (.int n), none]) rfl]
  have h3 := dropL (d := d) (Q := Q) (n := n) 8 0 w rfl
  rw [nI_0] at h3
  simp only [s58_0, s58_1, s58_2, s58_3, s58_5, s58_8, s58_9, s58_10, s58_13, s58_16, s58_17, s58_20, s58_21, s58_22, s58_23, s58_26, s58_27, s58_30, s58_31, s58_32, s58_33, s58_36, s58_39, gF_i, gF_r, gP_f, gP_t, aRd_1, aRd_4, aKd_e, oo_s, z0, z1, okP_n, okP_i, okP_r, vtl, vtn, true_and, and_true, bI_ite, bI_01, h3]
end

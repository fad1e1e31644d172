/-! CONTRACTS of Valley (class 6), for each of the three valleys -/
/-- a valley's tables are of their sizes, their numbers of rows within -/
def vI (w : hW) (b : Nat) : Prop := w.1 (b + 1) 1 = 8 ∧ w.1 (b + 1) 2 = 6 ∧ w.1 (b + 3) 1 = 8 ∧ w.1 (b + 3) 2 = 2 ∧ w.1 (b + 5) 1 = 4 ∧ w.1 (b + 5) 2 = 3 ∧ (0 ≤ (w.1 (b + 1) 3).toInt ∧ (w.1 (b + 1) 3).toInt ≤ 8) ∧ (0 ≤ (w.1 (b + 3) 3).toInt ∧ (w.1 (b + 3) 3).toInt ≤ 8) ∧ (0 ≤ (w.1 (b + 5) 3).toInt ∧ (w.1 (b + 5) 3).toInt ≤ 4)
theorem vI_1 {w : hW} {b : Nat} (h : vI w b) : tI w (b + 1) := by
  obtain ⟨h1, h2, h3, h4, h5, h6, ⟨h7, h8⟩, ⟨h9, h10⟩, h11, h12⟩ := h
  unfold tI
  rw [h1, h2]
  exact ⟨h7, h8, by decide, by decide⟩
theorem vI_3 {w : hW} {b : Nat} (h : vI w b) : tI w (b + 3) := by
  obtain ⟨h1, h2, h3, h4, h5, h6, ⟨h7, h8⟩, ⟨h9, h10⟩, h11, h12⟩ := h
  unfold tI
  rw [h3, h4]
  exact ⟨h9, h10, by decide, by decide⟩
theorem vI_5 {w : hW} {b : Nat} (h : vI w b) : tI w (b + 5) := by
  obtain ⟨h1, h2, h3, h4, h5, h6, ⟨h7, h8⟩, ⟨h9, h10⟩, h11, h12⟩ := h
  unfold tI
  rw [h5, h6]
  exact ⟨h11, h12, by decide, by decide⟩
def vStep (w : hW) (b : Nat) (t : Int32) : Int32 := tCell w (b + 1) t 3
def vBoth (w : hW) (b : Nat) (m t : Int32) : Bool := tHas w (b + 3) m && tHas w (b + 1) t
def vAll (w : hW) (b : Nat) : Int32 := 1 <<< (w.1 (b + 3) 3 &&& 31) - 1
def vIsSet (w : hW) (b : Nat) (s : Int32) : Bool := !decide (s < 0) && !decide (vAll w b < s)
def vThere (w : hW) (b : Nat) (i : Int32) : Bool := decide (vStep w b (tCell w (b + 5) i 0) = tCell w (b + 5) i 1)
def vWet (w : hW) (b : Nat) (s : Int32) : Bool := decide (w.1 b 4 < s) && decide (s < w.1 b 5)
def vStand (w : hW) (b : Nat) (s : Int32) : Bool := !decide (s < 0) && (!decide (w.1 b 3 < s) && !vWet w b s)
def vOn (w : hW) (b : Nat) (t s : Int32) : Bool := vStand w b s && decide (vStep w b t < s)
section
variable {d b : Nat} {w : hW} {Q : aPost}
theorem c6_stepOf (hb : isVal b) (hI : vI w b) {t : Int32} : Cl (d + 1) 73 [.ref b, .int t] w Q = Q (some (.int (vStep w b t))) w := by
  rw [Cl_go (L := [some (.ref b), some (.int t)]) rfl]
  simp only [s73_0, s73_1, s73_4, s73_5, s73_6, s73_9, gF_i, gF_r, gP_f, gP_t, aRd_1, aRd_4, aKd_e, oo_s, z0, z1, okP_n, okP_i, okP_r, vtl, vtn, true_and, and_true, bI_ite, bI_01, F6_14, F6_20, F6_23, F6_26, F6_30, F6_43, F6_37, F6_40, F6_46, F6_64, P6_26, P6_30, P6_43, P6_37, P6_40, P6_46, P6_64, hb, hI, vt1 hb, vt3 hb, vt5 hb, vl_rcv hb, tb_rcv (vt1 hb), tb_rcv (vt3 hb), tb_rcv (vt5 hb), vI_1 hI, vI_3 hI, vI_5 hI, cs_n, Nat.zero_le, cs_i, cs_r, cs_l, Nat.reduceAdd, Nat.reduceLeDiff, c5_cell]
  rfl
theorem c6_hasBoth (hb : isVal b) (hI : vI w b) {m t : Int32} : Cl (d + 1) 70 [.ref b, .int m, .int t] w Q = Q (some (.int (bI (vBoth w b m t)))) w := by
  rw [Cl_go (L := [some (.ref b), some (.int m), some (.int t)]) rfl]
  simp only [s70_0, s70_1, s70_4, s70_5, s70_8, s70_11, s70_12, s70_15, s70_16, s70_19, s70_22, s70_23, s70_26, s70_27, gF_i, gF_r, gP_f, gP_t, aRd_1, aRd_4, aKd_e, oo_s, z0, z1, okP_n, okP_i, okP_r, vtl, vtn, true_and, and_true, bI_ite, bI_01, F6_14, F6_20, F6_23, F6_26, F6_30, F6_43, F6_37, F6_40, F6_46, F6_64, P6_26, P6_30, P6_43, P6_37, P6_40, P6_46, P6_64, hb, hI, vt1 hb, vt3 hb, vt5 hb, vl_rcv hb, tb_rcv (vt1 hb), tb_rcv (vt3 hb), tb_rcv (vt5 hb), vI_1 hI, vI_3 hI, vI_5 hI, cs_n, Nat.zero_le, cs_i, cs_r, cs_l, Nat.reduceAdd, Nat.reduceLeDiff, c5_has]
  repeat' split
  all_goals simp only [vBoth, bI, *, decide_true, decide_false, not_true_eq_false, not_false_eq_true, Bool.and_true, Bool.true_and, Bool.and_false, Bool.false_and, Bool.or_true, Bool.true_or, Bool.or_false, Bool.false_or, Bool.not_true, Bool.not_false, ite_true, ite_false, if_true, if_false, Bool.false_eq_true, reduceIte, decide_not, and_true, true_and, and_false, false_and, or_true, true_or, or_false, false_or, not_false, not_true]
theorem c6_everybody (hb : isVal b) : Cl d 72 [.ref b] w Q = Q (some (.int (vAll w b))) w := by
  rw [Cl_go (L := [some (.ref b)]) rfl]
  simp only [s72_0, s72_1, s72_2, s72_5, s72_8, s72_9, s72_10, s72_11, gF_i, gF_r, gP_f, gP_t, aRd_1, aRd_4, aKd_e, oo_s, z0, z1, okP_n, okP_i, okP_r, vtl, vtn, true_and, and_true, bI_ite, bI_01, F6_14, F6_20, F6_23, F6_26, F6_30, F6_43, F6_37, F6_40, F6_46, F6_64, P6_26, P6_30, P6_43, P6_37, P6_40, P6_46, P6_64, hb, vt3 hb, cs_n, Nat.zero_le, cs_i, cs_r, cs_l, Nat.reduceAdd, Nat.reduceLeDiff]
  rfl
theorem c6_isSet (hb : isVal b) {s : Int32} : Cl (d + 1) 71 [.ref b, .int s] w Q = Q (some (.int (bI (vIsSet w b s)))) w := by
  rw [Cl_go (L := [some (.ref b), some (.int s)]) rfl]
  simp only [s71_0, s71_1, s71_4, s71_5, s71_6, s71_9, s71_12, s71_13, s71_16, s71_17, gF_i, gF_r, gP_f, gP_t, aRd_1, aRd_4, aKd_e, oo_s, z0, z1, okP_n, okP_i, okP_r, vtl, vtn, true_and, and_true, bI_ite, bI_01, F6_14, F6_20, F6_23, F6_26, F6_30, F6_43, F6_37, F6_40, F6_46, F6_64, P6_26, P6_30, P6_43, P6_37, P6_40, P6_46, P6_64, hb, vl_rcv hb, cs_n, Nat.zero_le, cs_i, cs_r, cs_l, Nat.reduceAdd, Nat.reduceLeDiff, c6_everybody]
  repeat' split
  all_goals simp only [vIsSet, bI, *, decide_true, decide_false, not_true_eq_false, not_false_eq_true, Bool.and_true, Bool.true_and, Bool.and_false, Bool.false_and, Bool.or_true, Bool.true_or, Bool.or_false, Bool.false_or, Bool.not_true, Bool.not_false, ite_true, ite_false, if_true, if_false, Bool.false_eq_true, reduceIte, decide_not, and_true, true_and, and_false, false_and, or_true, true_or, or_false, false_or, not_false, not_true]
theorem c6_isThere (hb : isVal b) (hI : vI w b) {i : Int32} : Cl (d + 2) 74 [.ref b, .int i] w Q = Q (some (.int (bI (vThere w b i)))) w := by
  rw [Cl_go (L := [some (.ref b), some (.int i)]) rfl]
  simp only [s74_0, s74_1, s74_2, s74_5, s74_6, s74_7, s74_10, s74_13, s74_14, s74_17, s74_18, s74_19, s74_22, s74_25, s74_26, s74_29, s74_30, gF_i, gF_r, gP_f, gP_t, aRd_1, aRd_4, aKd_e, oo_s, z0, z1, okP_n, okP_i, okP_r, vtl, vtn, true_and, and_true, bI_ite, bI_01, F6_14, F6_20, F6_23, F6_26, F6_30, F6_43, F6_37, F6_40, F6_46, F6_64, P6_26, P6_30, P6_43, P6_37, P6_40, P6_46, P6_64, hb, hI, vt1 hb, vt3 hb, vt5 hb, vl_rcv hb, tb_rcv (vt1 hb), tb_rcv (vt3 hb), tb_rcv (vt5 hb), vI_1 hI, vI_3 hI, vI_5 hI, cs_n, Nat.zero_le, cs_i, cs_r, cs_l, Nat.reduceAdd, Nat.reduceLeDiff, c5_cell, c6_stepOf]
  repeat' split
  all_goals simp only [vThere, bI, *, decide_true, decide_false, not_true_eq_false, not_false_eq_true, Bool.and_true, Bool.true_and, Bool.and_false, Bool.false_and, Bool.or_true, Bool.true_or, Bool.or_false, Bool.false_or, Bool.not_true, Bool.not_false, ite_true, ite_false, if_true, if_false, Bool.false_eq_true, reduceIte, decide_not, and_true, true_and, and_false, false_and, or_true, true_or, or_false, false_or, not_false, not_true]
theorem c6_inRiver (hb : isVal b) {s : Int32} : Cl d 75 [.ref b, .int s] w Q = Q (some (.int (bI (vWet w b s)))) w := by
  rw [Cl_go (L := [some (.ref b), some (.int s)]) rfl]
  simp only [s75_0, s75_1, s75_2, s75_5, s75_8, s75_9, s75_10, s75_13, s75_16, s75_17, s75_20, s75_21, gF_i, gF_r, gP_f, gP_t, aRd_1, aRd_4, aKd_e, oo_s, z0, z1, okP_n, okP_i, okP_r, vtl, vtn, true_and, and_true, bI_ite, bI_01, F6_14, F6_20, F6_23, F6_26, F6_30, F6_43, F6_37, F6_40, F6_46, F6_64, P6_26, P6_30, P6_43, P6_37, P6_40, P6_46, P6_64, hb, cs_n, Nat.zero_le, cs_i, cs_r, cs_l, Nat.reduceAdd, Nat.reduceLeDiff]
  repeat' split
  all_goals simp only [vWet, bI, *, decide_true, decide_false, not_true_eq_false, not_false_eq_true, Bool.and_true, Bool.true_and, Bool.and_false, Bool.false_and, Bool.or_true, Bool.true_or, Bool.or_false, Bool.false_or, Bool.not_true, Bool.not_false, ite_true, ite_false, if_true, if_false, Bool.false_eq_true, reduceIte, decide_not, and_true, true_and, and_false, false_and, or_true, true_or, or_false, false_or, not_false, not_true]
theorem c6_mayStand (hb : isVal b) {s : Int32} : Cl (d + 1) 76 [.ref b, .int s] w Q = Q (some (.int (bI (vStand w b s)))) w := by
  rw [Cl_go (L := [some (.ref b), some (.int s)]) rfl]
  simp only [s76_0, s76_1, s76_4, s76_5, s76_6, s76_9, s76_12, s76_13, s76_14, s76_17, s76_20, s76_21, s76_24, s76_25, gF_i, gF_r, gP_f, gP_t, aRd_1, aRd_4, aKd_e, oo_s, z0, z1, okP_n, okP_i, okP_r, vtl, vtn, true_and, and_true, bI_ite, bI_01, F6_14, F6_20, F6_23, F6_26, F6_30, F6_43, F6_37, F6_40, F6_46, F6_64, P6_26, P6_30, P6_43, P6_37, P6_40, P6_46, P6_64, hb, vl_rcv hb, cs_n, Nat.zero_le, cs_i, cs_r, cs_l, Nat.reduceAdd, Nat.reduceLeDiff, c6_inRiver]
  repeat' split
  all_goals simp only [vStand, bI, *, decide_true, decide_false, not_true_eq_false, not_false_eq_true, Bool.and_true, Bool.true_and, Bool.and_false, Bool.false_and, Bool.or_true, Bool.true_or, Bool.or_false, Bool.false_or, Bool.not_true, Bool.not_false, ite_true, ite_false, if_true, if_false, Bool.false_eq_true, reduceIte, decide_not, and_true, true_and, and_false, false_and, or_true, true_or, or_false, false_or, not_false, not_true]
theorem c6_isOnward (hb : isVal b) (hI : vI w b) {t s : Int32} : Cl (d + 2) 77 [.ref b, .int t, .int s] w Q = Q (some (.int (bI (vOn w b t s)))) w := by
  rw [Cl_go (L := [some (.ref b), some (.int t), some (.int s)]) rfl]
  simp only [s77_0, s77_1, s77_2, s77_5, s77_8, s77_9, s77_10, s77_11, s77_14, s77_17, s77_18, s77_21, s77_22, gF_i, gF_r, gP_f, gP_t, aRd_1, aRd_4, aKd_e, oo_s, z0, z1, okP_n, okP_i, okP_r, vtl, vtn, true_and, and_true, bI_ite, bI_01, F6_14, F6_20, F6_23, F6_26, F6_30, F6_43, F6_37, F6_40, F6_46, F6_64, P6_26, P6_30, P6_43, P6_37, P6_40, P6_46, P6_64, hb, hI, vt1 hb, vt3 hb, vt5 hb, vl_rcv hb, tb_rcv (vt1 hb), tb_rcv (vt3 hb), tb_rcv (vt5 hb), vI_1 hI, vI_3 hI, vI_5 hI, cs_n, Nat.zero_le, cs_i, cs_r, cs_l, Nat.reduceAdd, Nat.reduceLeDiff, c6_mayStand, c6_stepOf]
  repeat' split
  all_goals simp only [vOn, bI, *, decide_true, decide_false, not_true_eq_false, not_false_eq_true, Bool.and_true, Bool.true_and, Bool.and_false, Bool.false_and, Bool.or_true, Bool.true_or, Bool.or_false, Bool.false_or, Bool.not_true, Bool.not_false, ite_true, ite_false, if_true, if_false, Bool.false_eq_true, reduceIte, decide_not, and_true, true_and, and_false, false_and, or_true, true_or, or_false, false_or, not_false, not_true]
/-- some of the numbers from i on, m of them -/
def anyF (f : Nat → Bool) : Nat → Nat → Bool
  | _, 0 => false
  | i, m + 1 => f i || anyF f (i + 1) m
def vToldT (w : hW) (b : Nat) (x y : Int32) (i : Nat) : Bool := decide (x < vStep w b (nI i)) && decide (vStep w b (nI i) < y)
def vToldW (w : hW) (b : Nat) (x y : Int32) (i : Nat) : Bool := decide (x < tCell w (b + 5) (nI i) 1) && decide (tCell w (b + 5) (nI i) 1 < y)
def vTold (w : hW) (b : Nat) (x y : Int32) : Bool := anyF (vToldT w b x y) 0 (w.1 (b + 1) 3).toInt.toNat || anyF (vToldW w b x y) 0 (w.1 (b + 5) 3).toInt.toNat
theorem nIlt {i : Nat} {n : Int32} (hi : i < 2 ^ 31) : nI i < n ↔ (i : Int) < n.toInt := by
  rw [i32_lt, nI_toInt hi]
theorem told2 (hb : isVal b) (hI : vI w b) {x y : Int32} : ∀ (m i : Nat), i + m = (w.1 (b + 5) 3).toInt.toNat → Tr (d + 1) 80 41 [some (.ref b), some (.int x), some (.int y), some (.int (nI i))] [] w Q = Q (some (.int (bI (anyF (vToldW w b x y) i m)))) w := by
  have hw := hI.2.2.2.2.2.2.2.2
  intro m
  induction m with
  | zero =>
    intro i hi
    have h1 : ¬ nI i < w.1 (b + 5) 3 := by rw [nIlt (by omega)]; omega
    show Go (d + 1) 80 41 _ _ _ _ = _
    simp only [s80_0, s80_1, s80_2, s80_3, s80_4, s80_7, s80_10, s80_13, s80_14, s80_15, s80_18, s80_19, s80_22, s80_23, s80_24, s80_27, s80_28, s80_31, s80_32, s80_33, s80_36, s80_39, s80_40, s80_41, s80_42, s80_43, s80_46, s80_49, s80_52, s80_53, s80_56, s80_57, s80_58, s80_61, s80_62, s80_65, s80_66, s80_69, s80_70, s80_71, s80_74, s80_75, s80_78, s80_79, s80_80, s80_83, s80_86, s80_87, gF_i, gF_r, gP_f, gP_t, aRd_1, aRd_4, aKd_e, oo_s, z0, z1, okP_n, okP_i, okP_r, vtl, vtn, true_and, and_true, bI_ite, bI_01, F6_14, F6_20, F6_23, F6_26, F6_30, F6_43, F6_37, F6_40, F6_46, F6_64, P6_26, P6_30, P6_43, P6_37, P6_40, P6_46, P6_64, hb, hI, vt1 hb, vt3 hb, vt5 hb, vl_rcv hb, tb_rcv (vt1 hb), tb_rcv (vt3 hb), tb_rcv (vt5 hb), vI_1 hI, vI_3 hI, vI_5 hI, cs_n, Nat.zero_le, cs_i, cs_r, cs_l, Nat.reduceAdd, Nat.reduceLeDiff, h1, decide_true, decide_false, not_true_eq_false, not_false_eq_true, Bool.and_true, Bool.true_and, Bool.and_false, Bool.false_and, Bool.or_true, Bool.true_or, Bool.or_false, Bool.false_or, Bool.not_true, Bool.not_false, ite_true, ite_false, if_true, if_false, Bool.false_eq_true, reduceIte, decide_not, and_true, true_and, and_false, false_and, or_true, true_or, or_false, false_or, not_false, not_true]
    rfl
  | succ m ih =>
    intro i hi
    have h1 : nI i < w.1 (b + 5) 3 := by rw [nIlt (by omega)]; omega
    show Go (d + 1) 80 41 _ _ _ _ = _
    simp only [s80_0, s80_1, s80_2, s80_3, s80_4, s80_7, s80_10, s80_13, s80_14, s80_15, s80_18, s80_19, s80_22, s80_23, s80_24, s80_27, s80_28, s80_31, s80_32, s80_33, s80_36, s80_39, s80_40, s80_41, s80_42, s80_43, s80_46, s80_49, s80_52, s80_53, s80_56, s80_57, s80_58, s80_61, s80_62, s80_65, s80_66, s80_69, s80_70, s80_71, s80_74, s80_75, s80_78, s80_79, s80_80, s80_83, s80_86, s80_87, gF_i, gF_r, gP_f, gP_t, aRd_1, aRd_4, aKd_e, oo_s, z0, z1, okP_n, okP_i, okP_r, vtl, vtn, true_and, and_true, bI_ite, bI_01, F6_14, F6_20, F6_23, F6_26, F6_30, F6_43, F6_37, F6_40, F6_46, F6_64, P6_26, P6_30, P6_43, P6_37, P6_40, P6_46, P6_64, hb, hI, vt1 hb, vt3 hb, vt5 hb, vl_rcv hb, tb_rcv (vt1 hb), tb_rcv (vt3 hb), tb_rcv (vt5 hb), vI_1 hI, vI_3 hI, vI_5 hI, cs_n, Nat.zero_le, cs_i, cs_r, cs_l, Nat.reduceAdd, Nat.reduceLeDiff, h1, decide_true, decide_false, not_true_eq_false, not_false_eq_true, Bool.and_true, Bool.true_and, Bool.and_false, Bool.false_and, Bool.or_true, Bool.true_or, Bool.or_false, Bool.false_or, Bool.not_true, Bool.not_false, ite_true, ite_false, if_true, if_false, Bool.false_eq_true, reduceIte, decide_not, and_true, true_and, and_false, false_and, or_true, true_or, or_false, false_or, not_false, not_true, c5_cell, c6_stepOf, nI_1, ih (i + 1) (by omega)]
    repeat' split
    all_goals simp only [anyF, vToldW, bI, *, decide_true, decide_false, not_true_eq_false, not_false_eq_true, Bool.and_true, Bool.true_and, Bool.and_false, Bool.false_and, Bool.or_true, Bool.true_or, Bool.or_false, Bool.false_or, Bool.not_true, Bool.not_false, ite_true, ite_false, if_true, if_false, Bool.false_eq_true, reduceIte, decide_not, and_true, true_and, and_false, false_and, or_true, true_or, or_false, false_or, not_false, not_true]
theorem told1 (hb : isVal b) (hI : vI w b) {x y : Int32} : ∀ (m i : Nat), i + m = (w.1 (b + 1) 3).toInt.toNat → Tr (d + 2) 80 2 [some (.ref b), some (.int x), some (.int y), some (.int (nI i))] [] w Q = Q (some (.int (bI (anyF (vToldT w b x y) i m || anyF (vToldW w b x y) 0 (w.1 (b + 5) 3).toInt.toNat)))) w := by
  have hw := hI.2.2.2.2.2.2.1
  intro m
  induction m with
  | zero =>
    intro i hi
    have h1 : ¬ nI i < w.1 (b + 1) 3 := by rw [nIlt (by omega)]; omega
    show Go (d + 2) 80 2 _ _ _ _ = _
    have h2 := told2 (d := d + 1) (Q := Q) hb hI (x := x) (y := y) (w.1 (b + 5) 3).toInt.toNat 0 (by omega)
    rw [nI_0] at h2
    simp only [s80_0, s80_1, s80_2, s80_3, s80_4, s80_7, s80_10, s80_13, s80_14, s80_15, s80_18, s80_19, s80_22, s80_23, s80_24, s80_27, s80_28, s80_31, s80_32, s80_33, s80_36, s80_39, s80_40, s80_41, s80_42, s80_43, s80_46, s80_49, s80_52, s80_53, s80_56, s80_57, s80_58, s80_61, s80_62, s80_65, s80_66, s80_69, s80_70, s80_71, s80_74, s80_75, s80_78, s80_79, s80_80, s80_83, s80_86, s80_87, gF_i, gF_r, gP_f, gP_t, aRd_1, aRd_4, aKd_e, oo_s, z0, z1, okP_n, okP_i, okP_r, vtl, vtn, true_and, and_true, bI_ite, bI_01, F6_14, F6_20, F6_23, F6_26, F6_30, F6_43, F6_37, F6_40, F6_46, F6_64, P6_26, P6_30, P6_43, P6_37, P6_40, P6_46, P6_64, hb, hI, vt1 hb, vt3 hb, vt5 hb, vl_rcv hb, tb_rcv (vt1 hb), tb_rcv (vt3 hb), tb_rcv (vt5 hb), vI_1 hI, vI_3 hI, vI_5 hI, cs_n, Nat.zero_le, cs_i, cs_r, cs_l, Nat.reduceAdd, Nat.reduceLeDiff, h1, decide_true, decide_false, not_true_eq_false, not_false_eq_true, Bool.and_true, Bool.true_and, Bool.and_false, Bool.false_and, Bool.or_true, Bool.true_or, Bool.or_false, Bool.false_or, Bool.not_true, Bool.not_false, ite_true, ite_false, if_true, if_false, Bool.false_eq_true, reduceIte, decide_not, and_true, true_and, and_false, false_and, or_true, true_or, or_false, false_or, not_false, not_true, h2, anyF]
  | succ m ih =>
    intro i hi
    have h1 : nI i < w.1 (b + 1) 3 := by rw [nIlt (by omega)]; omega
    show Go (d + 2) 80 2 _ _ _ _ = _
    simp only [s80_0, s80_1, s80_2, s80_3, s80_4, s80_7, s80_10, s80_13, s80_14, s80_15, s80_18, s80_19, s80_22, s80_23, s80_24, s80_27, s80_28, s80_31, s80_32, s80_33, s80_36, s80_39, s80_40, s80_41, s80_42, s80_43, s80_46, s80_49, s80_52, s80_53, s80_56, s80_57, s80_58, s80_61, s80_62, s80_65, s80_66, s80_69, s80_70, s80_71, s80_74, s80_75, s80_78, s80_79, s80_80, s80_83, s80_86, s80_87, gF_i, gF_r, gP_f, gP_t, aRd_1, aRd_4, aKd_e, oo_s, z0, z1, okP_n, okP_i, okP_r, vtl, vtn, true_and, and_true, bI_ite, bI_01, F6_14, F6_20, F6_23, F6_26, F6_30, F6_43, F6_37, F6_40, F6_46, F6_64, P6_26, P6_30, P6_43, P6_37, P6_40, P6_46, P6_64, hb, hI, vt1 hb, vt3 hb, vt5 hb, vl_rcv hb, tb_rcv (vt1 hb), tb_rcv (vt3 hb), tb_rcv (vt5 hb), vI_1 hI, vI_3 hI, vI_5 hI, cs_n, Nat.zero_le, cs_i, cs_r, cs_l, Nat.reduceAdd, Nat.reduceLeDiff, h1, decide_true, decide_false, not_true_eq_false, not_false_eq_true, Bool.and_true, Bool.true_and, Bool.and_false, Bool.false_and, Bool.or_true, Bool.true_or, Bool.or_false, Bool.false_or, Bool.not_true, Bool.not_false, ite_true, ite_false, if_true, if_false, Bool.false_eq_true, reduceIte, decide_not, and_true, true_and, and_false, false_and, or_true, true_or, or_false, false_or, not_false, not_true, c5_cell, c6_stepOf, nI_1, ih (i + 1) (by omega)]
    repeat' split
    all_goals simp only [anyF, vToldT, bI, *, decide_true, decide_false, not_true_eq_false, not_false_eq_true, Bool.and_true, Bool.true_and, Bool.and_false, Bool.false_and, Bool.or_true, Bool.true_or, Bool.or_false, Bool.false_or, Bool.not_true, Bool.not_false, ite_true, ite_false, if_true, if_false, Bool.false_eq_true, reduceIte, decide_not, and_true, true_and, and_false, false_and, or_true, true_or, or_false, false_or, not_false, not_true]
theorem c6_isTold (hb : isVal b) (hI : vI w b) {x y : Int32} : Cl (d + 2) 80 [.ref b, .int x, .int y] w Q = Q (some (.int (bI (vTold w b x y)))) w := by
  rw [Cl_go (L := [some (.ref b), some (.int x), some (.int y), none]) rfl]
  have h1 := told1 (d := d) (Q := Q) hb hI (x := x) (y := y) (w.1 (b + 1) 3).toInt.toNat 0 (by omega)
  rw [nI_0] at h1
  simp only [s80_0, s80_1, s80_2, s80_3, s80_4, s80_7, s80_10, s80_13, s80_14, s80_15, s80_18, s80_19, s80_22, s80_23, s80_24, s80_27, s80_28, s80_31, s80_32, s80_33, s80_36, s80_39, s80_40, s80_41, s80_42, s80_43, s80_46, s80_49, s80_52, s80_53, s80_56, s80_57, s80_58, s80_61, s80_62, s80_65, s80_66, s80_69, s80_70, s80_71, s80_74, s80_75, s80_78, s80_79, s80_80, s80_83, s80_86, s80_87, gF_i, gF_r, gP_f, gP_t, aRd_1, aRd_4, aKd_e, oo_s, z0, z1, okP_n, okP_i, okP_r, vtl, vtn, true_and, and_true, bI_ite, bI_01, h1]
  rfl
end

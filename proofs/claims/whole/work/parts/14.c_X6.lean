/-! CONTRACTS of Valley (class 6), for each of the three valleys -/
/-- a valley's tables are of their sizes, their numbers of rows within -/
def vI (w : hW) (b : Nat) : Prop := w.1 (b + 1) 1 = 8 ∧ w.1 (b + 1) 2 = 6 ∧ w.1 (b + 3) 1 = 8 ∧ w.1 (b + 3) 2 = 2 ∧ w.1 (b + 5) 1 = 4 ∧ w.1 (b + 5) 2 = 3 ∧ (0 ≤ (w.1 (b + 1) 3).toInt ∧ (w.1 (b + 1) 3).toInt ≤ 8) ∧ (0 ≤ (w.1 (b + 3) 3).toInt ∧ (w.1 (b + 3) 3).toInt ≤ 8) ∧ (0 ≤ (w.1 (b + 5) 3).toInt ∧ (w.1 (b + 5) 3).toInt ≤ 4)
theorem vI_1 {w : hW} {b : Nat} (h : vI w b) : tI w (b + 1) := by
  obtain ⟨h1, h2, h3, h4, h5, h6, ⟨h7, h8⟩, ⟨h9, h10⟩, h11, h12⟩ := h
  unfold tI
  rw [h1, h2]
  exact ⟨h7, h8, by decide, by decide⟩
theorem vI_3 {w : hW} {b : Nat} (h : vI w b) : tI w (b + 3) := by
  obtain ⟨h1, h2, h3, h4, h5, h6, ⟨h7, h8⟩, ⟨h9, h10⟩, h11, h12⟩ := h
  unfold tI
  rw [h3, h4]
  exact ⟨h9, h10, by decide, by decide⟩
theorem vI_5 {w : hW} {b : Nat} (h : vI w b) : tI w (b + 5) := by
  obtain ⟨h1, h2, h3, h4, h5, h6, ⟨h7, h8⟩, ⟨h9, h10⟩, h11, h12⟩ := h
  unfold tI
  rw [h5, h6]
  exact ⟨h11, h12, by decide, by decide⟩
def vStep (w : hW) (b : Nat) (t : Int32) : Int32 := tCell w (b + 1) t 3
def vBoth (w : hW) (b : Nat) (m t : Int32) : Bool := tHas w (b + 3) m && tHas w (b + 1) t
def vAll (w : hW) (b : Nat) : Int32 := 1 <<< (w.1 (b + 3) 3 &&& 31) - 1
def vIsSet (w : hW) (b : Nat) (s : Int32) : Bool := !decide (s < 0) && !decide (vAll w b < s)
def vThere (w : hW) (b : Nat) (i : Int32) : Bool := decide (vStep w b (tCell w (b + 5) i 0) = tCell w (b + 5) i 1)
def vWet (w : hW) (b : Nat) (s : Int32) : Bool := decide (w.1 b 4 < s) && decide (s < w.1 b 5)
def vStand (w : hW) (b : Nat) (s : Int32) : Bool := !decide (s < 0) && (!decide (w.1 b 3 < s) && !vWet w b s)
def vOn (w : hW) (b : Nat) (t s : Int32) : Bool := vStand w b s && decide (vStep w b t < s)
section
variable {d b : Nat} {w : hW} {Q : aPost}
theorem c6_stepOf (hb : isVal b) (hI : vI w b) {t : Int32} : Cl (d + 1) 73 [.ref b, .int t] w Q = Q (some (.int (vStep w b t))) w := by
  rw [Cl_go (L := [some (.ref b), some (.int t)]) rfl]
  simp only [s73_0, s73_1, s73_4, s73_5, s73_6, s73_9, gF_i, gF_r, gP_f, gP_t, aRd_1, aRd_4, aKd_e, oo_s, z0, z1, okP_n, okP_i, okP_r, vtl, vtn, true_and, and_true, bI_ite, bI_01, F6_14, F6_20, F6_23, F6_26, F6_30, F6_43, F6_37, F6_40, F6_46, F6_64, P6_26, P6_30, P6_43, P6_37, P6_40, P6_46, P6_64, hb, hI, vt1 hb, vt3 hb, vt5 hb, vl_rcv hb, tb_rcv (vt1 hb), tb_rcv (vt3 hb), tb_rcv (vt5 hb), vI_1 hI, vI_3 hI, vI_5 hI, cs_n, Nat.zero_le, cs_i, cs_r, cs_l, Nat.reduceAdd, Nat.reduceLeDiff, c5_cell]
  rfl
theorem c6_hasBoth (hb : isVal b) (hI : vI w b) {m t : Int32} : Cl (d + 1) 70 [.ref b, .int m, .int t] w Q = Q (some (.int (bI (vBoth w b m t)))) w := by
  rw [Cl_go (L := [some (.ref b), some (.int m), some (.int t)]) rfl]
  simp only [s70_0, s70_1, s70_4, s70_5, s70_8, s70_11, s70_12, s70_15, s70_16, s70_19, s70_22, s70_23, s70_26, s70_27, gF_i, gF_r, gP_f, gP_t, aRd_1, aRd_4, aKd_e, oo_s, z0, z1, okP_n, okP_i, okP_r, vtl, vtn, true_and, and_true, bI_ite, bI_01, F6_14, F6_20, F6_23, F6_26, F6_30, F6_43, F6_37, F6_40, F6_46, F6_64, P6_26, P6_30, P6_43, P6_37, P6_40, P6_46, P6_64, hb, hI, vt1 hb, vt3 hb, vt5 hb, vl_rcv hb, tb_rcv (vt1 hb), tb_rcv (vt3 hb), tb_rcv (vt5 hb), vI_1 hI, vI_3 hI, vI_5 hI, cs_n, Nat.zero_le, cs_i, cs_r, cs_l, Nat.reduceAdd, Nat.reduceLeDiff, c5_has]
  repeat' split
  all_goals simp only [vBoth, bI, *, decide_true, decide_false, not_true_eq_false, not_false_eq_true, Bool.and_true, Bool.true_and, Bool.and_false, Bool.false_and, Bool.or_true, Bool.true_or, Bool.or_false, Bool.false_or, Bool.not_true, Bool.not_false, ite_true, ite_false, if_true, if_false, Bool.false_eq_true, reduceIte, decide_not, and_true, true_and, and_false, false_and, or_true, true_or, or_false, false_or, not_false, not_true]
theorem c6_everybody (hb : isVal b) : Cl d 72 [.ref b] w Q = Q (some (.int (vAll w b))) w := by
  rw [Cl_go (L := [some (.ref b)]) rfl]
  simp only [s72_0, s72_1, s72_2, s72_5, s72_8, s72_9, s72_10, s72_11, gF_i, gF_r, gP_f, gP_t, aRd_1, aRd_4, aKd_e, oo_s, z0, z1, okP_n, okP_i, okP_r, vtl, vtn, true_and, and_true, bI_ite, bI_01, F6_14, F6_20, F6_23, F6_26, F6_30, F6_43, F6_37, F6_40, F6_46, F6_64, P6_26, P6_30, P6_43, P6_37, P6_40, P6_46, P6_64, hb, vt3 hb, cs_n, Nat.zero_le, cs_i, cs_r, cs_l, Nat.reduceAdd, Nat.reduceLeDiff]
  rfl
theorem c6_isSet (hb : isVal b) {s : Int32} : Cl (d + 1) 71 [.ref b, .int s] w Q = Q (some (.int (bI (vIsSet w b s)))) w := by
  rw [Cl_go (L := [some (.ref b), some (.int s)]) rfl]
  simp only [s71_0, s71_1, s71_4, s71_5, s71_6, s71_9, s71_12, s71_13, s71_16, s71_17, gF_i, gF_r, gP_f, gP_t, aRd_1, aRd_4, aKd_e, oo_s, z0, z1, okP_n, okP_i, okP_r, vtl, vtn, true_and, and_true, bI_ite, bI_01, F6_14, F6_20, F6_23, F6_26, F6_30, F6_43, F6_37, F6_40, F6_46, F6_64, P6_26, P6_30, P6_43, P6_37, P6_40, P6_46, P6_64, hb, vl_rcv hb, cs_n, Nat.zero_le, cs_i, cs_r, cs_l, Nat.reduceAdd, Nat.reduceLeDiff, c6_everybody]
  repeat' split
  all_goals simp only [vIsSet, bI, *, decide_true, decide_false, not_true_eq_false, not_false_eq_true, Bool.and_true, Bool.true_and, Bool.and_false, Bool.false_and, Bool.or_true, Bool.true_or, Bool.or_false, Bool.false_or, Bool.not_true, Bool.not_false, ite_true, ite_false, if_true, if_false, Bool.false_eq_true, reduceIte, decide_not, and_true, true_and, and_false, false_and, or_true, true_or, or_false, false_or, not_false, not_true]
theorem c6_isThere (hb : isVal b) (hI : vI w b) {i : Int32} : Cl (d + 2) 74 [.ref b, .int i] w Q = Q (some (.int (bI (vThere w b i)))) w := by
  rw [Cl_go (L := [some (.ref b), some (.int i)]) rfl]
  simp only [s74_0, s74_1, s74_2, s74_5, s74_6, s74_7, s74_10, s74_13, s74_14, s74_17, s74_18, s74_19, s74_22, s74_25, s74_26, s74_29, s74_30, gF_i, gF_r, gP_f, gP_t, aRd_1, aRd_4, aKd_e, oo_s, z0, z1, okP_n, okP_i, okP_r, vtl, vtn, true_and, and_true, bI_ite, bI_01, F6_14, F6_20, F6_23, F6_26, F6_30, F6_43, F6_37, F6_40, F6_46, F6_64, P6_26, P6_30, P6_43, P6_37, P6_40, P6_46, P6_64, hb, hI, vt1 hb, vt3 hb, vt5 hb, vl_rcv hb, tb_rcv (vt1 hb), tb_rcv (vt3 hb), tb_rcv (vt5 hb), vI_1 hI, vI_3 hI, vI_5 hI, cs_n, Nat.zero_le, cs_i, cs_r, cs_l, Nat.reduceAdd, Nat.reduceLeDiff, c5_cell, c6_stepOf]
  repeat' split
  all_goals simp only [vThere, bI, *, decide_true, decide_false, not_true_eq_false, not_false_eq_true, Bool.and_true, Bool.true_and, Bool.and_false, Bool.false_and, Bool.or_true, Bool.true_or, Bool.or_false, Bool.false_or, Bool.not_true, Bool.not_false, ite_true, ite_false, if_true, if_false, Bool.false_eq_true, reduceIte, decide_not, and_true, true_and, and_false, false_and, or_true, true_or, or_false, false_or, not_false, not_true]
theorem c6_inRiver (hb : isVal b) {s : Int32} : Cl d 75 [.ref b, .int s] w Q = Q (some (.int (bI (vWet w b s)))) w := by
  rw [Cl_go (L := [some (.ref b), some (.int s)]) rfl]
  simp only [s75_0, s75_1, s75_2, s75_5, s75_8, s75_9, s75_10, s75_13, s75_16, s75_17, s75_20, s75_21, gF_i, gF_r, gP_f, gP_t, aRd_1, aRd_4, aKd_e, oo_s, z0, z1, okP_n, okP_i, okP_r, vtl, vtn, true_and, and_true, bI_ite, bI_01, F6_14, F6_20, F6_23, F6_26, F6_30, F6_43, F6_37, F6_40, F6_46, F6_64, P6_26, P6_30, P6_43, P6_37, P6_40, P6_46, P6_64, hb, cs_n, Nat.zero_le, cs_i, cs_r, cs_l, Nat.reduceAdd, Nat.reduceLeDiff]
  repeat' split
  all_goals simp only [vWet, bI, *, decide_true, decide_false, not_true_eq_false, not_false_eq_true, Bool.and_true, Bool.true_and, Bool.and_false, Bool.false_and, Bool.or_true, Bool.true_or, Bool.or_false, Bool.false_or, Bool.not_true, Bool.not_false, ite_true, ite_false, if_true, if_false, Bool.false_eq_true, reduceIte, decide_not, and_true, true_and, and_false, false_and, or_true, true_or, or_false, false_or, not_false, not_true]
theorem c6_mayStand (hb : isVal b) {s : Int32} : Cl (d + 1) 76 [.ref b, .int s] w Q = Q (some (.int (bI (vStand w b s)))) w := by
  rw [Cl_go (L := [some (.ref b), some (.int s)]) rfl]
  simp only [s76_0, s76_1, s76_4, s76_5, s76_6, s76_9, s76_12, s76_13, s76_14, s76_17, s76_20, s76_21, s76_24, s76_25, gF_i, gF_r, gP_f, gP_t, aRd_1, aRd_4, aKd_e, oo_s, z0, z1, okP_n, okP_i, okP_r, vtl, vtn, true_and, and_true, bI_ite, bI_01, F6_14, F6_20, F6_23, F6_26, F6_30, F6_43, F6_37, F6_40, F6_46, F6_64, P6_26, P6_30, P6_43, P6_37, P6_40, P6_46, P6_64, hb, vl_rcv hb, cs_n, Nat.zero_le, cs_i, cs_r, cs_l, Nat.reduceAdd, Nat.reduceLeDiff, c6_inRiver]
  repeat' split
  all_goals simp only [vStand, bI, *, decide_true, decide_false, not_true_eq_false, not_false_eq_true, Bool.and_true, Bool.true_and, Bool.and_false, Bool.false_and, Bool.or_true, Bool.true_or, Bool.or_false, Bool.false_or, Bool.not_true, Bool.not_false, ite_true, ite_false, if_true, if_false, Bool.false_eq_true, reduceIte, decide_not, and_true, true_and, and_false, false_and, or_true, true_or, or_false, false_or, not_false, not_true]
theorem c6_isOnward (hb : isVal b) (hI : vI w b) {t s : Int32} : Cl (d + 2) 77 [.ref b, .int t, .int s] w Q = Q (some (.int (bI (vOn w b t s)))) w := by
  rw [Cl_go (L := [some (.ref b), some (.int t), some (.int s)]) rfl]
  simp only [s77_0, s77_1, s77_2, s77_5, s77_8, s77_9, s77_10, s77_11, s77_14, s77_17, s77_18, s77_21, s77_22, gF_i, gF_r, gP_f, gP_t, aRd_1, aRd_4, aKd_e, oo_s, z0, z1, okP_n, okP_i, okP_r, vtl, vtn, true_and, and_true, bI_ite, bI_01, F6_14, F6_20, F6_23, F6_26, F6_30, F6_43, F6_37, F6_40, F6_46, F6_64, P6_26, P6_30, P6_43, P6_37, P6_40, P6_46, P6_64, hb, hI, vt1 hb, vt3 hb, vt5 hb, vl_rcv hb, tb_rcv (vt1 hb), tb_rcv (vt3 hb), tb_rcv (vt5 hb), vI_1 hI, vI_3 hI, vI_5 hI, cs_n, Nat.zero_le, cs_i, cs_r, cs_l, Nat.reduceAdd, Nat.reduceLeDiff, c6_mayStand, c6_stepOf]
  repeat' split
  all_goals simp only [vOn, bI, *, decide_true, decide_false, not_true_eq_false, not_false_eq_true, Bool.and_true, Bool.true_and, Bool.and_false, Bool.false_and, Bool.or_true, Bool.true_or, Bool.or_false, Bool.false_or, Bool.not_true, Bool.not_false, ite_true, ite_false, if_true, if_false, Bool.false_eq_true, reduceIte, decide_not, and_true, true_and, and_false, false_and, or_true, true_or, or_false, false_or, not_false, not_true]
/-- some of the numbers from i on, m of them -/
def anyF (f : Nat → Bool) : Nat → Nat → Bool
  | _, 0 => false
  | i, m + 1 => f i || anyF f (i + 1) m
def vToldT (w : hW) (b : Nat) (x y : Int32) (i : Nat) : Bool := decide (x < vStep w b (nI i)) && decide (vStep w b (nI i) < y)
def vToldW (w : hW) (b : Nat) (x y : Int32) (i : Nat) : Bool := decide (x < tCell w (b + 5) (nI i) 1) && decide (tCell w (b + 5) (nI i) 1 < y)
def vTold (w : hW) (b : Nat) (x y : Int32) : Bool := anyF (vToldT w b x y) 0 (w.1 (b + 1) 3).toInt.toNat || anyF (vToldW w b x y) 0 (w.1 (b + 5) 3).toInt.toNat
theorem nIlt {i : Nat} {n : Int32} (hi : i < 2 ^ 31) : nI i < n ↔ (i : Int) < n.toInt := by
  rw [i32_lt, nI_toInt hi]
theorem told2 (hb : isVal b) (hI : vI w b) {x y : Int32} : ∀ (m i : Nat), i + m = (w.1 (b + 5) 3).toInt.toNat → Tr (d + 1) 80 41 [some (.ref b), some (.int x), some (.int y), some (.int (nI i))] [] w Q = Q (some (.int (bI (anyF (vToldW w b x y) i m)))) w := by
  have hw := hI.2.2.2.2.2.2.2.2
  intro m
  induction m with
  | zero =>
    intro i hi
    have h1 : ¬ nI i < w.1 (b + 5) 3 := by rw [nIlt (by omega)]; omega
    show Go (d + 1) 80 41 _ _ _ _ = _
    simp only [s80_0, s80_1, s80_2, s80_3, s80_4, s80_7, s80_10, s80_13, s80_14, s80_15, s80_18, s80_19, s80_22, s80_23, s80_24, s80_27, s80_28, s80_31, s80_32, s80_33, s80_36, s80_39, s80_40, s80_41, s80_42, s80_43, s80_46, s80_49, s80_52, s80_53, s80_56, s80_57, s80_58, s80_61, s80_62, s80_65, s80_66, s80_69, s80_70, s80_71, s80_74, s80_75, s80_78, s80_79, s80_80, s80_83, s80_86, s80_87, gF_i, gF_r, gP_f, gP_t, aRd_1, aRd_4, aKd_e, oo_s, z0, z1, okP_n, okP_i, okP_r, vtl, vtn, true_and, and_true, bI_ite, bI_01, F6_14, F6_20, F6_23, F6_26, F6_30, F6_43, F6_37, F6_40, F6_46, F6_64, P6_26, P6_30, P6_43, P6_37, P6_40, P6_46, P6_64, hb, hI, vt1 hb, vt3 hb, vt5 hb, vl_rcv hb, tb_rcv (vt1 hb), tb_rcv (vt3 hb), tb_rcv (vt5 hb), vI_1 hI, vI_3 hI, vI_5 hI, cs_n, Nat.zero_le, cs_i, cs_r, cs_l, Nat.reduceAdd, Nat.reduceLeDiff, h1, decide_true, decide_false, not_true_eq_false, not_false_eq_true, Bool.and_true, Bool.true_and, Bool.and_false, Bool.false_and, Bool.or_true, Bool.true_or, Bool.or_false, Bool.false_or, Bool.not_true, Bool.not_false, ite_true, ite_false, if_true, if_false, Bool.false_eq_true, reduceIte, decide_not, and_true, true_and, and_false, false_and, or_true, true_or, or_false, false_or, not_false, not_true]
    rfl
  | succ m ih =>
    intro i hi
    have h1 : nI i < w.1 (b + 5) 3 := by rw [nIlt (by omega)]; omega
    show Go (d + 1) 80 41 _ _ _ _ = _
    simp only [s80_0, s80_1, s80_2, s80_3, s80_4, s80_7, s80_10, s80_13, s80_14, s80_15, s80_18, s80_19, s80_22, s80_23, s80_24, s80_27, s80_28, s80_31, s80_32, s80_33, s80_36, s80_39, s80_40, s80_41, s80_42, s80_43, s80_46, s80_49, s80_52, s80_53, s80_56, s80_57, s80_58, s80_61, s80_62, s80_65, s80_66, s80_69, s80_70, s80_71, s80_74, s80_75, s80_78, s80_79, s80_80, s80_83, s80_86, s80_87, gF_i, gF_r, gP_f, gP_t, aRd_1, aRd_4, aKd_e, oo_s, z0, z1, okP_n, okP_i, okP_r, vtl, vtn, true_and, and_true, bI_ite, bI_01, F6_14, F6_20, F6_23, F6_26, F6_30, F6_43, F6_37, F6_40, F6_46, F6_64, P6_26, P6_30, P6_43, P6_37, P6_40, P6_46, P6_64, hb, hI, vt1 hb, vt3 hb, vt5 hb, vl_rcv hb, tb_rcv (vt1 hb), tb_rcv (vt3 hb), tb_rcv (vt5 hb), vI_1 hI, vI_3 hI, vI_5 hI, cs_n, Nat.zero_le, cs_i, cs_r, cs_l, Nat.reduceAdd, Nat.reduceLeDiff, h1, decide_true, decide_false, not_true_eq_false, not_false_eq_true, Bool.and_true, Bool.true_and, Bool.and_false, Bool.false_and, Bool.or_true, Bool.true_or, Bool.or_false, Bool.false_or, Bool.not_true, Bool.not_false, ite_true, ite_false, if_true, if_false, Bool.false_eq_true, reduceIte, decide_not, and_true, true_and, and_false, false_and, or_true, true_or, or_false, false_or, not_false, not_true, c5_cell, c6_stepOf, nI_1, ih (i + 1) (by omega)]
    repeat' split
    all_goals simp only [anyF, vToldW, bI, *, decide_true, decide_false, not_true_eq_false, not_false_eq_true, Bool.and_true, Bool.true_and, Bool.and_false, Bool.false_and, Bool.or_true, Bool.true_or, Bool.or_false, Bool.false_or, Bool.not_true, Bool.not_false, ite_true, ite_false, if_true, if_false, Bool.false_eq_true, reduceIte, decide_not, and_true, true_and, and_false, false_and, or_true, true_or, or_false, false_or, not_false, not_true]
theorem told1 (hb : isVal b) (hI : vI w b) {x y : Int32} : ∀ (m i : Nat), i + m = (w.1 (b + 1) 3).toInt.toNat → Tr (d + 2) 80 2 [some (.ref b), some (.int x), some (.int y), some (.int (nI i))] [] w Q = Q (some (.int (bI (anyF (vToldT w b x y) i m || anyF (vToldW w b x y) 0 (w.1 (b + 5) 3).toInt.toNat)))) w := by
  have hw := hI.2.2.2.2.2.2.1
  intro m
  induction m with
  | zero =>
    intro i hi
    have h1 : ¬ nI i < w.1 (b + 1) 3 := by rw [nIlt (by omega)]; omega
    show Go (d + 2) 80 2 _ _ _ _ = _
    have h2 := told2 (d := d + 1) (Q := Q) hb hI (x := x) (y := y) (w.1 (b + 5) 3).toInt.toNat 0 (by omega)
    rw [nI_0] at h2
    simp only [s80_0, s80_1, s80_2, s80_3, s80_4, s80_7, s80_10, s80_13, s80_14, s80_15, s80_18, s80_19, s80_22, s80_23, s80_24, s80_27, s80_28, s80_31, s80_32, s80_33, s80_36, s80_39, s80_40, s80_41, s80_42, s80_43, s80_46, s80_49, s80_52, s80_53, s80_56, s80_57, s80_58, s80_61, s80_62, s80_65, s80_66, s80_69, s80_70, s80_71, s80_74, s80_75, s80_78, s80_79, s80_80, s80_83, s80_86, s80_87, gF_i, gF_r, gP_f, gP_t, aRd_1, aRd_4, aKd_e, oo_s, z0, z1, okP_n, okP_i, okP_r, vtl, vtn, true_and, and_true, bI_ite, bI_01, F6_14, F6_20, F6_23, F6_26, F6_30, F6_43, F6_37, F6_40, F6_46, F6_64, P6_26, P6_30, P6_43, P6_37, P6_40, P6_46, P6_64, hb, hI, vt1 hb, vt3 hb, vt5 hb, vl_rcv hb, tb_rcv (vt1 hb), tb_rcv (vt3 hb), tb_rcv (vt5 hb), vI_1 hI, vI_3 hI, vI_5 hI, cs_n, Nat.zero_le, cs_i, cs_r, cs_l, Nat.reduceAdd, Nat.reduceLeDiff, h1, decide_true, decide_false, not_true_eq_false, not_false_eq_true, Bool.and_true, Bool.true_and, Bool.and_false, Bool.false_and, Bool.or_true, Bool.true_or, Bool.or_false, Bool.false_or, Bool.not_true, Bool.not_false, ite_true, ite_false, if_true, if_false, Bool.false_eq_true, reduceIte, decide_not, and_true, true_and, and_false, false_and, or_true, true_or, or_false, false_or, not_false, not_true, h2, anyF]
  | succ m ih =>
    intro i hi
    have h1 : nI i < w.1 (b + 1) 3 := by rw [nIlt (by omega)]; omega
    show Go (d + 2) 80 2 _ _ _ _ = _
    simp only [s80_0, s80_1, s80_2, s80_3, s80_4, s80_7, s80_10, s80_13, s80_14, s80_15, s80_18, s80_19, s80_22, s80_23, s80_24, s80_27, s80_28, s80_31, s80_32, s80_33, s80_36, s80_39, s80_40, s80_41, s80_42, s80_43, s80_46, s80_49, s80_52, s80_53, s80_56, s80_57, s80_58, s80_61, s80_62, s80_65, s80_66, s80_69, s80_70, s80_71, s80_74, s80_75, s80_78, s80_79, s80_80, s80_83, s80_86, s80_87, gF_i, gF_r, gP_f, gP_t, aRd_1, aRd_4, aKd_e, oo_s, z0, z1, okP_n, okP_i, okP_r, vtl, vtn, true_and, and_true, bI_ite, bI_01, F6_14, F6_20, F6_23, F6_26, F6_30, F6_43, F6_37, F6_40, F6_46, F6_64, P6_26, P6_30, P6_43, P6_37, P6_40, P6_46, P6_64, hb, hI, vt1 hb, vt3 hb, vt5 hb, vl_rcv hb, tb_rcv (vt1 hb), tb_rcv (vt3 hb), tb_rcv (vt5 hb), vI_1 hI, vI_3 hI, vI_5 hI, cs_n, Nat.zero_le, cs_i, cs_r, cs_l, Nat.reduceAdd, Nat.reduceLeDiff, h1, decide_true, decide_false, not_true_eq_false, not_false_eq_true, Bool.and_true, Bool.true_and, Bool.and_false, Bool.false_and, Bool.or_true, Bool.true_or, Bool.or_false, Bool.false_or, Bool.not_true, Bool.not_false, ite_true, ite_false, if_true, if_false, Bool.false_eq_true, reduceIte, decide_not, and_true, true_and, and_false, false_and, or_true, true_or, or_false, false_or, not_false, not_true, c5_cell, c6_stepOf, nI_1, ih (i + 1) (by omega)]
    repeat' split
    all_goals simp only [anyF, vToldT, bI, *, decide_true, decide_false, not_true_eq_false, not_false_eq_true, Bool.and_true, Bool.true_and, Bool.and_false, Bool.false_and, Bool.or_true, Bool.true_or, Bool.or_false, Bool.false_or, Bool.not_true, Bool.not_false, ite_true, ite_false, if_true, if_false, Bool.false_eq_true, reduceIte, decide_not, and_true, true_and, and_false, false_and, or_true, true_or, or_false, false_or, not_false, not_true]
theorem c6_isTold (hb : isVal b) (hI : vI w b) {x y : Int32} : Cl (d + 2) 80 [.ref b, .int x, .int y] w Q = Q (some (.int (bI (vTold w b x y)))) w := by
  rw [Cl_go (L := [some (.ref b), some (.int x), some (.int y), none]) rfl]
  have h1 := told1 (d := d) (Q := Q) hb hI (x := x) (y := y) (w.1 (b + 1) 3).toInt.toNat 0 (by omega)
  rw [nI_0] at h1
  simp only [s80_0, s80_1, s80_2, s80_3, s80_4, s80_7, s80_10, s80_13, s80_14, s80_15, s80_18, s80_19, s80_22, s80_23, s80_24, s80_27, s80_28, s80_31, s80_32, s80_33, s80_36, s80_39, s80_40, s80_41, s80_42, s80_43, s80_46, s80_49, s80_52, s80_53, s80_56, s80_57, s80_58, s80_61, s80_62, s80_65, s80_66, s80_69, s80_70, s80_71, s80_74, s80_75, s80_78, s80_79, s80_80, s80_83, s80_86, s80_87, gF_i, gF_r, gP_f, gP_t, aRd_1, aRd_4, aKd_e, oo_s, z0, z1, okP_n, okP_i, okP_r, vtl, vtn, true_and, and_true, bI_ite, bI_01, h1]
  rfl
end
/-! numbers of FAR -/
def fCan (s w : Int32) : Int32 := if 0 < w then s * 10 / w else 0
def fCap (s : Int32) : Int32 := if 40 < s then 40 else s
def fUp (w e : Int32) : Int32 := if 0 < e then (w + e - 1) / e else w
def vStr (w : hW) (b : Nat) (m more : Int32) : Int32 := if 0 < tCell w (b + 3) m 0 + more - tCell w (b + 3) m 1 then tCell w (b + 3) m 0 + more - tCell w (b + 3) m 1 else 0
/-- FAR by KIND, WEIGHT, EXTRA, wind -/
def fReach (s k wt ex wd : Int32) : Int32 := if k = 1 then fCap (fCan s wt / 2) else if k = 2 then fCap (fCan s wt) + wd else if k = 3 then (fCap (fCan s wt) + wd) / 2 else if k = 4 then (if 5 < fCap (fCan s wt) then 5 else fCap (fCan s wt)) else if k = 5 then fCap (fCan s (fUp wt ex) / 2) else if k = 6 then fCap (fCan s wt / 2) + ex else fCap (fCan s wt)
def vReach (w : hW) (b : Nat) (s t : Int32) : Int32 := fReach s (tCell w (b + 1) t 0) (tCell w (b + 1) t 1) (tCell w (b + 1) t 2) (w.1 b 6)
def vFar (w : hW) (b : Nat) (m t : Int32) : Int32 := vReach w b (vStr w b m 0) t
def vWord (w : hW) (b : Nat) (t k : Int32) : Int32 := if k = 1 then tCell w (b + 1) t 2 else if k = 2 then vReach w b 9 t else if k = 3 then vReach w b 9 t else if k = 4 then tCell w (b + 1) t 5 else if k = 5 then tCell w (b + 1) t 2 else if k = 6 then tCell w (b + 1) t 2 else tCell w (b + 1) t 1
def iAbs (x : Int32) : Int32 := if 0 ≤ x then x else 0 - x
def vWhy (w : hW) (b : Nat) (m t dd : Int32) : Int32 := if tCell w (b + 1) t 4 = m then 1 else if (vStep w b t).toInt64 + dd.toInt64 < 0 then 2 else if (w.1 b 3).toInt64 < (vStep w b t).toInt64 + dd.toInt64 then 2 else if vWet w b ((vStep w b t).toInt64 + dd.toInt64).toInt32 then 3 else if dd = 0 then 4 else if vFar w b m t < iAbs dd then 4 else if tCell w (b + 1) t 5 = 0 then 0 else 5
def vTenths (w : hW) (b : Nat) (m t dd : Int32) : Int32 := if 2 * vFar w b m t < dd then 0 else if 0 < 10 - dd / 4 then 10 - dd / 4 else 0
def vThrown (w : hW) (b : Nat) (m t dd : Int32) : Bool := !decide (2 * vFar w b m t < dd) && vStand w b (vStep w b t + dd)
def vSum (w : hW) (b : Nat) (t dd : Int32) : Nat → Nat → Int32 → Int32
  | _, 0, a => a
  | i, m + 1, a => vSum w b t dd (i + 1) m (if tCell w (b + 5) (nI i) 0 = t ∧ tCell w (b + 5) (nI i) 1 = vStep w b t + dd then a + tCell w (b + 5) (nI i) 2 else a)
def vMean (w : hW) (b : Nat) (m t dd : Int32) : Int32 := if vThrown w b m t dd then vTenths w b m t dd * vSum w b t dd 0 (w.1 (b + 5) 3).toInt.toNat 0 / 10 else 0
theorem nz2 : (¬ (2 : Int32) = 0) = True := by simp
theorem nz4 : (¬ (4 : Int32) = 0) = True := by simp
theorem nz10 : (¬ (10 : Int32) = 0) = True := by simp
theorem lc_lt {x y : Int64} : (lg_cmp x y < 0) = (x < y) := by
  have := lg_cmp_ge x y
  apply propext
  constructor
  · intro h
    rcases Int64.lt_or_le x y with h1 | h1
    · exact h1
    · exact absurd (this.mpr h1) (Int32.not_le.mpr h)
  · intro h
    rcases Int32.lt_or_le (lg_cmp x y) 0 with h1 | h1
    · exact h1
    · exact absurd (this.mp h1) (Int64.not_le.mpr h)
theorem lc_gt {x y : Int64} : (0 < lg_cmp x y) = (y < x) := by
  unfold lg_cmp
  apply propext
  by_cases h : x > y
  · rw [if_pos h]; exact ⟨fun _ => h, fun _ => by decide⟩
  · rw [if_neg h]
    refine ⟨fun h2 => ?_, fun h2 => absurd h2 h⟩
    split at h2 <;> exact absurd h2 (by decide)
section
variable {d b : Nat} {w : hW} {Q : aPost}
theorem c6_can {s wt : Int32} : Cl d 84 [.int s, .int wt] w Q = Q (some (.int (fCan s wt))) w := by
  rw [Cl_go (L := [some (.int s), some (.int wt)]) rfl]
  simp only [s84_0, s84_1, s84_4, s84_5, s84_7, s84_8, s84_9, s84_10, s84_13, s84_14, gF_i, gF_r, gP_f, gP_t, aRd_1, aRd_4, aKd_e, oo_s, z0, z1, okP_n, okP_i, okP_r, vtl, vtn, true_and, and_true, bI_ite, bI_01]
  unfold fCan
  by_cases h : 0 < wt
  · have h2 : ¬ wt = 0 := by rintro rfl; exact absurd h (by decide)
    simp only [h, h2, decide_true, decide_false, not_true_eq_false, not_false_eq_true, Bool.and_true, Bool.true_and, Bool.and_false, Bool.false_and, Bool.or_true, Bool.true_or, Bool.or_false, Bool.false_or, Bool.not_true, Bool.not_false, ite_true, ite_false, if_true, if_false, Bool.false_eq_true, reduceIte, decide_not, and_true, true_and, and_false, false_and, or_true, true_or, or_false, false_or, not_false, not_true]
  · simp only [h, decide_true, decide_false, not_true_eq_false, not_false_eq_true, Bool.and_true, Bool.true_and, Bool.and_false, Bool.false_and, Bool.or_true, Bool.true_or, Bool.or_false, Bool.false_or, Bool.not_true, Bool.not_false, ite_true, ite_false, if_true, if_false, Bool.false_eq_true, reduceIte, decide_not, and_true, true_and, and_false, false_and, or_true, true_or, or_false, false_or, not_false, not_true]
theorem c6_capped {s : Int32} : Cl d 85 [.int s] w Q = Q (some (.int (fCap s))) w := by
  rw [Cl_go (L := [some (.int s)]) rfl]
  simp only [s85_0, s85_1, s85_3, s85_6, gF_i, gF_r, gP_f, gP_t, aRd_1, aRd_4, aKd_e, oo_s, z0, z1, okP_n, okP_i, okP_r, vtl, vtn, true_and, and_true, bI_ite, bI_01, cs_n, Nat.zero_le, cs_i, cs_r, cs_l, Nat.reduceAdd, Nat.reduceLeDiff]
  rfl
theorem c6_byRoundedUp {wt e : Int32} : Cl d 86 [.int wt, .int e] w Q = Q (some (.int (fUp wt e))) w := by
  rw [Cl_go (L := [some (.int wt), some (.int e)]) rfl]
  simp only [s86_0, s86_1, s86_4, s86_5, s86_6, s86_7, s86_8, s86_9, s86_10, s86_11, s86_14, s86_15, gF_i, gF_r, gP_f, gP_t, aRd_1, aRd_4, aKd_e, oo_s, z0, z1, okP_n, okP_i, okP_r, vtl, vtn, true_and, and_true, bI_ite, bI_01]
  unfold fUp
  by_cases h : 0 < e
  · have h2 : ¬ e = 0 := by rintro rfl; exact absurd h (by decide)
    simp only [h, h2, decide_true, decide_false, not_true_eq_false, not_false_eq_true, Bool.and_true, Bool.true_and, Bool.and_false, Bool.false_and, Bool.or_true, Bool.true_or, Bool.or_false, Bool.false_or, Bool.not_true, Bool.not_false, ite_true, ite_false, if_true, if_false, Bool.false_eq_true, reduceIte, decide_not, and_true, true_and, and_false, false_and, or_true, true_or, or_false, false_or, not_false, not_true]
  · simp only [h, decide_true, decide_false, not_true_eq_false, not_false_eq_true, Bool.and_true, Bool.true_and, Bool.and_false, Bool.false_and, Bool.or_true, Bool.true_or, Bool.or_false, Bool.false_or, Bool.not_true, Bool.not_false, ite_true, ite_false, if_true, if_false, Bool.false_eq_true, reduceIte, decide_not, and_true, true_and, and_false, false_and, or_true, true_or, or_false, false_or, not_false, not_true]
theorem c6_strengthLeft (hb : isVal b) (hI : vI w b) {m more : Int32} : Cl (d + 1) 81 [.ref b, .int m, .int more] w Q = Q (some (.int (vStr w b m more))) w := by
  rw [Cl_go (L := [some (.ref b), some (.int m), some (.int more)]) rfl]
  simp only [s81_0, s81_1, s81_2, s81_5, s81_6, s81_7, s81_10, s81_11, s81_12, s81_13, s81_16, s81_17, s81_18, s81_21, s81_22, s81_25, gF_i, gF_r, gP_f, gP_t, aRd_1, aRd_4, aKd_e, oo_s, z0, z1, okP_n, okP_i, okP_r, vtl, vtn, true_and, and_true, bI_ite, bI_01, F6_14, F6_20, F6_23, F6_26, F6_30, F6_43, F6_37, F6_40, F6_46, F6_64, P6_26, P6_30, P6_43, P6_37, P6_40, P6_46, P6_64, hb, hI, vt1 hb, vt3 hb, vt5 hb, vl_rcv hb, tb_rcv (vt1 hb), tb_rcv (vt3 hb), tb_rcv (vt5 hb), vI_1 hI, vI_3 hI, vI_5 hI, cs_n, Nat.zero_le, cs_i, cs_r, cs_l, Nat.reduceAdd, Nat.reduceLeDiff, c5_cell]
  rfl
theorem c6_reach (hb : isVal b) (hI : vI w b) {s t : Int32} : Cl (d + 1) 83 [.ref b, .int s, .int t] w Q = Q (some (.int (vReach w b s t))) w := by
  rw [Cl_go (L := [some (.ref b), some (.int s), some (.int t), none, none, none, none]) rfl]
  simp only [s83_0, s83_1, s83_4, s83_5, s83_6, s83_9, s83_10, s83_11, s83_14, s83_15, s83_16, s83_19, s83_21, s83_22, s83_23, s83_26, s83_29, s83_31, s83_32, s83_33, s83_36, s83_37, s83_38, s83_41, s83_43, s83_44, s83_47, s83_48, s83_49, s83_52, s83_92, s83_94, s83_95, s83_96, s83_97, s83_99, s83_102, s83_105, s83_106, s83_107, s83_110, s83_111, s83_113, s83_115, s83_116, s83_117, s83_119, s83_120, s83_123, s83_124, s83_125, s83_127, s83_128, s83_131, s83_132, s83_133, s83_134, s83_135, s83_137, s83_138, s83_141, s83_142, s83_144, gF_i, gF_r, gP_f, gP_t, aRd_1, aRd_4, aKd_e, oo_s, z0, z1, okP_n, okP_i, okP_r, vtl, vtn, true_and, and_true, bI_ite, bI_01, F6_14, F6_20, F6_23, F6_26, F6_30, F6_43, F6_37, F6_40, F6_46, F6_64, P6_26, P6_30, P6_43, P6_37, P6_40, P6_46, P6_64, hb, hI, vt1 hb, vt3 hb, vt5 hb, vl_rcv hb, tb_rcv (vt1 hb), tb_rcv (vt3 hb), tb_rcv (vt5 hb), vI_1 hI, vI_3 hI, vI_5 hI, cs_n, Nat.zero_le, cs_i, cs_r, cs_l, Nat.reduceAdd, Nat.reduceLeDiff, c5_cell, c6_can, c6_capped, c6_byRoundedUp, nz2]
  unfold vReach fReach
  repeat' split
  all_goals first | rfl | simp_all
theorem c6_reachOf (hb : isVal b) (hI : vI w b) {m t : Int32} : Cl (d + 2) 82 [.ref b, .int m, .int t] w Q = Q (some (.int (vFar w b m t))) w := by
  rw [Cl_go (L := [some (.ref b), some (.int m), some (.int t)]) rfl]
  simp only [s82_0, s82_1, s82_2, s82_3, s82_4, s82_7, s82_8, s82_11, gF_i, gF_r, gP_f, gP_t, aRd_1, aRd_4, aKd_e, oo_s, z0, z1, okP_n, okP_i, okP_r, vtl, vtn, true_and, and_true, bI_ite, bI_01, F6_14, F6_20, F6_23, F6_26, F6_30, F6_43, F6_37, F6_40, F6_46, F6_64, P6_26, P6_30, P6_43, P6_37, P6_40, P6_46, P6_64, hb, hI, vt1 hb, vt3 hb, vt5 hb, vl_rcv hb, tb_rcv (vt1 hb), tb_rcv (vt3 hb), tb_rcv (vt5 hb), vI_1 hI, vI_3 hI, vI_5 hI, cs_n, Nat.zero_le, cs_i, cs_r, cs_l, Nat.reduceAdd, Nat.reduceLeDiff, c6_strengthLeft, c6_reach]
  rfl
theorem c6_word (hb : isVal b) (hI : vI w b) {t k : Int32} : Cl (d + 2) 87 [.ref b, .int t, .int k] w Q = Q (some (.int (vWord w b t k))) w := by
  rw [Cl_go (L := [some (.ref b), some (.int t), some (.int k)]) rfl]
  simp only [s87_0, s87_1, s87_40, s87_41, s87_44, s87_45, s87_46, s87_49, s87_50, s87_51, s87_53, s87_54, s87_57, s87_58, s87_59, s87_62, s87_63, s87_64, s87_67, s87_68, s87_69, s87_72, s87_73, s87_74, s87_77, gF_i, gF_r, gP_f, gP_t, aRd_1, aRd_4, aKd_e, oo_s, z0, z1, okP_n, okP_i, okP_r, vtl, vtn, true_and, and_true, bI_ite, bI_01, F6_14, F6_20, F6_23, F6_26, F6_30, F6_43, F6_37, F6_40, F6_46, F6_64, P6_26, P6_30, P6_43, P6_37, P6_40, P6_46, P6_64, hb, hI, vt1 hb, vt3 hb, vt5 hb, vl_rcv hb, tb_rcv (vt1 hb), tb_rcv (vt3 hb), tb_rcv (vt5 hb), vI_1 hI, vI_3 hI, vI_5 hI, cs_n, Nat.zero_le, cs_i, cs_r, cs_l, Nat.reduceAdd, Nat.reduceLeDiff, c5_cell, c6_reach]
  unfold vWord
  repeat' split
  all_goals first | rfl | simp_all
theorem c6_whyNot (hb : isVal b) (hI : vI w b) {m t dd : Int32} : Cl (d + 3) 88 [.ref b, .int m, .int t, .int dd] w Q = Q (some (.int (vWhy w b m t dd))) w := by
  rw [Cl_go (L := [some (.ref b), some (.int m), some (.int t), some (.int dd), none, none]) rfl]
  simp only [s88_0, s88_1, s88_2, s88_5, s88_6, s88_7, s88_8, s88_9, s88_11, s88_12, s88_15, s88_16, s88_17, s88_20, s88_21, s88_24, s88_25, s88_26, s88_28, s88_29, s88_30, s88_33, s88_35, s88_36, s88_39, s88_40, s88_41, s88_44, s88_45, s88_46, s88_47, s88_49, s88_50, s88_53, s88_56, s88_57, s88_58, s88_59, s88_62, s88_63, s88_66, s88_67, s88_68, s88_69, s88_72, s88_75, s88_76, s88_77, s88_78, s88_81, s88_82, s88_83, s88_86, s88_89, s88_90, s88_93, s88_94, gF_i, gF_r, gP_f, gP_t, aRd_1, aRd_4, aKd_e, oo_s, z0, z1, okP_n, okP_i, okP_r, vtl, vtn, true_and, and_true, bI_ite, bI_01, F6_14, F6_20, F6_23, F6_26, F6_30, F6_43, F6_37, F6_40, F6_46, F6_64, P6_26, P6_30, P6_43, P6_37, P6_40, P6_46, P6_64, hb, hI, vt1 hb, vt3 hb, vt5 hb, vl_rcv hb, tb_rcv (vt1 hb), tb_rcv (vt3 hb), tb_rcv (vt5 hb), vI_1 hI, vI_3 hI, vI_5 hI, cs_n, Nat.zero_le, cs_i, cs_r, cs_l, Nat.reduceAdd, Nat.reduceLeDiff, c5_cell, c6_stepOf, c6_reachOf, c6_inRiver, lc_lt, lc_gt]
  unfold vWhy iAbs
  repeat' split
  all_goals first | rfl | simp_all
theorem c6_caughtTenths (hb : isVal b) (hI : vI w b) {m t dd : Int32} : Cl (d + 3) 91 [.ref b, .int m, .int t, .int dd] w Q = Q (some (.int (vTenths w b m t dd))) w := by
  rw [Cl_go (L := [some (.ref b), some (.int m), some (.int t), some (.int dd)]) rfl]
  simp only [s91_0, s91_1, s91_2, s91_3, s91_4, s91_5, s91_8, s91_9, s91_12, s91_13, s91_16, s91_17, s91_19, s91_20, s91_21, s91_22, s91_23, s91_26, gF_i, gF_r, gP_f, gP_t, aRd_1, aRd_4, aKd_e, oo_s, z0, z1, okP_n, okP_i, okP_r, vtl, vtn, true_and, and_true, bI_ite, bI_01, F6_14, F6_20, F6_23, F6_26, F6_30, F6_43, F6_37, F6_40, F6_46, F6_64, P6_26, P6_30, P6_43, P6_37, P6_40, P6_46, P6_64, hb, hI, vt1 hb, vt3 hb, vt5 hb, vl_rcv hb, tb_rcv (vt1 hb), tb_rcv (vt3 hb), tb_rcv (vt5 hb), vI_1 hI, vI_3 hI, vI_5 hI, cs_n, Nat.zero_le, cs_i, cs_r, cs_l, Nat.reduceAdd, Nat.reduceLeDiff, c6_reachOf, nz4]
  unfold vTenths
  repeat' split
  all_goals first | rfl | simp_all
theorem c6_mayBeThrown (hb : isVal b) (hI : vI w b) {m t dd : Int32} : Cl (d + 3) 92 [.ref b, .int m, .int t, .int dd] w Q = Q (some (.int (bI (vThrown w b m t dd)))) w := by
  rw [Cl_go (L := [some (.ref b), some (.int m), some (.int t), some (.int dd)]) rfl]
  simp only [s92_0, s92_1, s92_2, s92_3, s92_4, s92_5, s92_8, s92_9, s92_12, s92_13, s92_14, s92_15, s92_18, s92_19, s92_20, s92_23, s92_26, s92_27, s92_30, s92_31, gF_i, gF_r, gP_f, gP_t, aRd_1, aRd_4, aKd_e, oo_s, z0, z1, okP_n, okP_i, okP_r, vtl, vtn, true_and, and_true, bI_ite, bI_01, F6_14, F6_20, F6_23, F6_26, F6_30, F6_43, F6_37, F6_40, F6_46, F6_64, P6_26, P6_30, P6_43, P6_37, P6_40, P6_46, P6_64, hb, hI, vt1 hb, vt3 hb, vt5 hb, vl_rcv hb, tb_rcv (vt1 hb), tb_rcv (vt3 hb), tb_rcv (vt5 hb), vI_1 hI, vI_3 hI, vI_5 hI, cs_n, Nat.zero_le, cs_i, cs_r, cs_l, Nat.reduceAdd, Nat.reduceLeDiff, c6_reachOf, c6_stepOf, c6_mayStand]
  unfold vThrown
  repeat' split
  all_goals first | rfl | simp_all [bI]
theorem meanL (hb : isVal b) (hI : vI w b) {m t dd : Int32} : ∀ (n i : Nat) (a : Int32), i + n = (w.1 (b + 5) 3).toInt.toNat → Tr (d + 4) 93 18 [some (.ref b), some (.int m), some (.int t), some (.int dd), some (.int a), some (.int (nI i))] [] w Q = Q (some (.int (vTenths w b m t dd * vSum w b t dd i n a / 10))) w := by
  have hw := hI.2.2.2.2.2.2.2.2
  intro n
  induction n with
  | zero =>
    intro i a hi
    have h1 : ¬ nI i < w.1 (b + 5) 3 := by rw [nIlt (by omega)]; omega
    show Go (d + 4) 93 18 _ _ _ _ = _
    simp only [s93_0, s93_1, s93_2, s93_3, s93_4, s93_7, s93_10, s93_11, s93_12, s93_13, s93_15, s93_16, s93_18, s93_20, s93_21, s93_24, s93_27, s93_30, s93_31, s93_34, s93_36, s93_37, s93_40, s93_41, s93_44, s93_45, s93_48, s93_50, s93_51, s93_54, s93_55, s93_56, s93_59, s93_60, s93_61, s93_64, s93_66, s93_67, s93_70, s93_72, s93_73, s93_76, s93_77, s93_79, s93_82, s93_85, s93_86, s93_87, s93_88, s93_89, s93_92, s93_94, s93_95, s93_97, s93_98, gF_i, gF_r, gP_f, gP_t, aRd_1, aRd_4, aKd_e, oo_s, z0, z1, okP_n, okP_i, okP_r, vtl, vtn, true_and, and_true, bI_ite, bI_01, F6_14, F6_20, F6_23, F6_26, F6_30, F6_43, F6_37, F6_40, F6_46, F6_64, P6_26, P6_30, P6_43, P6_37, P6_40, P6_46, P6_64, hb, hI, vt1 hb, vt3 hb, vt5 hb, vl_rcv hb, tb_rcv (vt1 hb), tb_rcv (vt3 hb), tb_rcv (vt5 hb), vI_1 hI, vI_3 hI, vI_5 hI, cs_n, Nat.zero_le, cs_i, cs_r, cs_l, Nat.reduceAdd, Nat.reduceLeDiff, h1, decide_true, decide_false, not_true_eq_false, not_false_eq_true, Bool.and_true, Bool.true_and, Bool.and_false, Bool.false_and, Bool.or_true, Bool.true_or, Bool.or_false, Bool.false_or, Bool.not_true, Bool.not_false, ite_true, ite_false, if_true, if_false, Bool.false_eq_true, reduceIte, decide_not, and_true, true_and, and_false, false_and, or_true, true_or, or_false, false_or, not_false, not_true, c6_caughtTenths, nz10]
    rfl
  | succ n ih =>
    intro i a hi
    have h1 : nI i < w.1 (b + 5) 3 := by rw [nIlt (by omega)]; omega
    show Go (d + 4) 93 18 _ _ _ _ = _
    simp only [s93_0, s93_1, s93_2, s93_3, s93_4, s93_7, s93_10, s93_11, s93_12, s93_13, s93_15, s93_16, s93_18, s93_20, s93_21, s93_24, s93_27, s93_30, s93_31, s93_34, s93_36, s93_37, s93_40, s93_41, s93_44, s93_45, s93_48, s93_50, s93_51, s93_54, s93_55, s93_56, s93_59, s93_60, s93_61, s93_64, s93_66, s93_67, s93_70, s93_72, s93_73, s93_76, s93_77, s93_79, s93_82, s93_85, s93_86, s93_87, s93_88, s93_89, s93_92, s93_94, s93_95, s93_97, s93_98, gF_i, gF_r, gP_f, gP_t, aRd_1, aRd_4, aKd_e, oo_s, z0, z1, okP_n, okP_i, okP_r, vtl, vtn, true_and, and_true, bI_ite, bI_01, F6_14, F6_20, F6_23, F6_26, F6_30, F6_43, F6_37, F6_40, F6_46, F6_64, P6_26, P6_30, P6_43, P6_37, P6_40, P6_46, P6_64, hb, hI, vt1 hb, vt3 hb, vt5 hb, vl_rcv hb, tb_rcv (vt1 hb), tb_rcv (vt3 hb), tb_rcv (vt5 hb), vI_1 hI, vI_3 hI, vI_5 hI, cs_n, Nat.zero_le, cs_i, cs_r, cs_l, Nat.reduceAdd, Nat.reduceLeDiff, h1, decide_true, decide_false, not_true_eq_false, not_false_eq_true, Bool.and_true, Bool.true_and, Bool.and_false, Bool.false_and, Bool.or_true, Bool.true_or, Bool.or_false, Bool.false_or, Bool.not_true, Bool.not_false, ite_true, ite_false, if_true, if_false, Bool.false_eq_true, reduceIte, decide_not, and_true, true_and, and_false, false_and, or_true, true_or, or_false, false_or, not_false, not_true, c5_cell, c6_stepOf, nI_1, ih (i + 1) _ (by omega), vSum]
    by_cases e1 : tCell w (b + 5) (nI i) 0 = t
    · by_cases e2 : tCell w (b + 5) (nI i) 1 = vStep w b t + dd
      · simp only [e1, e2, decide_true, decide_false, not_true_eq_false, not_false_eq_true, Bool.and_true, Bool.true_and, Bool.and_false, Bool.false_and, Bool.or_true, Bool.true_or, Bool.or_false, Bool.false_or, Bool.not_true, Bool.not_false, ite_true, ite_false, if_true, if_false, Bool.false_eq_true, reduceIte, decide_not, and_true, true_and, and_false, false_and, or_true, true_or, or_false, false_or, not_false, not_true]
      · simp only [e1, e2, decide_true, decide_false, not_true_eq_false, not_false_eq_true, Bool.and_true, Bool.true_and, Bool.and_false, Bool.false_and, Bool.or_true, Bool.true_or, Bool.or_false, Bool.false_or, Bool.not_true, Bool.not_false, ite_true, ite_false, if_true, if_false, Bool.false_eq_true, reduceIte, decide_not, and_true, true_and, and_false, false_and, or_true, true_or, or_false, false_or, not_false, not_true]
    · simp only [e1, decide_true, decide_false, not_true_eq_false, not_false_eq_true, Bool.and_true, Bool.true_and, Bool.and_false, Bool.false_and, Bool.or_true, Bool.true_or, Bool.or_false, Bool.false_or, Bool.not_true, Bool.not_false, ite_true, ite_false, if_true, if_false, Bool.false_eq_true, reduceIte, decide_not, and_true, true_and, and_false, false_and, or_true, true_or, or_false, false_or, not_false, not_true]
theorem c6_meanWorth (hb : isVal b) (hI : vI w b) {m t dd : Int32} : Cl (d + 4) 93 [.ref b, .int m, .int t, .int dd] w Q = Q (some (.int (vMean w b m t dd))) w := by
  rw [Cl_go (L := [some (.ref b), some (.int m), some (.int t), some (.int dd), none, none]) rfl]
  have h1 := meanL (d := d) (Q := Q) hb hI (m := m) (t := t) (dd := dd) (w.1 (b + 5) 3).toInt.toNat 0 0 (by omega)
  rw [nI_0] at h1
  simp only [s93_0, s93_1, s93_2, s93_3, s93_4, s93_7, s93_10, s93_11, s93_12, s93_13, s93_15, s93_16, s93_18, s93_20, s93_21, s93_24, s93_27, s93_30, s93_31, s93_34, s93_36, s93_37, s93_40, s93_41, s93_44, s93_45, s93_48, s93_50, s93_51, s93_54, s93_55, s93_56, s93_59, s93_60, s93_61, s93_64, s93_66, s93_67, s93_70, s93_72, s93_73, s93_76, s93_77, s93_79, s93_82, s93_85, s93_86, s93_87, s93_88, s93_89, s93_92, s93_94, s93_95, s93_97, s93_98, gF_i, gF_r, gP_f, gP_t, aRd_1, aRd_4, aKd_e, oo_s, z0, z1, okP_n, okP_i, okP_r, vtl, vtn, true_and, and_true, bI_ite, bI_01, F6_14, F6_20, F6_23, F6_26, F6_30, F6_43, F6_37, F6_40, F6_46, F6_64, P6_26, P6_30, P6_43, P6_37, P6_40, P6_46, P6_64, hb, hI, vt1 hb, vt3 hb, vt5 hb, vl_rcv hb, tb_rcv (vt1 hb), tb_rcv (vt3 hb), tb_rcv (vt5 hb), vI_1 hI, vI_3 hI, vI_5 hI, cs_n, Nat.zero_le, cs_i, cs_r, cs_l, Nat.reduceAdd, Nat.reduceLeDiff, c6_mayBeThrown, h1]
  unfold vMean
  repeat' split
  all_goals first | rfl | simp_all
def vLongOk (w : hW) (b : Nat) (n : Int32) : Bool := !decide (n < 1) && (!decide (99 < n) && (!decide (n < w.1 b 5) && !vTold w b n 100))
def vRivOk (w : hW) (b : Nat) (f t : Int32) : Bool := !decide (f < 0) && (!decide (t < f) && (!decide (w.1 b 3 < t) && !vTold w b f t))
theorem c6_mayBeLong (hb : isVal b) (hI : vI w b) {n : Int32} : Cl (d + 3) 78 [.ref b, .int n] w Q = Q (some (.int (bI (vLongOk w b n)))) w := by
  rw [Cl_go (L := [some (.ref b), some (.int n)]) rfl]
  simp only [s78_0, s78_1, s78_2, s78_5, s78_6, s78_8, s78_11, s78_12, s78_13, s78_16, s78_19, s78_20, s78_21, s78_23, s78_26, s78_29, s78_30, s78_33, s78_34, gF_i, gF_r, gP_f, gP_t, aRd_1, aRd_4, aKd_e, oo_s, z0, z1, okP_n, okP_i, okP_r, vtl, vtn, true_and, and_true, bI_ite, bI_01, F6_14, F6_20, F6_23, F6_26, F6_30, F6_43, F6_37, F6_40, F6_46, F6_64, P6_26, P6_30, P6_43, P6_37, P6_40, P6_46, P6_64, hb, hI, vt1 hb, vt3 hb, vt5 hb, vl_rcv hb, tb_rcv (vt1 hb), tb_rcv (vt3 hb), tb_rcv (vt5 hb), vI_1 hI, vI_3 hI, vI_5 hI, cs_n, Nat.zero_le, cs_i, cs_r, cs_l, Nat.reduceAdd, Nat.reduceLeDiff, c6_isTold]
  unfold vLongOk
  repeat' split
  all_goals first | rfl | simp_all [bI]
theorem c6_mayBeRiver (hb : isVal b) (hI : vI w b) {f t : Int32} : Cl (d + 3) 79 [.ref b, .int f, .int t] w Q = Q (some (.int (bI (vRivOk w b f t)))) w := by
  rw [Cl_go (L := [some (.ref b), some (.int f), some (.int t)]) rfl]
  simp only [s79_0, s79_1, s79_4, s79_5, s79_6, s79_9, s79_10, s79_11, s79_14, s79_17, s79_18, s79_19, s79_20, s79_23, s79_26, s79_27, s79_30, s79_31, gF_i, gF_r, gP_f, gP_t, aRd_1, aRd_4, aKd_e, oo_s, z0, z1, okP_n, okP_i, okP_r, vtl, vtn, true_and, and_true, bI_ite, bI_01, F6_14, F6_20, F6_23, F6_26, F6_30, F6_43, F6_37, F6_40, F6_46, F6_64, P6_26, P6_30, P6_43, P6_37, P6_40, P6_46, P6_64, hb, hI, vt1 hb, vt3 hb, vt5 hb, vl_rcv hb, tb_rcv (vt1 hb), tb_rcv (vt3 hb), tb_rcv (vt5 hb), vI_1 hI, vI_3 hI, vI_5 hI, cs_n, Nat.zero_le, cs_i, cs_r, cs_l, Nat.reduceAdd, Nat.reduceLeDiff, c6_isTold]
  unfold vRivOk
  repeat' split
  all_goals first | rfl | simp_all [bI]
end

/-! CONTRACTS of Reader (class 1) -/
def rLet (w : hW) (i : Int32) : Int32 := if i < 0 then -1 else if i < w.1 35 3 then (if i < 160 then w.1 36 i.toNatClampNeg else -1) else -1
def rDig (x : Int32) : Bool := !decide (x < 48) && !decide (57 < x)
def rFail (w : hW) (p : Int32) : hW := if w.1 35 6 = -1 then wI w 35 6 p else w
def rExp (w : hW) (c : Int32) : hW := if w.1 35 6 = -1 then (if rLet w (w.1 35 4) = c then wI w 35 4 (w.1 35 4 + 1) else rFail w (w.1 35 4)) else w
def rMust (w : hW) (b : Bool) : hW := if b then w else rFail w (w.1 35 5)
def rNumL : Nat → hW → Int32 → Int32 × hW
  | 0, w, v => (v, w)
  | r + 1, w, v => if w.1 35 6 = -1 then (if rDig (rLet w (w.1 35 4)) then rNumL r (wI w 35 4 (w.1 35 4 + 1)) (v * 10 + rLet w (w.1 35 4) - 48) else (v, w)) else (v, w)
def rNum1 (w : hW) : hW := wI (rExp w 32) 35 5 ((rExp w 32).1 35 4)
def rNum0 (w : hW) : hW := if rDig (rLet (rNum1 w) ((rNum1 w).1 35 4)) then rNum1 w else rFail (rNum1 w) ((rNum1 w).1 35 4)
def rNum (w : hW) : Int32 × hW := rNumL 2 (rNum0 w) 0
def rWordI (tx : List Int32) : Nat → Nat → hW → hW
  | _, 0, w => w
  | i, m + 1, w => rWordI tx (i + 1) m (rExp w (tx.getD i 0))
def rEW (w : hW) (j : Nat) (full : Bool) : hW := if full then rFail (rWordI (gTxs.getD j []) 0 (gTxs.getD j []).length w) (w.1 35 4) else rWordI (gTxs.getD j []) 0 (gTxs.getD j []).length w
section
variable {d : Nat} {w : hW} {Q : aPost}
theorem c1_letter {i : Int32} : Cl d 20 [.ref 35, .int i] w Q = Q (some (.int (rLet w i))) w := by
  rw [Cl_go (L := [some (.ref 35), some (.int i)]) rfl]
  unfold rLet
  by_cases h1 : i < 0
  · simp only [s20_0, s20_1, s20_4, s20_5, s20_6, s20_9, s20_12, s20_13, s20_14, s20_17, s20_18, s20_21, s20_22, s20_25, s20_26, s20_27, s20_30, s20_31, gF_i, gF_r, gP_f, gP_t, aRd_1, aRd_4, aKd_e, oo_s, z0, z1, okP_n, okP_i, okP_r, vtl, vtn, true_and, and_true, bI_ite, bI_01, F1_11, F1_17, F1_21, F1_35, F1_42, F1_45, F1_51, F1_187, F1_85, F1_128, F1_139, F1_157, F1_166, F1_169, F1_177, P1_35, P1_42, P1_45, P1_51, P1_187, P1_157, P1_166, P1_169, P1_177, cs_n, Nat.zero_le, cs_i, cs_r, cs_l, Nat.reduceAdd, Nat.reduceLeDiff, h1, decide_true, decide_false, not_true_eq_false, not_false_eq_true, Bool.and_true, Bool.true_and, Bool.and_false, Bool.false_and, Bool.or_true, Bool.true_or, Bool.or_false, Bool.false_or, Bool.not_true, Bool.not_false, ite_true, ite_false, if_true, if_false, Bool.false_eq_true, reduceIte, decide_not, and_true, true_and, and_false, false_and, or_true, true_or, or_false, false_or, not_false, not_true]
  · by_cases h2 : i < w.1 35 3
    · by_cases h3 : i < 160
      · have h4 : inb i 160 := by
          have z : (0 : Int32).toInt = 0 := rfl
          have z1 : (160 : Int32).toInt = 160 := rfl
          rw [i32_lt, z] at h1
          rw [i32_lt, z1] at h3
          exact ⟨by omega, by omega⟩
        simp only [s20_0, s20_1, s20_4, s20_5, s20_6, s20_9, s20_12, s20_13, s20_14, s20_17, s20_18, s20_21, s20_22, s20_25, s20_26, s20_27, s20_30, s20_31, gF_i, gF_r, gP_f, gP_t, aRd_1, aRd_4, aKd_e, oo_s, z0, z1, okP_n, okP_i, okP_r, vtl, vtn, true_and, and_true, bI_ite, bI_01, F1_11, F1_17, F1_21, F1_35, F1_42, F1_45, F1_51, F1_187, F1_85, F1_128, F1_139, F1_157, F1_166, F1_169, F1_177, P1_35, P1_42, P1_45, P1_51, P1_187, P1_157, P1_166, P1_169, P1_177, cs_n, Nat.zero_le, cs_i, cs_r, cs_l, Nat.reduceAdd, Nat.reduceLeDiff, N_36, A_36, n160, h1, h2, h3, h4, decide_true, decide_false, not_true_eq_false, not_false_eq_true, Bool.and_true, Bool.true_and, Bool.and_false, Bool.false_and, Bool.or_true, Bool.true_or, Bool.or_false, Bool.false_or, Bool.not_true, Bool.not_false, ite_true, ite_false, if_true, if_false, Bool.false_eq_true, reduceIte, decide_not, and_true, true_and, and_false, false_and, or_true, true_or, or_false, false_or, not_false, not_true]
      · simp only [s20_0, s20_1, s20_4, s20_5, s20_6, s20_9, s20_12, s20_13, s20_14, s20_17, s20_18, s20_21, s20_22, s20_25, s20_26, s20_27, s20_30, s20_31, gF_i, gF_r, gP_f, gP_t, aRd_1, aRd_4, aKd_e, oo_s, z0, z1, okP_n, okP_i, okP_r, vtl, vtn, true_and, and_true, bI_ite, bI_01, F1_11, F1_17, F1_21, F1_35, F1_42, F1_45, F1_51, F1_187, F1_85, F1_128, F1_139, F1_157, F1_166, F1_169, F1_177, P1_35, P1_42, P1_45, P1_51, P1_187, P1_157, P1_166, P1_169, P1_177, cs_n, Nat.zero_le, cs_i, cs_r, cs_l, Nat.reduceAdd, Nat.reduceLeDiff, N_36, A_36, n160, h1, h2, h3, decide_true, decide_false, not_true_eq_false, not_false_eq_true, Bool.and_true, Bool.true_and, Bool.and_false, Bool.false_and, Bool.or_true, Bool.true_or, Bool.or_false, Bool.false_or, Bool.not_true, Bool.not_false, ite_true, ite_false, if_true, if_false, Bool.false_eq_true, reduceIte, decide_not, and_true, true_and, and_false, false_and, or_true, true_or, or_false, false_or, not_false, not_true]
    · simp only [s20_0, s20_1, s20_4, s20_5, s20_6, s20_9, s20_12, s20_13, s20_14, s20_17, s20_18, s20_21, s20_22, s20_25, s20_26, s20_27, s20_30, s20_31, gF_i, gF_r, gP_f, gP_t, aRd_1, aRd_4, aKd_e, oo_s, z0, z1, okP_n, okP_i, okP_r, vtl, vtn, true_and, and_true, bI_ite, bI_01, F1_11, F1_17, F1_21, F1_35, F1_42, F1_45, F1_51, F1_187, F1_85, F1_128, F1_139, F1_157, F1_166, F1_169, F1_177, P1_35, P1_42, P1_45, P1_51, P1_187, P1_157, P1_166, P1_169, P1_177, cs_n, Nat.zero_le, cs_i, cs_r, cs_l, Nat.reduceAdd, Nat.reduceLeDiff, h1, h2, decide_true, decide_false, not_true_eq_false, not_false_eq_true, Bool.and_true, Bool.true_and, Bool.and_false, Bool.false_and, Bool.or_true, Bool.true_or, Bool.or_false, Bool.false_or, Bool.not_true, Bool.not_false, ite_true, ite_false, if_true, if_false, Bool.false_eq_true, reduceIte, decide_not, and_true, true_and, and_false, false_and, or_true, true_or, or_false, false_or, not_false, not_true]
theorem c1_isDigit {x : Int32} : Cl d 21 [.int x] w Q = Q (some (.int (bI (rDig x)))) w := by
  rw [Cl_go (L := [some (.int x)]) rfl]
  simp only [s21_0, s21_1, s21_3, s21_6, s21_7, s21_9, s21_12, s21_13, s21_16, s21_17, gF_i, gF_r, gP_f, gP_t, aRd_1, aRd_4, aKd_e, oo_s, z0, z1, okP_n, okP_i, okP_r, vtl, vtn, true_and, and_true, bI_ite, bI_01]
  repeat' split
  all_goals simp only [rDig, bI, *, decide_true, decide_false, not_true_eq_false, not_false_eq_true, Bool.and_true, Bool.true_and, Bool.and_false, Bool.false_and, Bool.or_true, Bool.true_or, Bool.or_false, Bool.false_or, Bool.not_true, Bool.not_false, ite_true, ite_false, if_true, if_false, Bool.false_eq_true, reduceIte, decide_not, and_true, true_and, and_false, false_and, or_true, true_or, or_false, false_or, not_false, not_true]
theorem c1_fail {p : Int32} : Cl d 19 [.ref 35, .int p] w Q = Q none (rFail w p) := by
  rw [Cl_go (L := [some (.ref 35), some (.int p)]) rfl]
  unfold rFail
  by_cases h1 : w.1 35 6 = -1
  · simp only [s19_0, s19_1, s19_4, s19_5, s19_8, s19_9, s19_10, s19_13, gF_i, gF_r, gP_f, gP_t, aRd_1, aRd_4, aKd_e, oo_s, z0, z1, okP_n, okP_i, okP_r, vtl, vtn, true_and, and_true, bI_ite, bI_01, F1_11, F1_17, F1_21, F1_35, F1_42, F1_45, F1_51, F1_187, F1_85, F1_128, F1_139, F1_157, F1_166, F1_169, F1_177, P1_35, P1_42, P1_45, P1_51, P1_187, P1_157, P1_166, P1_169, P1_177, cs_n, Nat.zero_le, cs_i, cs_r, cs_l, Nat.reduceAdd, Nat.reduceLeDiff, h1, decide_true, decide_false, not_true_eq_false, not_false_eq_true, Bool.and_true, Bool.true_and, Bool.and_false, Bool.false_and, Bool.or_true, Bool.true_or, Bool.or_false, Bool.false_or, Bool.not_true, Bool.not_false, ite_true, ite_false, if_true, if_false, Bool.false_eq_true, reduceIte, decide_not, and_true, true_and, and_false, false_and, or_true, true_or, or_false, false_or, not_false, not_true]
  · simp only [s19_0, s19_1, s19_4, s19_5, s19_8, s19_9, s19_10, s19_13, gF_i, gF_r, gP_f, gP_t, aRd_1, aRd_4, aKd_e, oo_s, z0, z1, okP_n, okP_i, okP_r, vtl, vtn, true_and, and_true, bI_ite, bI_01, F1_11, F1_17, F1_21, F1_35, F1_42, F1_45, F1_51, F1_187, F1_85, F1_128, F1_139, F1_157, F1_166, F1_169, F1_177, P1_35, P1_42, P1_45, P1_51, P1_187, P1_157, P1_166, P1_169, P1_177, cs_n, Nat.zero_le, cs_i, cs_r, cs_l, Nat.reduceAdd, Nat.reduceLeDiff, h1, decide_true, decide_false, not_true_eq_false, not_false_eq_true, Bool.and_true, Bool.true_and, Bool.and_false, Bool.false_and, Bool.or_true, Bool.true_or, Bool.or_false, Bool.false_or, Bool.not_true, Bool.not_false, ite_true, ite_false, if_true, if_false, Bool.false_eq_true, reduceIte, decide_not, and_true, true_and, and_false, false_and, or_true, true_or, or_false, false_or, not_false, not_true]
theorem c1_expect {c : Int32} : Cl (d + 1) 18 [.ref 35, .int c] w Q = Q none (rExp w c) := by
  rw [Cl_go (L := [some (.ref 35), some (.int c)]) rfl]
  unfold rExp
  by_cases h1 : w.1 35 6 = -1
  · by_cases h2 : rLet w (w.1 35 4) = c
    · simp only [s18_0, s18_1, s18_4, s18_5, s18_8, s18_9, s18_10, s18_11, s18_14, s18_17, s18_18, s18_21, s18_22i, s18_22, s18_23, s18_26, s18_27, s18_28, s18_31, s18_34, s18_35, s18_36, s18_39, s18_42, gF_i, gF_r, gP_f, gP_t, aRd_1, aRd_4, aKd_e, oo_s, z0, z1, okP_n, okP_i, okP_r, vtl, vtn, true_and, and_true, bI_ite, bI_01, F1_11, F1_17, F1_21, F1_35, F1_42, F1_45, F1_51, F1_187, F1_85, F1_128, F1_139, F1_157, F1_166, F1_169, F1_177, P1_35, P1_42, P1_45, P1_51, P1_187, P1_157, P1_166, P1_169, P1_177, cs_n, Nat.zero_le, cs_i, cs_r, cs_l, Nat.reduceAdd, Nat.reduceLeDiff, R_1, c1_letter, c1_fail, h1, h2, decide_true, decide_false, not_true_eq_false, not_false_eq_true, Bool.and_true, Bool.true_and, Bool.and_false, Bool.false_and, Bool.or_true, Bool.true_or, Bool.or_false, Bool.false_or, Bool.not_true, Bool.not_false, ite_true, ite_false, if_true, if_false, Bool.false_eq_true, reduceIte, decide_not, and_true, true_and, and_false, false_and, or_true, true_or, or_false, false_or, not_false, not_true]
    · simp only [s18_0, s18_1, s18_4, s18_5, s18_8, s18_9, s18_10, s18_11, s18_14, s18_17, s18_18, s18_21, s18_22i, s18_22, s18_23, s18_26, s18_27, s18_28, s18_31, s18_34, s18_35, s18_36, s18_39, s18_42, gF_i, gF_r, gP_f, gP_t, aRd_1, aRd_4, aKd_e, oo_s, z0, z1, okP_n, okP_i, okP_r, vtl, vtn, true_and, and_true, bI_ite, bI_01, F1_11, F1_17, F1_21, F1_35, F1_42, F1_45, F1_51, F1_187, F1_85, F1_128, F1_139, F1_157, F1_166, F1_169, F1_177, P1_35, P1_42, P1_45, P1_51, P1_187, P1_157, P1_166, P1_169, P1_177, cs_n, Nat.zero_le, cs_i, cs_r, cs_l, Nat.reduceAdd, Nat.reduceLeDiff, R_1, c1_letter, c1_fail, h1, h2, decide_true, decide_false, not_true_eq_false, not_false_eq_true, Bool.and_true, Bool.true_and, Bool.and_false, Bool.false_and, Bool.or_true, Bool.true_or, Bool.or_false, Bool.false_or, Bool.not_true, Bool.not_false, ite_true, ite_false, if_true, if_false, Bool.false_eq_true, reduceIte, decide_not, and_true, true_and, and_false, false_and, or_true, true_or, or_false, false_or, not_false, not_true]
  · simp only [s18_0, s18_1, s18_4, s18_5, s18_8, s18_9, s18_10, s18_11, s18_14, s18_17, s18_18, s18_21, s18_22i, s18_22, s18_23, s18_26, s18_27, s18_28, s18_31, s18_34, s18_35, s18_36, s18_39, s18_42, gF_i, gF_r, gP_f, gP_t, aRd_1, aRd_4, aKd_e, oo_s, z0, z1, okP_n, okP_i, okP_r, vtl, vtn, true_and, and_true, bI_ite, bI_01, F1_11, F1_17, F1_21, F1_35, F1_42, F1_45, F1_51, F1_187, F1_85, F1_128, F1_139, F1_157, F1_166, F1_169, F1_177, P1_35, P1_42, P1_45, P1_51, P1_187, P1_157, P1_166, P1_169, P1_177, cs_n, Nat.zero_le, cs_i, cs_r, cs_l, Nat.reduceAdd, Nat.reduceLeDiff, R_1, h1, decide_true, decide_false, not_true_eq_false, not_false_eq_true, Bool.and_true, Bool.true_and, Bool.and_false, Bool.false_and, Bool.or_true, Bool.true_or, Bool.or_false, Bool.false_or, Bool.not_true, Bool.not_false, ite_true, ite_false, if_true, if_false, Bool.false_eq_true, reduceIte, decide_not, and_true, true_and, and_false, false_and, or_true, true_or, or_false, false_or, not_false, not_true]
theorem c1_must {b : Bool} : Cl (d + 1) 17 [.ref 35, .int (bI b)] w Q = Q none (rMust w b) := by
  rw [Cl_go (L := [some (.ref 35), some (.int (bI b))]) rfl]
  unfold rMust
  cases b
  · simp only [s17_0, s17_1, s17_4, s17_5, s17_6, s17_9, s17_12, gF_i, gF_r, gP_f, gP_t, aRd_1, aRd_4, aKd_e, oo_s, z0, z1, okP_n, okP_i, okP_r, vtl, vtn, true_and, and_true, bI_ite, bI_01, F1_11, F1_17, F1_21, F1_35, F1_42, F1_45, F1_51, F1_187, F1_85, F1_128, F1_139, F1_157, F1_166, F1_169, F1_177, P1_35, P1_42, P1_45, P1_51, P1_187, P1_157, P1_166, P1_169, P1_177, cs_n, Nat.zero_le, cs_i, cs_r, cs_l, Nat.reduceAdd, Nat.reduceLeDiff, R_1, c1_fail, bI_t, bI_f, decide_true, decide_false, not_true_eq_false, not_false_eq_true, Bool.and_true, Bool.true_and, Bool.and_false, Bool.false_and, Bool.or_true, Bool.true_or, Bool.or_false, Bool.false_or, Bool.not_true, Bool.not_false, ite_true, ite_false, if_true, if_false, Bool.false_eq_true, reduceIte, decide_not, and_true, true_and, and_false, false_and, or_true, true_or, or_false, false_or, not_false, not_true]
  · simp only [s17_0, s17_1, s17_4, s17_5, s17_6, s17_9, s17_12, gF_i, gF_r, gP_f, gP_t, aRd_1, aRd_4, aKd_e, oo_s, z0, z1, okP_n, okP_i, okP_r, vtl, vtn, true_and, and_true, bI_ite, bI_01, F1_11, F1_17, F1_21, F1_35, F1_42, F1_45, F1_51, F1_187, F1_85, F1_128, F1_139, F1_157, F1_166, F1_169, F1_177, P1_35, P1_42, P1_45, P1_51, P1_187, P1_157, P1_166, P1_169, P1_177, cs_n, Nat.zero_le, cs_i, cs_r, cs_l, Nat.reduceAdd, Nat.reduceLeDiff, R_1, c1_fail, bI_t, bI_f, show ¬ ((1 : Int32) = 0) from by decide, decide_true, decide_false, not_true_eq_false, not_false_eq_true, Bool.and_true, Bool.true_and, Bool.and_false, Bool.false_and, Bool.or_true, Bool.true_or, Bool.or_false, Bool.false_or, Bool.not_true, Bool.not_false, ite_true, ite_false, if_true, if_false, Bool.false_eq_true, reduceIte, decide_not, and_true, true_and, and_false, false_and, or_true, true_or, or_false, false_or, not_false, not_true]
theorem numL : ∀ (m i : Nat) (v : Int32) (w : hW), i + m = 2 → Tr (d + 1) 16 40 [some (.ref 35), some (.int v), some (.int (nI i))] [] w Q = Q (some (.int (rNumL m w v).1)) (rNumL m w v).2 := by
  intro m
  induction m with
  | zero =>
    intro i v w hi
    have h1 : ¬ nI i < 2 := by
      have z : (2 : Int32).toInt = 2 := rfl
      rw [nIlt (by omega), z]; omega
    show Go (d + 1) 16 40 _ _ _ _ = _
    simp only [s16_0, s16_1, s16_3, s16_6, s16_7, s16_8, s16_11, s16_14, s16_15, s16_16, s16_19, s16_22, s16_25, s16_28, s16_29, s16_30, s16_33, s16_36, s16_37, s16_38, s16_39, s16_40, s16_41, s16_42, s16_45, s16_46, s16_49, s16_50, s16_53, s16_54, s16_55, s16_58, s16_61, s16_64, s16_67, s16_68, s16_70, s16_71, s16_72, s16_73, s16_76, s16_79, s16_80, s16_82, s16_83, s16_84, s16_85i, s16_85, s16_86, s16_89, s16_90, s16_91, s16_94, s16_97, s16_100, s16_101, gF_i, gF_r, gP_f, gP_t, aRd_1, aRd_4, aKd_e, oo_s, z0, z1, okP_n, okP_i, okP_r, vtl, vtn, true_and, and_true, bI_ite, bI_01, F1_11, F1_17, F1_21, F1_35, F1_42, F1_45, F1_51, F1_187, F1_85, F1_128, F1_139, F1_157, F1_166, F1_169, F1_177, P1_35, P1_42, P1_45, P1_51, P1_187, P1_157, P1_166, P1_169, P1_177, cs_n, Nat.zero_le, cs_i, cs_r, cs_l, Nat.reduceAdd, Nat.reduceLeDiff, h1, rNumL, decide_true, decide_false, not_true_eq_false, not_false_eq_true, Bool.and_true, Bool.true_and, Bool.and_false, Bool.false_and, Bool.or_true, Bool.true_or, Bool.or_false, Bool.false_or, Bool.not_true, Bool.not_false, ite_true, ite_false, if_true, if_false, Bool.false_eq_true, reduceIte, decide_not, and_true, true_and, and_false, false_and, or_true, true_or, or_false, false_or, not_false, not_true]
  | succ m ih =>
    intro i v w hi
    have h1 : nI i < 2 := by
      have z : (2 : Int32).toInt = 2 := rfl
      rw [nIlt (by omega), z]; omega
    show Go (d + 1) 16 40 _ _ _ _ = _
    unfold rNumL
    by_cases h2 : w.1 35 6 = -1
    · by_cases h3 : rDig (rLet w (w.1 35 4)) = true
      · simp only [s16_0, s16_1, s16_3, s16_6, s16_7, s16_8, s16_11, s16_14, s16_15, s16_16, s16_19, s16_22, s16_25, s16_28, s16_29, s16_30, s16_33, s16_36, s16_37, s16_38, s16_39, s16_40, s16_41, s16_42, s16_45, s16_46, s16_49, s16_50, s16_53, s16_54, s16_55, s16_58, s16_61, s16_64, s16_67, s16_68, s16_70, s16_71, s16_72, s16_73, s16_76, s16_79, s16_80, s16_82, s16_83, s16_84, s16_85i, s16_85, s16_86, s16_89, s16_90, s16_91, s16_94, s16_97, s16_100, s16_101, gF_i, gF_r, gP_f, gP_t, aRd_1, aRd_4, aKd_e, oo_s, z0, z1, okP_n, okP_i, okP_r, vtl, vtn, true_and, and_true, bI_ite, bI_01, F1_11, F1_17, F1_21, F1_35, F1_42, F1_45, F1_51, F1_187, F1_85, F1_128, F1_139, F1_157, F1_166, F1_169, F1_177, P1_35, P1_42, P1_45, P1_51, P1_187, P1_157, P1_166, P1_169, P1_177, cs_n, Nat.zero_le, cs_i, cs_r, cs_l, Nat.reduceAdd, Nat.reduceLeDiff, R_1, c1_letter, c1_isDigit, nI_1, ih (i + 1) _ _ (by omega), h1, h2, h3, decide_true, decide_false, not_true_eq_false, not_false_eq_true, Bool.and_true, Bool.true_and, Bool.and_false, Bool.false_and, Bool.or_true, Bool.true_or, Bool.or_false, Bool.false_or, Bool.not_true, Bool.not_false, ite_true, ite_false, if_true, if_false, Bool.false_eq_true, reduceIte, decide_not, and_true, true_and, and_false, false_and, or_true, true_or, or_false, false_or, not_false, not_true]
      · simp only [s16_0, s16_1, s16_3, s16_6, s16_7, s16_8, s16_11, s16_14, s16_15, s16_16, s16_19, s16_22, s16_25, s16_28, s16_29, s16_30, s16_33, s16_36, s16_37, s16_38, s16_39, s16_40, s16_41, s16_42, s16_45, s16_46, s16_49, s16_50, s16_53, s16_54, s16_55, s16_58, s16_61, s16_64, s16_67, s16_68, s16_70, s16_71, s16_72, s16_73, s16_76, s16_79, s16_80, s16_82, s16_83, s16_84, s16_85i, s16_85, s16_86, s16_89, s16_90, s16_91, s16_94, s16_97, s16_100, s16_101, gF_i, gF_r, gP_f, gP_t, aRd_1, aRd_4, aKd_e, oo_s, z0, z1, okP_n, okP_i, okP_r, vtl, vtn, true_and, and_true, bI_ite, bI_01, F1_11, F1_17, F1_21, F1_35, F1_42, F1_45, F1_51, F1_187, F1_85, F1_128, F1_139, F1_157, F1_166, F1_169, F1_177, P1_35, P1_42, P1_45, P1_51, P1_187, P1_157, P1_166, P1_169, P1_177, cs_n, Nat.zero_le, cs_i, cs_r, cs_l, Nat.reduceAdd, Nat.reduceLeDiff, R_1, c1_letter, c1_isDigit, h1, h2, h3, decide_true, decide_false, not_true_eq_false, not_false_eq_true, Bool.and_true, Bool.true_and, Bool.and_false, Bool.false_and, Bool.or_true, Bool.true_or, Bool.or_false, Bool.false_or, Bool.not_true, Bool.not_false, ite_true, ite_false, if_true, if_false, Bool.false_eq_true, reduceIte, decide_not, and_true, true_and, and_false, false_and, or_true, true_or, or_false, false_or, not_false, not_true]
    · simp only [s16_0, s16_1, s16_3, s16_6, s16_7, s16_8, s16_11, s16_14, s16_15, s16_16, s16_19, s16_22, s16_25, s16_28, s16_29, s16_30, s16_33, s16_36, s16_37, s16_38, s16_39, s16_40, s16_41, s16_42, s16_45, s16_46, s16_49, s16_50, s16_53, s16_54, s16_55, s16_58, s16_61, s16_64, s16_67, s16_68, s16_70, s16_71, s16_72, s16_73, s16_76, s16_79, s16_80, s16_82, s16_83, s16_84, s16_85i, s16_85, s16_86, s16_89, s16_90, s16_91, s16_94, s16_97, s16_100, s16_101, gF_i, gF_r, gP_f, gP_t, aRd_1, aRd_4, aKd_e, oo_s, z0, z1, okP_n, okP_i, okP_r, vtl, vtn, true_and, and_true, bI_ite, bI_01, F1_11, F1_17, F1_21, F1_35, F1_42, F1_45, F1_51, F1_187, F1_85, F1_128, F1_139, F1_157, F1_166, F1_169, F1_177, P1_35, P1_42, P1_45, P1_51, P1_187, P1_157, P1_166, P1_169, P1_177, cs_n, Nat.zero_le, cs_i, cs_r, cs_l, Nat.reduceAdd, Nat.reduceLeDiff, R_1, h1, h2, decide_true, decide_false, not_true_eq_false, not_false_eq_true, Bool.and_true, Bool.true_and, Bool.and_false, Bool.false_and, Bool.or_true, Bool.true_or, Bool.or_false, Bool.false_or, Bool.not_true, Bool.not_false, ite_true, ite_false, if_true, if_false, Bool.false_eq_true, reduceIte, decide_not, and_true, true_and, and_false, false_and, or_true, true_or, or_false, false_or, not_false, not_true]
theorem c1_number : Cl (d + 2) 16 [.ref 35] w Q = Q (some (.int (rNum w).1)) (rNum w).2 := by
  rw [Cl_go (L := [some (.ref 35), none, none]) rfl]
  have hh := fun w2 => numL (d := d + 1) (Q := Q) 2 0 0 w2 rfl
  rw [nI_0] at hh
  unfold rNum rNum0
  by_cases h1 : rDig (rLet (rNum1 w) ((rNum1 w).1 35 4)) = true
  · have h2 := h1
    unfold rNum1 at h2
    simp only [s16_0, s16_1, s16_3, s16_6, s16_7, s16_8, s16_11, s16_14, s16_15, s16_16, s16_19, s16_22, s16_25, s16_28, s16_29, s16_30, s16_33, s16_36, s16_37, s16_38, s16_39, s16_40, s16_41, s16_42, s16_45, s16_46, s16_49, s16_50, s16_53, s16_54, s16_55, s16_58, s16_61, s16_64, s16_67, s16_68, s16_70, s16_71, s16_72, s16_73, s16_76, s16_79, s16_80, s16_82, s16_83, s16_84, s16_85i, s16_85, s16_86, s16_89, s16_90, s16_91, s16_94, s16_97, s16_100, s16_101, gF_i, gF_r, gP_f, gP_t, aRd_1, aRd_4, aKd_e, oo_s, z0, z1, okP_n, okP_i, okP_r, vtl, vtn, true_and, and_true, bI_ite, bI_01, F1_11, F1_17, F1_21, F1_35, F1_42, F1_45, F1_51, F1_187, F1_85, F1_128, F1_139, F1_157, F1_166, F1_169, F1_177, P1_35, P1_42, P1_45, P1_51, P1_187, P1_157, P1_166, P1_169, P1_177, cs_n, Nat.zero_le, cs_i, cs_r, cs_l, Nat.reduceAdd, Nat.reduceLeDiff, R_1, c1_letter, c1_isDigit, c1_expect, hh, h2, h1, rNum1, decide_true, decide_false, not_true_eq_false, not_false_eq_true, Bool.and_true, Bool.true_and, Bool.and_false, Bool.false_and, Bool.or_true, Bool.true_or, Bool.or_false, Bool.false_or, Bool.not_true, Bool.not_false, ite_true, ite_false, if_true, if_false, Bool.false_eq_true, reduceIte, decide_not, and_true, true_and, and_false, false_and, or_true, true_or, or_false, false_or, not_false, not_true]
  · have h2 := h1
    unfold rNum1 at h2
    simp only [s16_0, s16_1, s16_3, s16_6, s16_7, s16_8, s16_11, s16_14, s16_15, s16_16, s16_19, s16_22, s16_25, s16_28, s16_29, s16_30, s16_33, s16_36, s16_37, s16_38, s16_39, s16_40, s16_41, s16_42, s16_45, s16_46, s16_49, s16_50, s16_53, s16_54, s16_55, s16_58, s16_61, s16_64, s16_67, s16_68, s16_70, s16_71, s16_72, s16_73, s16_76, s16_79, s16_80, s16_82, s16_83, s16_84, s16_85i, s16_85, s16_86, s16_89, s16_90, s16_91, s16_94, s16_97, s16_100, s16_101, gF_i, gF_r, gP_f, gP_t, aRd_1, aRd_4, aKd_e, oo_s, z0, z1, okP_n, okP_i, okP_r, vtl, vtn, true_and, and_true, bI_ite, bI_01, F1_11, F1_17, F1_21, F1_35, F1_42, F1_45, F1_51, F1_187, F1_85, F1_128, F1_139, F1_157, F1_166, F1_169, F1_177, P1_35, P1_42, P1_45, P1_51, P1_187, P1_157, P1_166, P1_169, P1_177, cs_n, Nat.zero_le, cs_i, cs_r, cs_l, Nat.reduceAdd, Nat.reduceLeDiff, R_1, c1_letter, c1_isDigit, c1_expect, c1_fail, hh, h2, h1, rNum1, decide_true, decide_false, not_true_eq_false, not_false_eq_true, Bool.and_true, Bool.true_and, Bool.and_false, Bool.false_and, Bool.or_true, Bool.true_or, Bool.or_false, Bool.false_or, Bool.not_true, Bool.not_false, ite_true, ite_false, if_true, if_false, Bool.false_eq_true, reduceIte, decide_not, and_true, true_and, and_false, false_and, or_true, true_or, or_false, false_or, not_false, not_true]
theorem tx_at {j : Nat} (hj : j < 6) : gTx (200 + j) = some (gTxs.getD j []) := by
  revert j
  decide
theorem wordL {j : Nat} (hj : j < 6) {b : Bool} {st : Int32} (hP : ∀ w', Go (d + 2) 15 33 [some (.ref 35), some (.ref (200 + j)), some (.int (bI b)), some (.int st), some (.int (nI (gTxs.getD j []).length))] [] w' Q = Q none (if b then rFail w' st else w')) : ∀ (m i : Nat) (w : hW), i + m = (gTxs.getD j []).length → Tr (d + 2) 15 8 [some (.ref 35), some (.ref (200 + j)), some (.int (bI b)), some (.int st), some (.int (nI i))] [] w Q = Q none (if b then rFail (rWordI (gTxs.getD j []) i m w) st else rWordI (gTxs.getD j []) i m w) := by
  have h9 := sc_len9 j hj
  intro m
  induction m with
  | zero =>
    intro i w hi
    have hi : i = (gTxs.getD j []).length := by omega
    subst hi
    have h1 : ¬ nI (gTxs.getD j []).length < Int32.ofNat (gTxs.getD j []).length := by
      show ¬ nI (gTxs.getD j []).length < nI (gTxs.getD j []).length
      rw [i32_lt]; omega
    show Go (d + 2) 15 8 _ _ _ _ = _
    simp only [s15_8, s15_10, s15_11, s15_14, tx_at hj, gF_i, gF_r, gP_f, gP_t, aRd_1, aRd_4, aKd_e, oo_s, z0, z1, okP_n, okP_i, okP_r, vtl, vtn, true_and, and_true, bI_ite, bI_01, cs_n, Nat.zero_le, cs_i, cs_r, cs_l, Nat.reduceAdd, Nat.reduceLeDiff, h1, decide_true, decide_false, not_true_eq_false, not_false_eq_true, Bool.and_true, Bool.true_and, Bool.and_false, Bool.false_and, Bool.or_true, Bool.true_or, Bool.or_false, Bool.false_or, Bool.not_true, Bool.not_false, ite_true, ite_false, if_true, if_false, Bool.false_eq_true, reduceIte, decide_not, and_true, true_and, and_false, false_and, or_true, true_or, or_false, false_or, not_false, not_true, hP, rWordI]
  | succ m ih =>
    intro i w hi
    have h1 : nI i < Int32.ofNat (gTxs.getD j []).length := by
      show nI i < nI (gTxs.getD j []).length
      rw [nIlt (by omega), nI_toInt (by omega)]; omega
    have h2 : inb (nI i) (gTxs.getD j []).length := nI_inb (by omega) (by omega)
    show Go (d + 2) 15 8 _ _ _ _ = _
    simp only [s15_0, s15_1, s15_4, s15_5, s15_6, s15_8, s15_10, s15_11, s15_14, s15_17, s15_18, s15_19, s15_21, s15_24, s15_27, s15_30, s15_33, s15_34, s15_37, s15_38, s15_39, s15_42, tx_at hj, gF_i, gF_r, gP_f, gP_t, aRd_1, aRd_4, aKd_e, oo_s, z0, z1, okP_n, okP_i, okP_r, vtl, vtn, true_and, and_true, bI_ite, bI_01, cs_n, Nat.zero_le, cs_i, cs_r, cs_l, Nat.reduceAdd, Nat.reduceLeDiff, R_1, c1_expect, nI_cl (show i < 2 ^ 31 by omega), nI_1, ih (i + 1) _ (by omega), h1, h2, decide_true, decide_false, not_true_eq_false, not_false_eq_true, Bool.and_true, Bool.true_and, Bool.and_false, Bool.false_and, Bool.or_true, Bool.true_or, Bool.or_false, Bool.false_or, Bool.not_true, Bool.not_false, ite_true, ite_false, if_true, if_false, Bool.false_eq_true, reduceIte, decide_not, and_true, true_and, and_false, false_and, or_true, true_or, or_false, false_or, not_false, not_true]
    rfl
theorem c1_expectWord {j : Nat} (hj : j < 6) {b : Bool} : Cl (d + 2) 15 [.ref 35, .ref (200 + j), .int (bI b)] w Q = Q none (rEW w j b) := by
  rw [Cl_go (L := [some (.ref 35), some (.ref (200 + j)), some (.int (bI b)), none, none]) rfl]
  have hP : ∀ w', Go (d + 2) 15 33 [some (.ref 35), some (.ref (200 + j)), some (.int (bI b)), some (.int (w.1 35 4)), some (.int (nI (gTxs.getD j []).length))] [] w' Q = Q none (if b then rFail w' (w.1 35 4) else w') := by
    intro w'
    have o1 : ¬ ((1 : Int32) = 0) := by decide
    cases b
    · simp only [s15_33, s15_34, s15_42, gF_i, gF_r, gP_f, gP_t, aRd_1, aRd_4, aKd_e, oo_s, z0, z1, okP_n, okP_i, okP_r, vtl, vtn, true_and, and_true, bI_ite, bI_01, bI_f, decide_true, decide_false, not_true_eq_false, not_false_eq_true, Bool.and_true, Bool.true_and, Bool.and_false, Bool.false_and, Bool.or_true, Bool.true_or, Bool.or_false, Bool.false_or, Bool.not_true, Bool.not_false, ite_true, ite_false, if_true, if_false, Bool.false_eq_true, reduceIte, decide_not, and_true, true_and, and_false, false_and, or_true, true_or, or_false, false_or, not_false, not_true]
    · simp only [s15_0, s15_1, s15_4, s15_5, s15_6, s15_8, s15_10, s15_11, s15_14, s15_17, s15_18, s15_19, s15_21, s15_24, s15_27, s15_30, s15_33, s15_34, s15_37, s15_38, s15_39, s15_42, gF_i, gF_r, gP_f, gP_t, aRd_1, aRd_4, aKd_e, oo_s, z0, z1, okP_n, okP_i, okP_r, vtl, vtn, true_and, and_true, bI_ite, bI_01, F1_11, F1_17, F1_21, F1_35, F1_42, F1_45, F1_51, F1_187, F1_85, F1_128, F1_139, F1_157, F1_166, F1_169, F1_177, P1_35, P1_42, P1_45, P1_51, P1_187, P1_157, P1_166, P1_169, P1_177, cs_n, Nat.zero_le, cs_i, cs_r, cs_l, Nat.reduceAdd, Nat.reduceLeDiff, R_1, c1_fail, bI_t, o1, decide_true, decide_false, not_true_eq_false, not_false_eq_true, Bool.and_true, Bool.true_and, Bool.and_false, Bool.false_and, Bool.or_true, Bool.true_or, Bool.or_false, Bool.false_or, Bool.not_true, Bool.not_false, ite_true, ite_false, if_true, if_false, Bool.false_eq_true, reduceIte, decide_not, and_true, true_and, and_false, false_and, or_true, true_or, or_false, false_or, not_false, not_true]
  have hh := wordL (d := d) (Q := Q) hj hP (gTxs.getD j []).length 0 w (by omega)
  rw [nI_0] at hh
  unfold rEW
  simp only [s15_0, s15_1, s15_4, s15_5, s15_6, gF_i, gF_r, gP_f, gP_t, aRd_1, aRd_4, aKd_e, oo_s, z0, z1, okP_n, okP_i, okP_r, vtl, vtn, true_and, and_true, bI_ite, bI_01, F1_11, F1_17, F1_21, F1_35, F1_42, F1_45, F1_51, F1_187, F1_85, F1_128, F1_139, F1_157, F1_166, F1_169, F1_177, P1_35, P1_42, P1_45, P1_51, P1_187, P1_157, P1_166, P1_169, P1_177, cs_n, Nat.zero_le, cs_i, cs_r, cs_l, Nat.reduceAdd, Nat.reduceLeDiff, hh]
end
/-! what the reader leaves alone -/
def fr35 (w w' : hW) : Prop := (∀ q, q ≠ 35 → w'.1 q = w.1 q) ∧ w'.2 = w.2 ∧ w'.1 35 3 = w.1 35 3 ∧ w'.1 35 7 = w.1 35 7
theorem fr35.rf {w : hW} : fr35 w w := ⟨fun _ _ => rfl, rfl, rfl, rfl⟩
theorem fr35.tr {a b c : hW} (h : fr35 a b) (h2 : fr35 b c) : fr35 a c := ⟨fun q hq => (h2.1 q hq).trans (h.1 q hq), h2.2.1.trans h.2.1, h2.2.2.1.trans h.2.2.1, h2.2.2.2.trans h.2.2.2⟩
theorem fr35_wI {w : hW} {j : Nat} {x : Int32} (h : j ≠ 3) (h7 : j ≠ 7) : fr35 w (wI w 35 j x) := ⟨fun q hq => wI_q hq, rfl, by simp [wI, Ne.symm h], by simp [wI, Ne.symm h7]⟩
theorem fr35_fail {w : hW} {p : Int32} : fr35 w (rFail w p) := by
  unfold rFail
  split
  · exact fr35_wI (by decide) (by decide)
  · exact fr35.rf
theorem fr35_exp {w : hW} {c : Int32} : fr35 w (rExp w c) := by
  unfold rExp
  split
  · split
    · exact fr35_wI (by decide) (by decide)
    · exact fr35_fail
  · exact fr35.rf
theorem fr35_must {w : hW} {b : Bool} : fr35 w (rMust w b) := by
  unfold rMust
  split
  · exact fr35.rf
  · exact fr35_fail
theorem fr35_numL : ∀ (m : Nat) (w : hW) (v : Int32), fr35 w (rNumL m w v).2
  | 0, w, v => fr35.rf
  | m + 1, w, v => by
    unfold rNumL
    split
    · split
      · exact (fr35_wI (by decide) (by decide)).tr (fr35_numL m _ _)
      · exact fr35.rf
    · exact fr35.rf
theorem fr35_num {w : hW} : fr35 w (rNum w).2 := by
  unfold rNum rNum0 rNum1
  refine fr35.tr ?_ (fr35_numL _ _ _)
  split
  · exact fr35_exp.tr (fr35_wI (by decide) (by decide))
  · exact (fr35_exp.tr (fr35_wI (by decide) (by decide))).tr fr35_fail
theorem fr35_word {tx : List Int32} : ∀ (m i : Nat) (w : hW), fr35 w (rWordI tx i m w)
  | 0, i, w => fr35.rf
  | m + 1, i, w => fr35_exp.tr (fr35_word m (i + 1) _)
theorem fr35_EW {w : hW} {j : Nat} {b : Bool} : fr35 w (rEW w j b) := by
  unfold rEW
  split
  · exact (fr35_word _ _ _).tr fr35_fail
  · exact fr35_word _ _ _
theorem fr35_vI {w w' : hW} {b : Nat} (h : fr35 w w') (hb : isVal b) : vI w' b = vI w b := by
  refine vSame_I (fun q h1 h2 => h.1 q ?_)
  rcases hb with rfl | rfl | rfl <;> omega
/-- a fault told stays -/
theorem flt_fail {w : hW} {p : Int32} (h : w.1 35 6 ≠ -1) : rFail w p = w := by unfold rFail; rw [if_neg h]
theorem flt_fail2 {w : hW} {p : Int32} (h : p ≠ -1) : (rFail w p).1 35 6 ≠ -1 := by
  unfold rFail
  split
  · simp only [wI, and_self, if_true]; exact h
  · assumption
theorem flt_exp {w : hW} {c : Int32} (h : w.1 35 6 ≠ -1) : rExp w c = w := by unfold rExp; rw [if_neg h]
theorem flt_must {w : hW} {b : Bool} (h : w.1 35 6 ≠ -1) : rMust w b = w := by
  unfold rMust
  split
  · rfl
  · exact flt_fail h
theorem flt_num {w : hW} (h : w.1 35 6 ≠ -1) : (rNum w).2.1 35 6 ≠ -1 := by
  have e : (rNum1 w).1 35 6 ≠ -1 := by
    unfold rNum1
    rw [flt_exp h]
    simp only [wI]
    exact h
  have e0 : (rNum0 w).1 35 6 ≠ -1 := by
    unfold rNum0
    split
    · exact e
    · rw [flt_fail e]; exact e
  unfold rNum rNumL
  rw [if_neg e0]
  exact e0
theorem flt_EW {w : hW} {j : Nat} (h : w.1 35 4 ≠ -1) : (rEW w j true).1 35 6 ≠ -1 := flt_fail2 h
/-! the items -/
def rThing1 (w : hW) : hW := rEW w 0 (tFull w 17)
def rThing2 (w : hW) : hW := rMust (rNum (rThing1 w)).2 (kOk (rNum (rThing1 w)).1)
def rThing3 (w : hW) : hW := rMust (rNum (rThing2 w)).2 (wtOk (rNum (rThing2 w)).1)
def rThing4 (w : hW) : hW := rMust (rNum (rThing3 w)).2 (exOk (rNum (rThing3 w)).1)
def rThing5 (w : hW) : hW := rMust (rNum (rThing4 w)).2 (vStand (rNum (rThing4 w)).2 16 (rNum (rThing4 w)).1)
def rThing (w : hW) : hW := if (rThing5 w).1 35 6 = -1 then vAddT (rThing5 w) 16 (rNum (rThing1 w)).1 (rNum (rThing2 w)).1 (rNum (rThing3 w)).1 (rNum (rThing4 w)).1 else rThing5 w
def rMan1 (w : hW) : hW := rEW w 1 (tFull w 19)
def rMan2 (w : hW) : hW := rMust (rNum (rMan1 w)).2 (wtOk (rNum (rMan1 w)).1)
def rMan (w : hW) : hW := if (rMan2 w).1 35 6 = -1 then vAddM (rMan2 w) 16 (rNum (rMan1 w)).1 else rMan2 w
def rWant1 (w : hW) : hW := rEW w 2 (tFull w 21)
def rWant2 (w : hW) : hW := rMust (rNum (rWant1 w)).2 (tHas (rNum (rWant1 w)).2 17 (rNum (rWant1 w)).1)
def rWant3 (w : hW) : hW := rMust (rNum (rWant2 w)).2 (vStand (rNum (rWant2 w)).2 16 (rNum (rWant2 w)).1)
def rWant4 (w : hW) : hW := rMust (rNum (rWant3 w)).2 (woOk (rNum (rWant3 w)).1)
def rWant (w : hW) : hW := if (rWant4 w).1 35 6 = -1 then vAddW (rWant4 w) 16 (rNum (rWant1 w)).1 (rNum (rWant2 w)).1 (rNum (rWant3 w)).1 else rWant4 w
def rLong1 (w : hW) : hW := rEW w 3 false
def rLong2 (w : hW) : hW := rMust (rNum (rLong1 w)).2 (vLongOk (rNum (rLong1 w)).2 16 (rNum (rLong1 w)).1)
def rLong (w : hW) : hW := if (rLong2 w).1 35 6 = -1 then wI (rLong2 w) 16 3 (rNum (rLong1 w)).1 else rLong2 w
def rRiver1 (w : hW) : hW := rEW w 4 false
def rRiver2 (w : hW) : hW := (rNum (rNum (rRiver1 w)).2).2
def rRiver3 (w : hW) : hW := rMust (rRiver2 w) (vRivOk (rRiver2 w) 16 (rNum (rRiver1 w)).1 (rNum (rNum (rRiver1 w)).2).1)
def rRiver (w : hW) : hW := if (rRiver3 w).1 35 6 = -1 then wI (wI (rRiver3 w) 16 4 (rNum (rRiver1 w)).1) 16 5 (rNum (rNum (rRiver1 w)).2).1 else rRiver3 w
def rWind1 (w : hW) : hW := rEW w 5 false
def rWind2 (w : hW) : hW := rMust (rNum (rWind1 w)).2 (wiOk (rNum (rWind1 w)).1)
def rWind (w : hW) : hW := if (rWind2 w).1 35 6 = -1 then wI (rWind2 w) 16 6 (rNum (rWind1 w)).1 else rWind2 w
def rItem (w : hW) : hW := if rLet w (w.1 35 4) = 116 then rThing w else if rLet w (w.1 35 4) = 109 then rMan w else if rLet w (w.1 35 4) = 108 then rLong w else if rLet w (w.1 35 4) = 114 then rRiver w else if rLet w (w.1 35 4) = 119 then (if rLet w (w.1 35 4 + 1) = 105 then rWind w else rWant w) else rFail w (w.1 35 4)
theorem fr_T5 {w : hW} : fr35 w (rThing5 w) := by
  unfold rThing5 rThing4 rThing3 rThing2 rThing1
  exact (((((((fr35_EW.tr fr35_num).tr fr35_must).tr fr35_num).tr fr35_must).tr fr35_num).tr fr35_must).tr fr35_num).tr fr35_must
theorem fr_T {w : hW} : fr35 w (rThing1 w) ∧ fr35 w (rNum (rThing1 w)).2 ∧ fr35 w (rThing2 w) ∧ fr35 w (rThing3 w) ∧ fr35 w (rThing4 w) ∧ fr35 w (rNum (rThing4 w)).2 := by
  have a1 : fr35 w (rThing1 w) := fr35_EW
  have a2 : fr35 w (rThing2 w) := (a1.tr fr35_num).tr fr35_must
  have a3 : fr35 w (rThing3 w) := (a2.tr fr35_num).tr fr35_must
  have a4 : fr35 w (rThing4 w) := (a3.tr fr35_num).tr fr35_must
  exact ⟨a1, a1.tr fr35_num, a2, a3, a4, a4.tr fr35_num⟩
theorem flt_T5 {w : hW} (h : w.1 35 4 ≠ -1) (hf : tFull w 17 = true) : (rThing5 w).1 35 6 ≠ -1 := by
  have a1 : (rThing1 w).1 35 6 ≠ -1 := by unfold rThing1; rw [hf]; exact flt_EW h
  have a2 : (rThing2 w).1 35 6 ≠ -1 := by unfold rThing2; rw [flt_must (flt_num a1)]; exact flt_num a1
  have a3 : (rThing3 w).1 35 6 ≠ -1 := by unfold rThing3; rw [flt_must (flt_num a2)]; exact flt_num a2
  have a4 : (rThing4 w).1 35 6 ≠ -1 := by unfold rThing4; rw [flt_must (flt_num a3)]; exact flt_num a3
  unfold rThing5; rw [flt_must (flt_num a4)]; exact flt_num a4
theorem fr_M {w : hW} : fr35 w (rMan1 w) ∧ fr35 w (rMan2 w) := by
  have a1 : fr35 w (rMan1 w) := fr35_EW
  exact ⟨a1, (a1.tr fr35_num).tr fr35_must⟩
theorem flt_M2 {w : hW} (h : w.1 35 4 ≠ -1) (hf : tFull w 19 = true) : (rMan2 w).1 35 6 ≠ -1 := by
  have a1 : (rMan1 w).1 35 6 ≠ -1 := by unfold rMan1; rw [hf]; exact flt_EW h
  unfold rMan2; rw [flt_must (flt_num a1)]; exact flt_num a1
theorem fr_W {w : hW} : fr35 w (rWant1 w) ∧ fr35 w (rWant2 w) ∧ fr35 w (rWant3 w) ∧ fr35 w (rWant4 w) := by
  have a1 : fr35 w (rWant1 w) := fr35_EW
  have a2 : fr35 w (rWant2 w) := (a1.tr fr35_num).tr fr35_must
  have a3 : fr35 w (rWant3 w) := (a2.tr fr35_num).tr fr35_must
  exact ⟨a1, a2, a3, (a3.tr fr35_num).tr fr35_must⟩
theorem flt_W4 {w : hW} (h : w.1 35 4 ≠ -1) (hf : tFull w 21 = true) : (rWant4 w).1 35 6 ≠ -1 := by
  have a1 : (rWant1 w).1 35 6 ≠ -1 := by unfold rWant1; rw [hf]; exact flt_EW h
  have a2 : (rWant2 w).1 35 6 ≠ -1 := by unfold rWant2; rw [flt_must (flt_num a1)]; exact flt_num a1
  have a3 : (rWant3 w).1 35 6 ≠ -1 := by unfold rWant3; rw [flt_must (flt_num a2)]; exact flt_num a2
  unfold rWant4; rw [flt_must (flt_num a3)]; exact flt_num a3
section
variable {d : Nat} {w : hW} {Q : aPost}
theorem c1_thing (hI : vI w 16) (h0 : w.1 35 4 ≠ -1) : Cl (d + 4) 9 [.ref 35] w Q = Q none (rThing w) := by
  rw [Cl_go (L := [some (.ref 35), none, none, none, none]) rfl]
  obtain ⟨a1, a2, a3, a4, a5, a6⟩ := fr_T (w := w)
  have e1 : ∀ Q, Cl (d + 3) 15 [.ref 35, .ref 200, .int (bI (tFull w 17))] w Q = Q none (rThing1 w) := fun Q => c1_expectWord (d := d + 1) (j := 0) (by decide)
  have m2 : ∀ Q, Cl (d + 3) 17 [.ref 35, .int (bI (kOk (rNum (rThing1 w)).1))] (rNum (rThing1 w)).2 Q = Q none (rThing2 w) := fun Q => c1_must
  have m3 : ∀ Q, Cl (d + 3) 17 [.ref 35, .int (bI (wtOk (rNum (rThing2 w)).1))] (rNum (rThing2 w)).2 Q = Q none (rThing3 w) := fun Q => c1_must
  have m4 : ∀ Q, Cl (d + 3) 17 [.ref 35, .int (bI (exOk (rNum (rThing3 w)).1))] (rNum (rThing3 w)).2 Q = Q none (rThing4 w) := fun Q => c1_must
  have m5 : ∀ Q, Cl (d + 3) 17 [.ref 35, .int (bI (vStand (rNum (rThing4 w)).2 16 (rNum (rThing4 w)).1))] (rNum (rThing4 w)).2 Q = Q none (rThing5 w) := fun Q => c1_must
  unfold rThing
  by_cases h1 : (rThing5 w).1 35 6 = -1
  · have hI5 : vI (rThing5 w) 16 := by rw [fr35_vI fr_T5 iv16]; exact hI
    have h8 : ((rThing5 w).1 (16 + 1) 3).toInt < 8 := by
      have hf : ¬ tFull w (16 + 1) = true := fun hf => flt_T5 h0 hf h1
      rw [fr_T5.1 (16 + 1) (by decide)]
      exact full8 hI hf
    simp only [s9_0, s9_1, s9_3, s9_4, s9_7, s9_10, s9_13, s9_16, s9_17, s9_20, s9_21, s9_22, s9_23, s9_26, s9_29, s9_30, s9_33, s9_34, s9_35, s9_36, s9_39, s9_42, s9_43, s9_46, s9_47, s9_48, s9_49, s9_52, s9_55, s9_56, s9_59, s9_61, s9_62, s9_63, s9_66, s9_68, s9_71, s9_74, s9_75, s9_78, s9_79, s9_82, s9_83, s9_86, s9_87, s9_88, s9_89, s9_91, s9_94, s9_95, gF_i, gF_r, gP_f, gP_t, aRd_1, aRd_4, aKd_e, oo_s, z0, z1, okP_n, okP_i, okP_r, vtl, vtn, true_and, and_true, bI_ite, bI_01, F1_11, F1_17, F1_21, F1_35, F1_42, F1_45, F1_51, F1_187, F1_85, F1_128, F1_139, F1_157, F1_166, F1_169, F1_177, P1_35, P1_42, P1_45, P1_51, P1_187, P1_157, P1_166, P1_169, P1_177, cs_n, Nat.zero_le, cs_i, cs_r, cs_l, Nat.reduceAdd, Nat.reduceLeDiff, R_1, iv16, it17, tb_rcv it17, vl_rcv iv16, c5_isFull it17, c1_number, c7_kOk, c7_isWeight, c7_isExtra, c6_mayStand iv16, e1, m2, m3, m4, m5, c6_addThing iv16 hI5 h8, h1, decide_true, decide_false, not_true_eq_false, not_false_eq_true, Bool.and_true, Bool.true_and, Bool.and_false, Bool.false_and, Bool.or_true, Bool.true_or, Bool.or_false, Bool.false_or, Bool.not_true, Bool.not_false, ite_true, ite_false, if_true, if_false, Bool.false_eq_true, reduceIte, decide_not, and_true, true_and, and_false, false_and, or_true, true_or, or_false, false_or, not_false, not_true]
  · simp only [s9_0, s9_1, s9_3, s9_4, s9_7, s9_10, s9_13, s9_16, s9_17, s9_20, s9_21, s9_22, s9_23, s9_26, s9_29, s9_30, s9_33, s9_34, s9_35, s9_36, s9_39, s9_42, s9_43, s9_46, s9_47, s9_48, s9_49, s9_52, s9_55, s9_56, s9_59, s9_61, s9_62, s9_63, s9_66, s9_68, s9_71, s9_74, s9_75, s9_78, s9_79, s9_82, s9_83, s9_86, s9_87, s9_88, s9_89, s9_91, s9_94, s9_95, gF_i, gF_r, gP_f, gP_t, aRd_1, aRd_4, aKd_e, oo_s, z0, z1, okP_n, okP_i, okP_r, vtl, vtn, true_and, and_true, bI_ite, bI_01, F1_11, F1_17, F1_21, F1_35, F1_42, F1_45, F1_51, F1_187, F1_85, F1_128, F1_139, F1_157, F1_166, F1_169, F1_177, P1_35, P1_42, P1_45, P1_51, P1_187, P1_157, P1_166, P1_169, P1_177, cs_n, Nat.zero_le, cs_i, cs_r, cs_l, Nat.reduceAdd, Nat.reduceLeDiff, R_1, iv16, it17, tb_rcv it17, vl_rcv iv16, c5_isFull it17, c1_number, c7_kOk, c7_isWeight, c7_isExtra, c6_mayStand iv16, e1, m2, m3, m4, m5, h1, decide_true, decide_false, not_true_eq_false, not_false_eq_true, Bool.and_true, Bool.true_and, Bool.and_false, Bool.false_and, Bool.or_true, Bool.true_or, Bool.or_false, Bool.false_or, Bool.not_true, Bool.not_false, ite_true, ite_false, if_true, if_false, Bool.false_eq_true, reduceIte, decide_not, and_true, true_and, and_false, false_and, or_true, true_or, or_false, false_or, not_false, not_true]
end

/-! CONTRACTS: Reader.read and the class's valley, the runs -/
section
variable {d : Nat} {w : hW} {Q : aPost}
theorem siz_le {w : hW} (hS : shI w) {s : Int32} : 0 ≤ (rSiz w s).toInt ∧ (rSiz w s).toInt ≤ 160 ∧ ((rSiz w s) = sSize w s) := by
  have h1 : 0 ≤ (sSize w s).toInt ∧ (sSize w s).toInt ≤ 160 := by
    unfold sSize
    split
    · rename_i h
      exact hS _ (sHas_lt h)
    · exact ⟨by decide, by decide⟩
  have z : (160 : Int32).toInt = 160 := rfl
  have h2 : rSiz w s = sSize w s := by
    unfold rSiz
    rw [if_neg (by rw [i32_lt, z]; omega)]
  rw [h2]
  exact ⟨h1.1, h1.2, rfl⟩
theorem filL {s : Int32} {N : Nat} (hN : N ≤ 160) : ∀ (m i : Nat) (w : hW), w.1 35 3 = nI N → shI w → i + m = N → Tr (d + 8) 7 20 [some (.ref 35), some (.int s), some (.int (nI i))] [] w Q = Go (d + 8) 7 49 [some (.ref 35), some (.int s), some (.int (nI N))] [] (rFil s i m w) Q := by
  intro m
  induction m with
  | zero =>
    intro i w hw hS hi
    have hi : i = N := by omega
    subst hi
    have h1 : ¬ nI i < nI i := by rw [i32_lt]; omega
    show Go (d + 8) 7 20 _ _ _ _ = _
    simp only [s7_20, s7_21, s7_22, s7_25, gF_i, gF_r, gP_f, gP_t, aRd_1, aRd_4, aKd_e, oo_s, z0, z1, okP_n, okP_i, okP_r, vtl, vtn, true_and, and_true, bI_ite, bI_01, F1_11, F1_17, F1_21, F1_35, F1_42, F1_45, F1_51, F1_187, F1_85, F1_128, F1_139, F1_157, F1_166, F1_169, F1_177, P1_35, P1_42, P1_45, P1_51, P1_187, P1_157, P1_166, P1_169, P1_177, cs_n, Nat.zero_le, cs_i, cs_r, cs_l, Nat.reduceAdd, Nat.reduceLeDiff, hw, h1, decide_true, decide_false, not_true_eq_false, not_false_eq_true, Bool.and_true, Bool.true_and, Bool.and_false, Bool.false_and, Bool.or_true, Bool.true_or, Bool.or_false, Bool.false_or, Bool.not_true, Bool.not_false, ite_true, ite_false, if_true, if_false, Bool.false_eq_true, reduceIte, decide_not, and_true, true_and, and_false, false_and, or_true, true_or, or_false, false_or, not_false, not_true, rFil]
  | succ m ih =>
    intro i w hw hS hi
    have h1 : nI i < nI N := by rw [nIlt (by omega), nI_toInt (by omega)]; omega
    have h2 : inb (nI i) 160 := nI_inb (by omega) (by omega)
    have ih2 := ih (i + 1) (wI w 36 i (sLong w s (nI i)).toInt32) (by rw [wI_q (by decide)]; exact hw) (by rw [shI_same (wI_q (by decide))]; exact hS) (by omega)
    show Go (d + 8) 7 20 _ _ _ _ = _
    simp only [s7_20, s7_21, s7_22, s7_25, s7_28, s7_29, s7_32, s7_33, s7_34, s7_37, s7_38, s7_39, s7_42, s7_43, s7_46, gF_i, gF_r, gP_f, gP_t, aRd_1, aRd_4, aKd_e, oo_s, z0, z1, okP_n, okP_i, okP_r, vtl, vtn, true_and, and_true, bI_ite, bI_01, F1_11, F1_17, F1_21, F1_35, F1_42, F1_45, F1_51, F1_187, F1_85, F1_128, F1_139, F1_157, F1_166, F1_169, F1_177, P1_35, P1_42, P1_45, P1_51, P1_187, P1_157, P1_166, P1_169, P1_177, cs_n, Nat.zero_le, cs_i, cs_r, cs_l, Nat.reduceAdd, Nat.reduceLeDiff, R_4, A_36, c4_intAt hS, nI_cl (show i < 2 ^ 31 by omega), nI_1, hw, h1, h2, ih2, decide_true, decide_false, not_true_eq_false, not_false_eq_true, Bool.and_true, Bool.true_and, Bool.and_false, Bool.false_and, Bool.or_true, Bool.true_or, Bool.or_false, Bool.false_or, Bool.not_true, Bool.not_false, ite_true, ite_false, if_true, if_false, Bool.false_eq_true, reduceIte, decide_not, and_true, true_and, and_false, false_and, or_true, true_or, or_false, false_or, not_false, not_true, rFil]
theorem rdL : ∀ (m i : Nat) (w : hW) (a1 a2 : Option Value), vI w 16 → rI w → w.1 35 7 = nI i → i + m = 160 → Tr (d + 8) 7 68 [some (.ref 35), a1, a2] [] w Q = Q (some (.int ((rLoop m w).1 35 6))) (rLoop m w) := by
  intro m
  have z : (160 : Int32).toInt = 160 := rfl
  induction m with
  | zero =>
    intro i w a1 a2 hI hr hw hi
    have h1 : ¬ nI i < 160 := by rw [nIlt (by omega), z]; omega
    show Go (d + 8) 7 68 _ _ _ _ = _
    simp only [s7_0, s7_1, s7_2, s7_5, s7_6, s7_9, s7_12, s7_15, s7_18, s7_19, s7_20, s7_21, s7_22, s7_25, s7_28, s7_29, s7_32, s7_33, s7_34, s7_37, s7_38, s7_39, s7_42, s7_43, s7_46, s7_49, s7_50, s7_51, s7_54, s7_55, s7_56, s7_59, s7_60, s7_63, s7_64, s7_65, s7_68, s7_69, s7_72, s7_75, s7_78, s7_79, s7_82, s7_83, s7_86, s7_87, s7_90, s7_91, s7_94, s7_97, s7_98, s7_100, s7_103, s7_104, s7_107, s7_108i, s7_108, s7_109, s7_112, s7_113, s7_114, s7_117, s7_120, s7_121, s7_124, gF_i, gF_r, gP_f, gP_t, aRd_1, aRd_4, aKd_e, oo_s, z0, z1, okP_n, okP_i, okP_r, vtl, vtn, true_and, and_true, bI_ite, bI_01, F1_11, F1_17, F1_21, F1_35, F1_42, F1_45, F1_51, F1_187, F1_85, F1_128, F1_139, F1_157, F1_166, F1_169, F1_177, P1_35, P1_42, P1_45, P1_51, P1_187, P1_157, P1_166, P1_169, P1_177, cs_n, Nat.zero_le, cs_i, cs_r, cs_l, Nat.reduceAdd, Nat.reduceLeDiff, hw, h1, rLoop, decide_true, decide_false, not_true_eq_false, not_false_eq_true, Bool.and_true, Bool.true_and, Bool.and_false, Bool.false_and, Bool.or_true, Bool.true_or, Bool.or_false, Bool.false_or, Bool.not_true, Bool.not_false, ite_true, ite_false, if_true, if_false, Bool.false_eq_true, reduceIte, decide_not, and_true, true_and, and_false, false_and, or_true, true_or, or_false, false_or, not_false, not_true]
  | succ m ih =>
    intro i w a1 a2 hI hr hw hi
    have h1 : nI i < 160 := by rw [nIlt (by omega), z]; omega
    show Go (d + 8) 7 68 _ _ _ _ = _
    unfold rLoop
    by_cases h2 : w.1 35 6 = -1
    · by_cases h3 : w.1 35 4 < w.1 35 3
      · have rE : rI (rExp w 59) := rI_exp (by decide) hr
        have iE : vI (rExp w 59) 16 := by rw [fr35_vI fr35_exp iv16]; exact hI
        obtain ⟨iT, rT, fT⟩ := itemA iE rE
        have h7 : (rItem (rExp w 59)).1 35 7 = nI i := by rw [fT.2.2.2, (fr35_exp (w := w) (c := 59)).2.2.2, hw]
        have iN : vI (rNext w) 16 := by unfold rNext; rw [show vI (wI (rItem (rExp w 59)) 35 7 ((rItem (rExp w 59)).1 35 7 + 1)) 16 = vI (rItem (rExp w 59)) 16 from vSame_I (fun q _ _ => wI_q (by omega))]; exact iT
        have rN : rI (rNext w) := rI_wI rT (by decide) (by decide)
        have n7 : (rNext w).1 35 7 = nI (i + 1) := by unfold rNext; rw [wI_is, h7, nI_1]
        have ih2 := ih (i + 1) (rNext w) a1 a2 iN rN n7 (by omega)
        unfold rNext at ih2
        rw [h7] at ih2
        simp only [s7_0, s7_1, s7_2, s7_5, s7_6, s7_9, s7_12, s7_15, s7_18, s7_19, s7_20, s7_21, s7_22, s7_25, s7_28, s7_29, s7_32, s7_33, s7_34, s7_37, s7_38, s7_39, s7_42, s7_43, s7_46, s7_49, s7_50, s7_51, s7_54, s7_55, s7_56, s7_59, s7_60, s7_63, s7_64, s7_65, s7_68, s7_69, s7_72, s7_75, s7_78, s7_79, s7_82, s7_83, s7_86, s7_87, s7_90, s7_91, s7_94, s7_97, s7_98, s7_100, s7_103, s7_104, s7_107, s7_108i, s7_108, s7_109, s7_112, s7_113, s7_114, s7_117, s7_120, s7_121, s7_124, gF_i, gF_r, gP_f, gP_t, aRd_1, aRd_4, aKd_e, oo_s, z0, z1, okP_n, okP_i, okP_r, vtl, vtn, true_and, and_true, bI_ite, bI_01, F1_11, F1_17, F1_21, F1_35, F1_42, F1_45, F1_51, F1_187, F1_85, F1_128, F1_139, F1_157, F1_166, F1_169, F1_177, P1_35, P1_42, P1_45, P1_51, P1_187, P1_157, P1_166, P1_169, P1_177, cs_n, Nat.zero_le, cs_i, cs_r, cs_l, Nat.reduceAdd, Nat.reduceLeDiff, R_1, c1_expect, c1_item iE (rI_ne rE), hw, h7, h1, h2, h3, ih2, decide_true, decide_false, not_true_eq_false, not_false_eq_true, Bool.and_true, Bool.true_and, Bool.and_false, Bool.false_and, Bool.or_true, Bool.true_or, Bool.or_false, Bool.false_or, Bool.not_true, Bool.not_false, ite_true, ite_false, if_true, if_false, Bool.false_eq_true, reduceIte, decide_not, and_true, true_and, and_false, false_and, or_true, true_or, or_false, false_or, not_false, not_true]
        unfold rNext
        rw [h7]
      · simp only [s7_0, s7_1, s7_2, s7_5, s7_6, s7_9, s7_12, s7_15, s7_18, s7_19, s7_20, s7_21, s7_22, s7_25, s7_28, s7_29, s7_32, s7_33, s7_34, s7_37, s7_38, s7_39, s7_42, s7_43, s7_46, s7_49, s7_50, s7_51, s7_54, s7_55, s7_56, s7_59, s7_60, s7_63, s7_64, s7_65, s7_68, s7_69, s7_72, s7_75, s7_78, s7_79, s7_82, s7_83, s7_86, s7_87, s7_90, s7_91, s7_94, s7_97, s7_98, s7_100, s7_103, s7_104, s7_107, s7_108i, s7_108, s7_109, s7_112, s7_113, s7_114, s7_117, s7_120, s7_121, s7_124, gF_i, gF_r, gP_f, gP_t, aRd_1, aRd_4, aKd_e, oo_s, z0, z1, okP_n, okP_i, okP_r, vtl, vtn, true_and, and_true, bI_ite, bI_01, F1_11, F1_17, F1_21, F1_35, F1_42, F1_45, F1_51, F1_187, F1_85, F1_128, F1_139, F1_157, F1_166, F1_169, F1_177, P1_35, P1_42, P1_45, P1_51, P1_187, P1_157, P1_166, P1_169, P1_177, cs_n, Nat.zero_le, cs_i, cs_r, cs_l, Nat.reduceAdd, Nat.reduceLeDiff, R_1, hw, h1, h2, h3, decide_true, decide_false, not_true_eq_false, not_false_eq_true, Bool.and_true, Bool.true_and, Bool.and_false, Bool.false_and, Bool.or_true, Bool.true_or, Bool.or_false, Bool.false_or, Bool.not_true, Bool.not_false, ite_true, ite_false, if_true, if_false, Bool.false_eq_true, reduceIte, decide_not, and_true, true_and, and_false, false_and, or_true, true_or, or_false, false_or, not_false, not_true]
    · simp only [s7_0, s7_1, s7_2, s7_5, s7_6, s7_9, s7_12, s7_15, s7_18, s7_19, s7_20, s7_21, s7_22, s7_25, s7_28, s7_29, s7_32, s7_33, s7_34, s7_37, s7_38, s7_39, s7_42, s7_43, s7_46, s7_49, s7_50, s7_51, s7_54, s7_55, s7_56, s7_59, s7_60, s7_63, s7_64, s7_65, s7_68, s7_69, s7_72, s7_75, s7_78, s7_79, s7_82, s7_83, s7_86, s7_87, s7_90, s7_91, s7_94, s7_97, s7_98, s7_100, s7_103, s7_104, s7_107, s7_108i, s7_108, s7_109, s7_112, s7_113, s7_114, s7_117, s7_120, s7_121, s7_124, gF_i, gF_r, gP_f, gP_t, aRd_1, aRd_4, aKd_e, oo_s, z0, z1, okP_n, okP_i, okP_r, vtl, vtn, true_and, and_true, bI_ite, bI_01, F1_11, F1_17, F1_21, F1_35, F1_42, F1_45, F1_51, F1_187, F1_85, F1_128, F1_139, F1_157, F1_166, F1_169, F1_177, P1_35, P1_42, P1_45, P1_51, P1_187, P1_157, P1_166, P1_169, P1_177, cs_n, Nat.zero_le, cs_i, cs_r, cs_l, Nat.reduceAdd, Nat.reduceLeDiff, R_1, hw, h1, h2, decide_true, decide_false, not_true_eq_false, not_false_eq_true, Bool.and_true, Bool.true_and, Bool.and_false, Bool.false_and, Bool.or_true, Bool.true_or, Bool.or_false, Bool.false_or, Bool.not_true, Bool.not_false, ite_true, ite_false, if_true, if_false, Bool.false_eq_true, reduceIte, decide_not, and_true, true_and, and_false, false_and, or_true, true_or, or_false, false_or, not_false, not_true]
theorem rd0_I {w : hW} (hI : vI w 16) (hS : shI w) {s : Int32} : vI (rRead0 w s) 16 ∧ rI (rRead0 w s) := by
  obtain ⟨a, b, c⟩ := siz_le hS (s := s)
  constructor
  · have h : vSame 16 w (rRead0 w s) := by
      intro q h1 h2
      unfold rRead0
      rw [wI_q (by omega), wI_q (by omega), fil_o (by omega), wI_q (by omega)]
    rw [vSame_I h]
    exact hI
  · unfold rI rRead0
    rw [wI_at (by decide), wI_is, wI_at (by decide), wI_at (by decide), fil_o (by decide), wI_is]
    exact ⟨by decide, a, b⟩
theorem c1_read (hI : vI w 16) (hS : shI w) {s : Int32} : Cl (d + 8) 7 [.ref 35, .int s] w Q = Q (some (.int ((rRead w s).1 35 6))) (rRead w s) := by
  rw [Cl_go (L := [some (.ref 35), some (.int s), none]) rfl]
  obtain ⟨a, b, c⟩ := siz_le hS (s := s)
  obtain ⟨i0, r0⟩ := rd0_I hI hS (s := s)
  obtain ⟨iT, rT, fT⟩ := itemA i0 r0
  have hn : rSiz w s = nI (rSiz w s).toNatClampNeg := (nIof a).symm
  have hc : (rSiz w s).toNatClampNeg = (rSiz w s).toInt.toNat := rfl
  have hf := filL (d := d) (Q := Q) (s := s) (N := (rSiz w s).toNatClampNeg) (by omega) (rSiz w s).toNatClampNeg 0 (wI w 35 3 (rSiz w s)) (by rw [wI_is]; exact hn) (by rw [shI_same (wI_q (by decide))]; exact hS) (by omega)
  rw [nI_0] at hf
  have i1 : vI (wI (rItem (rRead0 w s)) 35 7 1) 16 := by rw [show vI (wI (rItem (rRead0 w s)) 35 7 1) 16 = vI (rItem (rRead0 w s)) 16 from vSame_I (fun q _ _ => wI_q (by omega))]; exact iT
  have hl := fun a1 a2 => rdL (d := d) (Q := Q) 159 1 (wI (rItem (rRead0 w s)) 35 7 1) a1 a2 i1 (rI_wI rT (by decide) (by decide)) (by rw [wI_is]; rfl) rfl
  have e0 : (wI (wI (rFil s 0 (rSiz w s).toNatClampNeg (wI w 35 3 (rSiz w s))) 35 4 0) 35 6 (-1)) = rRead0 w s := rfl
  have hit := fun Q => c1_item (d := d + 1) (Q := Q) i0 (rI_ne r0)
  unfold rRead
  generalize hm : (159 : Nat) = M at hl ⊢
  unfold rSiz at hf e0
  simp only [s7_0, s7_1, s7_2, s7_5, s7_6, s7_9, s7_12, s7_15, s7_18, s7_19, gF_i, gF_r, gP_f, gP_t, aRd_1, aRd_4, aKd_e, oo_s, z0, z1, okP_n, okP_i, okP_r, vtl, vtn, true_and, and_true, bI_ite, bI_01, F1_11, F1_17, F1_21, F1_35, F1_42, F1_45, F1_51, F1_187, F1_85, F1_128, F1_139, F1_157, F1_166, F1_169, F1_177, P1_35, P1_42, P1_45, P1_51, P1_187, P1_157, P1_166, P1_169, P1_177, cs_n, Nat.zero_le, cs_i, cs_r, cs_l, Nat.reduceAdd, Nat.reduceLeDiff, R_4, c4_sizeOf, hf, decide_true, decide_false, not_true_eq_false, not_false_eq_true, Bool.and_true, Bool.true_and, Bool.and_false, Bool.false_and, Bool.or_true, Bool.true_or, Bool.or_false, Bool.false_or, Bool.not_true, Bool.not_false, ite_true, ite_false, if_true, if_false, Bool.false_eq_true, reduceIte, decide_not, and_true, true_and, and_false, false_and, or_true, true_or, or_false, false_or, not_false, not_true]
  simp only [s7_49, s7_50, s7_51, s7_54, s7_55, s7_56, s7_59, s7_60, s7_63, s7_64, s7_65, gF_i, gF_r, gP_f, gP_t, aRd_1, aRd_4, aKd_e, oo_s, z0, z1, okP_n, okP_i, okP_r, vtl, vtn, true_and, and_true, bI_ite, bI_01, F1_11, F1_17, F1_21, F1_35, F1_42, F1_45, F1_51, F1_187, F1_85, F1_128, F1_139, F1_157, F1_166, F1_169, F1_177, P1_35, P1_42, P1_45, P1_51, P1_187, P1_157, P1_166, P1_169, P1_177, cs_n, Nat.zero_le, cs_i, cs_r, cs_l, Nat.reduceAdd, Nat.reduceLeDiff, R_1, e0, hit, hl, decide_true, decide_false, not_true_eq_false, not_false_eq_true, Bool.and_true, Bool.true_and, Bool.and_false, Bool.false_and, Bool.or_true, Bool.true_or, Bool.or_false, Bool.false_or, Bool.not_true, Bool.not_false, ite_true, ite_false, if_true, if_false, Bool.false_eq_true, reduceIte, decide_not, and_true, true_and, and_false, false_and, or_true, true_or, or_false, false_or, not_false, not_true]
def xValley (w : hW) (s : Int32) : Int32 × hW := if sNo w s = 0 then (if (rRead (vTake w 16 2) s).1 35 6 = -1 then ((rRead (vTake w 16 2) s).1 35 7, vTake (wI (rRead (vTake w 16 2) s) 0 10 ((rRead (vTake w 16 2) s).1 35 6)) 2 16) else xNo (wI (rRead (vTake w 16 2) s) 0 10 ((rRead (vTake w 16 2) s).1 35 6)) (-6)) else xNo w (sNo w s)
theorem c7_valley (hI : xI w) {s : Int32} : Cl (d + 12) 114 [.ref 0, .int s] w Q = Q (some (.int (xValley w s).1)) (xValley w s).2 := by
  rw [Cl_go (L := [some (.ref 0), some (.int s), none]) rfl]
  obtain ⟨hI2, hI9, hI16, hS⟩ := hI
  have i1 : vI (vTake w 16 2) 16 := vtk_vI iv16 iv2 hI16 hI2
  have s1 : shI (vTake w 16 2) := by rw [shI_same (vtk_o (by omega))]; exact hS
  have e35 : ∀ W : hW, (vTake W 2 16).1 35 = W.1 35 := fun W => vtk_o (by omega)
  have e36 : ∀ (W : hW) (x : Int32), (wI W 0 10 x).1 35 = W.1 35 := fun W x => wI_q (by decide)
  unfold xValley xNo
  by_cases h1 : sNo w s = 0
  · by_cases h2 : (rRead (vTake w 16 2) s).1 35 6 = -1
    · simp only [s114_0, s114_1, s114_4, s114_5, s114_8, s114_9, s114_10, s114_13, s114_14, s114_15, s114_18, s114_19, s114_20, s114_23, s114_24, s114_27, s114_30, s114_31, s114_32, s114_35, s114_36, s114_39, s114_42, s114_43, s114_46, s114_47, s114_50, s114_51, s114_53, s114_56, s114_57, s114_58, s114_61, s114_62, s114_65, s114_68, s114_69, s114_72, s114_75, gF_i, gF_r, gP_f, gP_t, aRd_1, aRd_4, aKd_e, oo_s, z0, z1, okP_n, okP_i, okP_r, vtl, vtn, true_and, and_true, bI_ite, bI_01, F7_7, F7_16, F7_20, F7_23, F7_29, F7_38, F7_47, F7_56, F7_63, F7_67, F7_316, F7_293, F7_106, F7_156, F7_168, F7_178, F7_190, F7_193, F7_184, F7_303, F7_326, F7_208, F7_323, P7_67, P7_316, P7_293, P7_178, P7_190, P7_193, P7_184, P7_303, P7_326, P7_208, P7_323, cs_n, Nat.zero_le, cs_i, cs_r, cs_l, Nat.reduceAdd, Nat.reduceLeDiff, R_7, R_1, R_4, iv2, iv16, vl_rcv iv16, vl_rcv iv2, c4_noRow, c6_takeOver iv16 iv2 (show (2 : Nat) ≠ 16 by decide), c6_takeOver iv2 iv16 (show (16 : Nat) ≠ 2 by decide), c1_read i1 s1, h1, h2, wI_is, e35, e36, decide_true, decide_false, not_true_eq_false, not_false_eq_true, Bool.and_true, Bool.true_and, Bool.and_false, Bool.false_and, Bool.or_true, Bool.true_or, Bool.or_false, Bool.false_or, Bool.not_true, Bool.not_false, ite_true, ite_false, if_true, if_false, Bool.false_eq_true, reduceIte, decide_not, and_true, true_and, and_false, false_and, or_true, true_or, or_false, false_or, not_false, not_true]
    · simp only [s114_0, s114_1, s114_4, s114_5, s114_8, s114_9, s114_10, s114_13, s114_14, s114_15, s114_18, s114_19, s114_20, s114_23, s114_24, s114_27, s114_30, s114_31, s114_32, s114_35, s114_36, s114_39, s114_42, s114_43, s114_46, s114_47, s114_50, s114_51, s114_53, s114_56, s114_57, s114_58, s114_61, s114_62, s114_65, s114_68, s114_69, s114_72, s114_75, gF_i, gF_r, gP_f, gP_t, aRd_1, aRd_4, aKd_e, oo_s, z0, z1, okP_n, okP_i, okP_r, vtl, vtn, true_and, and_true, bI_ite, bI_01, F7_7, F7_16, F7_20, F7_23, F7_29, F7_38, F7_47, F7_56, F7_63, F7_67, F7_316, F7_293, F7_106, F7_156, F7_168, F7_178, F7_190, F7_193, F7_184, F7_303, F7_326, F7_208, F7_323, P7_67, P7_316, P7_293, P7_178, P7_190, P7_193, P7_184, P7_303, P7_326, P7_208, P7_323, cs_n, Nat.zero_le, cs_i, cs_r, cs_l, Nat.reduceAdd, Nat.reduceLeDiff, R_7, R_1, R_4, iv2, iv16, vl_rcv iv16, vl_rcv iv2, c4_noRow, c6_takeOver iv16 iv2 (show (2 : Nat) ≠ 16 by decide), c1_read i1 s1, c7_refuse, h1, h2, wI_is, decide_true, decide_false, not_true_eq_false, not_false_eq_true, Bool.and_true, Bool.true_and, Bool.and_false, Bool.false_and, Bool.or_true, Bool.true_or, Bool.or_false, Bool.false_or, Bool.not_true, Bool.not_false, ite_true, ite_false, if_true, if_false, Bool.false_eq_true, reduceIte, decide_not, and_true, true_and, and_false, false_and, or_true, true_or, or_false, false_or, not_false, not_true]
  · simp only [s114_0, s114_1, s114_4, s114_5, s114_8, s114_9, s114_10, s114_13, s114_14, s114_15, s114_18, s114_19, s114_20, s114_23, s114_24, s114_27, s114_30, s114_31, s114_32, s114_35, s114_36, s114_39, s114_42, s114_43, s114_46, s114_47, s114_50, s114_51, s114_53, s114_56, s114_57, s114_58, s114_61, s114_62, s114_65, s114_68, s114_69, s114_72, s114_75, gF_i, gF_r, gP_f, gP_t, aRd_1, aRd_4, aKd_e, oo_s, z0, z1, okP_n, okP_i, okP_r, vtl, vtn, true_and, and_true, bI_ite, bI_01, F7_7, F7_16, F7_20, F7_23, F7_29, F7_38, F7_47, F7_56, F7_63, F7_67, F7_316, F7_293, F7_106, F7_156, F7_168, F7_178, F7_190, F7_193, F7_184, F7_303, F7_326, F7_208, F7_323, P7_67, P7_316, P7_293, P7_178, P7_190, P7_193, P7_184, P7_303, P7_326, P7_208, P7_323, cs_n, Nat.zero_le, cs_i, cs_r, cs_l, Nat.reduceAdd, Nat.reduceLeDiff, R_7, R_4, c4_noRow, c7_refuse, h1, decide_true, decide_false, not_true_eq_false, not_false_eq_true, Bool.and_true, Bool.true_and, Bool.and_false, Bool.false_and, Bool.or_true, Bool.true_or, Bool.or_false, Bool.false_or, Bool.not_true, Bool.not_false, ite_true, ite_false, if_true, if_false, Bool.false_eq_true, reduceIte, decide_not, and_true, true_and, and_false, false_and, or_true, true_or, or_false, false_or, not_false, not_true]
end

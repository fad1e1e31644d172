/-! CONTRACTS: Sharing.shareOut, share, wantFor; Acts (class 0) -/
theorem nI_m1 (n : Nat) : nI (n + 1) + (-1) = nI n := by
  have h := nI_pred n
  rw [← h, Int32.sub_eq_add_neg]
theorem nIpos {n : Nat} (h : n < 2 ^ 31) : (0 < nI n) = (0 < n) := by
  have z : (0 : Int32).toInt = 0 := rfl
  rw [i32_lt, nI_toInt h, z]
  apply propext
  omega
def wantN (sc : Int32) (M : Nat) : Int32 :=
  let x := 390625 - (sc - sc / 390625 * 390625)
  let way := x - x / 390625 * 390625
  let q := way / dg M
  q - q / 5 * 5 - 1
section
variable {d : Nat} {w : hW} {Q : aPost}
theorem souI {A : Int32} {S : Nat} (hS : S + 1 < 256) : ∀ (n P : Nat) (b : Int32), P ≤ n → P < 256 → Tr d 42 16 [some (.ref 40), some (.int A), some (.int (nI (S + 1))), some (.int b), some (.int (nI P))] [] w Q = Tr d 42 2 [some (.ref 40), some (.int A), some (.int (nI S)), some (.int (soP (w.1 42) (w.1 41) (S + 1) n P b)), some (.int (nI 0))] [] (wI w 41 (S + 1) (soP (w.1 42) (w.1 41) (S + 1) n P b)) Q := by
  intro n
  induction n with
  | zero =>
    intro P b hP hP2
    obtain rfl : P = 0 := by omega
    have h1 : ¬ (0 < nI 0) := by rw [nIpos (by omega)]; omega
    show Go d 42 16 _ _ _ _ = _
    simp only [s42_0, s42_1, s42_2, s42_3, s42_6, s42_7, s42_10, s42_11, s42_12, s42_13, s42_14, s42_16, s42_18, s42_21, s42_22, s42_25, s42_27, s42_28, s42_31, s42_32, s42_33, s42_36, s42_38, s42_39, s42_40, s42_43, s42_44, s42_46, s42_47, s42_48, s42_49, s42_50, s42_51, s42_54, s42_55, s42_57, s42_58, s42_59, s42_60, s42_61, s42_63, s42_66, s42_67, s42_70, s42_71, s42_72, s42_73, s42_76, s42_79, gF_i, gF_r, gP_f, gP_t, aRd_1, aRd_4, aKd_e, oo_s, z0, z1, okP_n, okP_i, okP_r, vtl, vtn, true_and, and_true, bI_ite, bI_01, F3_9, F3_15, F3_18, F3_22, F3_64, F3_42, F3_38, P3_64, P3_42, cs_n, Nat.zero_le, cs_i, cs_r, cs_l, Nat.reduceAdd, Nat.reduceLeDiff, h1, A_41, nI_inb (show S + 1 < 2 ^ 31 by omega) hS, nI_cl (show S + 1 < 2 ^ 31 by omega), nI_m1, decide_true, decide_false, not_true_eq_false, not_false_eq_true, Bool.and_true, Bool.true_and, Bool.and_false, Bool.false_and, Bool.or_true, Bool.true_or, Bool.or_false, Bool.false_or, Bool.not_true, Bool.not_false, ite_true, ite_false, if_true, if_false, Bool.false_eq_true, reduceIte, decide_not, and_true, true_and, and_false, false_and, or_true, true_or, or_false, false_or, not_false, not_true, soP]
  | succ n ih =>
    intro P b hP hP2
    by_cases h0 : P = 0
    · subst h0
      have h1 : ¬ (0 < nI 0) := by rw [nIpos (by omega)]; omega
      show Go d 42 16 _ _ _ _ = _
      simp only [s42_0, s42_1, s42_2, s42_3, s42_6, s42_7, s42_10, s42_11, s42_12, s42_13, s42_14, s42_16, s42_18, s42_21, s42_22, s42_25, s42_27, s42_28, s42_31, s42_32, s42_33, s42_36, s42_38, s42_39, s42_40, s42_43, s42_44, s42_46, s42_47, s42_48, s42_49, s42_50, s42_51, s42_54, s42_55, s42_57, s42_58, s42_59, s42_60, s42_61, s42_63, s42_66, s42_67, s42_70, s42_71, s42_72, s42_73, s42_76, s42_79, gF_i, gF_r, gP_f, gP_t, aRd_1, aRd_4, aKd_e, oo_s, z0, z1, okP_n, okP_i, okP_r, vtl, vtn, true_and, and_true, bI_ite, bI_01, F3_9, F3_15, F3_18, F3_22, F3_64, F3_42, F3_38, P3_64, P3_42, cs_n, Nat.zero_le, cs_i, cs_r, cs_l, Nat.reduceAdd, Nat.reduceLeDiff, h1, A_41, nI_inb (show S + 1 < 2 ^ 31 by omega) hS, nI_cl (show S + 1 < 2 ^ 31 by omega), nI_m1, decide_true, decide_false, not_true_eq_false, not_false_eq_true, Bool.and_true, Bool.true_and, Bool.and_false, Bool.false_and, Bool.or_true, Bool.true_or, Bool.or_false, Bool.false_or, Bool.not_true, Bool.not_false, ite_true, ite_false, if_true, if_false, Bool.false_eq_true, reduceIte, decide_not, and_true, true_and, and_false, false_and, or_true, true_or, or_false, false_or, not_false, not_true, soP]
    · obtain ⟨P', rfl⟩ : ∃ P', P = P' + 1 := ⟨P - 1, by omega⟩
      have h1 : 0 < nI (P' + 1) := by rw [nIpos (by omega)]; omega
      have h2 : P' &&& (S + 1) ≤ P' := Nat.and_le_left
      have h3 := dif_lt (S := S + 1) (P := P' + 1) hS
      have e1 : P' + 1 - 1 = P' := rfl
      have h5 := fun b => ih (P' &&& (S + 1)) b (by omega) (by omega)
      show Go d 42 16 _ _ _ _ = _
      unfold soP
      rw [if_neg h0, e1]
      by_cases h4 : 0 < w.1 42 (P' + 1)
      · rw [if_pos h4]
        simp only [s42_0, s42_1, s42_2, s42_3, s42_6, s42_7, s42_10, s42_11, s42_12, s42_13, s42_14, s42_16, s42_18, s42_21, s42_22, s42_25, s42_27, s42_28, s42_31, s42_32, s42_33, s42_36, s42_38, s42_39, s42_40, s42_43, s42_44, s42_46, s42_47, s42_48, s42_49, s42_50, s42_51, s42_54, s42_55, s42_57, s42_58, s42_59, s42_60, s42_61, s42_63, s42_66, s42_67, s42_70, s42_71, s42_72, s42_73, s42_76, s42_79, gF_i, gF_r, gP_f, gP_t, aRd_1, aRd_4, aKd_e, oo_s, z0, z1, okP_n, okP_i, okP_r, vtl, vtn, true_and, and_true, bI_ite, bI_01, F3_9, F3_15, F3_18, F3_22, F3_64, F3_42, F3_38, P3_64, P3_42, cs_n, Nat.zero_le, cs_i, cs_r, cs_l, Nat.reduceAdd, Nat.reduceLeDiff, h1, if_pos h4, A_41, A_42, nI_inb (show P' + 1 < 2 ^ 31 by omega) hP2, nI_cl (show P' + 1 < 2 ^ 31 by omega), sb_dif, nI_inb (show dif (S + 1) (P' + 1) < 2 ^ 31 by omega) h3, nI_cl (show dif (S + 1) (P' + 1) < 2 ^ 31 by omega), nI_pred, nI_and, h5, decide_true, decide_false, not_true_eq_false, not_false_eq_true, Bool.and_true, Bool.true_and, Bool.and_false, Bool.false_and, Bool.or_true, Bool.true_or, Bool.or_false, Bool.false_or, Bool.not_true, Bool.not_false, ite_true, ite_false, if_true, if_false, Bool.false_eq_true, reduceIte, decide_not, and_true, true_and, and_false, false_and, or_true, true_or, or_false, false_or, not_false, not_true]
      · rw [if_neg h4]
        simp only [s42_0, s42_1, s42_2, s42_3, s42_6, s42_7, s42_10, s42_11, s42_12, s42_13, s42_14, s42_16, s42_18, s42_21, s42_22, s42_25, s42_27, s42_28, s42_31, s42_32, s42_33, s42_36, s42_38, s42_39, s42_40, s42_43, s42_44, s42_46, s42_47, s42_48, s42_49, s42_50, s42_51, s42_54, s42_55, s42_57, s42_58, s42_59, s42_60, s42_61, s42_63, s42_66, s42_67, s42_70, s42_71, s42_72, s42_73, s42_76, s42_79, gF_i, gF_r, gP_f, gP_t, aRd_1, aRd_4, aKd_e, oo_s, z0, z1, okP_n, okP_i, okP_r, vtl, vtn, true_and, and_true, bI_ite, bI_01, F3_9, F3_15, F3_18, F3_22, F3_64, F3_42, F3_38, P3_64, P3_42, cs_n, Nat.zero_le, cs_i, cs_r, cs_l, Nat.reduceAdd, Nat.reduceLeDiff, h1, if_neg h4, A_42, nI_inb (show P' + 1 < 2 ^ 31 by omega) hP2, nI_cl (show P' + 1 < 2 ^ 31 by omega), nI_pred, nI_and, h5, decide_true, decide_false, not_true_eq_false, not_false_eq_true, Bool.and_true, Bool.true_and, Bool.and_false, Bool.false_and, Bool.or_true, Bool.true_or, Bool.or_false, Bool.false_or, Bool.not_true, Bool.not_false, ite_true, ite_false, if_true, if_false, Bool.false_eq_true, reduceIte, decide_not, and_true, true_and, and_false, false_and, or_true, true_or, or_false, false_or, not_false, not_true]
theorem souO {A : Int32} : ∀ (S : Nat) (w : hW) (a3 a4 : Option Value), S < 256 → okP a3 = true → Tr d 42 2 [some (.ref 40), some (.int A), some (.int (nI S)), a3, a4] [] w Q = Q none (wA w 41 (soO (w.1 42) S (w.1 41))) := by
  intro S
  induction S with
  | zero =>
    intro w a3 a4 hS ha
    have h1 : ¬ (0 < nI 0) := by rw [nIpos (by omega)]; omega
    show Go d 42 2 _ _ _ _ = _
    simp only [s42_0, s42_1, s42_2, s42_3, s42_6, s42_7, s42_10, s42_11, s42_12, s42_13, s42_14, s42_16, s42_18, s42_21, s42_22, s42_25, s42_27, s42_28, s42_31, s42_32, s42_33, s42_36, s42_38, s42_39, s42_40, s42_43, s42_44, s42_46, s42_47, s42_48, s42_49, s42_50, s42_51, s42_54, s42_55, s42_57, s42_58, s42_59, s42_60, s42_61, s42_63, s42_66, s42_67, s42_70, s42_71, s42_72, s42_73, s42_76, s42_79, gF_i, gF_r, gP_f, gP_t, aRd_1, aRd_4, aKd_e, oo_s, z0, z1, okP_n, okP_i, okP_r, vtl, vtn, true_and, and_true, bI_ite, bI_01, F3_9, F3_15, F3_18, F3_22, F3_64, F3_42, F3_38, P3_64, P3_42, cs_n, Nat.zero_le, cs_i, cs_r, cs_l, Nat.reduceAdd, Nat.reduceLeDiff, h1, decide_true, decide_false, not_true_eq_false, not_false_eq_true, Bool.and_true, Bool.true_and, Bool.and_false, Bool.false_and, Bool.or_true, Bool.true_or, Bool.or_false, Bool.false_or, Bool.not_true, Bool.not_false, ite_true, ite_false, if_true, if_false, Bool.false_eq_true, reduceIte, decide_not, and_true, true_and, and_false, false_and, or_true, true_or, or_false, false_or, not_false, not_true, soO, wA_id]
  | succ S ih =>
    intro w a3 a4 hS ha
    have h1 : 0 < nI (S + 1) := by rw [nIpos (by omega)]; omega
    have h2 := fun b => souI (d := d) (Q := Q) (w := w) (A := A) hS (S + 1) (S + 1) b (Nat.le_refl _) hS
    have h3 := fun w' b => ih w' (some (.int b)) (some (.int (nI 0))) (by omega) rfl
    have n4241 : (42 : Nat) ≠ 41 := by decide
    show Go d 42 2 _ _ _ _ = _
    simp only [s42_0, s42_1, s42_2, s42_3, s42_6, s42_7, s42_10, s42_11, s42_12, s42_13, s42_14, s42_16, s42_18, s42_21, s42_22, s42_25, s42_27, s42_28, s42_31, s42_32, s42_33, s42_36, s42_38, s42_39, s42_40, s42_43, s42_44, s42_46, s42_47, s42_48, s42_49, s42_50, s42_51, s42_54, s42_55, s42_57, s42_58, s42_59, s42_60, s42_61, s42_63, s42_66, s42_67, s42_70, s42_71, s42_72, s42_73, s42_76, s42_79, gF_i, gF_r, gP_f, gP_t, aRd_1, aRd_4, aKd_e, oo_s, z0, z1, okP_n, okP_i, okP_r, vtl, vtn, true_and, and_true, bI_ite, bI_01, F3_9, F3_15, F3_18, F3_22, F3_64, F3_42, F3_38, P3_64, P3_42, cs_n, Nat.zero_le, cs_i, cs_r, cs_l, Nat.reduceAdd, Nat.reduceLeDiff, h1, A_41, nI_inb (show S + 1 < 2 ^ 31 by omega) hS, nI_cl (show S + 1 < 2 ^ 31 by omega), h2, h3, decide_true, decide_false, not_true_eq_false, not_false_eq_true, Bool.and_true, Bool.true_and, Bool.and_false, Bool.false_and, Bool.or_true, Bool.true_or, Bool.or_false, Bool.false_or, Bool.not_true, Bool.not_false, ite_true, ite_false, if_true, if_false, Bool.false_eq_true, reduceIte, decide_not, and_true, true_and, and_false, false_and, or_true, true_or, or_false, false_or, not_false, not_true, soO, wI_A, wA_wA, wA_s, wA_o n4241]
theorem c3_shareOut {A : Nat} (hA : A < 256) : Cl d 42 [.ref 40, .int (nI A)] w Q = Q none (wA w 41 (soO (w.1 42) A (w.1 41))) := by
  rw [Cl_go (L := [some (.ref 40), some (.int (nI A)), none, none, none]) rfl]
  have h := souO (d := d) (Q := Q) (A := nI A) A w none none hA rfl
  simp only [s42_0, s42_1, s42_2, s42_3, s42_6, s42_7, s42_10, s42_11, s42_12, s42_13, s42_14, s42_16, s42_18, s42_21, s42_22, s42_25, s42_27, s42_28, s42_31, s42_32, s42_33, s42_36, s42_38, s42_39, s42_40, s42_43, s42_44, s42_46, s42_47, s42_48, s42_49, s42_50, s42_51, s42_54, s42_55, s42_57, s42_58, s42_59, s42_60, s42_61, s42_63, s42_66, s42_67, s42_70, s42_71, s42_72, s42_73, s42_76, s42_79, gF_i, gF_r, gP_f, gP_t, aRd_1, aRd_4, aKd_e, oo_s, z0, z1, okP_n, okP_i, okP_r, vtl, vtn, true_and, and_true, bI_ite, bI_01, h]
theorem vSame_fgW {i : Int32} {A : Nat} : vSame 2 w (fgW w i A) := by
  intro q h1 h2
  unfold fgW
  split
  · split
    · rw [wA_o (by omega), wA_o (by omega), rM_o (by omega)]
    · rw [wA_o (by omega), rM_o (by omega)]
  · rfl
theorem vSame_shA {A i : Nat} : vSame 2 w (shA w A i) := by
  intro q h1 h2
  unfold shA
  split
  · rw [wA_o (by omega), vSame_fgW q h1 h2]
  · rw [vSame_fgW q h1 h2]
theorem fgW_41 {i : Int32} {A : Nat} : (fgW w i A).1 41 = w.1 41 := by
  unfold fgW
  split
  · split
    · rw [wA_o (by decide), wA_o (by decide), rM_o (by decide)]
    · rw [wA_o (by decide), rM_o (by decide)]
  · rfl
theorem vThere_same {w' : hW} {b : Nat} (h : vSame b w w') {i : Int32} : vThere w' b i = vThere w b i := by
  unfold vThere
  simp only [vStep_same h, vSame_5 h]
theorem zerL {a1 : Int32} : ∀ (m i : Nat) (w : hW) (a3 : Option Value), i + m = 256 → Tr (d + 6) 37 16 [some (.ref 40), some (.int a1), some (.int (nI i)), a3] [] w Q = Go (d + 6) 37 36 [some (.ref 40), some (.int a1), some (.int 256), a3] [] (wA w 41 (fun j => if i ≤ j ∧ j < 256 then 0 else w.1 41 j)) Q := by
  intro m
  induction m with
  | zero =>
    intro i w a3 hi
    have h1 : ¬ nI i < 256 := by rw [nI_l256 (by omega)]; omega
    obtain rfl : i = 256 := by omega
    show Go (d + 6) 37 16 _ _ _ _ = _
    simp only [s37_16, s37_17, s37_20, h1, if_false]
    rw [show (fun j => if 256 ≤ j ∧ j < 256 then (0 : Int32) else w.1 41 j) = w.1 41 from funext fun j => by rw [if_neg (show ¬ (256 ≤ j ∧ j < 256) by omega)], wA_id]
    rfl
  | succ m ih =>
    intro i w a3 hi
    have h1 : nI i < 256 := by rw [nI_l256 (by omega)]; omega
    have e : wA (wI w 41 i 0) 41 (fun j => if i + 1 ≤ j ∧ j < 256 then 0 else (wI w 41 i 0).1 41 j) = wA w 41 (fun j => if i ≤ j ∧ j < 256 then 0 else w.1 41 j) := by
      rw [wI_A, wA_wA, wA_s]
      congr 1
      funext j
      by_cases hj : j = i
      · subst hj
        rw [if_neg (show ¬ (j + 1 ≤ j ∧ j < 256) by omega), if_pos (show j ≤ j ∧ j < 256 by omega)]
        simp [upd]
      · by_cases h6 : i + 1 ≤ j ∧ j < 256
        · rw [if_pos h6, if_pos (show i ≤ j ∧ j < 256 by omega)]
        · rw [if_neg h6, if_neg (show ¬ (i ≤ j ∧ j < 256) by omega)]
          simp [upd, hj]
    show Go (d + 6) 37 16 _ _ _ _ = _
    simp only [s37_16, s37_17, s37_20, s37_23, s37_24, s37_27, s37_28, s37_29, s37_30, s37_33, gF_i, gF_r, gP_f, gP_t, aRd_1, aRd_4, aKd_e, oo_s, z0, z1, okP_n, okP_i, okP_r, vtl, vtn, true_and, and_true, bI_ite, bI_01, F3_9, F3_15, F3_18, F3_22, F3_64, F3_42, F3_38, P3_64, P3_42, cs_n, Nat.zero_le, cs_i, cs_r, cs_l, Nat.reduceAdd, Nat.reduceLeDiff, h1, A_41, nI_inb (show i < 2 ^ 31 by omega) (show i < 256 by omega), nI_cl (show i < 2 ^ 31 by omega), nI_1, ih (i + 1) _ _ (by omega), decide_true, decide_false, not_true_eq_false, not_false_eq_true, Bool.and_true, Bool.true_and, Bool.and_false, Bool.false_and, Bool.or_true, Bool.true_or, Bool.or_false, Bool.false_or, Bool.not_true, Bool.not_false, ite_true, ite_false, if_true, if_false, Bool.false_eq_true, reduceIte, decide_not, and_true, true_and, and_false, false_and, or_true, true_or, or_false, false_or, not_false, not_true, e]
theorem shaL {A : Nat} (hA : A < 256) : ∀ (m i : Nat) (w : hW) (s : Int32), vI w 2 → i + m = (w.1 7 3).toInt.toNat → Tr (d + 6) 37 40 [some (.ref 40), some (.int (nI A)), some (.int s), some (.int (nI i))] [] w Q = Q none (wI (shL A i m w s).1 40 4 ((shL A i m w s).2 * 390625 + (shL A i m w s).1.1 41 A)) := by
  intro m
  induction m with
  | zero =>
    intro i w s hI hi
    have hw := hI.2.2.2.2.2.2.2.2
    simp only [Nat.reduceAdd] at hw
    have h1 : ¬ nI i < w.1 7 3 := by rw [nIlt (by omega)]; omega
    show Go (d + 6) 37 40 _ _ _ _ = _
    simp only [s37_0, s37_1, s37_4, s37_7, s37_10, s37_13, s37_14, s37_15, s37_16, s37_17, s37_20, s37_23, s37_24, s37_27, s37_28, s37_29, s37_30, s37_33, s37_36, s37_37, s37_38, s37_39, s37_40, s37_41, s37_42, s37_45, s37_48, s37_51, s37_54, s37_55, s37_58, s37_59, s37_62, s37_65, s37_66, s37_67, s37_70, s37_73, s37_74, s37_75, s37_78, s37_79, s37_80, s37_83, s37_84, s37_85, s37_86, s37_89, s37_92, s37_93, s37_94, s37_97, s37_100, s37_103, s37_104, s37_105, s37_107, s37_108, s37_109, s37_112, s37_113, s37_114, s37_115, s37_118, gF_i, gF_r, gP_f, gP_t, aRd_1, aRd_4, aKd_e, oo_s, z0, z1, okP_n, okP_i, okP_r, vtl, vtn, true_and, and_true, bI_ite, bI_01, F3_9, F3_15, F3_18, F3_22, F3_64, F3_42, F3_38, P3_64, P3_42, cs_n, Nat.zero_le, cs_i, cs_r, cs_l, Nat.reduceAdd, Nat.reduceLeDiff, iv2, it7, h1, A_41, nI_inb (show A < 2 ^ 31 by omega) hA, nI_cl (show A < 2 ^ 31 by omega), decide_true, decide_false, not_true_eq_false, not_false_eq_true, Bool.and_true, Bool.true_and, Bool.and_false, Bool.false_and, Bool.or_true, Bool.true_or, Bool.or_false, Bool.false_or, Bool.not_true, Bool.not_false, ite_true, ite_false, if_true, if_false, Bool.false_eq_true, reduceIte, decide_not, and_true, true_and, and_false, false_and, or_true, true_or, or_false, false_or, not_false, not_true, shL]
  | succ m ih =>
    intro i w s hI hi
    have hw := hI.2.2.2.2.2.2.2.2
    simp only [Nat.reduceAdd] at hw
    have h1 : nI i < w.1 7 3 := by rw [nIlt (by omega)]; omega
    have hT : tI w 7 := vI_5 hI
    have hI2 : vI (shA w A i) 2 := by rw [vSame_I vSame_shA]; exact hI
    have h7 : (shA w A i).1 7 3 = w.1 7 3 := by rw [vSame_shA 7 (by omega) (by omega)]
    show Go (d + 6) 37 40 _ _ _ _ = _
    unfold shL
    by_cases h2 : vThere w 2 (nI i) = true
    · rw [if_pos h2]
      simp only [s37_0, s37_1, s37_4, s37_7, s37_10, s37_13, s37_14, s37_15, s37_16, s37_17, s37_20, s37_23, s37_24, s37_27, s37_28, s37_29, s37_30, s37_33, s37_36, s37_37, s37_38, s37_39, s37_40, s37_41, s37_42, s37_45, s37_48, s37_51, s37_54, s37_55, s37_58, s37_59, s37_62, s37_65, s37_66, s37_67, s37_70, s37_73, s37_74, s37_75, s37_78, s37_79, s37_80, s37_83, s37_84, s37_85, s37_86, s37_89, s37_92, s37_93, s37_94, s37_97, s37_100, s37_103, s37_104, s37_105, s37_107, s37_108, s37_109, s37_112, s37_113, s37_114, s37_115, s37_118, gF_i, gF_r, gP_f, gP_t, aRd_1, aRd_4, aKd_e, oo_s, z0, z1, okP_n, okP_i, okP_r, vtl, vtn, true_and, and_true, bI_ite, bI_01, F3_9, F3_15, F3_18, F3_22, F3_64, F3_42, F3_38, P3_64, P3_42, cs_n, Nat.zero_le, cs_i, cs_r, cs_l, Nat.reduceAdd, Nat.reduceLeDiff, iv2, it7, vl_rcv iv2, tb_rcv it7, h1, hT, c6_isThere iv2 hI, h2, c5_cell, nI_1, ih (i + 1) w _ hI (by omega), decide_true, decide_false, not_true_eq_false, not_false_eq_true, Bool.and_true, Bool.true_and, Bool.and_false, Bool.false_and, Bool.or_true, Bool.true_or, Bool.or_false, Bool.false_or, Bool.not_true, Bool.not_false, ite_true, ite_false, if_true, if_false, Bool.false_eq_true, reduceIte, decide_not, and_true, true_and, and_false, false_and, or_true, true_or, or_false, false_or, not_false, not_true]
    · rw [if_neg h2]
      have h5 := ih (i + 1) (shA w A i) s hI2 (by rw [h7]; omega)
      by_cases h3 : fgOk w (nI i) A = true
      · have e : wA (fgW w (nI i) A) 41 (soO ((fgW w (nI i) A).1 42) A ((fgW w (nI i) A).1 41)) = shA w A i := by unfold shA; rw [if_pos h3]
        simp only [s37_0, s37_1, s37_4, s37_7, s37_10, s37_13, s37_14, s37_15, s37_16, s37_17, s37_20, s37_23, s37_24, s37_27, s37_28, s37_29, s37_30, s37_33, s37_36, s37_37, s37_38, s37_39, s37_40, s37_41, s37_42, s37_45, s37_48, s37_51, s37_54, s37_55, s37_58, s37_59, s37_62, s37_65, s37_66, s37_67, s37_70, s37_73, s37_74, s37_75, s37_78, s37_79, s37_80, s37_83, s37_84, s37_85, s37_86, s37_89, s37_92, s37_93, s37_94, s37_97, s37_100, s37_103, s37_104, s37_105, s37_107, s37_108, s37_109, s37_112, s37_113, s37_114, s37_115, s37_118, gF_i, gF_r, gP_f, gP_t, aRd_1, aRd_4, aKd_e, oo_s, z0, z1, okP_n, okP_i, okP_r, vtl, vtn, true_and, and_true, bI_ite, bI_01, F3_9, F3_15, F3_18, F3_22, F3_64, F3_42, F3_38, P3_64, P3_42, cs_n, Nat.zero_le, cs_i, cs_r, cs_l, Nat.reduceAdd, Nat.reduceLeDiff, iv2, it7, vl_rcv iv2, R_3, h1, c6_isThere iv2 hI, h2, c3_findGains hI hA, h3, c3_shareOut hA, e, nI_1, h5, decide_true, decide_false, not_true_eq_false, not_false_eq_true, Bool.and_true, Bool.true_and, Bool.and_false, Bool.false_and, Bool.or_true, Bool.true_or, Bool.or_false, Bool.false_or, Bool.not_true, Bool.not_false, ite_true, ite_false, if_true, if_false, Bool.false_eq_true, reduceIte, decide_not, and_true, true_and, and_false, false_and, or_true, true_or, or_false, false_or, not_false, not_true]
      · have e : fgW w (nI i) A = shA w A i := by unfold shA; rw [if_neg h3]
        simp only [s37_0, s37_1, s37_4, s37_7, s37_10, s37_13, s37_14, s37_15, s37_16, s37_17, s37_20, s37_23, s37_24, s37_27, s37_28, s37_29, s37_30, s37_33, s37_36, s37_37, s37_38, s37_39, s37_40, s37_41, s37_42, s37_45, s37_48, s37_51, s37_54, s37_55, s37_58, s37_59, s37_62, s37_65, s37_66, s37_67, s37_70, s37_73, s37_74, s37_75, s37_78, s37_79, s37_80, s37_83, s37_84, s37_85, s37_86, s37_89, s37_92, s37_93, s37_94, s37_97, s37_100, s37_103, s37_104, s37_105, s37_107, s37_108, s37_109, s37_112, s37_113, s37_114, s37_115, s37_118, gF_i, gF_r, gP_f, gP_t, aRd_1, aRd_4, aKd_e, oo_s, z0, z1, okP_n, okP_i, okP_r, vtl, vtn, true_and, and_true, bI_ite, bI_01, F3_9, F3_15, F3_18, F3_22, F3_64, F3_42, F3_38, P3_64, P3_42, cs_n, Nat.zero_le, cs_i, cs_r, cs_l, Nat.reduceAdd, Nat.reduceLeDiff, iv2, it7, vl_rcv iv2, R_3, h1, c6_isThere iv2 hI, h2, c3_findGains hI hA, h3, e, nI_1, h5, decide_true, decide_false, not_true_eq_false, not_false_eq_true, Bool.and_true, Bool.true_and, Bool.and_false, Bool.false_and, Bool.or_true, Bool.true_or, Bool.or_false, Bool.false_or, Bool.not_true, Bool.not_false, ite_true, ite_false, if_true, if_false, Bool.false_eq_true, reduceIte, decide_not, and_true, true_and, and_false, false_and, or_true, true_or, or_false, false_or, not_false, not_true]
theorem c3_share (hI : vI w 2) : Cl (d + 6) 37 [.ref 40] w Q = Q none (shW w) := by
  rw [Cl_go (L := [some (.ref 40), none, none, none]) rfl]
  obtain ⟨e1, e2⟩ := vAll_n hI
  have hA := pw_lt e2
  have h255 : ¬ (255 : Int32) < nI (2 ^ vN w 2 - 1) := by
    rw [i32_lt, nI_toInt (by omega)]
    have : (255 : Int32).toInt = 255 := rfl
    omega
  have hz := zerL (d := d) (Q := Q) (a1 := nI (2 ^ vN w 2 - 1)) 256 0 w none rfl
  rw [nI_0] at hz
  have e3 : wA w 41 (fun j => if 0 ≤ j ∧ j < 256 then 0 else w.1 41 j) = shW0 w := by
    unfold shW0
    congr 1
    funext j
    simp
  rw [e3] at hz
  have hs : vSame 2 w (shW0 w) := vSame_wA (by omega)
  have hI2 : vI (shW0 w) 2 := by rw [vSame_I hs]; exact hI
  have h7 : (shW0 w).1 7 3 = w.1 7 3 := by rw [hs 7 (by omega) (by omega)]
  have h := shaL (d := d) (Q := Q) hA (w.1 7 3).toInt.toNat 0 (shW0 w) 0 hI2 (by rw [h7]; omega)
  rw [nI_0] at h
  simp only [s37_0, s37_1, s37_4, s37_7, s37_10, s37_13, s37_14, s37_15, s37_16, s37_17, s37_20, s37_23, s37_24, s37_27, s37_28, s37_29, s37_30, s37_33, s37_36, s37_37, s37_38, s37_39, s37_40, s37_41, s37_42, s37_45, s37_48, s37_51, s37_54, s37_55, s37_58, s37_59, s37_62, s37_65, s37_66, s37_67, s37_70, s37_73, s37_74, s37_75, s37_78, s37_79, s37_80, s37_83, s37_84, s37_85, s37_86, s37_89, s37_92, s37_93, s37_94, s37_97, s37_100, s37_103, s37_104, s37_105, s37_107, s37_108, s37_109, s37_112, s37_113, s37_114, s37_115, s37_118, gF_i, gF_r, gP_f, gP_t, aRd_1, aRd_4, aKd_e, oo_s, z0, z1, okP_n, okP_i, okP_r, vtl, vtn, true_and, and_true, bI_ite, bI_01, F3_9, F3_15, F3_18, F3_22, F3_64, F3_42, F3_38, P3_64, P3_42, cs_n, Nat.zero_le, cs_i, cs_r, cs_l, Nat.reduceAdd, Nat.reduceLeDiff, iv2, vl_rcv iv2, c6_everybody iv2, e1, h255, hz, h, decide_true, decide_false, not_true_eq_false, not_false_eq_true, Bool.and_true, Bool.true_and, Bool.and_false, Bool.false_and, Bool.or_true, Bool.true_or, Bool.or_false, Bool.false_or, Bool.not_true, Bool.not_false, ite_true, ite_false, if_true, if_false, Bool.false_eq_true, reduceIte, decide_not, and_true, true_and, and_false, false_and, or_true, true_or, or_false, false_or, not_false, not_true]
  rfl
theorem dg_nz : ∀ M : Nat, M < 8 → ¬ dg M = 0 := by decide +kernel
theorem c3_wantFor {M : Nat} (hM : M < 8) : Cl d 39 [.ref 40, .int (nI M)] w Q = Q (some (.int (wantN (w.1 40 4) M))) w := by
  rw [Cl_go (L := [some (.ref 40), some (.int (nI M)), none]) rfl]
  have o : ¬ ((390625 : Int32) = 0) := by decide
  have o5 : ¬ ((5 : Int32) = 0) := by decide
  have h1 : nI M < 8 := by rw [nI_l8 (by omega)]; exact hM
  have h2 : ¬ ((gSta 102).getD M 0 = 0) := dg_nz M hM
  simp only [s39_0, s39_2, s39_3, s39_6, s39_8, s39_9, s39_10, s39_12, s39_13, s39_14, s39_15, s39_18, s39_19, s39_22, s39_23, s39_26, s39_27, s39_30, s39_31, s39_32, s39_33, s39_34, s39_35, s39_36, s39_37, s39_40, s39_41, gF_i, gF_r, gP_f, gP_t, aRd_1, aRd_4, aKd_e, oo_s, z0, z1, okP_n, okP_i, okP_r, vtl, vtn, true_and, and_true, bI_ite, bI_01, F3_9, F3_15, F3_18, F3_22, F3_64, F3_42, F3_38, P3_64, P3_42, cs_n, Nat.zero_le, cs_i, cs_r, cs_l, Nat.reduceAdd, Nat.reduceLeDiff, o, o5, N_102, A_102, n8, nI_neg (show M < 2 ^ 31 by omega), h1, nI_inb (show M < 2 ^ 31 by omega) hM, nI_cl (show M < 2 ^ 31 by omega), h2, not_false_eq_true, decide_true, decide_false, not_true_eq_false, not_false_eq_true, Bool.and_true, Bool.true_and, Bool.and_false, Bool.false_and, Bool.or_true, Bool.true_or, Bool.or_false, Bool.false_or, Bool.not_true, Bool.not_false, ite_true, ite_false, if_true, if_false, Bool.false_eq_true, reduceIte, decide_not, and_true, true_and, and_false, false_and, or_true, true_or, or_false, false_or, not_false, not_true]
  rfl
end

/-! CONTRACTS: Relay.strengthNeeded, Sharing (class 3) -/
/-- the digits' numbers -/
def dg (i : Nat) : Int32 := (gSta 102).getD i 0
def dgL (S : Nat) : Nat → Nat → Int32 → Int32
  | _, 0, a => a
  | i, m + 1, a => dgL S (i + 1) m (if S.testBit i then a + dg i else a)
def digS (S : Nat) : Nat := (List.range 8).foldl (fun a i => if S.testBit i then a + 5 ^ (7 - i) else a) 0
theorem dgL_dig : ∀ S : Nat, S < 256 → dgL S 0 8 0 = nI (digS S) := by decide +kernel
def dif (S P : Nat) : Nat := S ^^^ (S &&& P)
theorem sb_dif (S P : Nat) : nI S &&& (nI P ^^^ (-1)) = nI (dif S P) := by
  refine Int32.toBitVec_inj.mp (BitVec.eq_of_getLsbD_eq fun j hj => ?_)
  have h3 : (-1#32 : BitVec 32).getLsbD j = true := by
    have : ∀ j, j < 32 → (-1#32 : BitVec 32).getLsbD j = true := by decide
    exact this j hj
  show (BitVec.ofNat 32 S &&& (BitVec.ofNat 32 P ^^^ (-1#32))).getLsbD j = (BitVec.ofNat 32 (dif S P)).getLsbD j
  simp only [BitVec.getLsbD_and, BitVec.getLsbD_xor, BitVec.getLsbD_ofNat, h3, dif, Nat.testBit_xor, Nat.testBit_and]
  cases S.testBit j <;> cases P.testBit j <;> simp [hj]
theorem nI_and (a b : Nat) : nI a &&& nI b = nI (a &&& b) := by
  refine Int32.toBitVec_inj.mp (BitVec.eq_of_getLsbD_eq fun j hj => ?_)
  show (BitVec.ofNat 32 a &&& BitVec.ofNat 32 b).getLsbD j = (BitVec.ofNat 32 (a &&& b)).getLsbD j
  simp only [BitVec.getLsbD_and, BitVec.getLsbD_ofNat, Nat.testBit_and]
  cases a.testBit j <;> cases b.testBit j <;> simp
theorem dif_lt {S P : Nat} (h : S < 256) : dif S P < 256 := Nat.xor_lt_two_pow (n := 8) h (Nat.lt_of_le_of_lt Nat.and_le_left h)
theorem wI_pf {w : hW} {p i q : Nat} {x : Int32} (h : q ≠ p) : (wI w p i x).1 q = w.1 q := funext fun _ => wI_p h
def gnF (wo : Int32) (i : Int32) (E : Nat → Int32) (step : Int32) (S : Nat) : Int32 := if E S = step then wo * 390625 - (i + 1) * nI (digS S) else -1
def fgE (w : hW) (i : Int32) (A : Nat) : Nat → Int32 := fiE (w.1 2 4) (w.1 2 5) ((rMeas w (tCell w 7 i 0)).1 38) (tCell w 7 i 1) (vStep w 2 (tCell w 7 i 0)) A (w.1 39)
def fgOk (w : hW) (i : Int32) (A : Nat) : Bool := vOn w 2 (tCell w 7 i 0) (tCell w 7 i 1) && decide (fgE w i A A = tCell w 7 i 1)
def fgW (w : hW) (i : Int32) (A : Nat) : hW := if vOn w 2 (tCell w 7 i 0) (tCell w 7 i 1) then (if fgE w i A A = tCell w 7 i 1 then wA (wA (rMeas w (tCell w 7 i 0)) 39 (fgE w i A)) 42 (fun j => if j ≤ A then gnF (tCell w 7 i 2) i (fgE w i A) (tCell w 7 i 1) j else w.1 42 j) else wA (rMeas w (tCell w 7 i 0)) 39 (fgE w i A)) else w
def soP (G C : Nat → Int32) (S : Nat) : Nat → Nat → Int32 → Int32
  | 0, _, b => b
  | n + 1, P, b => if P = 0 then b else soP G C S n ((P - 1) &&& S) (if 0 < G P then (if b < G P + C (dif S P) then G P + C (dif S P) else b) else b)
def soO (G : Nat → Int32) : Nat → (Nat → Int32) → Nat → Int32
  | 0, C => C
  | S + 1, C => soO G S (upd C (S + 1) (soP G C (S + 1) (S + 1) (S + 1) (C (S + 1))))
def shA (w : hW) (A : Nat) (i : Nat) : hW := if fgOk w (nI i) A then wA (fgW w (nI i) A) 41 (soO ((fgW w (nI i) A).1 42) A ((fgW w (nI i) A).1 41)) else fgW w (nI i) A
def shL (A : Nat) : Nat → Nat → hW → Int32 → hW × Int32
  | _, 0, w, s => (w, s)
  | i, m + 1, w, s => if vThere w 2 (nI i) then shL A (i + 1) m w (s + tCell w 7 (nI i) 2) else shL A (i + 1) m (shA w A i) s
def shW0 (w : hW) : hW := wA w 41 (fun j => if j < 256 then 0 else w.1 41 j)
def shR (w : hW) : hW × Int32 := shL (2 ^ vN w 2 - 1) 0 (w.1 7 3).toInt.toNat (shW0 w) 0
def shW (w : hW) : hW := wI (shR w).1 40 4 ((shR w).2 * 390625 + (shR w).1.1 41 (2 ^ vN w 2 - 1))
section
variable {d : Nat} {w : hW} {Q : aPost}
theorem c2_strengthNeeded (hI : vI w 2) {t step : Int32} {S M : Nat} (hS : S < 256) (hM : M < 8) : Cl (d + 5) 31 [.ref 37, .int t, .int (nI S), .int step, .int (nI M)] w Q = (if fiE (w.1 2 4) (w.1 2 5) (dwF w t M 99 ((rMeas w t).1 38)) step (vStep w 2 t) S (w.1 39) S = step then Q (some (.int (nI (snL (w.1 2 4) (w.1 2 5) (fun k => vReach w 2 (vStr w 2 (nI M) (nI k)) t) (vStep w 2 t) step S M 99 0 99 (dwF w t M 99 ((rMeas w t).1 38)) (fiE (w.1 2 4) (w.1 2 5) (dwF w t M 99 ((rMeas w t).1 38)) step (vStep w 2 t) S (w.1 39))).1))) (wA (wA w 38 (snL (w.1 2 4) (w.1 2 5) (fun k => vReach w 2 (vStr w 2 (nI M) (nI k)) t) (vStep w 2 t) step S M 99 0 99 (dwF w t M 99 ((rMeas w t).1 38)) (fiE (w.1 2 4) (w.1 2 5) (dwF w t M 99 ((rMeas w t).1 38)) step (vStep w 2 t) S (w.1 39))).2.1) 39 (snL (w.1 2 4) (w.1 2 5) (fun k => vReach w 2 (vStr w 2 (nI M) (nI k)) t) (vStep w 2 t) step S M 99 0 99 (dwF w t M 99 ((rMeas w t).1 38)) (fiE (w.1 2 4) (w.1 2 5) (dwF w t M 99 ((rMeas w t).1 38)) step (vStep w 2 t) S (w.1 39))).2.2) else Q (some (.int (-1))) (wA (wA w 38 (dwF w t M 99 ((rMeas w t).1 38))) 39 (fiE (w.1 2 4) (w.1 2 5) (dwF w t M 99 ((rMeas w t).1 38)) step (vStep w 2 t) S (w.1 39)))) := by
  rw [Cl_go (L := [some (.ref 37), some (.int t), some (.int (nI S)), some (.int step), some (.int (nI M)), none, none, none, none]) rfl]
  have hI2 : vI (rMeas w t) 2 := by rw [vSame_I rM_1]; exact hI
  have e3 : dwF (rMeas w t) t M 99 ((rMeas w t).1 38) = dwF w t M 99 ((rMeas w t).1 38) := by
    unfold dwF
    rw [vStr_same rM_1, vReach_same rM_1]
  have e4 : ∀ f g, wA (wA (rMeas w t) 38 f) 39 g = wA (wA w 38 f) 39 g := fun f g => by unfold rMeas; rw [wA_wA]
  have e5 : ∀ f g f2 g2, wA (wA (wA (wA w 38 f) 39 g) 38 f2) 39 g2 = wA (wA w 38 f2) 39 g2 := fun f g f2 g2 => by
    refine Prod.ext (funext fun q => ?_) rfl
    simp only [wA]
    by_cases z1 : q = 39 <;> by_cases z2 : q = 38 <;> simp [z1, z2]
  have hs2 : ∀ f g, vSame 2 w (wA (wA w 38 f) 39 g) := fun f g q a b => by
    rw [wA_o (by omega), wA_o (by omega)]
  have h := fun f g a8 => strL (d := d) (Q := Q) (t := t) (step := step) hS hM hI 99 0 0 99 (wA (wA w 38 f) 39 g) a8 (hs2 f g) rfl (by omega) (by omega)
  simp only [nI_0, show nI 99 = 99 from rfl, wA_s, wA_o n38_39, e5] at h
  simp only [s31_0, s31_1, s31_2, s31_5, s31_6, s31_7, s31_8, s31_9, s31_11, s31_13, s31_16, s31_19, s31_20, s31_21, s31_22, s31_24, s31_26, s31_28, s31_29, s31_31, s31_33, s31_35, s31_38, s31_40, s31_42, s31_43, s31_44, s31_47, s31_49, s31_51, s31_52, s31_53, s31_54, s31_56, s31_57, s31_58, s31_59, s31_60, s31_62, s31_64, s31_67, s31_70, s31_72, s31_74, s31_77, s31_79, s31_81, s31_84, s31_87, s31_89, gF_i, gF_r, gP_f, gP_t, aRd_1, aRd_4, aKd_e, oo_s, z0, z1, okP_n, okP_i, okP_r, vtl, vtn, true_and, and_true, bI_ite, bI_01, F2_9, F2_15, F2_18, F2_73, F2_57, F2_70, F2_80, F2_105, P2_73, P2_80, P2_105, cs_n, Nat.zero_le, cs_i, cs_r, cs_l, Nat.reduceAdd, Nat.reduceLeDiff, R_2, iv2, c2_measure hI, c2_doesWith hI2 hS hM, e3, e4, rM_o n2_38, rM_o n39_38, vStep_same rM_1, h]
  by_cases h4 : fiE (w.1 2 4) (w.1 2 5) (dwF w t M 99 ((rMeas w t).1 38)) step (vStep w 2 t) S (w.1 39) S = step
  · simp only [if_pos h4, decide_eq_true h4, decide_true, decide_false, not_true_eq_false, not_false_eq_true, Bool.and_true, Bool.true_and, Bool.and_false, Bool.false_and, Bool.or_true, Bool.true_or, Bool.or_false, Bool.false_or, Bool.not_true, Bool.not_false, ite_true, ite_false, if_true, if_false, Bool.false_eq_true, reduceIte, decide_not, and_true, true_and, and_false, false_and, or_true, true_or, or_false, false_or, not_false, not_true]
  · simp only [if_neg h4, decide_eq_false h4, decide_true, decide_false, not_true_eq_false, not_false_eq_true, Bool.and_true, Bool.true_and, Bool.and_false, Bool.false_and, Bool.or_true, Bool.true_or, Bool.or_false, Bool.false_or, Bool.not_true, Bool.not_false, ite_true, ite_false, if_true, if_false, Bool.false_eq_true, reduceIte, decide_not, and_true, true_and, and_false, false_and, or_true, true_or, or_false, false_or, not_false, not_true]
theorem digL {S : Nat} (hS : S < 256) : ∀ (m i : Nat) (a : Int32), i + m = 8 → Tr d 41 4 [some (.int (nI S)), some (.int a), some (.int (nI i))] [] w Q = Q (some (.int (dgL S i m a))) w := by
  intro m
  induction m with
  | zero =>
    intro i a hi
    have h1 : ¬ nI i < 8 := by rw [nI_l8 (by omega)]; omega
    show Go d 41 4 _ _ _ _ = _
    simp only [s41_0, s41_1, s41_2, s41_3, s41_4, s41_5, s41_8, s41_9, s41_12, s41_13, s41_14, s41_15, s41_16, s41_17, s41_20, s41_21, s41_24, s41_25, s41_26, s41_27, s41_28, s41_31, s41_34, s41_35, gF_i, gF_r, gP_f, gP_t, aRd_1, aRd_4, aKd_e, oo_s, z0, z1, okP_n, okP_i, okP_r, vtl, vtn, true_and, and_true, bI_ite, bI_01, N_102, n8, h1, decide_true, decide_false, not_true_eq_false, not_false_eq_true, Bool.and_true, Bool.true_and, Bool.and_false, Bool.false_and, Bool.or_true, Bool.true_or, Bool.or_false, Bool.false_or, Bool.not_true, Bool.not_false, ite_true, ite_false, if_true, if_false, Bool.false_eq_true, reduceIte, decide_not, and_true, true_and, and_false, false_and, or_true, true_or, or_false, false_or, not_false, not_true, dgL]
  | succ m ih =>
    intro i a hi
    have hi8 : i < 8 := by omega
    have h1 : nI i < 8 := by rw [nI_l8 (by omega)]; omega
    have h9 := sb_bit S hS i hi8
    show Go d 41 4 _ _ _ _ = _
    unfold dgL
    by_cases h2 : S.testBit i = true
    · have h3 : ¬ ((nI S >>> (nI i &&& 31)) &&& 1 = 0) := fun z => by rw [h9.mp z] at h2; cases h2
      rw [if_pos h2]
      simp only [s41_0, s41_1, s41_2, s41_3, s41_4, s41_5, s41_8, s41_9, s41_12, s41_13, s41_14, s41_15, s41_16, s41_17, s41_20, s41_21, s41_24, s41_25, s41_26, s41_27, s41_28, s41_31, s41_34, s41_35, gF_i, gF_r, gP_f, gP_t, aRd_1, aRd_4, aKd_e, oo_s, z0, z1, okP_n, okP_i, okP_r, vtl, vtn, true_and, and_true, bI_ite, bI_01, N_102, A_102, n8, h1, decide_true, decide_false, not_true_eq_false, not_false_eq_true, Bool.and_true, Bool.true_and, Bool.and_false, Bool.false_and, Bool.or_true, Bool.true_or, Bool.or_false, Bool.false_or, Bool.not_true, Bool.not_false, ite_true, ite_false, if_true, if_false, Bool.false_eq_true, reduceIte, decide_not, and_true, true_and, and_false, false_and, or_true, true_or, or_false, false_or, not_false, not_true, if_neg h3, nI_inb (show i < 2 ^ 31 by omega) hi8, nI_cl (show i < 2 ^ 31 by omega), nI_1, ih (i + 1) _ (by omega)]
      rfl
    · have h3 : (nI S >>> (nI i &&& 31)) &&& 1 = 0 := h9.mpr (by simpa using h2)
      rw [if_neg h2]
      simp only [s41_0, s41_1, s41_2, s41_3, s41_4, s41_5, s41_8, s41_9, s41_12, s41_13, s41_14, s41_15, s41_16, s41_17, s41_20, s41_21, s41_24, s41_25, s41_26, s41_27, s41_28, s41_31, s41_34, s41_35, gF_i, gF_r, gP_f, gP_t, aRd_1, aRd_4, aKd_e, oo_s, z0, z1, okP_n, okP_i, okP_r, vtl, vtn, true_and, and_true, bI_ite, bI_01, N_102, n8, h1, decide_true, decide_false, not_true_eq_false, not_false_eq_true, Bool.and_true, Bool.true_and, Bool.and_false, Bool.false_and, Bool.or_true, Bool.true_or, Bool.or_false, Bool.false_or, Bool.not_true, Bool.not_false, ite_true, ite_false, if_true, if_false, Bool.false_eq_true, reduceIte, decide_not, and_true, true_and, and_false, false_and, or_true, true_or, or_false, false_or, not_false, not_true, if_pos h3, nI_1, ih (i + 1) _ (by omega)]
theorem c3_digitsOf {S : Nat} (hS : S < 256) : Cl d 41 [.int (nI S)] w Q = Q (some (.int (nI (digS S)))) w := by
  rw [Cl_go (L := [some (.int (nI S)), none, none]) rfl]
  have h := digL (d := d) (Q := Q) (w := w) hS 8 0 0 rfl
  rw [nI_0, dgL_dig S hS] at h
  simp only [s41_0, s41_1, s41_2, s41_3, s41_4, s41_5, s41_8, s41_9, s41_12, s41_13, s41_14, s41_15, s41_16, s41_17, s41_20, s41_21, s41_24, s41_25, s41_26, s41_27, s41_28, s41_31, s41_34, s41_35, gF_i, gF_r, gP_f, gP_t, aRd_1, aRd_4, aKd_e, oo_s, z0, z1, okP_n, okP_i, okP_r, vtl, vtn, true_and, and_true, bI_ite, bI_01, h]
theorem finL {i step : Int32} {t wo : Int32} {A : Nat} (hA : A < 256) : ∀ (m c : Nat) (w : hW), c + m = A + 1 → Tr (d + 1) 40 75 [some (.ref 40), some (.int i), some (.int (nI A)), some (.int t), some (.int step), some (.int wo), some (.int (nI c))] [] w Q = Q (some (.int 1)) (wA w 42 (fun j => if c ≤ j ∧ j ≤ A then gnF wo i (w.1 39) step j else w.1 42 j)) := by
  intro m
  induction m with
  | zero =>
    intro c w hc
    have h1 : nI A < nI c := by rw [nIlt (by omega), nI_toInt (by omega)]; omega
    show Go (d + 1) 40 75 _ _ _ _ = _
    simp only [s40_0, s40_1, s40_4, s40_7, s40_8, s40_9, s40_12, s40_13, s40_14, s40_17, s40_20, s40_21, s40_22, s40_25, s40_27, s40_28, s40_31, s40_34, s40_35, s40_36, s40_39, s40_41, s40_42, s40_45, s40_46, s40_48, s40_51, s40_54, s40_55, s40_58, s40_59, s40_60, s40_62, s40_65, s40_67, s40_70, s40_71, s40_72, s40_73, s40_75, s40_77, s40_78, s40_81, s40_82, s40_85, s40_87, s40_88, s40_91, s40_93, s40_96, s40_98, s40_101, s40_103, s40_105, s40_106, s40_107, s40_108, s40_109, s40_111, s40_114, s40_115, s40_116, s40_119, s40_120, s40_121, s40_124, s40_127, s40_128, gF_i, gF_r, gP_f, gP_t, aRd_1, aRd_4, aKd_e, oo_s, z0, z1, okP_n, okP_i, okP_r, vtl, vtn, true_and, and_true, bI_ite, bI_01, F3_9, F3_15, F3_18, F3_22, F3_64, F3_42, F3_38, P3_64, P3_42, cs_n, Nat.zero_le, cs_i, cs_r, cs_l, Nat.reduceAdd, Nat.reduceLeDiff, h1, decide_true, decide_false, not_true_eq_false, not_false_eq_true, Bool.and_true, Bool.true_and, Bool.and_false, Bool.false_and, Bool.or_true, Bool.true_or, Bool.or_false, Bool.false_or, Bool.not_true, Bool.not_false, ite_true, ite_false, if_true, if_false, Bool.false_eq_true, reduceIte, decide_not, and_true, true_and, and_false, false_and, or_true, true_or, or_false, false_or, not_false, not_true]
    rw [show (fun j => if c ≤ j ∧ j ≤ A then gnF wo i (w.1 39) step j else w.1 42 j) = w.1 42 from funext fun j => by rw [if_neg (show ¬ (c ≤ j ∧ j ≤ A) by omega)], wA_id]
  | succ m ih =>
    intro c w hc
    have hc2 : c < 256 := by omega
    have h1 : ¬ nI A < nI c := by rw [nIlt (by omega), nI_toInt (by omega)]; omega
    have n3942 : (39 : Nat) ≠ 42 := by decide
    have hfin : ∀ x : Int32, x = gnF wo i (w.1 39) step c → wA (wI w 42 c x) 42 (fun j => if c + 1 ≤ j ∧ j ≤ A then gnF wo i (w.1 39) step j else (wI w 42 c x).1 42 j) = wA w 42 (fun j => if c ≤ j ∧ j ≤ A then gnF wo i (w.1 39) step j else w.1 42 j) := by
      intro x hx
      rw [wI_A, wA_wA, wA_s]
      congr 1
      funext j
      by_cases hj : j = c
      · subst hj
        rw [if_neg (show ¬ (j + 1 ≤ j ∧ j ≤ A) by omega), if_pos (show j ≤ j ∧ j ≤ A by omega), ← hx]
        simp [upd]
      · by_cases h6 : c + 1 ≤ j ∧ j ≤ A
        · rw [if_pos h6, if_pos (show c ≤ j ∧ j ≤ A by omega)]
        · rw [if_neg h6, if_neg (show ¬ (c ≤ j ∧ j ≤ A) by omega)]
          simp [upd, hj]
    show Go (d + 1) 40 75 _ _ _ _ = _
    by_cases h4 : w.1 39 c = step
    · simp only [s40_0, s40_1, s40_4, s40_7, s40_8, s40_9, s40_12, s40_13, s40_14, s40_17, s40_20, s40_21, s40_22, s40_25, s40_27, s40_28, s40_31, s40_34, s40_35, s40_36, s40_39, s40_41, s40_42, s40_45, s40_46, s40_48, s40_51, s40_54, s40_55, s40_58, s40_59, s40_60, s40_62, s40_65, s40_67, s40_70, s40_71, s40_72, s40_73, s40_75, s40_77, s40_78, s40_81, s40_82, s40_85, s40_87, s40_88, s40_91, s40_93, s40_96, s40_98, s40_101, s40_103, s40_105, s40_106, s40_107, s40_108, s40_109, s40_111, s40_114, s40_115, s40_116, s40_119, s40_120, s40_121, s40_124, s40_127, s40_128, gF_i, gF_r, gP_f, gP_t, aRd_1, aRd_4, aKd_e, oo_s, z0, z1, okP_n, okP_i, okP_r, vtl, vtn, true_and, and_true, bI_ite, bI_01, F3_9, F3_15, F3_18, F3_22, F3_64, F3_42, F3_38, P3_64, P3_42, cs_n, Nat.zero_le, cs_i, cs_r, cs_l, Nat.reduceAdd, Nat.reduceLeDiff, h1, R_2, A_42, nI_inb (show c < 2 ^ 31 by omega) hc2, nI_cl (show c < 2 ^ 31 by omega), c2_endFound hc2, h4, c3_digitsOf hc2, nI_1, decide_true, decide_false, not_true_eq_false, not_false_eq_true, Bool.and_true, Bool.true_and, Bool.and_false, Bool.false_and, Bool.or_true, Bool.true_or, Bool.or_false, Bool.false_or, Bool.not_true, Bool.not_false, ite_true, ite_false, if_true, if_false, Bool.false_eq_true, reduceIte, decide_not, and_true, true_and, and_false, false_and, or_true, true_or, or_false, false_or, not_false, not_true]
      rw [ih (c + 1) _ (by omega), wI_pf n3942, ← hfin (wo * 390625 - (i + 1) * nI (digS c)) (by unfold gnF; rw [if_pos h4])]
    · simp only [s40_0, s40_1, s40_4, s40_7, s40_8, s40_9, s40_12, s40_13, s40_14, s40_17, s40_20, s40_21, s40_22, s40_25, s40_27, s40_28, s40_31, s40_34, s40_35, s40_36, s40_39, s40_41, s40_42, s40_45, s40_46, s40_48, s40_51, s40_54, s40_55, s40_58, s40_59, s40_60, s40_62, s40_65, s40_67, s40_70, s40_71, s40_72, s40_73, s40_75, s40_77, s40_78, s40_81, s40_82, s40_85, s40_87, s40_88, s40_91, s40_93, s40_96, s40_98, s40_101, s40_103, s40_105, s40_106, s40_107, s40_108, s40_109, s40_111, s40_114, s40_115, s40_116, s40_119, s40_120, s40_121, s40_124, s40_127, s40_128, gF_i, gF_r, gP_f, gP_t, aRd_1, aRd_4, aKd_e, oo_s, z0, z1, okP_n, okP_i, okP_r, vtl, vtn, true_and, and_true, bI_ite, bI_01, F3_9, F3_15, F3_18, F3_22, F3_64, F3_42, F3_38, P3_64, P3_42, cs_n, Nat.zero_le, cs_i, cs_r, cs_l, Nat.reduceAdd, Nat.reduceLeDiff, h1, R_2, A_42, nI_inb (show c < 2 ^ 31 by omega) hc2, nI_cl (show c < 2 ^ 31 by omega), c2_endFound hc2, h4, nI_1, decide_true, decide_false, not_true_eq_false, not_false_eq_true, Bool.and_true, Bool.true_and, Bool.and_false, Bool.false_and, Bool.or_true, Bool.true_or, Bool.or_false, Bool.false_or, Bool.not_true, Bool.not_false, ite_true, ite_false, if_true, if_false, Bool.false_eq_true, reduceIte, decide_not, and_true, true_and, and_false, false_and, or_true, true_or, or_false, false_or, not_false, not_true]
      rw [ih (c + 1) _ (by omega), wI_pf n3942, ← hfin (-1) (by unfold gnF; rw [if_neg h4])]
theorem c3_findGains (hI : vI w 2) {i : Int32} {A : Nat} (hA : A < 256) : Cl (d + 5) 40 [.ref 40, .int i, .int (nI A)] w Q = Q (some (.int (bI (fgOk w i A)))) (fgW w i A) := by
  rw [Cl_go (L := [some (.ref 40), some (.int i), some (.int (nI A)), none, none, none, none]) rfl]
  have hT : tI w 7 := vI_5 hI
  have h := fun w' wo => finL (d := d + 4) (Q := Q) (i := i) (step := tCell w 7 i 1) (t := tCell w 7 i 0) (wo := wo) hA (A + 1) 0 w' (by omega)
  simp only [nI_0] at h
  have e : fiE (w.1 2 4) (w.1 2 5) ((rMeas w (tCell w 7 i 0)).1 38) (tCell w 7 i 1) (vStep w 2 (tCell w 7 i 0)) A (w.1 39) = fgE w i A := rfl
  simp only [s40_0, s40_1, s40_4, s40_7, s40_8, s40_9, s40_12, s40_13, s40_14, s40_17, s40_20, s40_21, s40_22, s40_25, s40_27, s40_28, s40_31, s40_34, s40_35, s40_36, s40_39, s40_41, s40_42, s40_45, s40_46, s40_48, s40_51, s40_54, s40_55, s40_58, s40_59, s40_60, s40_62, s40_65, s40_67, s40_70, s40_71, s40_72, s40_73, s40_75, s40_77, s40_78, s40_81, s40_82, s40_85, s40_87, s40_88, s40_91, s40_93, s40_96, s40_98, s40_101, s40_103, s40_105, s40_106, s40_107, s40_108, s40_109, s40_111, s40_114, s40_115, s40_116, s40_119, s40_120, s40_121, s40_124, s40_127, s40_128, gF_i, gF_r, gP_f, gP_t, aRd_1, aRd_4, aKd_e, oo_s, z0, z1, okP_n, okP_i, okP_r, vtl, vtn, true_and, and_true, bI_ite, bI_01, F3_9, F3_15, F3_18, F3_22, F3_64, F3_42, F3_38, P3_64, P3_42, cs_n, Nat.zero_le, cs_i, cs_r, cs_l, Nat.reduceAdd, Nat.reduceLeDiff, iv2, it7, vl_rcv iv2, tb_rcv it7, R_2, hT, c5_cell, c6_isOnward iv2 hI, c2_endOf hI hA, e, h]
  unfold fgW
  by_cases h1 : vOn w 2 (tCell w 7 i 0) (tCell w 7 i 1) = true
  · by_cases h2 : fgE w i A A = tCell w 7 i 1
    · have h3 : fgOk w i A = true := by simp only [fgOk, h1, h2, decide_true, decide_false, not_true_eq_false, not_false_eq_true, Bool.and_true, Bool.true_and, Bool.and_false, Bool.false_and, Bool.or_true, Bool.true_or, Bool.or_false, Bool.false_or, Bool.not_true, Bool.not_false, ite_true, ite_false, if_true, if_false, Bool.false_eq_true, reduceIte, decide_not, and_true, true_and, and_false, false_and, or_true, true_or, or_false, false_or, not_false, not_true]
      have n4238 : (42 : Nat) ≠ 39 := by decide
      have n4239 : (42 : Nat) ≠ 38 := by decide
      simp only [h1, h2, h3, decide_true, decide_false, not_true_eq_false, not_false_eq_true, Bool.and_true, Bool.true_and, Bool.and_false, Bool.false_and, Bool.or_true, Bool.true_or, Bool.or_false, Bool.false_or, Bool.not_true, Bool.not_false, ite_true, ite_false, if_true, if_false, Bool.false_eq_true, reduceIte, decide_not, and_true, true_and, and_false, false_and, or_true, true_or, or_false, false_or, not_false, not_true, bI, wA_s, wA_o n4238, rM_o n4239]
    · have h3 : fgOk w i A = false := by simp only [fgOk, h1, h2, decide_true, decide_false, not_true_eq_false, not_false_eq_true, Bool.and_true, Bool.true_and, Bool.and_false, Bool.false_and, Bool.or_true, Bool.true_or, Bool.or_false, Bool.false_or, Bool.not_true, Bool.not_false, ite_true, ite_false, if_true, if_false, Bool.false_eq_true, reduceIte, decide_not, and_true, true_and, and_false, false_and, or_true, true_or, or_false, false_or, not_false, not_true]
      simp only [h1, h2, h3, decide_true, decide_false, not_true_eq_false, not_false_eq_true, Bool.and_true, Bool.true_and, Bool.and_false, Bool.false_and, Bool.or_true, Bool.true_or, Bool.or_false, Bool.false_or, Bool.not_true, Bool.not_false, ite_true, ite_false, if_true, if_false, Bool.false_eq_true, reduceIte, decide_not, and_true, true_and, and_false, false_and, or_true, true_or, or_false, false_or, not_false, not_true, bI]
  · have h3 : fgOk w i A = false := by simp only [fgOk, h1, decide_true, decide_false, not_true_eq_false, not_false_eq_true, Bool.and_true, Bool.true_and, Bool.and_false, Bool.false_and, Bool.or_true, Bool.true_or, Bool.or_false, Bool.false_or, Bool.not_true, Bool.not_false, ite_true, ite_false, if_true, if_false, Bool.false_eq_true, reduceIte, decide_not, and_true, true_and, and_false, false_and, or_true, true_or, or_false, false_or, not_false, not_true]
    simp only [h1, h3, decide_true, decide_false, not_true_eq_false, not_false_eq_true, Bool.and_true, Bool.true_and, Bool.and_false, Bool.false_and, Bool.or_true, Bool.true_or, Bool.or_false, Bool.false_or, Bool.not_true, Bool.not_false, ite_true, ite_false, if_true, if_false, Bool.false_eq_true, reduceIte, decide_not, and_true, true_and, and_false, false_and, or_true, true_or, or_false, false_or, not_false, not_true, bI]
theorem c3_worthMet : Cl d 38 [.ref 40] w Q = Q (some (.int ((w.1 40 4 + 390625 - 1) / 390625))) w := by
  rw [Cl_go (L := [some (.ref 40)]) rfl]
  have o : ¬ ((390625 : Int32) = 0) := by decide
  simp only [s38_0, s38_1, s38_4, s38_6, s38_7, s38_8, s38_9, s38_11, s38_12, gF_i, gF_r, gP_f, gP_t, aRd_1, aRd_4, aKd_e, oo_s, z0, z1, okP_n, okP_i, okP_r, vtl, vtn, true_and, and_true, bI_ite, bI_01, F3_9, F3_15, F3_18, F3_22, F3_64, F3_42, F3_38, P3_64, P3_42, o, not_false_eq_true, true_and]
end

/-! CONTRACTS of Relay (class 2), the rest -/
def ftL (fr tt : Int32) (F : Nat → Int32) (p : Int32) (L : Nat) (step : Int32) : Nat → Nat → (Nat → Int32) → Int32 × (Nat → Int32)
  | _, 0, E => (-1, E)
  | i, m + 1, E => if L.testBit i then (if fiE fr tt F step (onw fr tt p (F i) step) (clr L i) E (clr L i) = step then (nI i, fiE fr tt F step (onw fr tt p (F i) step) (clr L i) E) else ftL fr tt F p L step (i + 1) m (fiE fr tt F step (onw fr tt p (F i) step) (clr L i) E)) else ftL fr tt F p L step (i + 1) m E
theorem ftL_rng (fr tt : Int32) (F : Nat → Int32) (p : Int32) (L : Nat) (step : Int32) : ∀ (m i : Nat) (E : Nat → Int32), i + m = 8 → (ftL fr tt F p L step i m E).1 = -1 ∨ ∃ j, j < 8 ∧ L.testBit j = true ∧ (ftL fr tt F p L step i m E).1 = nI j
  | 0, i, E, h => Or.inl rfl
  | m + 1, i, E, h => by
    unfold ftL
    split
    · split
      · exact Or.inr ⟨i, by omega, by assumption, rfl⟩
      · exact ftL_rng fr tt F p L step m (i + 1) _ (by omega)
    · exact ftL_rng fr tt F p L step m (i + 1) _ (by omega)
def plL (fr tt : Int32) (F : Nat → Int32) (step : Int32) : Nat → Int32 → Nat → Int32 → (Nat → Int32) → Int32 × (Nat → Int32)
  | 0, _, _, man, E => (man, E)
  | k + 1, p, L, _, E => if (ftL fr tt F p L step 0 8 E).1 = -1 then (-1, (ftL fr tt F p L step 0 8 E).2) else plL fr tt F step k (onw fr tt p (F (ftL fr tt F p L step 0 8 E).1.toNatClampNeg) step) (clr L (ftL fr tt F p L step 0 8 E).1.toNatClampNeg) (ftL fr tt F p L step 0 8 E).1 (ftL fr tt F p L step 0 8 E).2
def fbL (F : Nat → Int32) (had : Int32) : Nat → Nat → Int32 → Int32 → Int32
  | _, 0, best, _ => best
  | i, m + 1, best, most => if nI i = had then fbL F had (i + 1) m best most else if most < F i then fbL F had (i + 1) m (nI i) (F i) else fbL F had (i + 1) m best most
theorem fbL_rng (F : Nat → Int32) (had : Int32) : ∀ (m i : Nat) (best most : Int32), i + m ≤ 8 → (best = -1 ∨ ∃ j, j < 8 ∧ best = nI j) → fbL F had i m best most = -1 ∨ ∃ j, j < 8 ∧ fbL F had i m best most = nI j
  | 0, i, best, most, _, h => h
  | m + 1, i, best, most, hi, h => by
    unfold fbL
    split
    · exact fbL_rng F had m (i + 1) _ _ (by omega) h
    · split
      · exact fbL_rng F had m (i + 1) _ _ (by omega) (Or.inr ⟨i, by omega, rfl⟩)
      · exact fbL_rng F had m (i + 1) _ _ (by omega) h
def fcL (F : Nat → Int32) (n : Nat) (step : Int32) : Nat → Nat → Int32 → Int32 → Int32
  | _, 0, _, _ => -1
  | c, m + 1, p, had => if fbL F had 0 n (-1) 0 = -1 then -1 else if p + F (fbL F had 0 n (-1) 0).toNatClampNeg < step then fcL F n step (c + 1) m (p + F (fbL F had 0 n (-1) 0).toNatClampNeg) (fbL F had 0 n (-1) 0) else nI c
def eqL (fr tt far step : Int32) : Nat → Nat → Int32 → Int32
  | _, 0, _ => -1
  | c, m + 1, p => if onw fr tt p far step = step then nI c else if onw fr tt p far step = p then -1 else eqL fr tt far step (c + 1) m (onw fr tt p far step)
def lmL (E : Nat → Int32) (S : Nat) : Nat → Nat → Int32 → Int32 → Int32
  | _, 0, least, _ => least
  | i, m + 1, least, most => if S.testBit i then (if most < E (clr S i) then lmL E S (i + 1) m (nI i) (E (clr S i)) else lmL E S (i + 1) m least most) else lmL E S (i + 1) m least most
/-- Integer.bitCount, as it counts -/
def iBits (x : Int32) : Int32 :=
  let u := fun (a n : Int32) => (a.toUInt32 >>> (n.toUInt32 &&& Int32.toUInt32 31)).toInt32
  let x1 := x - (u x 1 &&& 1431655765)
  let x2 := (x1 &&& 858993459) + (u x1 2 &&& 858993459)
  let x3 := (x2 + u x2 4) &&& 252645135
  let x4 := x3 + u x3 8
  let x5 := x4 + u x4 16
  x5 &&& 63
def cnt8 (S : Nat) : Nat := (List.range 8).countP (fun i => S.testBit i)
theorem iBits_cnt : ∀ S : Nat, S < 256 → iBits (nI S) = nI (cnt8 S) := by decide +kernel
def lsL (E : Nat → Int32) (step : Int32) : Nat → Nat → Nat → Nat
  | _, 0, least => least
  | i, m + 1, least => if (least = 0 ∨ cnt8 i < cnt8 least) ∧ E i = step then lsL E step (i + 1) m i else lsL E step (i + 1) m least
section
variable {d : Nat} {w : hW} {Q : aPost}
theorem cJ_bits {x : Int32} : Cl d 246 [.int x] w Q = Q (some (.int (iBits x))) w := by
  rw [Cl_go (L := [some (.int x)]) rfl]
  simp only [s246_0, s246_1, s246_2, s246_3, s246_4, s246_7, s246_8, s246_9, s246_10, s246_11, s246_14, s246_15, s246_16, s246_17, s246_18, s246_21, s246_22, s246_23, s246_24, s246_25, s246_26, s246_27, s246_28, s246_29, s246_32, s246_33, s246_34, s246_35, s246_36, s246_38, s246_39, s246_40, s246_41, s246_42, s246_43, s246_45, s246_46, s246_47, s246_48, s246_49, s246_51, s246_52, gF_i, gF_r, gP_f, gP_t, aRd_1, aRd_4, aKd_e, oo_s, z0, z1, okP_n, okP_i, okP_r, vtl, vtn, true_and, and_true, bI_ite, bI_01]
  rfl
theorem rM_1 {t : Int32} : vSame 2 w (rMeas w t) := vSame_wA (by omega)
theorem rM_s {t : Int32} : (rMeas w t).1 38 = fun j => if j < 8 then (if nI j < w.1 5 3 then vFar w 2 (nI j) t else 0) else w.1 38 j := wA_s
theorem rM_o {t : Int32} {q : Nat} (h : q ≠ 38) : (rMeas w t).1 q = w.1 q := wA_o h
theorem n2_38 : (2 : Nat) ≠ 38 := by decide
theorem n2_39 : (2 : Nat) ≠ 39 := by decide
theorem n38_39 : (38 : Nat) ≠ 39 := by decide
theorem n39_38 : (39 : Nat) ≠ 38 := by decide
theorem c2_endOf (hI : vI w 2) {t to : Int32} {S : Nat} (hS : S < 256) : Cl (d + 4) 22 [.ref 37, .int t, .int (nI S), .int to] w Q = Q (some (.int (fiE (w.1 2 4) (w.1 2 5) ((rMeas w t).1 38) to (vStep w 2 t) S (w.1 39) S))) (wA (rMeas w t) 39 (fiE (w.1 2 4) (w.1 2 5) ((rMeas w t).1 38) to (vStep w 2 t) S (w.1 39))) := by
  rw [Cl_go (L := [some (.ref 37), some (.int t), some (.int (nI S)), some (.int to)]) rfl]
  have hI2 : vI (rMeas w t) 2 := by rw [vSame_I rM_1]; exact hI
  simp only [s22_0, s22_1, s22_2, s22_5, s22_6, s22_7, s22_10, s22_11, s22_14, s22_15, s22_16, s22_19, gF_i, gF_r, gP_f, gP_t, aRd_1, aRd_4, aKd_e, oo_s, z0, z1, okP_n, okP_i, okP_r, vtl, vtn, true_and, and_true, bI_ite, bI_01, F2_9, F2_15, F2_18, F2_73, F2_57, F2_70, F2_80, F2_105, P2_73, P2_80, P2_105, cs_n, Nat.zero_le, cs_i, cs_r, cs_l, Nat.reduceAdd, Nat.reduceLeDiff, R_2, iv2, vl_rcv iv2, c2_measure hI, c6_stepOf iv2 hI2, c2_fill hS, vStep_same rM_1, rM_o n2_38, rM_o n39_38]
theorem firL {L : Nat} (hL : L < 256) {p step : Int32} : ∀ (m i : Nat) (w : hW) (a5 : Option Value), i + m = 8 → Tr (d + 4) 26 3 [some (.ref 37), some (.int p), some (.int (nI L)), some (.int step), some (.int (nI i)), a5] [] w Q = Q (some (.int (ftL (w.1 2 4) (w.1 2 5) (w.1 38) p L step i m (w.1 39)).1)) (wA w 39 (ftL (w.1 2 4) (w.1 2 5) (w.1 38) p L step i m (w.1 39)).2) := by
  intro m
  induction m with
  | zero =>
    intro i w a5 hi
    have h1 : ¬ nI i < 8 := by rw [nI_l8 (by omega)]; omega
    show Go (d + 4) 26 3 _ _ _ _ = _
    simp only [s26_0, s26_1, s26_3, s26_5, s26_7, s26_10, s26_11, s26_13, s26_14, s26_16, s26_17, s26_19, s26_20, s26_23, s26_24, s26_25, s26_26, s26_27, s26_30, s26_32, s26_33, s26_34, s26_37, s26_38, s26_40, s26_41, s26_42, s26_43, s26_44, s26_47, s26_48, s26_51, s26_53, s26_54, s26_57, s26_60, s26_61, gF_i, gF_r, gP_f, gP_t, aRd_1, aRd_4, aKd_e, oo_s, z0, z1, okP_n, okP_i, okP_r, vtl, vtn, true_and, and_true, bI_ite, bI_01, F2_9, F2_15, F2_18, F2_73, F2_57, F2_70, F2_80, F2_105, P2_73, P2_80, P2_105, cs_n, Nat.zero_le, cs_i, cs_r, cs_l, Nat.reduceAdd, Nat.reduceLeDiff, h1, decide_true, decide_false, not_true_eq_false, not_false_eq_true, Bool.and_true, Bool.true_and, Bool.and_false, Bool.false_and, Bool.or_true, Bool.true_or, Bool.or_false, Bool.false_or, Bool.not_true, Bool.not_false, ite_true, ite_false, if_true, if_false, Bool.false_eq_true, reduceIte, decide_not, and_true, true_and, and_false, false_and, or_true, true_or, or_false, false_or, not_false, not_true, ftL, wA_id]
  | succ m ih =>
    intro i w a5 hi
    have hi8 : i < 8 := by omega
    have h1 : nI i < 8 := by rw [nI_l8 (by omega)]; omega
    have h5 := nI_inb (show i < 2 ^ 31 by omega) hi8
    have h6 := nI_cl (show i < 2 ^ 31 by omega)
    have h7 := sb_clr L hL i hi8
    have h8 := clr_lt L hL i hi8
    have h9 := sb_and L hL i hi8
    show Go (d + 4) 26 3 _ _ _ _ = _
    unfold ftL
    by_cases h2 : L.testBit i = true
    · have h3 : ¬ (nI L &&& (1 <<< (nI i &&& 31)) = 0) := fun z => by rw [h9.mp z] at h2; cases h2
      rw [if_pos h2]
      by_cases h4 : fiE (w.1 2 4) (w.1 2 5) (w.1 38) step (onw (w.1 2 4) (w.1 2 5) p (w.1 38 i) step) (clr L i) (w.1 39) (clr L i) = step
      · rw [if_pos h4]
        simp only [s26_0, s26_1, s26_3, s26_5, s26_7, s26_10, s26_11, s26_13, s26_14, s26_16, s26_17, s26_19, s26_20, s26_23, s26_24, s26_25, s26_26, s26_27, s26_30, s26_32, s26_33, s26_34, s26_37, s26_38, s26_40, s26_41, s26_42, s26_43, s26_44, s26_47, s26_48, s26_51, s26_53, s26_54, s26_57, s26_60, s26_61, gF_i, gF_r, gP_f, gP_t, aRd_1, aRd_4, aKd_e, oo_s, z0, z1, okP_n, okP_i, okP_r, vtl, vtn, true_and, and_true, bI_ite, bI_01, F2_9, F2_15, F2_18, F2_73, F2_57, F2_70, F2_80, F2_105, P2_73, P2_80, P2_105, cs_n, Nat.zero_le, cs_i, cs_r, cs_l, Nat.reduceAdd, Nat.reduceLeDiff, h1, R_2, h7, c2_fill h8, c2_onward, A_38, h5, h6, nI_1, decide_true, decide_false, not_true_eq_false, not_false_eq_true, Bool.and_true, Bool.true_and, Bool.and_false, Bool.false_and, Bool.or_true, Bool.true_or, Bool.or_false, Bool.false_or, Bool.not_true, Bool.not_false, ite_true, ite_false, if_true, if_false, Bool.false_eq_true, reduceIte, decide_not, and_true, true_and, and_false, false_and, or_true, true_or, or_false, false_or, not_false, not_true, h3, if_pos h4]
      · rw [if_neg h4]
        simp only [s26_0, s26_1, s26_3, s26_5, s26_7, s26_10, s26_11, s26_13, s26_14, s26_16, s26_17, s26_19, s26_20, s26_23, s26_24, s26_25, s26_26, s26_27, s26_30, s26_32, s26_33, s26_34, s26_37, s26_38, s26_40, s26_41, s26_42, s26_43, s26_44, s26_47, s26_48, s26_51, s26_53, s26_54, s26_57, s26_60, s26_61, gF_i, gF_r, gP_f, gP_t, aRd_1, aRd_4, aKd_e, oo_s, z0, z1, okP_n, okP_i, okP_r, vtl, vtn, true_and, and_true, bI_ite, bI_01, F2_9, F2_15, F2_18, F2_73, F2_57, F2_70, F2_80, F2_105, P2_73, P2_80, P2_105, cs_n, Nat.zero_le, cs_i, cs_r, cs_l, Nat.reduceAdd, Nat.reduceLeDiff, h1, R_2, h7, c2_fill h8, c2_onward, A_38, h5, h6, nI_1, decide_true, decide_false, not_true_eq_false, not_false_eq_true, Bool.and_true, Bool.true_and, Bool.and_false, Bool.false_and, Bool.or_true, Bool.true_or, Bool.or_false, Bool.false_or, Bool.not_true, Bool.not_false, ite_true, ite_false, if_true, if_false, Bool.false_eq_true, reduceIte, decide_not, and_true, true_and, and_false, false_and, or_true, true_or, or_false, false_or, not_false, not_true, h3, if_neg h4, ih (i + 1) _ _ (by omega), wA_wA, wA_s, wA_o n2_39, wA_o n38_39]
    · have h3 : nI L &&& (1 <<< (nI i &&& 31)) = 0 := h9.mpr (by simpa using h2)
      rw [if_neg h2]
      simp only [s26_0, s26_1, s26_3, s26_5, s26_7, s26_10, s26_11, s26_13, s26_14, s26_16, s26_17, s26_19, s26_20, s26_23, s26_24, s26_25, s26_26, s26_27, s26_30, s26_32, s26_33, s26_34, s26_37, s26_38, s26_40, s26_41, s26_42, s26_43, s26_44, s26_47, s26_48, s26_51, s26_53, s26_54, s26_57, s26_60, s26_61, gF_i, gF_r, gP_f, gP_t, aRd_1, aRd_4, aKd_e, oo_s, z0, z1, okP_n, okP_i, okP_r, vtl, vtn, true_and, and_true, bI_ite, bI_01, F2_9, F2_15, F2_18, F2_73, F2_57, F2_70, F2_80, F2_105, P2_73, P2_80, P2_105, cs_n, Nat.zero_le, cs_i, cs_r, cs_l, Nat.reduceAdd, Nat.reduceLeDiff, h1, R_2, nI_1, decide_true, decide_false, not_true_eq_false, not_false_eq_true, Bool.and_true, Bool.true_and, Bool.and_false, Bool.false_and, Bool.or_true, Bool.true_or, Bool.or_false, Bool.false_or, Bool.not_true, Bool.not_false, ite_true, ite_false, if_true, if_false, Bool.false_eq_true, reduceIte, decide_not, and_true, true_and, and_false, false_and, or_true, true_or, or_false, false_or, not_false, not_true, h3, ih (i + 1) _ _ (by omega)]
theorem c2_firstThatDoes {L : Nat} (hL : L < 256) {p step : Int32} : Cl (d + 4) 26 [.ref 37, .int p, .int (nI L), .int step] w Q = Q (some (.int (ftL (w.1 2 4) (w.1 2 5) (w.1 38) p L step 0 8 (w.1 39)).1)) (wA w 39 (ftL (w.1 2 4) (w.1 2 5) (w.1 38) p L step 0 8 (w.1 39)).2) := by
  rw [Cl_go (L := [some (.ref 37), some (.int p), some (.int (nI L)), some (.int step), none, none]) rfl]
  have h := firL (d := d) (Q := Q) hL (p := p) (step := step) 8 0 w none rfl
  rw [nI_0] at h
  simp only [s26_0, s26_1, s26_3, s26_5, s26_7, s26_10, s26_11, s26_13, s26_14, s26_16, s26_17, s26_19, s26_20, s26_23, s26_24, s26_25, s26_26, s26_27, s26_30, s26_32, s26_33, s26_34, s26_37, s26_38, s26_40, s26_41, s26_42, s26_43, s26_44, s26_47, s26_48, s26_51, s26_53, s26_54, s26_57, s26_60, s26_61, gF_i, gF_r, gP_f, gP_t, aRd_1, aRd_4, aKd_e, oo_s, z0, z1, okP_n, okP_i, okP_r, vtl, vtn, true_and, and_true, bI_ite, bI_01, h]
theorem Qite {c : Prop} [Decidable c] {a b : Int32} : (if c then Q (some (.int a)) w else Q (some (.int b)) w) = Q (some (.int (if c then a else b))) w := by split <;> rfl
theorem m1_lt : (-1 : Int32) < 0 := by decide
theorem plaL {t st0 step : Int32} {I : Nat} (hI8 : I < 8) {s0 : Int32} : ∀ (m c : Nat) (w : hW) (p man : Int32) (L : Nat), L < 256 → c + m = I + 1 → Tr (d + 5) 25 24 [some (.ref 37), some (.int t), some (.int s0), some (.int step), some (.int (nI I)), some (.int p), some (.int (nI L)), some (.int man), some (.int (nI c))] [] w Q = Q (some (.int (plL (w.1 2 4) (w.1 2 5) (w.1 38) step m p L man (w.1 39)).1)) (wA w 39 (plL (w.1 2 4) (w.1 2 5) (w.1 38) step m p L man (w.1 39)).2) := by
  intro m
  induction m with
  | zero =>
    intro c w p man L hL hc
    have h1 : nI I < nI c := by rw [nIlt (by omega), nI_toInt (by omega)]; omega
    show Go (d + 5) 25 24 _ _ _ _ = _
    simp only [s25_0, s25_1, s25_2, s25_5, s25_6, s25_9, s25_10, s25_13, s25_15, s25_16, s25_18, s25_19, s25_21, s25_22, s25_24, s25_26, s25_28, s25_31, s25_33, s25_35, s25_38, s25_39, s25_41, s25_43, s25_44, s25_47, s25_49, s25_51, s25_54, s25_56, s25_58, s25_61, s25_62, s25_63, s25_64, s25_66, s25_67, s25_70, s25_72, s25_73, s25_74, s25_77, s25_79, s25_81, s25_82, s25_84, s25_85, s25_86, s25_87, s25_88, s25_90, s25_93, s25_96, s25_98, gF_i, gF_r, gP_f, gP_t, aRd_1, aRd_4, aKd_e, oo_s, z0, z1, okP_n, okP_i, okP_r, vtl, vtn, true_and, and_true, bI_ite, bI_01, F2_9, F2_15, F2_18, F2_73, F2_57, F2_70, F2_80, F2_105, P2_73, P2_80, P2_105, cs_n, Nat.zero_le, cs_i, cs_r, cs_l, Nat.reduceAdd, Nat.reduceLeDiff, h1, decide_true, decide_false, not_true_eq_false, not_false_eq_true, Bool.and_true, Bool.true_and, Bool.and_false, Bool.false_and, Bool.or_true, Bool.true_or, Bool.or_false, Bool.false_or, Bool.not_true, Bool.not_false, ite_true, ite_false, if_true, if_false, Bool.false_eq_true, reduceIte, decide_not, and_true, true_and, and_false, false_and, or_true, true_or, or_false, false_or, not_false, not_true, plL, wA_id]
  | succ m ih =>
    intro c w p man L hL hc
    have h1 : ¬ nI I < nI c := by rw [nIlt (by omega), nI_toInt (by omega)]; omega
    have h2 : nI c < 8 := by rw [nI_l8 (by omega)]; omega
    show Go (d + 5) 25 24 _ _ _ _ = _
    unfold plL
    rcases ftL_rng (w.1 2 4) (w.1 2 5) (w.1 38) p L step 8 0 (w.1 39) rfl with h3 | ⟨j, hj, -, h3⟩
    · rw [if_pos h3]
      simp only [s25_0, s25_1, s25_2, s25_5, s25_6, s25_9, s25_10, s25_13, s25_15, s25_16, s25_18, s25_19, s25_21, s25_22, s25_24, s25_26, s25_28, s25_31, s25_33, s25_35, s25_38, s25_39, s25_41, s25_43, s25_44, s25_47, s25_49, s25_51, s25_54, s25_56, s25_58, s25_61, s25_62, s25_63, s25_64, s25_66, s25_67, s25_70, s25_72, s25_73, s25_74, s25_77, s25_79, s25_81, s25_82, s25_84, s25_85, s25_86, s25_87, s25_88, s25_90, s25_93, s25_96, s25_98, gF_i, gF_r, gP_f, gP_t, aRd_1, aRd_4, aKd_e, oo_s, z0, z1, okP_n, okP_i, okP_r, vtl, vtn, true_and, and_true, bI_ite, bI_01, F2_9, F2_15, F2_18, F2_73, F2_57, F2_70, F2_80, F2_105, P2_73, P2_80, P2_105, cs_n, Nat.zero_le, cs_i, cs_r, cs_l, Nat.reduceAdd, Nat.reduceLeDiff, h1, h2, R_2, c2_firstThatDoes hL, decide_true, decide_false, not_true_eq_false, not_false_eq_true, Bool.and_true, Bool.true_and, Bool.and_false, Bool.false_and, Bool.or_true, Bool.true_or, Bool.or_false, Bool.false_or, Bool.not_true, Bool.not_false, ite_true, ite_false, if_true, if_false, Bool.false_eq_true, reduceIte, decide_not, and_true, true_and, and_false, false_and, or_true, true_or, or_false, false_or, not_false, not_true, h3, m1_lt]
    · have h4 : ¬ (nI j = -1) := by
        rw [i32_eq, nI_toInt (by omega)]
        have : (-1 : Int32).toInt = -1 := rfl
        omega
      have h5 : nI j < 8 := by rw [nI_l8 (by omega)]; exact hj
      rw [h3, if_neg h4, nI_cl (by omega)]
      simp only [s25_0, s25_1, s25_2, s25_5, s25_6, s25_9, s25_10, s25_13, s25_15, s25_16, s25_18, s25_19, s25_21, s25_22, s25_24, s25_26, s25_28, s25_31, s25_33, s25_35, s25_38, s25_39, s25_41, s25_43, s25_44, s25_47, s25_49, s25_51, s25_54, s25_56, s25_58, s25_61, s25_62, s25_63, s25_64, s25_66, s25_67, s25_70, s25_72, s25_73, s25_74, s25_77, s25_79, s25_81, s25_82, s25_84, s25_85, s25_86, s25_87, s25_88, s25_90, s25_93, s25_96, s25_98, gF_i, gF_r, gP_f, gP_t, aRd_1, aRd_4, aKd_e, oo_s, z0, z1, okP_n, okP_i, okP_r, vtl, vtn, true_and, and_true, bI_ite, bI_01, F2_9, F2_15, F2_18, F2_73, F2_57, F2_70, F2_80, F2_105, P2_73, P2_80, P2_105, cs_n, Nat.zero_le, cs_i, cs_r, cs_l, Nat.reduceAdd, Nat.reduceLeDiff, h1, h2, R_2, c2_firstThatDoes hL, decide_true, decide_false, not_true_eq_false, not_false_eq_true, Bool.and_true, Bool.true_and, Bool.and_false, Bool.false_and, Bool.or_true, Bool.true_or, Bool.or_false, Bool.false_or, Bool.not_true, Bool.not_false, ite_true, ite_false, if_true, if_false, Bool.false_eq_true, reduceIte, decide_not, and_true, true_and, and_false, false_and, or_true, true_or, or_false, false_or, not_false, not_true, h3, nI_neg (show j < 2 ^ 31 by omega), h5, A_38, nI_inb (show j < 2 ^ 31 by omega) hj, nI_cl (show j < 2 ^ 31 by omega), sb_clr L hL j hj, c2_onward, nI_1, ih (c + 1) _ _ _ _ (clr_lt L hL j hj) (by omega), wA_wA, wA_s, wA_o n2_39, wA_o n38_39]
theorem c2_placed (hI : vI w 2) {t step : Int32} {S I : Nat} (hS : S < 256) (hI8 : I < 8) : Cl (d + 5) 25 [.ref 37, .int t, .int (nI S), .int step, .int (nI I)] w Q = Q (some (.int (plL (w.1 2 4) (w.1 2 5) ((rMeas w t).1 38) step (I + 1) (vStep w 2 t) S (-1) (w.1 39)).1)) (wA (rMeas w t) 39 (plL (w.1 2 4) (w.1 2 5) ((rMeas w t).1 38) step (I + 1) (vStep w 2 t) S (-1) (w.1 39)).2) := by
  rw [Cl_go (L := [some (.ref 37), some (.int t), some (.int (nI S)), some (.int step), some (.int (nI I)), none, none, none, none]) rfl]
  have hI2 : vI (rMeas w t) 2 := by rw [vSame_I rM_1]; exact hI
  have h := plaL (d := d) (Q := Q) (t := t) (st0 := 0) (step := step) (s0 := nI S) hI8 (I + 1) 0 (rMeas w t) (vStep w 2 t) (-1) S hS (by omega)
  rw [nI_0] at h
  simp only [s25_0, s25_1, s25_2, s25_5, s25_6, s25_9, s25_10, s25_13, s25_15, s25_16, s25_18, s25_19, s25_21, s25_22, s25_24, s25_26, s25_28, s25_31, s25_33, s25_35, s25_38, s25_39, s25_41, s25_43, s25_44, s25_47, s25_49, s25_51, s25_54, s25_56, s25_58, s25_61, s25_62, s25_63, s25_64, s25_66, s25_67, s25_70, s25_72, s25_73, s25_74, s25_77, s25_79, s25_81, s25_82, s25_84, s25_85, s25_86, s25_87, s25_88, s25_90, s25_93, s25_96, s25_98, gF_i, gF_r, gP_f, gP_t, aRd_1, aRd_4, aKd_e, oo_s, z0, z1, okP_n, okP_i, okP_r, vtl, vtn, true_and, and_true, bI_ite, bI_01, F2_9, F2_15, F2_18, F2_73, F2_57, F2_70, F2_80, F2_105, P2_73, P2_80, P2_105, cs_n, Nat.zero_le, cs_i, cs_r, cs_l, Nat.reduceAdd, Nat.reduceLeDiff, R_2, iv2, vl_rcv iv2, c2_measure hI, c6_stepOf iv2 hI2, vStep_same rM_1, h, rM_o n2_38, rM_o n39_38]
theorem fbuL {had : Int32} (hI : vI w 2) : ∀ (m i : Nat) (best most : Int32), i + m = (w.1 5 3).toInt.toNat → Tr d 28 7 [some (.ref 37), some (.int had), some (.int best), some (.int most), some (.int (nI i))] [] w Q = Q (some (.int (fbL (w.1 38) had i m best most))) w := by
  have hw := hI.2.2.2.2.2.2.2.1
  simp only [Nat.reduceAdd] at hw
  intro m
  induction m with
  | zero =>
    intro i best most hi
    have h1 : ¬ nI i < w.1 5 3 := by rw [nIlt (by omega)]; omega
    show Go d 28 7 _ _ _ _ = _
    simp only [s28_0, s28_1, s28_2, s28_3, s28_4, s28_5, s28_7, s28_9, s28_11, s28_14, s28_16, s28_17, s28_20, s28_23, s28_26, s28_29, s28_31, s28_32, s28_35, s28_36, s28_39, s28_41, s28_42, s28_43, s28_46, s28_47, s28_50, s28_52, s28_53, s28_54, s28_56, s28_57, s28_60, s28_63, s28_64, gF_i, gF_r, gP_f, gP_t, aRd_1, aRd_4, aKd_e, oo_s, z0, z1, okP_n, okP_i, okP_r, vtl, vtn, true_and, and_true, bI_ite, bI_01, F2_9, F2_15, F2_18, F2_73, F2_57, F2_70, F2_80, F2_105, P2_73, P2_80, P2_105, cs_n, Nat.zero_le, cs_i, cs_r, cs_l, Nat.reduceAdd, Nat.reduceLeDiff, iv2, it5, h1, decide_true, decide_false, not_true_eq_false, not_false_eq_true, Bool.and_true, Bool.true_and, Bool.and_false, Bool.false_and, Bool.or_true, Bool.true_or, Bool.or_false, Bool.false_or, Bool.not_true, Bool.not_false, ite_true, ite_false, if_true, if_false, Bool.false_eq_true, reduceIte, decide_not, and_true, true_and, and_false, false_and, or_true, true_or, or_false, false_or, not_false, not_true, fbL]
    repeat' split
    all_goals rfl
  | succ m ih =>
    intro i best most hi
    have hi8 : i < 8 := by omega
    have h1 : nI i < w.1 5 3 := by rw [nIlt (by omega)]; omega
    have h2 : nI i < 8 := by rw [nI_l8 (by omega)]; omega
    have h5 := nI_inb (show i < 2 ^ 31 by omega) hi8
    have h6 := nI_cl (show i < 2 ^ 31 by omega)
    show Go d 28 7 _ _ _ _ = _
    simp only [s28_0, s28_1, s28_2, s28_3, s28_4, s28_5, s28_7, s28_9, s28_11, s28_14, s28_16, s28_17, s28_20, s28_23, s28_26, s28_29, s28_31, s28_32, s28_35, s28_36, s28_39, s28_41, s28_42, s28_43, s28_46, s28_47, s28_50, s28_52, s28_53, s28_54, s28_56, s28_57, s28_60, s28_63, s28_64, gF_i, gF_r, gP_f, gP_t, aRd_1, aRd_4, aKd_e, oo_s, z0, z1, okP_n, okP_i, okP_r, vtl, vtn, true_and, and_true, bI_ite, bI_01, F2_9, F2_15, F2_18, F2_73, F2_57, F2_70, F2_80, F2_105, P2_73, P2_80, P2_105, cs_n, Nat.zero_le, cs_i, cs_r, cs_l, Nat.reduceAdd, Nat.reduceLeDiff, iv2, it5, h1, h2, A_38, h5, h6, nI_1, ih (i + 1) _ _ (by omega), decide_true, decide_false, not_true_eq_false, not_false_eq_true, Bool.and_true, Bool.true_and, Bool.and_false, Bool.false_and, Bool.or_true, Bool.true_or, Bool.or_false, Bool.false_or, Bool.not_true, Bool.not_false, ite_true, ite_false, if_true, if_false, Bool.false_eq_true, reduceIte, decide_not, and_true, true_and, and_false, false_and, or_true, true_or, or_false, false_or, not_false, not_true, fbL, Qite]
theorem c2_farthestBut (hI : vI w 2) {had : Int32} : Cl d 28 [.ref 37, .int had] w Q = Q (some (.int (fbL (w.1 38) had 0 (w.1 5 3).toInt.toNat (-1) 0))) w := by
  rw [Cl_go (L := [some (.ref 37), some (.int had), none, none, none]) rfl]
  have h := fbuL (d := d) (Q := Q) (had := had) hI (w.1 5 3).toInt.toNat 0 (-1) 0 (by omega)
  rw [nI_0] at h
  simp only [s28_0, s28_1, s28_2, s28_3, s28_4, s28_5, s28_7, s28_9, s28_11, s28_14, s28_16, s28_17, s28_20, s28_23, s28_26, s28_29, s28_31, s28_32, s28_35, s28_36, s28_39, s28_41, s28_42, s28_43, s28_46, s28_47, s28_50, s28_52, s28_53, s28_54, s28_56, s28_57, s28_60, s28_63, s28_64, gF_i, gF_r, gP_f, gP_t, aRd_1, aRd_4, aKd_e, oo_s, z0, z1, okP_n, okP_i, okP_r, vtl, vtn, true_and, and_true, bI_ite, bI_01, h]
theorem i99 : (99 : Int32).toInt = 99 := rfl
theorem fewL (hI : vI w 2) {t step : Int32} : ∀ (m c : Nat) (p had : Int32) (a6 : Option Value), c + m = 100 → Tr (d + 1) 27 31 [some (.ref 37), some (.int t), some (.int step), some (.int p), some (.int had), some (.int (nI c)), a6] [] w Q = Q (some (.int (fcL (w.1 38) (w.1 5 3).toInt.toNat step c m p had))) w := by
  have hw := hI.2.2.2.2.2.2.2.1
  simp only [Nat.reduceAdd] at hw
  intro m
  induction m with
  | zero =>
    intro c p had a6 hc
    have h1 : 99 < nI c := by rw [i32_lt, nI_toInt (by omega), i99]; omega
    show Go (d + 1) 27 31 _ _ _ _ = _
    simp only [s27_0, s27_1, s27_2, s27_5, s27_6, s27_9, s27_10, s27_13, s27_14, s27_15, s27_18, s27_21, s27_22, s27_23, s27_26, s27_28, s27_29, s27_31, s27_33, s27_35, s27_38, s27_39, s27_41, s27_44, s27_46, s27_48, s27_51, s27_53, s27_55, s27_58, s27_59, s27_60, s27_61, s27_62, s27_65, s27_67, s27_68, s27_69, s27_70, s27_71, s27_72, s27_75, s27_77, s27_78, s27_80, s27_82, s27_85, s27_88, s27_89, gF_i, gF_r, gP_f, gP_t, aRd_1, aRd_4, aKd_e, oo_s, z0, z1, okP_n, okP_i, okP_r, vtl, vtn, true_and, and_true, bI_ite, bI_01, F2_9, F2_15, F2_18, F2_73, F2_57, F2_70, F2_80, F2_105, P2_73, P2_80, P2_105, cs_n, Nat.zero_le, cs_i, cs_r, cs_l, Nat.reduceAdd, Nat.reduceLeDiff, h1, decide_true, decide_false, not_true_eq_false, not_false_eq_true, Bool.and_true, Bool.true_and, Bool.and_false, Bool.false_and, Bool.or_true, Bool.true_or, Bool.or_false, Bool.false_or, Bool.not_true, Bool.not_false, ite_true, ite_false, if_true, if_false, Bool.false_eq_true, reduceIte, decide_not, and_true, true_and, and_false, false_and, or_true, true_or, or_false, false_or, not_false, not_true, fcL]
  | succ m ih =>
    intro c p had a6 hc
    have h1 : ¬ 99 < nI c := by rw [i32_lt, nI_toInt (by omega), i99]; omega
    show Go (d + 1) 27 31 _ _ _ _ = _
    unfold fcL
    rcases fbL_rng (w.1 38) had (w.1 5 3).toInt.toNat 0 (-1) 0 (by omega) (Or.inl rfl) with h3 | ⟨j, hj, h3⟩
    · rw [if_pos h3]
      simp only [s27_0, s27_1, s27_2, s27_5, s27_6, s27_9, s27_10, s27_13, s27_14, s27_15, s27_18, s27_21, s27_22, s27_23, s27_26, s27_28, s27_29, s27_31, s27_33, s27_35, s27_38, s27_39, s27_41, s27_44, s27_46, s27_48, s27_51, s27_53, s27_55, s27_58, s27_59, s27_60, s27_61, s27_62, s27_65, s27_67, s27_68, s27_69, s27_70, s27_71, s27_72, s27_75, s27_77, s27_78, s27_80, s27_82, s27_85, s27_88, s27_89, gF_i, gF_r, gP_f, gP_t, aRd_1, aRd_4, aKd_e, oo_s, z0, z1, okP_n, okP_i, okP_r, vtl, vtn, true_and, and_true, bI_ite, bI_01, F2_9, F2_15, F2_18, F2_73, F2_57, F2_70, F2_80, F2_105, P2_73, P2_80, P2_105, cs_n, Nat.zero_le, cs_i, cs_r, cs_l, Nat.reduceAdd, Nat.reduceLeDiff, h1, R_2, c2_farthestBut hI, decide_true, decide_false, not_true_eq_false, not_false_eq_true, Bool.and_true, Bool.true_and, Bool.and_false, Bool.false_and, Bool.or_true, Bool.true_or, Bool.or_false, Bool.false_or, Bool.not_true, Bool.not_false, ite_true, ite_false, if_true, if_false, Bool.false_eq_true, reduceIte, decide_not, and_true, true_and, and_false, false_and, or_true, true_or, or_false, false_or, not_false, not_true, h3, m1_lt]
    · have h4 : ¬ (nI j = -1) := by
        rw [i32_eq, nI_toInt (by omega)]
        have : (-1 : Int32).toInt = -1 := rfl
        omega
      have h5 : nI j < 8 := by rw [nI_l8 (by omega)]; exact hj
      rw [h3, if_neg h4, nI_cl (by omega)]
      simp only [s27_0, s27_1, s27_2, s27_5, s27_6, s27_9, s27_10, s27_13, s27_14, s27_15, s27_18, s27_21, s27_22, s27_23, s27_26, s27_28, s27_29, s27_31, s27_33, s27_35, s27_38, s27_39, s27_41, s27_44, s27_46, s27_48, s27_51, s27_53, s27_55, s27_58, s27_59, s27_60, s27_61, s27_62, s27_65, s27_67, s27_68, s27_69, s27_70, s27_71, s27_72, s27_75, s27_77, s27_78, s27_80, s27_82, s27_85, s27_88, s27_89, gF_i, gF_r, gP_f, gP_t, aRd_1, aRd_4, aKd_e, oo_s, z0, z1, okP_n, okP_i, okP_r, vtl, vtn, true_and, and_true, bI_ite, bI_01, F2_9, F2_15, F2_18, F2_73, F2_57, F2_70, F2_80, F2_105, P2_73, P2_80, P2_105, cs_n, Nat.zero_le, cs_i, cs_r, cs_l, Nat.reduceAdd, Nat.reduceLeDiff, h1, R_2, c2_farthestBut hI, decide_true, decide_false, not_true_eq_false, not_false_eq_true, Bool.and_true, Bool.true_and, Bool.and_false, Bool.false_and, Bool.or_true, Bool.true_or, Bool.or_false, Bool.false_or, Bool.not_true, Bool.not_false, ite_true, ite_false, if_true, if_false, Bool.false_eq_true, reduceIte, decide_not, and_true, true_and, and_false, false_and, or_true, true_or, or_false, false_or, not_false, not_true, h3, nI_neg (show j < 2 ^ 31 by omega), h5, A_38, nI_inb (show j < 2 ^ 31 by omega) hj, nI_cl (show j < 2 ^ 31 by omega), nI_1, ih (c + 1) _ _ _ (by omega), Qite]
theorem c2_fewestCarries (hI : vI w 2) {t step : Int32} : Cl (d + 4) 27 [.ref 37, .int t, .int step] w Q = Q (some (.int (fcL ((rMeas w t).1 38) (w.1 5 3).toInt.toNat step 1 99 (vStep w 2 t) (tCell w 3 t 4)))) (rMeas w t) := by
  rw [Cl_go (L := [some (.ref 37), some (.int t), some (.int step), none, none, none, none]) rfl]
  have hI2 : vI (rMeas w t) 2 := by rw [vSame_I rM_1]; exact hI
  have hT : tI (rMeas w t) 3 := vI_1 hI2
  have h := fewL (d := d + 3) (Q := Q) hI2 (t := t) (step := step) 99 1 (vStep w 2 t) (tCell w 3 t 4) none rfl
  rw [show nI 1 = 1 from rfl, rM_o (show (5 : Nat) ≠ 38 by decide)] at h
  have h2 : tCell (rMeas w t) 3 t 4 = tCell w 3 t 4 := vSame_1 (b := 2) rM_1
  simp only [s27_0, s27_1, s27_2, s27_5, s27_6, s27_9, s27_10, s27_13, s27_14, s27_15, s27_18, s27_21, s27_22, s27_23, s27_26, s27_28, s27_29, s27_31, s27_33, s27_35, s27_38, s27_39, s27_41, s27_44, s27_46, s27_48, s27_51, s27_53, s27_55, s27_58, s27_59, s27_60, s27_61, s27_62, s27_65, s27_67, s27_68, s27_69, s27_70, s27_71, s27_72, s27_75, s27_77, s27_78, s27_80, s27_82, s27_85, s27_88, s27_89, gF_i, gF_r, gP_f, gP_t, aRd_1, aRd_4, aKd_e, oo_s, z0, z1, okP_n, okP_i, okP_r, vtl, vtn, true_and, and_true, bI_ite, bI_01, F2_9, F2_15, F2_18, F2_73, F2_57, F2_70, F2_80, F2_105, P2_73, P2_80, P2_105, cs_n, Nat.zero_le, cs_i, cs_r, cs_l, Nat.reduceAdd, Nat.reduceLeDiff, R_2, iv2, it3, tb_rcv it3, vl_rcv iv2, c2_measure hI, c6_stepOf iv2 hI2, vStep_same rM_1, c5_cell it3 hT, h2, h]
theorem equL {t step s0 far : Int32} : ∀ (m c : Nat) (p : Int32) (a7 : Option Value), c + m = 100 → Tr (d + 2) 29 24 [some (.ref 37), some (.int t), some (.int step), some (.int s0), some (.int far), some (.int p), some (.int (nI c)), a7] [] w Q = Q (some (.int (eqL (w.1 2 4) (w.1 2 5) far step c m p))) w := by
  intro m
  induction m with
  | zero =>
    intro c p a7 hc
    have h1 : 99 < nI c := by rw [i32_lt, nI_toInt (by omega), i99]; omega
    show Go (d + 2) 29 24 _ _ _ _ = _
    simp only [s29_0, s29_1, s29_4, s29_5, s29_6, s29_9, s29_11, s29_12, s29_15, s29_16, s29_19, s29_21, s29_22, s29_24, s29_26, s29_28, s29_31, s29_32, s29_34, s29_36, s29_37, s29_40, s29_42, s29_44, s29_45, s29_48, s29_50, s29_51, s29_53, s29_55, s29_58, s29_59, s29_60, s29_62, s29_64, s29_67, s29_70, s29_71, gF_i, gF_r, gP_f, gP_t, aRd_1, aRd_4, aKd_e, oo_s, z0, z1, okP_n, okP_i, okP_r, vtl, vtn, true_and, and_true, bI_ite, bI_01, F2_9, F2_15, F2_18, F2_73, F2_57, F2_70, F2_80, F2_105, P2_73, P2_80, P2_105, cs_n, Nat.zero_le, cs_i, cs_r, cs_l, Nat.reduceAdd, Nat.reduceLeDiff, h1, decide_true, decide_false, not_true_eq_false, not_false_eq_true, Bool.and_true, Bool.true_and, Bool.and_false, Bool.false_and, Bool.or_true, Bool.true_or, Bool.or_false, Bool.false_or, Bool.not_true, Bool.not_false, ite_true, ite_false, if_true, if_false, Bool.false_eq_true, reduceIte, decide_not, and_true, true_and, and_false, false_and, or_true, true_or, or_false, false_or, not_false, not_true, eqL]
  | succ m ih =>
    intro c p a7 hc
    have h1 : ¬ 99 < nI c := by rw [i32_lt, nI_toInt (by omega), i99]; omega
    show Go (d + 2) 29 24 _ _ _ _ = _
    unfold eqL
    simp only [s29_0, s29_1, s29_4, s29_5, s29_6, s29_9, s29_11, s29_12, s29_15, s29_16, s29_19, s29_21, s29_22, s29_24, s29_26, s29_28, s29_31, s29_32, s29_34, s29_36, s29_37, s29_40, s29_42, s29_44, s29_45, s29_48, s29_50, s29_51, s29_53, s29_55, s29_58, s29_59, s29_60, s29_62, s29_64, s29_67, s29_70, s29_71, gF_i, gF_r, gP_f, gP_t, aRd_1, aRd_4, aKd_e, oo_s, z0, z1, okP_n, okP_i, okP_r, vtl, vtn, true_and, and_true, bI_ite, bI_01, F2_9, F2_15, F2_18, F2_73, F2_57, F2_70, F2_80, F2_105, P2_73, P2_80, P2_105, cs_n, Nat.zero_le, cs_i, cs_r, cs_l, Nat.reduceAdd, Nat.reduceLeDiff, h1, R_2, c2_onward, decide_true, decide_false, not_true_eq_false, not_false_eq_true, Bool.and_true, Bool.true_and, Bool.and_false, Bool.false_and, Bool.or_true, Bool.true_or, Bool.or_false, Bool.false_or, Bool.not_true, Bool.not_false, ite_true, ite_false, if_true, if_false, Bool.false_eq_true, reduceIte, decide_not, and_true, true_and, and_false, false_and, or_true, true_or, or_false, false_or, not_false, not_true, nI_1, ih (c + 1) _ _ (by omega), Qite]
theorem c2_equalsNeeded (hI : vI w 2) {t step s0 : Int32} : Cl (d + 2) 29 [.ref 37, .int t, .int step, .int s0] w Q = Q (some (.int (eqL (w.1 2 4) (w.1 2 5) (vReach w 2 s0 t) step 1 99 (vStep w 2 t)))) w := by
  rw [Cl_go (L := [some (.ref 37), some (.int t), some (.int step), some (.int s0), none, none, none, none]) rfl]
  have h := equL (d := d) (Q := Q) (w := w) (t := t) (step := step) (s0 := s0) (far := vReach w 2 s0 t) 99 1 (vStep w 2 t) none rfl
  rw [show nI 1 = 1 from rfl] at h
  simp only [s29_0, s29_1, s29_4, s29_5, s29_6, s29_9, s29_11, s29_12, s29_15, s29_16, s29_19, s29_21, s29_22, s29_24, s29_26, s29_28, s29_31, s29_32, s29_34, s29_36, s29_37, s29_40, s29_42, s29_44, s29_45, s29_48, s29_50, s29_51, s29_53, s29_55, s29_58, s29_59, s29_60, s29_62, s29_64, s29_67, s29_70, s29_71, gF_i, gF_r, gP_f, gP_t, aRd_1, aRd_4, aKd_e, oo_s, z0, z1, okP_n, okP_i, okP_r, vtl, vtn, true_and, and_true, bI_ite, bI_01, F2_9, F2_15, F2_18, F2_73, F2_57, F2_70, F2_80, F2_105, P2_73, P2_80, P2_105, cs_n, Nat.zero_le, cs_i, cs_r, cs_l, Nat.reduceAdd, Nat.reduceLeDiff, iv2, vl_rcv iv2, hI, c6_reach, c6_stepOf, h]
theorem misL {t : Int32} {S : Nat} (hS : S < 256) : ∀ (m i : Nat) (least most : Int32) (a6 : Option Value), i + m = 8 → Tr (d + 1) 30 22 [some (.ref 37), some (.int t), some (.int (nI S)), some (.int least), some (.int most), some (.int (nI i)), a6] [] w Q = Q (some (.int (lmL (w.1 39) S i m least most))) w := by
  intro m
  induction m with
  | zero =>
    intro i least most a6 hi
    have h1 : ¬ nI i < 8 := by rw [nI_l8 (by omega)]; omega
    show Go (d + 1) 30 22 _ _ _ _ = _
    simp only [s30_0, s30_1, s30_2, s30_3, s30_4, s30_7, s30_10, s30_13, s30_14, s30_15, s30_16, s30_17, s30_19, s30_20, s30_22, s30_24, s30_26, s30_29, s30_30, s30_32, s30_33, s30_34, s30_35, s30_38, s30_39, s30_42, s30_43, s30_45, s30_47, s30_50, s30_51, s30_52, s30_53, s30_55, s30_56, s30_57, s30_58, s30_59, s30_62, s30_64, s30_67, s30_68, s30_69, s30_70, s30_72, s30_73, s30_74, s30_75, s30_76, s30_79, s30_81, s30_83, s30_84, s30_87, s30_90, s30_91, gF_i, gF_r, gP_f, gP_t, aRd_1, aRd_4, aKd_e, oo_s, z0, z1, okP_n, okP_i, okP_r, vtl, vtn, true_and, and_true, bI_ite, bI_01, F2_9, F2_15, F2_18, F2_73, F2_57, F2_70, F2_80, F2_105, P2_73, P2_80, P2_105, cs_n, Nat.zero_le, cs_i, cs_r, cs_l, Nat.reduceAdd, Nat.reduceLeDiff, h1, decide_true, decide_false, not_true_eq_false, not_false_eq_true, Bool.and_true, Bool.true_and, Bool.and_false, Bool.false_and, Bool.or_true, Bool.true_or, Bool.or_false, Bool.false_or, Bool.not_true, Bool.not_false, ite_true, ite_false, if_true, if_false, Bool.false_eq_true, reduceIte, decide_not, and_true, true_and, and_false, false_and, or_true, true_or, or_false, false_or, not_false, not_true, lmL]
  | succ m ih =>
    intro i least most a6 hi
    have hi8 : i < 8 := by omega
    have h1 : nI i < 8 := by rw [nI_l8 (by omega)]; omega
    have h7 := sb_clr S hS i hi8
    have h8 := clr_lt S hS i hi8
    have h9 := sb_bit S hS i hi8
    show Go (d + 1) 30 22 _ _ _ _ = _
    unfold lmL
    by_cases h2 : S.testBit i = true
    · have h3 : ¬ ((nI S >>> (nI i &&& 31)) &&& 1 = 0) := fun z => by rw [h9.mp z] at h2; cases h2
      have o1 : ¬ ((1 : Int32) = 0) := by decide
      rw [if_pos h2]
      simp only [s30_0, s30_1, s30_2, s30_3, s30_4, s30_7, s30_10, s30_13, s30_14, s30_15, s30_16, s30_17, s30_19, s30_20, s30_22, s30_24, s30_26, s30_29, s30_30, s30_32, s30_33, s30_34, s30_35, s30_38, s30_39, s30_42, s30_43, s30_45, s30_47, s30_50, s30_51, s30_52, s30_53, s30_55, s30_56, s30_57, s30_58, s30_59, s30_62, s30_64, s30_67, s30_68, s30_69, s30_70, s30_72, s30_73, s30_74, s30_75, s30_76, s30_79, s30_81, s30_83, s30_84, s30_87, s30_90, s30_91, gF_i, gF_r, gP_f, gP_t, aRd_1, aRd_4, aKd_e, oo_s, z0, z1, okP_n, okP_i, okP_r, vtl, vtn, true_and, and_true, bI_ite, bI_01, F2_9, F2_15, F2_18, F2_73, F2_57, F2_70, F2_80, F2_105, P2_73, P2_80, P2_105, cs_n, Nat.zero_le, cs_i, cs_r, cs_l, Nat.reduceAdd, Nat.reduceLeDiff, h1, R_2, h7, c2_endFound h8, nI_1, decide_true, decide_false, not_true_eq_false, not_false_eq_true, Bool.and_true, Bool.true_and, Bool.and_false, Bool.false_and, Bool.or_true, Bool.true_or, Bool.or_false, Bool.false_or, Bool.not_true, Bool.not_false, ite_true, ite_false, if_true, if_false, Bool.false_eq_true, reduceIte, decide_not, and_true, true_and, and_false, false_and, or_true, true_or, or_false, false_or, not_false, not_true, if_neg h3, o1, ih (i + 1) _ _ _ (by omega), Qite]
    · have h3 : (nI S >>> (nI i &&& 31)) &&& 1 = 0 := h9.mpr (by simpa using h2)
      rw [if_neg h2]
      simp only [s30_0, s30_1, s30_2, s30_3, s30_4, s30_7, s30_10, s30_13, s30_14, s30_15, s30_16, s30_17, s30_19, s30_20, s30_22, s30_24, s30_26, s30_29, s30_30, s30_32, s30_33, s30_34, s30_35, s30_38, s30_39, s30_42, s30_43, s30_45, s30_47, s30_50, s30_51, s30_52, s30_53, s30_55, s30_56, s30_57, s30_58, s30_59, s30_62, s30_64, s30_67, s30_68, s30_69, s30_70, s30_72, s30_73, s30_74, s30_75, s30_76, s30_79, s30_81, s30_83, s30_84, s30_87, s30_90, s30_91, gF_i, gF_r, gP_f, gP_t, aRd_1, aRd_4, aKd_e, oo_s, z0, z1, okP_n, okP_i, okP_r, vtl, vtn, true_and, and_true, bI_ite, bI_01, F2_9, F2_15, F2_18, F2_73, F2_57, F2_70, F2_80, F2_105, P2_73, P2_80, P2_105, cs_n, Nat.zero_le, cs_i, cs_r, cs_l, Nat.reduceAdd, Nat.reduceLeDiff, h1, R_2, nI_1, decide_true, decide_false, not_true_eq_false, not_false_eq_true, Bool.and_true, Bool.true_and, Bool.and_false, Bool.false_and, Bool.or_true, Bool.true_or, Bool.or_false, Bool.false_or, Bool.not_true, Bool.not_false, ite_true, ite_false, if_true, if_false, Bool.false_eq_true, reduceIte, decide_not, and_true, true_and, and_false, false_and, or_true, true_or, or_false, false_or, not_false, not_true, if_pos h3, ih (i + 1) _ _ _ (by omega)]
theorem c2_leastMissed (hI : vI w 2) {t : Int32} {S : Nat} (hS : S < 256) : Cl (d + 5) 30 [.ref 37, .int t, .int (nI S)] w Q = Q (some (.int (lmL (fiE (w.1 2 4) (w.1 2 5) ((rMeas w t).1 38) (w.1 2 3) (vStep w 2 t) S (w.1 39)) S 0 8 (-1) (-1)))) (wA (rMeas w t) 39 (fiE (w.1 2 4) (w.1 2 5) ((rMeas w t).1 38) (w.1 2 3) (vStep w 2 t) S (w.1 39))) := by
  rw [Cl_go (L := [some (.ref 37), some (.int t), some (.int (nI S)), none, none, none, none]) rfl]
  have h := fun w => misL (d := d + 4) (Q := Q) (w := w) (t := t) hS 8 0 (-1) (-1) none rfl
  simp only [nI_0] at h
  simp only [s30_0, s30_1, s30_2, s30_3, s30_4, s30_7, s30_10, s30_13, s30_14, s30_15, s30_16, s30_17, s30_19, s30_20, s30_22, s30_24, s30_26, s30_29, s30_30, s30_32, s30_33, s30_34, s30_35, s30_38, s30_39, s30_42, s30_43, s30_45, s30_47, s30_50, s30_51, s30_52, s30_53, s30_55, s30_56, s30_57, s30_58, s30_59, s30_62, s30_64, s30_67, s30_68, s30_69, s30_70, s30_72, s30_73, s30_74, s30_75, s30_76, s30_79, s30_81, s30_83, s30_84, s30_87, s30_90, s30_91, gF_i, gF_r, gP_f, gP_t, aRd_1, aRd_4, aKd_e, oo_s, z0, z1, okP_n, okP_i, okP_r, vtl, vtn, true_and, and_true, bI_ite, bI_01, F2_9, F2_15, F2_18, F2_73, F2_57, F2_70, F2_80, F2_105, P2_73, P2_80, P2_105, cs_n, Nat.zero_le, cs_i, cs_r, cs_l, Nat.reduceAdd, Nat.reduceLeDiff, R_2, iv2, c2_endOf hI hS, h, wA_s]
end

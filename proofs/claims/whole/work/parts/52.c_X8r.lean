/-! CONTRACTS of the model: sharing all -/
def saB (w : hW) (i : Nat) (E : Nat → Int32) (S : Nat) : Int32 := if w.1 50 (w.1 55 i).toNatClampNeg = w.1 56 i then 1 else if w.1 50 (w.1 55 i).toNatClampNeg < w.1 56 i then (if E S = w.1 56 i then 1 else 0) else 0
def saR (w : hW) (i : Nat) : hW := if w.1 50 (w.1 55 i).toNatClampNeg < w.1 56 i then mRF w (w.1 55 i) (w.1 56 i) else w
def sa1 (w : hW) (i : Nat) : hW := wI (wA (saR w i) 73 (fun j => if 256 * i ≤ j ∧ j < 256 * i + 2 ^ mN w then saB w i ((saR w i).1 69) (j - 256 * i) else w.1 73 j)) 74 i 0
def saL : Nat → Nat → hW → hW
  | _, 0, w => w
  | i, r + 1, w => saL (i + 1) r (sa1 w i)
def saA (w : hW) : hW := saL 0 (mNW w) w
def shZ (w : hW) : (Nat → Int32) × ((Nat → Int32) × Int32) := shT (mN w) (mNW w) (woW (saA w)) (mN w) 0 (fun _ => 0) ((saA w).1 75) ((saA w).1 76, -1)
def mShW (w : hW) : hW := shU (saA w) (fun _ => 0) (shZ w).1 (shZ w).2
def mGiven (w : hW) (m : Int32) : Int32 × hW := if mMan w m then ((shZ w).2.1 m.toNatClampNeg, mShW w) else (-11, mNo w (-1))
theorem saR_o {w : hW} {i q : Nat} (h : q ≠ 69) (h2 : q ≠ 70) : (saR w i).1 q = w.1 q := by
  unfold saR
  split
  · exact mRF_o h h2
  · rfl
theorem sa1_o {w : hW} {i q : Nat} (h : q ≠ 69) (h2 : q ≠ 70) (h3 : q ≠ 73) (h4 : q ≠ 74) : (sa1 w i).1 q = w.1 q := by
  unfold sa1
  rw [wI_q h4, wA_o h3, saR_o h h2]
theorem saL_o {q : Nat} (h : q ≠ 69) (h2 : q ≠ 70) (h3 : q ≠ 73) (h4 : q ≠ 74) : ∀ (r i : Nat) (w : hW), (saL i r w).1 q = w.1 q
  | 0, _, _ => rfl
  | r + 1, i, w => by rw [saL, saL_o h h2 h3 h4 r (i + 1), sa1_o h h2 h3 h4]
theorem sa1_74 {w : hW} {i j : Nat} : (sa1 w i).1 74 j = if j = i then 0 else w.1 74 j := by
  unfold sa1
  by_cases h : j = i
  · subst h; rw [wI_is, if_pos rfl]
  · rw [wI_at h, wA_o (by decide), saR_o (by decide) (by decide), if_neg h]
theorem saL_74 : ∀ (r i : Nat) (w : hW) (j : Nat), (saL i r w).1 74 j = if i ≤ j ∧ j < i + r then 0 else w.1 74 j
  | 0, i, w, j => by rw [saL, if_neg (by omega)]
  | r + 1, i, w, j => by
    rw [saL, saL_74 r (i + 1), sa1_74]
    by_cases h : j = i
    · subst h; rw [if_neg (by omega), if_pos rfl, if_pos (by omega)]
    · by_cases h2 : i + 1 ≤ j ∧ j < i + 1 + r
      · rw [if_pos h2, if_pos (by omega)]
      · rw [if_neg h2, if_neg h, if_neg (by omega)]
section
variable {d : Nat} {w : hW} {Q : aPost}
theorem sarT {i n : Nat} {t p : Int32} (w0 : hW) (hn : w0.1 45 1 = nI n) (h8 : n ≤ 8) (hi : i < 4) (ht : inb t 8) (R : (Nat → Int32) → Prop) (H : ∀ (g : Nat → Int32) (a5 : Option Value), Tr d 219 2 [some (.ref 45), some (.int (nI (i + 1))), some (.int t), some (.int p), some (.int (if w0.1 50 t.toNatClampNeg = p then 1 else 0)), a5] [] (wI (wA w0 73 g) 74 i 0) Q = R g) : ∀ (r S : Nat) (g : Nat → Int32), S + r = 2 ^ n → Tr d 219 60 [some (.ref 45), some (.int (nI i)), some (.int t), some (.int p), some (.int (if w0.1 50 t.toNatClampNeg = p then 1 else 0)), some (.int (nI S))] [] (wA w0 73 g) Q = R (fun j => if 256 * i + S ≤ j ∧ j < 256 * i + 2 ^ n then (if w0.1 50 t.toNatClampNeg = p then 1 else if w0.1 50 t.toNatClampNeg < p then (if w0.1 69 (j - 256 * i) = p then 1 else 0) else 0) else g j) := by
  have hp := pw_le h8
  have hsh := sh_pow n (by omega)
  have k45 : ∀ g, (wA w0 73 g).1 45 = w0.1 45 := fun g => wA_o (by decide)
  have k50 : ∀ g, (wA w0 73 g).1 50 = w0.1 50 := fun g => wA_o (by decide)
  have k69 : ∀ g, (wA w0 73 g).1 69 = w0.1 69 := fun g => wA_o (by decide)
  have c1 := nI_cl (show i < 2 ^ 31 by omega)
  have c2 := nI_inb (show i < 2 ^ 31 by omega) hi
  have o1 : ¬ (1 : Int32) = 0 := by decide
  intro r
  induction r with
  | zero =>
    intro S g hS
    have h1 : ¬ nI S < nI (2 ^ n) := by rw [nIlt (by omega), nI_toInt (by omega)]; omega
    rw [show (fun j => if 256 * i + S ≤ j ∧ j < 256 * i + 2 ^ n then (if w0.1 50 t.toNatClampNeg = p then (1 : Int32) else if w0.1 50 t.toNatClampNeg < p then (if w0.1 69 (j - 256 * i) = p then 1 else 0) else 0) else g j) = g from funext fun j => by rw [if_neg (by omega)], ← H g (some (.int (nI S)))]
    show Go d 219 60 _ _ _ _ = _
    simp only [s219_60, s219_62, s219_63, s219_64, s219_67, s219_68, s219_71, s219_72, s219_75, s219_78, s219_79, s219_80, s219_82, s219_83, s219_85, s219_88, s219_89, s219_90, s219_93, s219_94, s219_95, s219_98, s219_99, s219_102, s219_104, s219_105, s219_106, s219_109, s219_110, s219_113, s219_114, s219_115, s219_118, s219_121, s219_122, s219_125, s219_126, s219_127, s219_128, s219_131, gF_i, gF_r, gP_f, gP_t, aRd_1, aRd_4, aKd_e, oo_s, z0, z1, okP_n, okP_i, okP_r, vtl, vtn, true_and, and_true, bI_ite, bI_01, F8_7, F8_13, F8_16, F8_19, F8_23, F8_26, F8_29, F8_32, F8_35, F8_38, F8_41, F8_44, F8_47, F8_50, F8_53, F8_56, F8_59, F8_62, F8_65, F8_68, F8_72, F8_75, F8_78, F8_81, F8_84, F8_87, F8_90, F8_93, F8_96, F8_99, F8_102, F8_105, F8_108, F8_111, F8_114, F8_117, F8_171, F8_123, F8_126, F8_120, F8_162, F8_190, F8_184, F8_187, F8_181, F8_223, F8_200, F8_277, F8_304, F8_319, P8_7, P8_13, P8_16, P8_117, P8_171, P8_123, P8_126, P8_120, P8_162, P8_190, P8_184, P8_187, P8_181, P8_223, P8_200, P8_277, P8_304, P8_319, A_46, A_47, A_48, A_49, A_50, A_51, A_52, A_53, A_54, A_55, A_56, A_57, A_58, A_59, A_60, A_61, A_62, A_63, A_64, A_65, A_66, A_67, A_68, A_69, A_70, A_71, A_72, A_73, A_74, A_75, A_76, A_77, k45, hn, hsh, h1, c1, c2, nI_1, decide_true, decide_false, not_true_eq_false, not_false_eq_true, Bool.and_true, Bool.true_and, Bool.and_false, Bool.false_and, Bool.or_true, Bool.true_or, Bool.or_false, Bool.false_or, Bool.not_true, Bool.not_false, ite_true, ite_false, if_true, if_false, Bool.false_eq_true, reduceIte, decide_not, and_true, true_and, and_false, false_and, or_true, true_or, or_false, false_or, not_false, not_true]
  | succ r ih =>
    intro S g hS
    have h1 : nI S < nI (2 ^ n) := by rw [nIlt (by omega), nI_toInt (by omega)]; omega
    have hix : (256 : Int32) * nI i + nI S = nI (256 * i + S) := by
      have h : ∀ i : Nat, i < 4 → (256 : Int32) * nI i = nI (256 * i) := by decide +kernel
      rw [h i hi, nI_sum]
    have c3 := nI_cl (show 256 * i + S < 2 ^ 31 by omega)
    have c4 := nI_inb (show 256 * i + S < 2 ^ 31 by omega) (show 256 * i + S < 1024 by omega)
    have c5 := nI_cl (show S < 2 ^ 31 by omega)
    have c6 := nI_inb (show S < 2 ^ 31 by omega) (show S < 256 by omega)
    have hw : ∀ x, wI (wA w0 73 g) 73 (256 * i + S) x = wA w0 73 (upd g (256 * i + S) x) := fun x => by rw [wI_A, wA_wA, wA_s]
    have key : ∀ x : Int32, x = (if w0.1 50 t.toNatClampNeg = p then (1 : Int32) else if w0.1 50 t.toNatClampNeg < p then (if w0.1 69 S = p then 1 else 0) else 0) → Tr d 219 60 [some (.ref 45), some (.int (nI i)), some (.int t), some (.int p), some (.int (if w0.1 50 t.toNatClampNeg = p then 1 else 0)), some (.int (nI (S + 1)))] [] (wA w0 73 (upd g (256 * i + S) x)) Q = R (fun j => if 256 * i + S ≤ j ∧ j < 256 * i + 2 ^ n then (if w0.1 50 t.toNatClampNeg = p then 1 else if w0.1 50 t.toNatClampNeg < p then (if w0.1 69 (j - 256 * i) = p then 1 else 0) else 0) else g j) := by
      intro x hx
      rw [ih (S + 1) _ (by omega)]
      congr 1
      funext j
      by_cases hj : j = 256 * i + S
      · subst hj
        rw [if_neg (by omega), if_pos (by omega), upd_s, show 256 * i + S - 256 * i = S by omega]
        exact hx
      · rw [upd_o hj]
        by_cases h6 : 256 * i + (S + 1) ≤ j ∧ j < 256 * i + 2 ^ n
        · rw [if_pos h6, if_pos (show 256 * i + S ≤ j ∧ j < 256 * i + 2 ^ n by omega)]
        · rw [if_neg h6, if_neg (by omega)]
    show Go d 219 60 _ _ _ _ = _
    by_cases h2 : w0.1 50 t.toNatClampNeg = p
    · rw [← key 1 (by rw [if_pos h2])]
      rw [if_pos h2]
      simp only [s219_60, s219_62, s219_63, s219_64, s219_67, s219_68, s219_71, s219_72, s219_75, s219_78, s219_79, s219_80, s219_82, s219_83, s219_85, s219_88, s219_89, s219_90, s219_93, s219_94, s219_95, s219_98, s219_99, s219_102, s219_104, s219_105, s219_106, s219_109, s219_110, s219_113, s219_114, s219_115, s219_118, gF_i, gF_r, gP_f, gP_t, aRd_1, aRd_4, aKd_e, oo_s, z0, z1, okP_n, okP_i, okP_r, vtl, vtn, true_and, and_true, bI_ite, bI_01, F8_7, F8_13, F8_16, F8_19, F8_23, F8_26, F8_29, F8_32, F8_35, F8_38, F8_41, F8_44, F8_47, F8_50, F8_53, F8_56, F8_59, F8_62, F8_65, F8_68, F8_72, F8_75, F8_78, F8_81, F8_84, F8_87, F8_90, F8_93, F8_96, F8_99, F8_102, F8_105, F8_108, F8_111, F8_114, F8_117, F8_171, F8_123, F8_126, F8_120, F8_162, F8_190, F8_184, F8_187, F8_181, F8_223, F8_200, F8_277, F8_304, F8_319, P8_7, P8_13, P8_16, P8_117, P8_171, P8_123, P8_126, P8_120, P8_162, P8_190, P8_184, P8_187, P8_181, P8_223, P8_200, P8_277, P8_304, P8_319, A_46, A_47, A_48, A_49, A_50, A_51, A_52, A_53, A_54, A_55, A_56, A_57, A_58, A_59, A_60, A_61, A_62, A_63, A_64, A_65, A_66, A_67, A_68, A_69, A_70, A_71, A_72, A_73, A_74, A_75, A_76, A_77, k45, k50, k69, hn, hsh, h1, hix, c3, c4, c5, c6, if_neg o1, hw, nI_1, decide_true, decide_false, not_true_eq_false, not_false_eq_true, Bool.and_true, Bool.true_and, Bool.and_false, Bool.false_and, Bool.or_true, Bool.true_or, Bool.or_false, Bool.false_or, Bool.not_true, Bool.not_false, ite_true, ite_false, if_true, if_false, Bool.false_eq_true, reduceIte, decide_not, and_true, true_and, and_false, false_and, or_true, true_or, or_false, false_or, not_false, not_true]
    · by_cases h3 : w0.1 50 t.toNatClampNeg < p
      · by_cases h4 : w0.1 69 S = p
        · rw [← key 1 (by rw [if_neg h2, if_pos h3, if_pos h4])]
          rw [if_neg h2]
          simp only [s219_60, s219_62, s219_63, s219_64, s219_67, s219_68, s219_71, s219_72, s219_75, s219_78, s219_79, s219_80, s219_82, s219_83, s219_85, s219_88, s219_89, s219_90, s219_93, s219_94, s219_95, s219_98, s219_99, s219_102, s219_104, s219_105, s219_106, s219_109, s219_110, s219_113, s219_114, s219_115, s219_118, gF_i, gF_r, gP_f, gP_t, aRd_1, aRd_4, aKd_e, oo_s, z0, z1, okP_n, okP_i, okP_r, vtl, vtn, true_and, and_true, bI_ite, bI_01, F8_7, F8_13, F8_16, F8_19, F8_23, F8_26, F8_29, F8_32, F8_35, F8_38, F8_41, F8_44, F8_47, F8_50, F8_53, F8_56, F8_59, F8_62, F8_65, F8_68, F8_72, F8_75, F8_78, F8_81, F8_84, F8_87, F8_90, F8_93, F8_96, F8_99, F8_102, F8_105, F8_108, F8_111, F8_114, F8_117, F8_171, F8_123, F8_126, F8_120, F8_162, F8_190, F8_184, F8_187, F8_181, F8_223, F8_200, F8_277, F8_304, F8_319, P8_7, P8_13, P8_16, P8_117, P8_171, P8_123, P8_126, P8_120, P8_162, P8_190, P8_184, P8_187, P8_181, P8_223, P8_200, P8_277, P8_304, P8_319, A_46, A_47, A_48, A_49, A_50, A_51, A_52, A_53, A_54, A_55, A_56, A_57, A_58, A_59, A_60, A_61, A_62, A_63, A_64, A_65, A_66, A_67, A_68, A_69, A_70, A_71, A_72, A_73, A_74, A_75, A_76, A_77, k45, k50, k69, hn, hsh, h1, hix, c3, c4, c5, c6, ht, h3, if_pos h4, hw, nI_1, decide_true, decide_false, not_true_eq_false, not_false_eq_true, Bool.and_true, Bool.true_and, Bool.and_false, Bool.false_and, Bool.or_true, Bool.true_or, Bool.or_false, Bool.false_or, Bool.not_true, Bool.not_false, ite_true, ite_false, if_true, if_false, Bool.false_eq_true, reduceIte, decide_not, and_true, true_and, and_false, false_and, or_true, true_or, or_false, false_or, not_false, not_true]
        · rw [← key 0 (by rw [if_neg h2, if_pos h3, if_neg h4])]
          rw [if_neg h2]
          simp only [s219_60, s219_62, s219_63, s219_64, s219_67, s219_68, s219_71, s219_72, s219_75, s219_78, s219_79, s219_80, s219_82, s219_83, s219_85, s219_88, s219_89, s219_90, s219_93, s219_94, s219_95, s219_98, s219_99, s219_102, s219_104, s219_105, s219_106, s219_109, s219_110, s219_113, s219_114, s219_115, s219_118, gF_i, gF_r, gP_f, gP_t, aRd_1, aRd_4, aKd_e, oo_s, z0, z1, okP_n, okP_i, okP_r, vtl, vtn, true_and, and_true, bI_ite, bI_01, F8_7, F8_13, F8_16, F8_19, F8_23, F8_26, F8_29, F8_32, F8_35, F8_38, F8_41, F8_44, F8_47, F8_50, F8_53, F8_56, F8_59, F8_62, F8_65, F8_68, F8_72, F8_75, F8_78, F8_81, F8_84, F8_87, F8_90, F8_93, F8_96, F8_99, F8_102, F8_105, F8_108, F8_111, F8_114, F8_117, F8_171, F8_123, F8_126, F8_120, F8_162, F8_190, F8_184, F8_187, F8_181, F8_223, F8_200, F8_277, F8_304, F8_319, P8_7, P8_13, P8_16, P8_117, P8_171, P8_123, P8_126, P8_120, P8_162, P8_190, P8_184, P8_187, P8_181, P8_223, P8_200, P8_277, P8_304, P8_319, A_46, A_47, A_48, A_49, A_50, A_51, A_52, A_53, A_54, A_55, A_56, A_57, A_58, A_59, A_60, A_61, A_62, A_63, A_64, A_65, A_66, A_67, A_68, A_69, A_70, A_71, A_72, A_73, A_74, A_75, A_76, A_77, k45, k50, k69, hn, hsh, h1, hix, c3, c4, c5, c6, ht, h3, if_neg h4, hw, nI_1, decide_true, decide_false, not_true_eq_false, not_false_eq_true, Bool.and_true, Bool.true_and, Bool.and_false, Bool.false_and, Bool.or_true, Bool.true_or, Bool.or_false, Bool.false_or, Bool.not_true, Bool.not_false, ite_true, ite_false, if_true, if_false, Bool.false_eq_true, reduceIte, decide_not, and_true, true_and, and_false, false_and, or_true, true_or, or_false, false_or, not_false, not_true]
      · rw [← key 0 (by rw [if_neg h2, if_neg h3])]
        rw [if_neg h2]
        simp only [s219_60, s219_62, s219_63, s219_64, s219_67, s219_68, s219_71, s219_72, s219_75, s219_78, s219_79, s219_80, s219_82, s219_83, s219_85, s219_88, s219_89, s219_90, s219_93, s219_94, s219_95, s219_98, s219_99, s219_102, s219_104, s219_105, s219_106, s219_109, s219_110, s219_113, s219_114, s219_115, s219_118, gF_i, gF_r, gP_f, gP_t, aRd_1, aRd_4, aKd_e, oo_s, z0, z1, okP_n, okP_i, okP_r, vtl, vtn, true_and, and_true, bI_ite, bI_01, F8_7, F8_13, F8_16, F8_19, F8_23, F8_26, F8_29, F8_32, F8_35, F8_38, F8_41, F8_44, F8_47, F8_50, F8_53, F8_56, F8_59, F8_62, F8_65, F8_68, F8_72, F8_75, F8_78, F8_81, F8_84, F8_87, F8_90, F8_93, F8_96, F8_99, F8_102, F8_105, F8_108, F8_111, F8_114, F8_117, F8_171, F8_123, F8_126, F8_120, F8_162, F8_190, F8_184, F8_187, F8_181, F8_223, F8_200, F8_277, F8_304, F8_319, P8_7, P8_13, P8_16, P8_117, P8_171, P8_123, P8_126, P8_120, P8_162, P8_190, P8_184, P8_187, P8_181, P8_223, P8_200, P8_277, P8_304, P8_319, A_46, A_47, A_48, A_49, A_50, A_51, A_52, A_53, A_54, A_55, A_56, A_57, A_58, A_59, A_60, A_61, A_62, A_63, A_64, A_65, A_66, A_67, A_68, A_69, A_70, A_71, A_72, A_73, A_74, A_75, A_76, A_77, k45, k50, k69, hn, hsh, h1, hix, c3, c4, c5, c6, ht, h3, hw, nI_1, decide_true, decide_false, not_true_eq_false, not_false_eq_true, Bool.and_true, Bool.true_and, Bool.and_false, Bool.false_and, Bool.or_true, Bool.true_or, Bool.or_false, Bool.false_or, Bool.not_true, Bool.not_false, ite_true, ite_false, if_true, if_false, Bool.false_eq_true, reduceIte, decide_not, and_true, true_and, and_false, false_and, or_true, true_or, or_false, false_or, not_false, not_true]
theorem sahT (R : hW → Prop) (N n : Nat) (h4 : N ≤ 4) (h8 : n ≤ 8) (H : ∀ (w : hW) (a2 a3 a4 a5 : Option Value), mI w → mNW w = N → mN w = n → (∀ j, j < N → w.1 74 j = 0) → Tr (d + 4) 219 2 [some (.ref 45), some (.int (nI N)), a2, a3, a4, a5] [] w Q = R w) : ∀ (r i : Nat) (w : hW) (a2 a3 a4 a5 : Option Value), mI w → mNW w = N → mN w = n → i + r = N → (∀ j, j < i → w.1 74 j = 0) → Tr (d + 4) 219 2 [some (.ref 45), some (.int (nI i)), a2, a3, a4, a5] [] w Q = R (saL i r w) := by
  intro r
  induction r with
  | zero =>
    intro i w a2 a3 a4 a5 hI hN hn hi h0
    have : i = N := by omega
    subst this
    exact H w a2 a3 a4 a5 hI hN hn h0
  | succ r ih =>
    intro i w a2 a3 a4 a5 hI hN hn hi h0
    obtain ⟨en, -⟩ := mN_nI hI
    rw [hn] at en
    have h1 : nI i < w.1 45 2 := by rw [nIlt (by omega)]; unfold mNW at hN; omega
    have c1 := nI_cl (show i < 2 ^ 31 by omega)
    have c2 := nI_inb (show i < 2 ^ 31 by omega) (show i < 4 by omega)
    have hTh := hI.2.2.2.2.2.2.1 i (by unfold mNW at hN; omega)
    have hT := (mT_rng hI hTh).2.2
    have hI1 : mI (sa1 w i) := mI_o hI (fun q _ _ => sa1_o (by omega) (by omega) (by omega) (by omega))
    have e45 : (sa1 w i).1 45 = w.1 45 := sa1_o (by decide) (by decide) (by decide) (by decide)
    have hN1 : mNW (sa1 w i) = N := by unfold mNW; rw [e45]; exact hN
    have hn1 : mN (sa1 w i) = n := (mN_o (by rw [e45])).trans hn
    have hx := fun (w0 : hW) (e1 : w0.1 45 = w.1 45) (e2 : w0.1 50 = w.1 50) (e3 : w0.1 73 = w.1 73) (e4 : w0 = saR w i) => sarT (d := d + 4) (Q := Q) (i := i) (n := n) (t := w.1 55 i) (p := w.1 56 i) w0 (by rw [e1]; exact en) h8 (by omega) hT (fun g => R (saL (i + 1) r (wI (wA w0 73 g) 74 i 0))) (fun g a5 => by
      have hIg : mI (wI (wA w0 73 g) 74 i 0) := mI_o hI (fun q _ _ => by rw [wI_q (by omega), wA_o (by omega), e4, saR_o (by omega) (by omega)])
      have e45g : (wI (wA w0 73 g) 74 i 0).1 45 = w.1 45 := by rw [wI_q (by decide), wA_o (by decide), e1]
      exact ih (i + 1) _ _ _ _ _ hIg (by unfold mNW; rw [e45g]; exact hN) ((mN_o (by rw [e45g])).trans hn) (by omega) (fun j hj => by
        by_cases e : j = i
        · subst e; rw [wI_is]
        · rw [wI_at e, wA_o (by decide), e4, saR_o (by decide) (by decide)]; exact h0 j (by omega))) (2 ^ n) 0 (w0.1 73) (by omega)
    have hfin : ∀ w0 : hW, w0 = saR w i → w0.1 50 = w.1 50 → w0.1 73 = w.1 73 → wI (wA w0 73 (fun j => if 256 * i + 0 ≤ j ∧ j < 256 * i + 2 ^ n then (if w0.1 50 (w.1 55 i).toNatClampNeg = w.1 56 i then 1 else if w0.1 50 (w.1 55 i).toNatClampNeg < w.1 56 i then (if w0.1 69 (j - 256 * i) = w.1 56 i then 1 else 0) else 0) else w0.1 73 j)) 74 i 0 = sa1 w i := by
      intro w0 e4 e2 e3
      unfold sa1 saB
      rw [hn, ← e4, e2, e3]
      simp only [Nat.add_zero]
    show Go (d + 4) 219 2 _ _ _ _ = _
    rw [saL]
    by_cases h3 : w.1 50 (w.1 55 i).toNatClampNeg < w.1 56 i
    · have hne : ¬ w.1 50 (w.1 55 i).toNatClampNeg = w.1 56 i := fun e => by rw [e, i32_lt] at h3; omega
      have e4 : mRF w (w.1 55 i) (w.1 56 i) = saR w i := by unfold saR; rw [if_pos h3]
      have hh := hx (mRF w (w.1 55 i) (w.1 56 i)) (mRF_o (by decide) (by decide)) (mRF_o (by decide) (by decide)) (mRF_o (by decide) (by decide)) e4
      rw [hfin _ e4 (mRF_o (by decide) (by decide)) (mRF_o (by decide) (by decide)), wA_id, nI_0, show (mRF w (w.1 55 i) (w.1 56 i)).1 50 = w.1 50 from mRF_o (by decide) (by decide), if_neg hne] at hh
      rw [← hh]
      simp only [s219_2, s219_3, s219_4, s219_7, s219_10, s219_11, s219_14, s219_15, s219_16, s219_17, s219_18, s219_21, s219_22, s219_23, s219_24, s219_25, s219_28, s219_29, s219_30, s219_31, s219_34, s219_35, s219_38, s219_39, s219_41, s219_42, s219_43, s219_46, s219_47, s219_48, s219_51, s219_52, s219_53, s219_54, s219_57, s219_58, gF_i, gF_r, gP_f, gP_t, aRd_1, aRd_4, aKd_e, oo_s, z0, z1, okP_n, okP_i, okP_r, vtl, vtn, true_and, and_true, bI_ite, bI_01, F8_7, F8_13, F8_16, F8_19, F8_23, F8_26, F8_29, F8_32, F8_35, F8_38, F8_41, F8_44, F8_47, F8_50, F8_53, F8_56, F8_59, F8_62, F8_65, F8_68, F8_72, F8_75, F8_78, F8_81, F8_84, F8_87, F8_90, F8_93, F8_96, F8_99, F8_102, F8_105, F8_108, F8_111, F8_114, F8_117, F8_171, F8_123, F8_126, F8_120, F8_162, F8_190, F8_184, F8_187, F8_181, F8_223, F8_200, F8_277, F8_304, F8_319, P8_7, P8_13, P8_16, P8_117, P8_171, P8_123, P8_126, P8_120, P8_162, P8_190, P8_184, P8_187, P8_181, P8_223, P8_200, P8_277, P8_304, P8_319, A_46, A_47, A_48, A_49, A_50, A_51, A_52, A_53, A_54, A_55, A_56, A_57, A_58, A_59, A_60, A_61, A_62, A_63, A_64, A_65, A_66, A_67, A_68, A_69, A_70, A_71, A_72, A_73, A_74, A_75, A_76, A_77, cs_n, Nat.zero_le, cs_i, cs_r, cs_l, Nat.reduceAdd, Nat.reduceLeDiff, R_8, h1, c1, c2, hT, h3, if_neg hne, c8_rowsFor hI hTh, decide_true, decide_false, not_true_eq_false, not_false_eq_true, Bool.and_true, Bool.true_and, Bool.and_false, Bool.false_and, Bool.or_true, Bool.true_or, Bool.or_false, Bool.false_or, Bool.not_true, Bool.not_false, ite_true, ite_false, if_true, if_false, Bool.false_eq_true, reduceIte, decide_not, and_true, true_and, and_false, false_and, or_true, true_or, or_false, false_or, not_false, not_true]
    · have e4 : w = saR w i := by unfold saR; rw [if_neg h3]
      have hh := hx w rfl rfl rfl e4
      rw [hfin _ e4 rfl rfl, wA_id, nI_0] at hh
      by_cases hne : w.1 50 (w.1 55 i).toNatClampNeg = w.1 56 i
      · rw [if_pos hne] at hh
        rw [← hh]
        simp only [s219_2, s219_3, s219_4, s219_7, s219_10, s219_11, s219_14, s219_15, s219_16, s219_17, s219_18, s219_21, s219_22, s219_23, s219_24, s219_25, s219_28, s219_29, s219_30, s219_31, s219_34, s219_35, s219_38, s219_39, s219_41, s219_42, s219_43, s219_46, s219_47, s219_48, s219_51, s219_52, s219_53, s219_54, s219_57, s219_58, gF_i, gF_r, gP_f, gP_t, aRd_1, aRd_4, aKd_e, oo_s, z0, z1, okP_n, okP_i, okP_r, vtl, vtn, true_and, and_true, bI_ite, bI_01, F8_7, F8_13, F8_16, F8_19, F8_23, F8_26, F8_29, F8_32, F8_35, F8_38, F8_41, F8_44, F8_47, F8_50, F8_53, F8_56, F8_59, F8_62, F8_65, F8_68, F8_72, F8_75, F8_78, F8_81, F8_84, F8_87, F8_90, F8_93, F8_96, F8_99, F8_102, F8_105, F8_108, F8_111, F8_114, F8_117, F8_171, F8_123, F8_126, F8_120, F8_162, F8_190, F8_184, F8_187, F8_181, F8_223, F8_200, F8_277, F8_304, F8_319, P8_7, P8_13, P8_16, P8_117, P8_171, P8_123, P8_126, P8_120, P8_162, P8_190, P8_184, P8_187, P8_181, P8_223, P8_200, P8_277, P8_304, P8_319, A_46, A_47, A_48, A_49, A_50, A_51, A_52, A_53, A_54, A_55, A_56, A_57, A_58, A_59, A_60, A_61, A_62, A_63, A_64, A_65, A_66, A_67, A_68, A_69, A_70, A_71, A_72, A_73, A_74, A_75, A_76, A_77, cs_n, Nat.zero_le, cs_i, cs_r, cs_l, Nat.reduceAdd, Nat.reduceLeDiff, R_8, h1, c1, c2, hT, h3, if_pos hne, decide_true, decide_false, not_true_eq_false, not_false_eq_true, Bool.and_true, Bool.true_and, Bool.and_false, Bool.false_and, Bool.or_true, Bool.true_or, Bool.or_false, Bool.false_or, Bool.not_true, Bool.not_false, ite_true, ite_false, if_true, if_false, Bool.false_eq_true, reduceIte, decide_not, and_true, true_and, and_false, false_and, or_true, true_or, or_false, false_or, not_false, not_true]
      · rw [if_neg hne] at hh
        rw [← hh]
        simp only [s219_2, s219_3, s219_4, s219_7, s219_10, s219_11, s219_14, s219_15, s219_16, s219_17, s219_18, s219_21, s219_22, s219_23, s219_24, s219_25, s219_28, s219_29, s219_30, s219_31, s219_34, s219_35, s219_38, s219_39, s219_41, s219_42, s219_43, s219_46, s219_47, s219_48, s219_51, s219_52, s219_53, s219_54, s219_57, s219_58, gF_i, gF_r, gP_f, gP_t, aRd_1, aRd_4, aKd_e, oo_s, z0, z1, okP_n, okP_i, okP_r, vtl, vtn, true_and, and_true, bI_ite, bI_01, F8_7, F8_13, F8_16, F8_19, F8_23, F8_26, F8_29, F8_32, F8_35, F8_38, F8_41, F8_44, F8_47, F8_50, F8_53, F8_56, F8_59, F8_62, F8_65, F8_68, F8_72, F8_75, F8_78, F8_81, F8_84, F8_87, F8_90, F8_93, F8_96, F8_99, F8_102, F8_105, F8_108, F8_111, F8_114, F8_117, F8_171, F8_123, F8_126, F8_120, F8_162, F8_190, F8_184, F8_187, F8_181, F8_223, F8_200, F8_277, F8_304, F8_319, P8_7, P8_13, P8_16, P8_117, P8_171, P8_123, P8_126, P8_120, P8_162, P8_190, P8_184, P8_187, P8_181, P8_223, P8_200, P8_277, P8_304, P8_319, A_46, A_47, A_48, A_49, A_50, A_51, A_52, A_53, A_54, A_55, A_56, A_57, A_58, A_59, A_60, A_61, A_62, A_63, A_64, A_65, A_66, A_67, A_68, A_69, A_70, A_71, A_72, A_73, A_74, A_75, A_76, A_77, cs_n, Nat.zero_le, cs_i, cs_r, cs_l, Nat.reduceAdd, Nat.reduceLeDiff, R_8, h1, c1, c2, hT, h3, if_neg hne, decide_true, decide_false, not_true_eq_false, not_false_eq_true, Bool.and_true, Bool.true_and, Bool.and_false, Bool.false_and, Bool.or_true, Bool.true_or, Bool.or_false, Bool.false_or, Bool.not_true, Bool.not_false, ite_true, ite_false, if_true, if_false, Bool.false_eq_true, reduceIte, decide_not, and_true, true_and, and_false, false_and, or_true, true_or, or_false, false_or, not_false, not_true]
def shQ (u : hW) : (Nat → Int32) × ((Nat → Int32) × Int32) := shT (mN u) (mNW u) (woW u) (mN u) 0 (fun _ => 0) (u.1 75) (u.1 76, -1)
theorem c8_shareAll (hI : mI w) : Cl (d + 11) 219 [.ref 45] w Q = Q none (mShW w) := by
  rw [Cl_go (L := [some (.ref 45), none, none, none, none, none]) rfl]
  obtain ⟨en, h8⟩ := mN_nI hI
  have h4 : mNW w ≤ 4 := by have := hI.2.2.1; unfold mNW; omega
  have e45 : (saA w).1 45 = w.1 45 := saL_o (by decide) (by decide) (by decide) (by decide) _ _ _
  have hN' : mNW (saA w) = mNW w := by unfold mNW; rw [e45]
  have hn' : mN (saA w) = mN w := mN_o (by rw [e45])
  have hh := sahT (d := d + 7) (Q := Q) (fun u => Q none (shU u (fun _ => 0) (shQ u).1 (shQ u).2)) (mNW w) (mN w) h4 h8 (fun u a2 a3 a4 a5 hIu hNu hnu h0 => by
    have h1 : ¬ nI (mNW w) < u.1 45 2 := by rw [nIlt (by omega)]; unfold mNW at hNu ⊢; omega
    have hU : wI u 45 46 (-1) = shU u (fun _ => 0) (u.1 75) (u.1 76, -1) := by
      apply shU_ext
      · intro q a b c e; rw [wI_q a]
      · intro j h; rw [wI_at h]
      · rw [wI_is]
      · rw [wI_q (by decide)]
      · rw [wI_q (by decide)]
        funext j
        unfold sF
        by_cases hj : j < mNW u
        · rw [if_pos hj, h0 j (by omega)]
          rfl
        · rw [if_neg hj]
      · rw [wI_q (by decide)]
      · rfl
    have hC := fun Q => shaC hIu (mN u) (d + 10) 0 (fun _ => 0) (u.1 75) (u.1 76, -1) Q (by omega) (by omega) (fun _ _ => by simp)
    simp only [nI_0] at hC
    show Go (d + 7 + 4) 219 2 _ _ _ _ = _
    simp only [s219_2, s219_3, s219_4, s219_7, s219_134, s219_135, s219_136, s219_139, s219_140, s219_141, s219_144, gF_i, gF_r, gP_f, gP_t, aRd_1, aRd_4, aKd_e, oo_s, z0, z1, okP_n, okP_i, okP_r, vtl, vtn, true_and, and_true, bI_ite, bI_01, F8_7, F8_13, F8_16, F8_19, F8_23, F8_26, F8_29, F8_32, F8_35, F8_38, F8_41, F8_44, F8_47, F8_50, F8_53, F8_56, F8_59, F8_62, F8_65, F8_68, F8_72, F8_75, F8_78, F8_81, F8_84, F8_87, F8_90, F8_93, F8_96, F8_99, F8_102, F8_105, F8_108, F8_111, F8_114, F8_117, F8_171, F8_123, F8_126, F8_120, F8_162, F8_190, F8_184, F8_187, F8_181, F8_223, F8_200, F8_277, F8_304, F8_319, P8_7, P8_13, P8_16, P8_117, P8_171, P8_123, P8_126, P8_120, P8_162, P8_190, P8_184, P8_187, P8_181, P8_223, P8_200, P8_277, P8_304, P8_319, cs_n, Nat.zero_le, cs_i, cs_r, cs_l, Nat.reduceAdd, Nat.reduceLeDiff, R_8, h1, hU, hC, shQ, decide_true, decide_false, not_true_eq_false, not_false_eq_true, Bool.and_true, Bool.true_and, Bool.and_false, Bool.false_and, Bool.or_true, Bool.true_or, Bool.or_false, Bool.false_or, Bool.not_true, Bool.not_false, ite_true, ite_false, if_true, if_false, Bool.false_eq_true, reduceIte, decide_not, and_true, true_and, and_false, false_and, or_true, true_or, or_false, false_or, not_false, not_true]) (mNW w) 0 w none none none none hI rfl rfl (by omega) (fun j hj => by omega)
  rw [nI_0] at hh
  simp only [s219_0, s219_1, gF_i, gF_r, gP_f, gP_t, aRd_1, aRd_4, aKd_e, oo_s, z0, z1, okP_n, okP_i, okP_r, vtl, vtn, true_and, and_true, bI_ite, bI_01, hh]
  unfold mShW shZ shQ
  show Q none (shU (saA w) _ (shT (mN (saA w)) (mNW (saA w)) (woW (saA w)) (mN (saA w)) _ _ _ _).1 (shT (mN (saA w)) (mNW (saA w)) (woW (saA w)) (mN (saA w)) _ _ _ _).2) = _
  rw [hN', hn']
  rfl
theorem c8_shared (hI : mI w) : Cl (d + 12) 220 [.ref 45] w Q = Q (some (.int (shZ w).2.2)) (mShW w) := by
  rw [Cl_go (L := [some (.ref 45)]) rfl]
  have e : (mShW w).1 45 46 = (shZ w).2.2 := shU_v
  simp only [s220_0, s220_1, s220_4, s220_5, s220_8, gF_i, gF_r, gP_f, gP_t, aRd_1, aRd_4, aKd_e, oo_s, z0, z1, okP_n, okP_i, okP_r, vtl, vtn, true_and, and_true, bI_ite, bI_01, F8_7, F8_13, F8_16, F8_19, F8_23, F8_26, F8_29, F8_32, F8_35, F8_38, F8_41, F8_44, F8_47, F8_50, F8_53, F8_56, F8_59, F8_62, F8_65, F8_68, F8_72, F8_75, F8_78, F8_81, F8_84, F8_87, F8_90, F8_93, F8_96, F8_99, F8_102, F8_105, F8_108, F8_111, F8_114, F8_117, F8_171, F8_123, F8_126, F8_120, F8_162, F8_190, F8_184, F8_187, F8_181, F8_223, F8_200, F8_277, F8_304, F8_319, P8_7, P8_13, P8_16, P8_117, P8_171, P8_123, P8_126, P8_120, P8_162, P8_190, P8_184, P8_187, P8_181, P8_223, P8_200, P8_277, P8_304, P8_319, cs_n, Nat.zero_le, cs_i, cs_r, cs_l, Nat.reduceAdd, Nat.reduceLeDiff, R_8, c8_shareAll hI, e, decide_true, decide_false, not_true_eq_false, not_false_eq_true, Bool.and_true, Bool.true_and, Bool.and_false, Bool.false_and, Bool.or_true, Bool.true_or, Bool.or_false, Bool.false_or, Bool.not_true, Bool.not_false, ite_true, ite_false, if_true, if_false, Bool.false_eq_true, reduceIte, decide_not, and_true, true_and, and_false, false_and, or_true, true_or, or_false, false_or, not_false, not_true]
theorem c8_given (hI : mI w) {m : Int32} : Cl (d + 12) 221 [.ref 45, .int m] w Q = Q (some (.int (mGiven w m).1)) (mGiven w m).2 := by
  rw [Cl_go (L := [some (.ref 45), some (.int m)]) rfl]
  unfold mGiven
  by_cases h1 : mMan w m = true
  · have hM := (mM_rng hI h1).2.2
    have e : (mShW w).1 76 = (shZ w).2.1 := shU_b
    simp only [s221_0, s221_1, s221_2, s221_5, s221_8, s221_9, s221_10, s221_13, s221_14, s221_15, s221_18, s221_19, s221_22, s221_23, s221_24, gF_i, gF_r, gP_f, gP_t, aRd_1, aRd_4, aKd_e, oo_s, z0, z1, okP_n, okP_i, okP_r, vtl, vtn, true_and, and_true, bI_ite, bI_01, F8_7, F8_13, F8_16, F8_19, F8_23, F8_26, F8_29, F8_32, F8_35, F8_38, F8_41, F8_44, F8_47, F8_50, F8_53, F8_56, F8_59, F8_62, F8_65, F8_68, F8_72, F8_75, F8_78, F8_81, F8_84, F8_87, F8_90, F8_93, F8_96, F8_99, F8_102, F8_105, F8_108, F8_111, F8_114, F8_117, F8_171, F8_123, F8_126, F8_120, F8_162, F8_190, F8_184, F8_187, F8_181, F8_223, F8_200, F8_277, F8_304, F8_319, P8_7, P8_13, P8_16, P8_117, P8_171, P8_123, P8_126, P8_120, P8_162, P8_190, P8_184, P8_187, P8_181, P8_223, P8_200, P8_277, P8_304, P8_319, A_46, A_47, A_48, A_49, A_50, A_51, A_52, A_53, A_54, A_55, A_56, A_57, A_58, A_59, A_60, A_61, A_62, A_63, A_64, A_65, A_66, A_67, A_68, A_69, A_70, A_71, A_72, A_73, A_74, A_75, A_76, A_77, cs_n, Nat.zero_le, cs_i, cs_r, cs_l, Nat.reduceAdd, Nat.reduceLeDiff, R_8, c8_isMan, c8_shareAll hI, hM, e, h1, decide_true, decide_false, not_true_eq_false, not_false_eq_true, Bool.and_true, Bool.true_and, Bool.and_false, Bool.false_and, Bool.or_true, Bool.true_or, Bool.or_false, Bool.false_or, Bool.not_true, Bool.not_false, ite_true, ite_false, if_true, if_false, Bool.false_eq_true, reduceIte, decide_not, and_true, true_and, and_false, false_and, or_true, true_or, or_false, false_or, not_false, not_true]
  · simp only [s221_0, s221_1, s221_2, s221_5, s221_8, s221_9, s221_10, s221_13, s221_14, s221_15, s221_18, s221_19, s221_22, s221_23, s221_24, gF_i, gF_r, gP_f, gP_t, aRd_1, aRd_4, aKd_e, oo_s, z0, z1, okP_n, okP_i, okP_r, vtl, vtn, true_and, and_true, bI_ite, bI_01, F8_7, F8_13, F8_16, F8_19, F8_23, F8_26, F8_29, F8_32, F8_35, F8_38, F8_41, F8_44, F8_47, F8_50, F8_53, F8_56, F8_59, F8_62, F8_65, F8_68, F8_72, F8_75, F8_78, F8_81, F8_84, F8_87, F8_90, F8_93, F8_96, F8_99, F8_102, F8_105, F8_108, F8_111, F8_114, F8_117, F8_171, F8_123, F8_126, F8_120, F8_162, F8_190, F8_184, F8_187, F8_181, F8_223, F8_200, F8_277, F8_304, F8_319, P8_7, P8_13, P8_16, P8_117, P8_171, P8_123, P8_126, P8_120, P8_162, P8_190, P8_184, P8_187, P8_181, P8_223, P8_200, P8_277, P8_304, P8_319, cs_n, Nat.zero_le, cs_i, cs_r, cs_l, Nat.reduceAdd, Nat.reduceLeDiff, R_8, c8_isMan, c8_noTen ib1, h1, decide_true, decide_false, not_true_eq_false, not_false_eq_true, Bool.and_true, Bool.true_and, Bool.and_false, Bool.false_and, Bool.or_true, Bool.true_or, Bool.or_false, Bool.false_or, Bool.not_true, Bool.not_false, ite_true, ite_false, if_true, if_false, Bool.false_eq_true, reduceIte, decide_not, and_true, true_and, and_false, false_and, or_true, true_or, or_false, false_or, not_false, not_true]
    rfl
end

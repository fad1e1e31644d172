/-! CONTRACTS of the model: reading, its leaves -/
def mBs (w : hW) : Nat := (w.1 45 30).toInt.toNat
def mEd (w : hW) : Nat := (w.1 45 32).toInt.toNat
def mAt (w : hW) : Nat := (w.1 45 31).toInt.toNat
/-- the letter at a place of the text that is being read; -1 behind its end -/
def mLt (w : hW) (q : Nat) : Int32 := if q < mEd w then (w.2 62 (mBs w + q)).toInt32 else -1
def mP (w : hW) : Prop := w.1 45 30 = nI (mBs w) ∧ w.1 45 31 = nI (mAt w) ∧ w.1 45 32 = nI (mEd w) ∧ mBs w + mEd w ≤ 1280 ∧ mEd w ≤ 160 ∧ mAt w ≤ mEd w
def wdC : List Int32 := [116, 104, 105, 110, 103, 32, 0, 109, 97, 110, 32, 0, 119, 97, 110, 116, 32, 0, 108, 111, 110, 103, 32, 0, 114, 105, 118, 101, 114, 32, 0, 119, 105, 110, 100, 32, 0]
def mWd (w : hW) : Prop := ∀ i : Nat, i < 37 → w.1 64 i = wdC.getD i 0
def wOff (f : Nat) : Nat := [0, 7, 12, 18, 24, 31, 37].getD f 37
def wZc (c : Nat) : Nat := (wdC.take c).count 0
def wLen (f : Nat) : Nat := (gTxs.getD f []).length
def wBl (f : Nat) : List Int32 := gTxs.getD f [] ++ [32]
/-- the first place from i on where a text leaves a word -/
def mtF (L : Nat → Int32) (tx : List Int32) (a : Nat) : Nat → Nat → Nat
  | 0, i => i
  | r + 1, i => if L (a + i) = tx.getD i 0 then mtF L tx a r (i + 1) else i
theorem mtF_b {L : Nat → Int32} {tx : List Int32} {a : Nat} : ∀ (r i : Nat), i ≤ mtF L tx a r i ∧ mtF L tx a r i ≤ i + r
  | 0, i => by unfold mtF; omega
  | r + 1, i => by
    unfold mtF
    have := mtF_b (L := L) (tx := tx) (a := a) r (i + 1)
    split <;> omega
theorem wW_1 : ∀ f : Nat, f < 6 → ∀ i : Nat, i ≤ wLen f → wdC.getD (wOff f + i) 0 = (wBl f).getD i 0 := by decide +kernel
theorem wW_2 : ∀ f : Nat, f < 6 → ∀ i : Nat, i < wLen f → (wBl f).getD i 0 = (gTxs.getD f []).getD i 0 ∧ (32 : Int32) < (gTxs.getD f []).getD i 0 := by decide +kernel
theorem wW_3 : ∀ f : Nat, f < 6 → (wBl f).getD (wLen f) 0 = 32 ∧ wdC.getD (wOff f + (wLen f + 1)) 0 = 0 ∧ wOff f + (wLen f + 2) = wOff (f + 1) ∧ wOff (f + 1) ≤ 37 ∧ wLen f ≤ 5 := by decide +kernel
theorem wW_4 : ∀ f : Nat, f < 6 → ∀ i : Nat, i ≤ wLen f → ¬ (wBl f).getD i 0 = 0 ∧ (wBl f).getD i 0 ≠ -1 := by decide +kernel
theorem wW_5 : ∀ f : Nat, f < 6 → ∀ c : Nat, c < wOff f → wZc c < f ∧ wZc (c + 1) = wZc c + (if wdC.getD c 0 = 0 then 1 else 0) := by decide +kernel
theorem wW_6 : ∀ f : Nat, f < 6 → wZc (wOff f) = f ∧ wOff f < 37 := by decide +kernel
theorem wW_7 : ∀ f : Nat, f < 6 → ∀ i : Nat, i < wLen f → (gTxs.getD f []).getD i 0 ≠ -1 := by decide +kernel
def numV (L : Nat → Int32) (a : Nat) : Int32 := if rDig (L (a + 1)) then 10 * (L a - 48) + L (a + 1) - 48 else L a - 48
def numE (L : Nat → Int32) (a : Nat) : Nat := if rDig (L (a + 1)) then a + 2 else a + 1
def nmW (w : hW) (v : Int32) (a : Nat) : hW := wI (wI w 45 33 v) 45 31 (nI a)
def mFul (w : hW) (f : Nat) : Bool := (decide (f = 0) && decide (w.1 45 0 = 8)) || ((decide (f = 1) && decide (w.1 45 1 = 8)) || (decide (f = 2) && decide (w.1 45 2 = 4)))
def mFit (w : hW) (f i : Nat) (v : Int32) : Bool := match f with
  | 0 => if i = 0 then !decide (6 < v) else if i = 1 then decide (0 < v) else if i = 2 then decide (0 < v) && decide (v < 10) else mStep w v
  | 1 => decide (0 < v)
  | 2 => if i = 0 then decide (v < w.1 45 0) else if i = 2 then true else mStep w v
  | 3 => mLongOk w v
  | 4 => if i = 0 then true else mRivOk w (w.1 65 0) v
  | _ => decide (v < 10)
theorem mP_o {w : hW} {j : Nat} {x : Int32} (hP : mP w) (h : j ≠ 30) (h1 : j ≠ 31) (h2 : j ≠ 32) : mP (wI w 45 j x) ∧ mAt (wI w 45 j x) = mAt w ∧ mLt (wI w 45 j x) = mLt w := by
  have e0 : (wI w 45 j x).1 45 30 = w.1 45 30 := wI_at (by omega)
  have e1 : (wI w 45 j x).1 45 31 = w.1 45 31 := wI_at (by omega)
  have e2 : (wI w 45 j x).1 45 32 = w.1 45 32 := wI_at (by omega)
  unfold mP mLt mAt mBs mEd at *
  rw [e0, e1, e2]
  exact ⟨hP, rfl, rfl⟩
theorem mP_at {w : hW} {a : Nat} (hP : mP w) (ha : a ≤ mEd w) : mP (wI w 45 31 (nI a)) ∧ mAt (wI w 45 31 (nI a)) = a ∧ mLt (wI w 45 31 (nI a)) = mLt w := by
  have e0 : (wI w 45 31 (nI a)).1 45 30 = w.1 45 30 := wI_at (by omega)
  have e1 : (wI w 45 31 (nI a)).1 45 31 = nI a := wI_is
  have e2 : (wI w 45 31 (nI a)).1 45 32 = w.1 45 32 := wI_at (by omega)
  obtain ⟨a1, a2, a3, a4, a5, a6⟩ := hP
  have ha2 : (nI a).toInt.toNat = a := by rw [nI_toInt (by omega)]; omega
  unfold mP mLt mAt mBs mEd at *
  rw [e0, e1, e2, ha2]
  exact ⟨⟨a1, rfl, a3, a4, a5, ha⟩, rfl, rfl⟩
theorem mP_q {w : hW} {p i : Nat} {x : Int32} (hP : mP w) (h : p ≠ 45) : mP (wI w p i x) ∧ mAt (wI w p i x) = mAt w ∧ mLt (wI w p i x) = mLt w := by
  have e0 : (wI w p i x).1 45 = w.1 45 := wI_q (by omega)
  unfold mP mLt mAt mBs mEd at *
  rw [e0]
  exact ⟨hP, rfl, rfl⟩
theorem wI_wI {w : hW} {p i : Nat} {x y : Int32} : wI (wI w p i x) p i y = wI w p i y := by
  refine Prod.ext (funext fun q => funext fun j => ?_) rfl
  simp only [wI]
  split <;> rfl
theorem wI_cm {w : hW} {p i p2 i2 : Nat} {x y : Int32} (h : ¬ (p = p2 ∧ i = i2)) : wI (wI w p i x) p2 i2 y = wI (wI w p2 i2 y) p i x := by
  refine Prod.ext (funext fun q => funext fun j => ?_) rfl
  simp only [wI]
  by_cases h1 : q = p ∧ j = i
  · by_cases h2 : q = p2 ∧ j = i2
    · omega
    · rw [if_pos h1, if_neg h2, if_pos h1]
  · rw [if_neg h1, if_neg h1]
theorem rDig_b {x : Int32} (h : rDig x = true) : 48 ≤ x.toInt ∧ x.toInt ≤ 57 := by
  have z : (48 : Int32).toInt = 48 := rfl
  have z1 : (57 : Int32).toInt = 57 := rfl
  simp only [rDig, Bool.and_eq_true, Bool.not_eq_true', decide_eq_false_iff_not, i32_lt, z, z1] at h
  omega
theorem mLt_dig {w : hW} {q : Nat} (h : rDig (mLt w q) = true) : q < mEd w := by
  rcases Nat.lt_or_ge q (mEd w) with h1 | h1
  · exact h1
  · unfold mLt at h
    rw [if_neg (by omega)] at h
    cases h
theorem numV_z {L : Nat → Int32} {a : Nat} (h : rDig (L a) = true) : (L a - 48).toInt = (L a).toInt - 48 ∧ (rDig (L (a + 1)) = true → (10 * (L a - 48) + L (a + 1) - 48).toInt = 10 * ((L a).toInt - 48) + ((L (a + 1)).toInt - 48)) := by
  have z : (48 : Int32).toInt = 48 := rfl
  have t : (10 : Int32).toInt = 10 := rfl
  have b := rDig_b h
  have e1 := i32_sub (a := L a) (b := 48) (by rw [z]; omega) (by rw [z]; omega)
  rw [z] at e1
  refine ⟨e1, fun h2 => ?_⟩
  have b2 := rDig_b h2
  have m := i32_mul (a := 10) (b := L a - 48) (by rw [t, e1]; omega) (by rw [t, e1]; omega)
  rw [t, e1] at m
  have s := i32_add (a := 10 * (L a - 48)) (b := L (a + 1)) (by omega) (by omega)
  rw [i32_sub (by rw [s, z]; omega) (by rw [s, z]; omega), s, m, z]
  omega
theorem numV_b {L : Nat → Int32} {a : Nat} (h : rDig (L a) = true) : 0 ≤ (numV L a).toInt ∧ (numV L a).toInt ≤ 99 := by
  have b := rDig_b h
  obtain ⟨e1, e2⟩ := numV_z h
  unfold numV
  by_cases h2 : rDig (L (a + 1)) = true
  · have b2 := rDig_b h2
    rw [if_pos h2, e2 h2]
    omega
  · rw [if_neg h2, e1]
    omega
section
variable {d : Nat} {w : hW} {Q : aPost}
theorem c8_wr {p : Int32} : Cl d 184 [.ref 45, .int p] w Q = Q (some (.int 0)) (wI w 45 34 p) := by
  rw [Cl_go (L := [some (.ref 45), some (.int p)]) rfl]
  simp only [s184_0, s184_1, s184_2, s184_5, s184_6, gF_i, gF_r, gP_f, gP_t, aRd_1, aRd_4, aKd_e, oo_s, z0, z1, okP_n, okP_i, okP_r, vtl, vtn, true_and, and_true, bI_ite, bI_01, F8_7, F8_13, F8_16, F8_19, F8_23, F8_26, F8_29, F8_32, F8_35, F8_38, F8_41, F8_44, F8_47, F8_50, F8_53, F8_56, F8_59, F8_62, F8_65, F8_68, F8_72, F8_75, F8_78, F8_81, F8_84, F8_87, F8_90, F8_93, F8_96, F8_99, F8_102, F8_105, F8_108, F8_111, F8_114, F8_117, F8_171, F8_123, F8_126, F8_120, F8_162, F8_190, F8_184, F8_187, F8_181, F8_223, F8_200, F8_277, F8_304, F8_319, P8_7, P8_13, P8_16, P8_117, P8_171, P8_123, P8_126, P8_120, P8_162, P8_190, P8_184, P8_187, P8_181, P8_223, P8_200, P8_277, P8_304, P8_319, decide_true, decide_false, not_true_eq_false, not_false_eq_true, Bool.and_true, Bool.true_and, Bool.and_false, Bool.false_and, Bool.or_true, Bool.true_or, Bool.or_false, Bool.false_or, Bool.not_true, Bool.not_false, ite_true, ite_false, if_true, if_false, Bool.false_eq_true, reduceIte, decide_not, and_true, true_and, and_false, false_and, or_true, true_or, or_false, false_or, not_false, not_true]
theorem mLt_in {q : Nat} (hP : mP w) (h : q < mEd w) : mLt w q = (w.2 62 (mBs w + q)).toInt32 ∧ nI (mBs w) + nI q = nI (mBs w + q) ∧ (nI (mBs w + q)).toNatClampNeg = mBs w + q ∧ inb (nI (mBs w + q)) 1280 := by
  obtain ⟨a1, a2, a3, a4, a5, a6⟩ := hP
  refine ⟨by unfold mLt; rw [if_pos h], nI_sum _ _, nI_cl (by omega), nI_inb (by omega) (by omega)⟩
theorem c8_isDigit (hP : mP w) : Cl d 186 [.ref 45] w Q = Q (some (.int (bI (rDig (mLt w (mAt w)))))) w := by
  rw [Cl_go (L := [some (.ref 45)]) rfl]
  obtain ⟨a1, a2, a3, a4, a5, a6⟩ := hP
  by_cases h : mAt w < mEd w
  · have h1 : nI (mAt w) < nI (mEd w) := by rw [nIlt (by omega), nI_toInt (by omega)]; omega
    obtain ⟨e1, e2, e3, e4⟩ := mLt_in ⟨a1, a2, a3, a4, a5, a6⟩ h
    rw [e1]
    unfold rDig
    by_cases h2 : (w.2 62 (mBs w + mAt w)).toInt32 < 48
    · simp only [s186_0, s186_1, s186_4, s186_5, s186_8, s186_11, s186_12, s186_15, s186_16, s186_19, s186_20, s186_23, s186_24, s186_25, s186_26, s186_28, s186_31, s186_32, s186_35, s186_36, s186_39, s186_40, s186_43, s186_44, s186_45, s186_46, s186_48, s186_51, s186_52, s186_55, s186_56, gF_i, gF_r, gP_f, gP_t, aRd_1, aRd_4, aKd_e, oo_s, z0, z1, okP_n, okP_i, okP_r, vtl, vtn, true_and, and_true, bI_ite, bI_01, F8_7, F8_13, F8_16, F8_19, F8_23, F8_26, F8_29, F8_32, F8_35, F8_38, F8_41, F8_44, F8_47, F8_50, F8_53, F8_56, F8_59, F8_62, F8_65, F8_68, F8_72, F8_75, F8_78, F8_81, F8_84, F8_87, F8_90, F8_93, F8_96, F8_99, F8_102, F8_105, F8_108, F8_111, F8_114, F8_117, F8_171, F8_123, F8_126, F8_120, F8_162, F8_190, F8_184, F8_187, F8_181, F8_223, F8_200, F8_277, F8_304, F8_319, P8_7, P8_13, P8_16, P8_117, P8_171, P8_123, P8_126, P8_120, P8_162, P8_190, P8_184, P8_187, P8_181, P8_223, P8_200, P8_277, P8_304, P8_319, A_46, A_47, A_48, A_49, A_50, A_51, A_52, A_53, A_54, A_55, A_56, A_57, A_58, A_59, A_60, A_61, A_62, A_63, A_64, A_65, A_66, A_67, A_68, A_69, A_70, A_71, A_72, A_73, A_74, A_75, A_76, A_77, a1, a2, a3, h1, e2, e3, e4, h2, decide_true, decide_false, not_true_eq_false, not_false_eq_true, Bool.and_true, Bool.true_and, Bool.and_false, Bool.false_and, Bool.or_true, Bool.true_or, Bool.or_false, Bool.false_or, Bool.not_true, Bool.not_false, ite_true, ite_false, if_true, if_false, Bool.false_eq_true, reduceIte, decide_not, and_true, true_and, and_false, false_and, or_true, true_or, or_false, false_or, not_false, not_true]
      rfl
    · by_cases h3 : 57 < (w.2 62 (mBs w + mAt w)).toInt32
      · simp only [s186_0, s186_1, s186_4, s186_5, s186_8, s186_11, s186_12, s186_15, s186_16, s186_19, s186_20, s186_23, s186_24, s186_25, s186_26, s186_28, s186_31, s186_32, s186_35, s186_36, s186_39, s186_40, s186_43, s186_44, s186_45, s186_46, s186_48, s186_51, s186_52, s186_55, s186_56, gF_i, gF_r, gP_f, gP_t, aRd_1, aRd_4, aKd_e, oo_s, z0, z1, okP_n, okP_i, okP_r, vtl, vtn, true_and, and_true, bI_ite, bI_01, F8_7, F8_13, F8_16, F8_19, F8_23, F8_26, F8_29, F8_32, F8_35, F8_38, F8_41, F8_44, F8_47, F8_50, F8_53, F8_56, F8_59, F8_62, F8_65, F8_68, F8_72, F8_75, F8_78, F8_81, F8_84, F8_87, F8_90, F8_93, F8_96, F8_99, F8_102, F8_105, F8_108, F8_111, F8_114, F8_117, F8_171, F8_123, F8_126, F8_120, F8_162, F8_190, F8_184, F8_187, F8_181, F8_223, F8_200, F8_277, F8_304, F8_319, P8_7, P8_13, P8_16, P8_117, P8_171, P8_123, P8_126, P8_120, P8_162, P8_190, P8_184, P8_187, P8_181, P8_223, P8_200, P8_277, P8_304, P8_319, A_46, A_47, A_48, A_49, A_50, A_51, A_52, A_53, A_54, A_55, A_56, A_57, A_58, A_59, A_60, A_61, A_62, A_63, A_64, A_65, A_66, A_67, A_68, A_69, A_70, A_71, A_72, A_73, A_74, A_75, A_76, A_77, a1, a2, a3, h1, e2, e3, e4, h2, h3, decide_true, decide_false, not_true_eq_false, not_false_eq_true, Bool.and_true, Bool.true_and, Bool.and_false, Bool.false_and, Bool.or_true, Bool.true_or, Bool.or_false, Bool.false_or, Bool.not_true, Bool.not_false, ite_true, ite_false, if_true, if_false, Bool.false_eq_true, reduceIte, decide_not, and_true, true_and, and_false, false_and, or_true, true_or, or_false, false_or, not_false, not_true]
        rfl
      · simp only [s186_0, s186_1, s186_4, s186_5, s186_8, s186_11, s186_12, s186_15, s186_16, s186_19, s186_20, s186_23, s186_24, s186_25, s186_26, s186_28, s186_31, s186_32, s186_35, s186_36, s186_39, s186_40, s186_43, s186_44, s186_45, s186_46, s186_48, s186_51, s186_52, s186_55, s186_56, gF_i, gF_r, gP_f, gP_t, aRd_1, aRd_4, aKd_e, oo_s, z0, z1, okP_n, okP_i, okP_r, vtl, vtn, true_and, and_true, bI_ite, bI_01, F8_7, F8_13, F8_16, F8_19, F8_23, F8_26, F8_29, F8_32, F8_35, F8_38, F8_41, F8_44, F8_47, F8_50, F8_53, F8_56, F8_59, F8_62, F8_65, F8_68, F8_72, F8_75, F8_78, F8_81, F8_84, F8_87, F8_90, F8_93, F8_96, F8_99, F8_102, F8_105, F8_108, F8_111, F8_114, F8_117, F8_171, F8_123, F8_126, F8_120, F8_162, F8_190, F8_184, F8_187, F8_181, F8_223, F8_200, F8_277, F8_304, F8_319, P8_7, P8_13, P8_16, P8_117, P8_171, P8_123, P8_126, P8_120, P8_162, P8_190, P8_184, P8_187, P8_181, P8_223, P8_200, P8_277, P8_304, P8_319, A_46, A_47, A_48, A_49, A_50, A_51, A_52, A_53, A_54, A_55, A_56, A_57, A_58, A_59, A_60, A_61, A_62, A_63, A_64, A_65, A_66, A_67, A_68, A_69, A_70, A_71, A_72, A_73, A_74, A_75, A_76, A_77, a1, a2, a3, h1, e2, e3, e4, h2, h3, decide_true, decide_false, not_true_eq_false, not_false_eq_true, Bool.and_true, Bool.true_and, Bool.and_false, Bool.false_and, Bool.or_true, Bool.true_or, Bool.or_false, Bool.false_or, Bool.not_true, Bool.not_false, ite_true, ite_false, if_true, if_false, Bool.false_eq_true, reduceIte, decide_not, and_true, true_and, and_false, false_and, or_true, true_or, or_false, false_or, not_false, not_true]
        rfl
  · have h1 : ¬ nI (mAt w) < nI (mEd w) := by rw [nIlt (by omega), nI_toInt (by omega)]; omega
    have e : mLt w (mAt w) = -1 := by unfold mLt; rw [if_neg h]
    rw [e]
    simp only [s186_0, s186_1, s186_4, s186_5, s186_8, s186_11, s186_12, s186_15, s186_16, s186_19, s186_20, s186_23, s186_24, s186_25, s186_26, s186_28, s186_31, s186_32, s186_35, s186_36, s186_39, s186_40, s186_43, s186_44, s186_45, s186_46, s186_48, s186_51, s186_52, s186_55, s186_56, gF_i, gF_r, gP_f, gP_t, aRd_1, aRd_4, aKd_e, oo_s, z0, z1, okP_n, okP_i, okP_r, vtl, vtn, true_and, and_true, bI_ite, bI_01, F8_7, F8_13, F8_16, F8_19, F8_23, F8_26, F8_29, F8_32, F8_35, F8_38, F8_41, F8_44, F8_47, F8_50, F8_53, F8_56, F8_59, F8_62, F8_65, F8_68, F8_72, F8_75, F8_78, F8_81, F8_84, F8_87, F8_90, F8_93, F8_96, F8_99, F8_102, F8_105, F8_108, F8_111, F8_114, F8_117, F8_171, F8_123, F8_126, F8_120, F8_162, F8_190, F8_184, F8_187, F8_181, F8_223, F8_200, F8_277, F8_304, F8_319, P8_7, P8_13, P8_16, P8_117, P8_171, P8_123, P8_126, P8_120, P8_162, P8_190, P8_184, P8_187, P8_181, P8_223, P8_200, P8_277, P8_304, P8_319, a2, a3, h1, decide_true, decide_false, not_true_eq_false, not_false_eq_true, Bool.and_true, Bool.true_and, Bool.and_false, Bool.false_and, Bool.or_true, Bool.true_or, Bool.or_false, Bool.false_or, Bool.not_true, Bool.not_false, ite_true, ite_false, if_true, if_false, Bool.false_eq_true, reduceIte, decide_not, and_true, true_and, and_false, false_and, or_true, true_or, or_false, false_or, not_false, not_true]
    rfl
def mNum (w : hW) : Int32 × hW := if rDig (mLt w (mAt w)) then (1, nmW w (numV (mLt w) (mAt w)) (numE (mLt w) (mAt w))) else (0, wI w 45 34 (nI (mAt w)))
theorem c8_number (hP : mP w) : Cl (d + 1) 187 [.ref 45, .int 0, .int 99] w Q = Q (some (.int (mNum w).1)) (mNum w).2 := by
  rw [Cl_go (L := [some (.ref 45), some (.int 0), some (.int 99), none]) rfl]
  have hP' := hP
  obtain ⟨a1, a2, a3, a4, a5, a6⟩ := hP
  have o1 : ¬ (1 : Int32) = 0 := by decide
  unfold mNum
  by_cases h : rDig (mLt w (mAt w)) = true
  · have hl := mLt_dig h
    obtain ⟨e1, e2, e3, e4⟩ := mLt_in hP' hl
    obtain ⟨p1, p2, p3⟩ := mP_o (j := 33) (x := mLt w (mAt w) - 48) hP' (by decide) (by decide) (by decide)
    obtain ⟨q1, q2, q3⟩ := mP_at (a := mAt w + 1) p1 (by unfold mEd; rw [wI_at (by decide)]; exact hl)
    have nb := numV_b h
    have z99 : (99 : Int32).toInt = 99 := rfl
    have z0' : (0 : Int32).toInt = 0 := rfl
    have l1 : ¬ numV (mLt w) (mAt w) < 0 := by rw [i32_lt, z0']; omega
    have l2 : ¬ 99 < numV (mLt w) (mAt w) := by rw [i32_lt, z99]; omega
    have k1 : (wI w 45 33 (mLt w (mAt w) - 48)).1 45 31 = nI (mAt w) := by rw [wI_at (by decide)]; exact a2
    rw [if_pos h]
    unfold nmW numE
    unfold numV at l1 l2 ⊢
    by_cases h2 : rDig (mLt w (mAt w + 1)) = true
    · have hl2 := mLt_dig h2
      obtain ⟨f1, f2, f3, f4⟩ := mLt_in hP' hl2
      rw [if_pos h2] at l1 l2 ⊢
      rw [if_pos h2]
      have k0 : ∀ x y, (wI (wI w 45 33 x) 45 31 y).1 45 30 = nI (mBs w) := fun x y => by rw [wI_at (by decide), wI_at (by decide)]; exact a1
      have k33 : ∀ x y, (wI (wI w 45 33 x) 45 31 y).1 45 33 = x := fun x y => by rw [wI_at (by decide), wI_is]
      have k31 : ∀ x y z, (wI (wI (wI w 45 33 x) 45 31 y) 45 33 z).1 45 31 = y := fun x y z => by rw [wI_at (by decide), wI_is]
      have k33b : ∀ x y z u, (wI (wI (wI (wI w 45 33 x) 45 31 y) 45 33 z) 45 31 u).1 45 33 = z := fun x y z u => by rw [wI_at (by decide), wI_is]
      have kk : ∀ x y z u, wI (wI (wI (wI w 45 33 x) 45 31 y) 45 33 z) 45 31 u = wI (wI w 45 33 z) 45 31 u := fun x y z u => by
        rw [wI_cm (w := wI w 45 33 x) (p := 45) (i := 31) (p2 := 45) (i2 := 33) (by decide), wI_wI, wI_wI]
      have hd : rDig (mLt (wI (wI w 45 33 (mLt w (mAt w) - 48)) 45 31 (nI (mAt w + 1))) (mAt (wI (wI w 45 33 (mLt w (mAt w) - 48)) 45 31 (nI (mAt w + 1))))) = true := by rw [q2, q3, p3]; exact h2
      rw [e1, f1] at l1 l2 ⊢
      rw [e1] at k1 q1 hd
      simp only [s187_0, s187_1, s187_4, s187_5, s187_6, s187_9, s187_12, s187_13, s187_14, s187_17, s187_20, s187_21, s187_22, s187_23, s187_26, s187_27, s187_30, s187_31, s187_34, s187_35, s187_36, s187_37, s187_39, s187_40, s187_43, s187_44i, s187_44, s187_45, s187_48, s187_49, s187_50, s187_53, s187_54, s187_57, s187_60, s187_61, s187_63, s187_64, s187_67, s187_68, s187_69, s187_72, s187_73, s187_76, s187_77, s187_80, s187_81, s187_82, s187_83, s187_84, s187_86, s187_87, s187_90, s187_91i, s187_91, s187_92, s187_95, s187_96, s187_97, s187_100, s187_101, s187_104, s187_105, s187_108, s187_109, s187_112, s187_113, s187_116, s187_117, s187_118, s187_121, s187_124, s187_125, s187_128, s187_129, gF_i, gF_r, gP_f, gP_t, aRd_1, aRd_4, aKd_e, oo_s, z0, z1, okP_n, okP_i, okP_r, vtl, vtn, true_and, and_true, bI_ite, bI_01, F8_7, F8_13, F8_16, F8_19, F8_23, F8_26, F8_29, F8_32, F8_35, F8_38, F8_41, F8_44, F8_47, F8_50, F8_53, F8_56, F8_59, F8_62, F8_65, F8_68, F8_72, F8_75, F8_78, F8_81, F8_84, F8_87, F8_90, F8_93, F8_96, F8_99, F8_102, F8_105, F8_108, F8_111, F8_114, F8_117, F8_171, F8_123, F8_126, F8_120, F8_162, F8_190, F8_184, F8_187, F8_181, F8_223, F8_200, F8_277, F8_304, F8_319, P8_7, P8_13, P8_16, P8_117, P8_171, P8_123, P8_126, P8_120, P8_162, P8_190, P8_184, P8_187, P8_181, P8_223, P8_200, P8_277, P8_304, P8_319, A_46, A_47, A_48, A_49, A_50, A_51, A_52, A_53, A_54, A_55, A_56, A_57, A_58, A_59, A_60, A_61, A_62, A_63, A_64, A_65, A_66, A_67, A_68, A_69, A_70, A_71, A_72, A_73, A_74, A_75, A_76, A_77, cs_n, Nat.zero_le, cs_i, cs_r, cs_l, Nat.reduceAdd, Nat.reduceLeDiff, R_8, c8_isDigit hP', h, a1, a2, a3, e2, e3, e4, k1, nI_1, c8_isDigit q1, hd, k0, k33, k31, k33b, kk, wI_2, wI_is, f2, f3, f4, l1, l2, decide_true, decide_false, not_true_eq_false, not_false_eq_true, Bool.and_true, Bool.true_and, Bool.and_false, Bool.false_and, Bool.or_true, Bool.true_or, Bool.or_false, Bool.false_or, Bool.not_true, Bool.not_false, ite_true, ite_false, if_true, if_false, Bool.false_eq_true, reduceIte, decide_not, and_true, true_and, and_false, false_and, or_true, true_or, or_false, false_or, not_false, not_true]
    · rw [if_neg h2] at l1 l2 ⊢
      rw [if_neg h2]
      have k33 : ∀ x y, (wI (wI w 45 33 x) 45 31 y).1 45 33 = x := fun x y => by rw [wI_at (by decide), wI_is]
      have hd : ¬ rDig (mLt (wI (wI w 45 33 (mLt w (mAt w) - 48)) 45 31 (nI (mAt w + 1))) (mAt (wI (wI w 45 33 (mLt w (mAt w) - 48)) 45 31 (nI (mAt w + 1))))) = true := by rw [q2, q3, p3]; exact h2
      rw [e1] at l1 l2 ⊢
      rw [e1] at k1 q1 hd
      simp only [s187_0, s187_1, s187_4, s187_5, s187_6, s187_9, s187_12, s187_13, s187_14, s187_17, s187_20, s187_21, s187_22, s187_23, s187_26, s187_27, s187_30, s187_31, s187_34, s187_35, s187_36, s187_37, s187_39, s187_40, s187_43, s187_44i, s187_44, s187_45, s187_48, s187_49, s187_50, s187_53, s187_54, s187_57, s187_60, s187_61, s187_63, s187_64, s187_67, s187_68, s187_69, s187_72, s187_73, s187_76, s187_77, s187_80, s187_81, s187_82, s187_83, s187_84, s187_86, s187_87, s187_90, s187_91i, s187_91, s187_92, s187_95, s187_96, s187_97, s187_100, s187_101, s187_104, s187_105, s187_108, s187_109, s187_112, s187_113, s187_116, s187_117, s187_118, s187_121, s187_124, s187_125, s187_128, s187_129, gF_i, gF_r, gP_f, gP_t, aRd_1, aRd_4, aKd_e, oo_s, z0, z1, okP_n, okP_i, okP_r, vtl, vtn, true_and, and_true, bI_ite, bI_01, F8_7, F8_13, F8_16, F8_19, F8_23, F8_26, F8_29, F8_32, F8_35, F8_38, F8_41, F8_44, F8_47, F8_50, F8_53, F8_56, F8_59, F8_62, F8_65, F8_68, F8_72, F8_75, F8_78, F8_81, F8_84, F8_87, F8_90, F8_93, F8_96, F8_99, F8_102, F8_105, F8_108, F8_111, F8_114, F8_117, F8_171, F8_123, F8_126, F8_120, F8_162, F8_190, F8_184, F8_187, F8_181, F8_223, F8_200, F8_277, F8_304, F8_319, P8_7, P8_13, P8_16, P8_117, P8_171, P8_123, P8_126, P8_120, P8_162, P8_190, P8_184, P8_187, P8_181, P8_223, P8_200, P8_277, P8_304, P8_319, A_46, A_47, A_48, A_49, A_50, A_51, A_52, A_53, A_54, A_55, A_56, A_57, A_58, A_59, A_60, A_61, A_62, A_63, A_64, A_65, A_66, A_67, A_68, A_69, A_70, A_71, A_72, A_73, A_74, A_75, A_76, A_77, cs_n, Nat.zero_le, cs_i, cs_r, cs_l, Nat.reduceAdd, Nat.reduceLeDiff, R_8, c8_isDigit hP', h, a1, a2, a3, e2, e3, e4, k1, nI_1, c8_isDigit q1, hd, k33, l1, l2, decide_true, decide_false, not_true_eq_false, not_false_eq_true, Bool.and_true, Bool.true_and, Bool.and_false, Bool.false_and, Bool.or_true, Bool.true_or, Bool.or_false, Bool.false_or, Bool.not_true, Bool.not_false, ite_true, ite_false, if_true, if_false, Bool.false_eq_true, reduceIte, decide_not, and_true, true_and, and_false, false_and, or_true, true_or, or_false, false_or, not_false, not_true]
  · rw [if_neg h]
    simp only [s187_0, s187_1, s187_4, s187_5, s187_6, s187_9, s187_12, s187_13, s187_14, s187_17, s187_20, s187_21, s187_22, s187_23, s187_26, s187_27, s187_30, s187_31, s187_34, s187_35, s187_36, s187_37, s187_39, s187_40, s187_43, s187_44i, s187_44, s187_45, s187_48, s187_49, s187_50, s187_53, s187_54, s187_57, s187_60, s187_61, s187_63, s187_64, s187_67, s187_68, s187_69, s187_72, s187_73, s187_76, s187_77, s187_80, s187_81, s187_82, s187_83, s187_84, s187_86, s187_87, s187_90, s187_91i, s187_91, s187_92, s187_95, s187_96, s187_97, s187_100, s187_101, s187_104, s187_105, s187_108, s187_109, s187_112, s187_113, s187_116, s187_117, s187_118, s187_121, s187_124, s187_125, s187_128, s187_129, gF_i, gF_r, gP_f, gP_t, aRd_1, aRd_4, aKd_e, oo_s, z0, z1, okP_n, okP_i, okP_r, vtl, vtn, true_and, and_true, bI_ite, bI_01, F8_7, F8_13, F8_16, F8_19, F8_23, F8_26, F8_29, F8_32, F8_35, F8_38, F8_41, F8_44, F8_47, F8_50, F8_53, F8_56, F8_59, F8_62, F8_65, F8_68, F8_72, F8_75, F8_78, F8_81, F8_84, F8_87, F8_90, F8_93, F8_96, F8_99, F8_102, F8_105, F8_108, F8_111, F8_114, F8_117, F8_171, F8_123, F8_126, F8_120, F8_162, F8_190, F8_184, F8_187, F8_181, F8_223, F8_200, F8_277, F8_304, F8_319, P8_7, P8_13, P8_16, P8_117, P8_171, P8_123, P8_126, P8_120, P8_162, P8_190, P8_184, P8_187, P8_181, P8_223, P8_200, P8_277, P8_304, P8_319, A_46, A_47, A_48, A_49, A_50, A_51, A_52, A_53, A_54, A_55, A_56, A_57, A_58, A_59, A_60, A_61, A_62, A_63, A_64, A_65, A_66, A_67, A_68, A_69, A_70, A_71, A_72, A_73, A_74, A_75, A_76, A_77, cs_n, Nat.zero_le, cs_i, cs_r, cs_l, Nat.reduceAdd, Nat.reduceLeDiff, R_8, c8_isDigit hP', h, a2, c8_wr, decide_true, decide_false, not_true_eq_false, not_false_eq_true, Bool.and_true, Bool.true_and, Bool.and_false, Bool.false_and, Bool.or_true, Bool.true_or, Bool.or_false, Bool.false_or, Bool.not_true, Bool.not_false, ite_true, ite_false, if_true, if_false, Bool.false_eq_true, reduceIte, decide_not, and_true, true_and, and_false, false_and, or_true, true_or, or_false, false_or, not_false, not_true]
theorem nI6 {f : Nat} (h : f < 6) : f = 0 ∨ f = 1 ∨ f = 2 ∨ f = 3 ∨ f = 4 ∨ f = 5 := by omega
theorem c8_isFull {f : Nat} (hf : f < 6) : Cl d 189 [.ref 45, .int (nI f)] w Q = Q (some (.int (bI (mFul w f)))) w := by
  rw [Cl_go (L := [some (.ref 45), some (.int (nI f))]) rfl]
  have n0 : nI 0 = 0 := rfl
  have n1 : nI 1 = 1 := rfl
  have n2 : nI 2 = 2 := rfl
  have n3 : nI 3 = 3 := rfl
  have n4 : nI 4 = 4 := rfl
  have n5 : nI 5 = 5 := rfl
  have o1 : ¬ (1 : Int32) = 0 := by decide
  rcases nI6 hf with rfl | rfl | rfl | rfl | rfl | rfl
  · by_cases h : w.1 45 0 = 8
    · have e : mFul w 0 = true := by unfold mFul; simp [h]
      rw [e]
      simp only [s189_0, s189_1, s189_4, s189_5, s189_8, s189_10, s189_13, s189_14, s189_15, s189_18, s189_19, s189_22, s189_24, s189_27, s189_28, s189_29, s189_32, s189_33, s189_36, s189_37, s189_40, s189_41, s189_44, s189_45, gF_i, gF_r, gP_f, gP_t, aRd_1, aRd_4, aKd_e, oo_s, z0, z1, okP_n, okP_i, okP_r, vtl, vtn, true_and, and_true, bI_ite, bI_01, F8_7, F8_13, F8_16, F8_19, F8_23, F8_26, F8_29, F8_32, F8_35, F8_38, F8_41, F8_44, F8_47, F8_50, F8_53, F8_56, F8_59, F8_62, F8_65, F8_68, F8_72, F8_75, F8_78, F8_81, F8_84, F8_87, F8_90, F8_93, F8_96, F8_99, F8_102, F8_105, F8_108, F8_111, F8_114, F8_117, F8_171, F8_123, F8_126, F8_120, F8_162, F8_190, F8_184, F8_187, F8_181, F8_223, F8_200, F8_277, F8_304, F8_319, P8_7, P8_13, P8_16, P8_117, P8_171, P8_123, P8_126, P8_120, P8_162, P8_190, P8_184, P8_187, P8_181, P8_223, P8_200, P8_277, P8_304, P8_319, n0, h, decide_true, decide_false, not_true_eq_false, not_false_eq_true, Bool.and_true, Bool.true_and, Bool.and_false, Bool.false_and, Bool.or_true, Bool.true_or, Bool.or_false, Bool.false_or, Bool.not_true, Bool.not_false, ite_true, ite_false, if_true, if_false, Bool.false_eq_true, reduceIte, decide_not, and_true, true_and, and_false, false_and, or_true, true_or, or_false, false_or, not_false, not_true]
      rfl
    · have e : mFul w 0 = false := by unfold mFul; simp [h]
      rw [e]
      simp only [s189_0, s189_1, s189_4, s189_5, s189_8, s189_10, s189_13, s189_14, s189_15, s189_18, s189_19, s189_22, s189_24, s189_27, s189_28, s189_29, s189_32, s189_33, s189_36, s189_37, s189_40, s189_41, s189_44, s189_45, gF_i, gF_r, gP_f, gP_t, aRd_1, aRd_4, aKd_e, oo_s, z0, z1, okP_n, okP_i, okP_r, vtl, vtn, true_and, and_true, bI_ite, bI_01, F8_7, F8_13, F8_16, F8_19, F8_23, F8_26, F8_29, F8_32, F8_35, F8_38, F8_41, F8_44, F8_47, F8_50, F8_53, F8_56, F8_59, F8_62, F8_65, F8_68, F8_72, F8_75, F8_78, F8_81, F8_84, F8_87, F8_90, F8_93, F8_96, F8_99, F8_102, F8_105, F8_108, F8_111, F8_114, F8_117, F8_171, F8_123, F8_126, F8_120, F8_162, F8_190, F8_184, F8_187, F8_181, F8_223, F8_200, F8_277, F8_304, F8_319, P8_7, P8_13, P8_16, P8_117, P8_171, P8_123, P8_126, P8_120, P8_162, P8_190, P8_184, P8_187, P8_181, P8_223, P8_200, P8_277, P8_304, P8_319, n0, if_neg h, kq_0_1, kq_0_2, decide_true, decide_false, not_true_eq_false, not_false_eq_true, Bool.and_true, Bool.true_and, Bool.and_false, Bool.false_and, Bool.or_true, Bool.true_or, Bool.or_false, Bool.false_or, Bool.not_true, Bool.not_false, ite_true, ite_false, if_true, if_false, Bool.false_eq_true, reduceIte, decide_not, and_true, true_and, and_false, false_and, or_true, true_or, or_false, false_or, not_false, not_true]
      rfl
  · by_cases h : w.1 45 1 = 8
    · have e : mFul w 1 = true := by unfold mFul; simp [h]
      rw [e]
      simp only [s189_0, s189_1, s189_4, s189_5, s189_8, s189_10, s189_13, s189_14, s189_15, s189_18, s189_19, s189_22, s189_24, s189_27, s189_28, s189_29, s189_32, s189_33, s189_36, s189_37, s189_40, s189_41, s189_44, s189_45, gF_i, gF_r, gP_f, gP_t, aRd_1, aRd_4, aKd_e, oo_s, z0, z1, okP_n, okP_i, okP_r, vtl, vtn, true_and, and_true, bI_ite, bI_01, F8_7, F8_13, F8_16, F8_19, F8_23, F8_26, F8_29, F8_32, F8_35, F8_38, F8_41, F8_44, F8_47, F8_50, F8_53, F8_56, F8_59, F8_62, F8_65, F8_68, F8_72, F8_75, F8_78, F8_81, F8_84, F8_87, F8_90, F8_93, F8_96, F8_99, F8_102, F8_105, F8_108, F8_111, F8_114, F8_117, F8_171, F8_123, F8_126, F8_120, F8_162, F8_190, F8_184, F8_187, F8_181, F8_223, F8_200, F8_277, F8_304, F8_319, P8_7, P8_13, P8_16, P8_117, P8_171, P8_123, P8_126, P8_120, P8_162, P8_190, P8_184, P8_187, P8_181, P8_223, P8_200, P8_277, P8_304, P8_319, n1, h, if_neg o1, decide_true, decide_false, not_true_eq_false, not_false_eq_true, Bool.and_true, Bool.true_and, Bool.and_false, Bool.false_and, Bool.or_true, Bool.true_or, Bool.or_false, Bool.false_or, Bool.not_true, Bool.not_false, ite_true, ite_false, if_true, if_false, Bool.false_eq_true, reduceIte, decide_not, and_true, true_and, and_false, false_and, or_true, true_or, or_false, false_or, not_false, not_true]
      rfl
    · have e : mFul w 1 = false := by unfold mFul; simp [h]
      rw [e]
      simp only [s189_0, s189_1, s189_4, s189_5, s189_8, s189_10, s189_13, s189_14, s189_15, s189_18, s189_19, s189_22, s189_24, s189_27, s189_28, s189_29, s189_32, s189_33, s189_36, s189_37, s189_40, s189_41, s189_44, s189_45, gF_i, gF_r, gP_f, gP_t, aRd_1, aRd_4, aKd_e, oo_s, z0, z1, okP_n, okP_i, okP_r, vtl, vtn, true_and, and_true, bI_ite, bI_01, F8_7, F8_13, F8_16, F8_19, F8_23, F8_26, F8_29, F8_32, F8_35, F8_38, F8_41, F8_44, F8_47, F8_50, F8_53, F8_56, F8_59, F8_62, F8_65, F8_68, F8_72, F8_75, F8_78, F8_81, F8_84, F8_87, F8_90, F8_93, F8_96, F8_99, F8_102, F8_105, F8_108, F8_111, F8_114, F8_117, F8_171, F8_123, F8_126, F8_120, F8_162, F8_190, F8_184, F8_187, F8_181, F8_223, F8_200, F8_277, F8_304, F8_319, P8_7, P8_13, P8_16, P8_117, P8_171, P8_123, P8_126, P8_120, P8_162, P8_190, P8_184, P8_187, P8_181, P8_223, P8_200, P8_277, P8_304, P8_319, n1, if_neg h, if_neg o1, kq_1_2, decide_true, decide_false, not_true_eq_false, not_false_eq_true, Bool.and_true, Bool.true_and, Bool.and_false, Bool.false_and, Bool.or_true, Bool.true_or, Bool.or_false, Bool.false_or, Bool.not_true, Bool.not_false, ite_true, ite_false, if_true, if_false, Bool.false_eq_true, reduceIte, decide_not, and_true, true_and, and_false, false_and, or_true, true_or, or_false, false_or, not_false, not_true]
      rfl
  · by_cases h : w.1 45 2 = 4
    · have e : mFul w 2 = true := by unfold mFul; simp [h]
      rw [e]
      simp only [s189_0, s189_1, s189_4, s189_5, s189_8, s189_10, s189_13, s189_14, s189_15, s189_18, s189_19, s189_22, s189_24, s189_27, s189_28, s189_29, s189_32, s189_33, s189_36, s189_37, s189_40, s189_41, s189_44, s189_45, gF_i, gF_r, gP_f, gP_t, aRd_1, aRd_4, aKd_e, oo_s, z0, z1, okP_n, okP_i, okP_r, vtl, vtn, true_and, and_true, bI_ite, bI_01, F8_7, F8_13, F8_16, F8_19, F8_23, F8_26, F8_29, F8_32, F8_35, F8_38, F8_41, F8_44, F8_47, F8_50, F8_53, F8_56, F8_59, F8_62, F8_65, F8_68, F8_72, F8_75, F8_78, F8_81, F8_84, F8_87, F8_90, F8_93, F8_96, F8_99, F8_102, F8_105, F8_108, F8_111, F8_114, F8_117, F8_171, F8_123, F8_126, F8_120, F8_162, F8_190, F8_184, F8_187, F8_181, F8_223, F8_200, F8_277, F8_304, F8_319, P8_7, P8_13, P8_16, P8_117, P8_171, P8_123, P8_126, P8_120, P8_162, P8_190, P8_184, P8_187, P8_181, P8_223, P8_200, P8_277, P8_304, P8_319, n2, h, kq_2_0, kq_2_1, decide_true, decide_false, not_true_eq_false, not_false_eq_true, Bool.and_true, Bool.true_and, Bool.and_false, Bool.false_and, Bool.or_true, Bool.true_or, Bool.or_false, Bool.false_or, Bool.not_true, Bool.not_false, ite_true, ite_false, if_true, if_false, Bool.false_eq_true, reduceIte, decide_not, and_true, true_and, and_false, false_and, or_true, true_or, or_false, false_or, not_false, not_true]
      rfl
    · have e : mFul w 2 = false := by unfold mFul; simp [h]
      rw [e]
      simp only [s189_0, s189_1, s189_4, s189_5, s189_8, s189_10, s189_13, s189_14, s189_15, s189_18, s189_19, s189_22, s189_24, s189_27, s189_28, s189_29, s189_32, s189_33, s189_36, s189_37, s189_40, s189_41, s189_44, s189_45, gF_i, gF_r, gP_f, gP_t, aRd_1, aRd_4, aKd_e, oo_s, z0, z1, okP_n, okP_i, okP_r, vtl, vtn, true_and, and_true, bI_ite, bI_01, F8_7, F8_13, F8_16, F8_19, F8_23, F8_26, F8_29, F8_32, F8_35, F8_38, F8_41, F8_44, F8_47, F8_50, F8_53, F8_56, F8_59, F8_62, F8_65, F8_68, F8_72, F8_75, F8_78, F8_81, F8_84, F8_87, F8_90, F8_93, F8_96, F8_99, F8_102, F8_105, F8_108, F8_111, F8_114, F8_117, F8_171, F8_123, F8_126, F8_120, F8_162, F8_190, F8_184, F8_187, F8_181, F8_223, F8_200, F8_277, F8_304, F8_319, P8_7, P8_13, P8_16, P8_117, P8_171, P8_123, P8_126, P8_120, P8_162, P8_190, P8_184, P8_187, P8_181, P8_223, P8_200, P8_277, P8_304, P8_319, n2, if_neg h, kq_2_0, kq_2_1, decide_true, decide_false, not_true_eq_false, not_false_eq_true, Bool.and_true, Bool.true_and, Bool.and_false, Bool.false_and, Bool.or_true, Bool.true_or, Bool.or_false, Bool.false_or, Bool.not_true, Bool.not_false, ite_true, ite_false, if_true, if_false, Bool.false_eq_true, reduceIte, decide_not, and_true, true_and, and_false, false_and, or_true, true_or, or_false, false_or, not_false, not_true]
      rfl
  · have e : mFul w 3 = false := by unfold mFul; simp
    rw [e]
    simp only [s189_0, s189_1, s189_4, s189_5, s189_8, s189_10, s189_13, s189_14, s189_15, s189_18, s189_19, s189_22, s189_24, s189_27, s189_28, s189_29, s189_32, s189_33, s189_36, s189_37, s189_40, s189_41, s189_44, s189_45, gF_i, gF_r, gP_f, gP_t, aRd_1, aRd_4, aKd_e, oo_s, z0, z1, okP_n, okP_i, okP_r, vtl, vtn, true_and, and_true, bI_ite, bI_01, F8_7, F8_13, F8_16, F8_19, F8_23, F8_26, F8_29, F8_32, F8_35, F8_38, F8_41, F8_44, F8_47, F8_50, F8_53, F8_56, F8_59, F8_62, F8_65, F8_68, F8_72, F8_75, F8_78, F8_81, F8_84, F8_87, F8_90, F8_93, F8_96, F8_99, F8_102, F8_105, F8_108, F8_111, F8_114, F8_117, F8_171, F8_123, F8_126, F8_120, F8_162, F8_190, F8_184, F8_187, F8_181, F8_223, F8_200, F8_277, F8_304, F8_319, P8_7, P8_13, P8_16, P8_117, P8_171, P8_123, P8_126, P8_120, P8_162, P8_190, P8_184, P8_187, P8_181, P8_223, P8_200, P8_277, P8_304, P8_319, n3, kq_3_0, kq_3_1, kq_3_2, decide_true, decide_false, not_true_eq_false, not_false_eq_true, Bool.and_true, Bool.true_and, Bool.and_false, Bool.false_and, Bool.or_true, Bool.true_or, Bool.or_false, Bool.false_or, Bool.not_true, Bool.not_false, ite_true, ite_false, if_true, if_false, Bool.false_eq_true, reduceIte, decide_not, and_true, true_and, and_false, false_and, or_true, true_or, or_false, false_or, not_false, not_true]
    rfl
  · have e : mFul w 4 = false := by unfold mFul; simp
    rw [e]
    simp only [s189_0, s189_1, s189_4, s189_5, s189_8, s189_10, s189_13, s189_14, s189_15, s189_18, s189_19, s189_22, s189_24, s189_27, s189_28, s189_29, s189_32, s189_33, s189_36, s189_37, s189_40, s189_41, s189_44, s189_45, gF_i, gF_r, gP_f, gP_t, aRd_1, aRd_4, aKd_e, oo_s, z0, z1, okP_n, okP_i, okP_r, vtl, vtn, true_and, and_true, bI_ite, bI_01, F8_7, F8_13, F8_16, F8_19, F8_23, F8_26, F8_29, F8_32, F8_35, F8_38, F8_41, F8_44, F8_47, F8_50, F8_53, F8_56, F8_59, F8_62, F8_65, F8_68, F8_72, F8_75, F8_78, F8_81, F8_84, F8_87, F8_90, F8_93, F8_96, F8_99, F8_102, F8_105, F8_108, F8_111, F8_114, F8_117, F8_171, F8_123, F8_126, F8_120, F8_162, F8_190, F8_184, F8_187, F8_181, F8_223, F8_200, F8_277, F8_304, F8_319, P8_7, P8_13, P8_16, P8_117, P8_171, P8_123, P8_126, P8_120, P8_162, P8_190, P8_184, P8_187, P8_181, P8_223, P8_200, P8_277, P8_304, P8_319, n4, kq_4_0, kq_4_1, kq_4_2, decide_true, decide_false, not_true_eq_false, not_false_eq_true, Bool.and_true, Bool.true_and, Bool.and_false, Bool.false_and, Bool.or_true, Bool.true_or, Bool.or_false, Bool.false_or, Bool.not_true, Bool.not_false, ite_true, ite_false, if_true, if_false, Bool.false_eq_true, reduceIte, decide_not, and_true, true_and, and_false, false_and, or_true, true_or, or_false, false_or, not_false, not_true]
    rfl
  · have e : mFul w 5 = false := by unfold mFul; simp
    rw [e]
    simp only [s189_0, s189_1, s189_4, s189_5, s189_8, s189_10, s189_13, s189_14, s189_15, s189_18, s189_19, s189_22, s189_24, s189_27, s189_28, s189_29, s189_32, s189_33, s189_36, s189_37, s189_40, s189_41, s189_44, s189_45, gF_i, gF_r, gP_f, gP_t, aRd_1, aRd_4, aKd_e, oo_s, z0, z1, okP_n, okP_i, okP_r, vtl, vtn, true_and, and_true, bI_ite, bI_01, F8_7, F8_13, F8_16, F8_19, F8_23, F8_26, F8_29, F8_32, F8_35, F8_38, F8_41, F8_44, F8_47, F8_50, F8_53, F8_56, F8_59, F8_62, F8_65, F8_68, F8_72, F8_75, F8_78, F8_81, F8_84, F8_87, F8_90, F8_93, F8_96, F8_99, F8_102, F8_105, F8_108, F8_111, F8_114, F8_117, F8_171, F8_123, F8_126, F8_120, F8_162, F8_190, F8_184, F8_187, F8_181, F8_223, F8_200, F8_277, F8_304, F8_319, P8_7, P8_13, P8_16, P8_117, P8_171, P8_123, P8_126, P8_120, P8_162, P8_190, P8_184, P8_187, P8_181, P8_223, P8_200, P8_277, P8_304, P8_319, n5, kq_5_0, kq_5_1, kq_5_2, decide_true, decide_false, not_true_eq_false, not_false_eq_true, Bool.and_true, Bool.true_and, Bool.and_false, Bool.false_and, Bool.or_true, Bool.true_or, Bool.or_false, Bool.false_or, Bool.not_true, Bool.not_false, ite_true, ite_false, if_true, if_false, Bool.false_eq_true, reduceIte, decide_not, and_true, true_and, and_false, false_and, or_true, true_or, or_false, false_or, not_false, not_true]
    rfl
end

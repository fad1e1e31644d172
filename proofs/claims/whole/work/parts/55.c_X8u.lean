/-! CONTRACTS of the model: items. What is only jotted down while reading lies in slots 31, 33, 34 of the object and in place 65 -/
def scr (u w : hW) : Prop := (∀ q, q ≠ 45 → q ≠ 65 → w.1 q = u.1 q) ∧ (∀ j, j ≠ 31 → j ≠ 33 → j ≠ 34 → w.1 45 j = u.1 45 j) ∧ w.2 = u.2
theorem scr.rf {w : hW} : scr w w := ⟨fun _ _ _ => rfl, fun _ _ _ _ => rfl, rfl⟩
theorem scr.tr {a b c : hW} (h : scr a b) (h2 : scr b c) : scr a c := ⟨fun q x y => (h2.1 q x y).trans (h.1 q x y), fun j x y z => (h2.2.1 j x y z).trans (h.2.1 j x y z), h2.2.2.trans h.2.2⟩
theorem scr_j {w : hW} {j : Nat} {x : Int32} (h : j = 31 ∨ j = 33 ∨ j = 34) : scr w (wI w 45 j x) := ⟨fun q a _ => wI_q a, fun k a b c => wI_at (by omega), rfl⟩
theorem scr_65 {w : hW} {i : Nat} {x : Int32} : scr w (wI w 65 i x) := ⟨fun q _ b => wI_q b, fun k _ _ _ => by rw [wI_q (by decide)], rfl⟩
theorem scr_wI {u w : hW} (h : scr u w) {p i : Nat} {x : Int32} : scr (wI u p i x) (wI w p i x) := by
  refine ⟨fun q a b => ?_, fun j a b c => ?_, h.2.2⟩
  · funext k
    simp only [wI]
    rw [h.1 q a b]
  · simp only [wI]
    rw [h.2.1 j a b c]
theorem mP_j {w : hW} {j : Nat} {x : Int32} (hP : mP w) (h : j = 33 ∨ j = 34) : mP (wI w 45 j x) ∧ mAt (wI w 45 j x) = mAt w ∧ mLt (wI w 45 j x) = mLt w := mP_o hP (by omega) (by omega) (by omega)
theorem mI_scr {u w : hW} (h : scr u w) (hI : mI u) : mI w := by
  refine mI_had hI (fun q hq => h.1 q (by omega) (by omega)) (h.2.1 0 (by decide) (by decide) (by decide)) (h.2.1 1 (by decide) (by decide) (by decide)) (h.2.1 2 (by decide) (by decide) (by decide)) (fun t => Or.inl (by rw [h.1 51 (by decide) (by decide)]))
theorem mV_scr {u w : hW} (h : scr u w) (hV : mV u) : mV w := by
  have k : ∀ j, j ≠ 31 → j ≠ 33 → j ≠ 34 → w.1 45 j = u.1 45 j := h.2.1
  unfold mV mStd at *
  rw [k 3 (by decide) (by decide) (by decide), k 4 (by decide) (by decide) (by decide), k 5 (by decide) (by decide) (by decide), k 6 (by decide) (by decide) (by decide), k 0 (by decide) (by decide) (by decide), k 1 (by decide) (by decide) (by decide), k 2 (by decide) (by decide) (by decide), h.1 47 (by decide) (by decide), h.1 50 (by decide) (by decide), h.1 52 (by decide) (by decide), h.1 53 (by decide) (by decide), h.1 54 (by decide) (by decide), h.1 56 (by decide) (by decide), h.1 57 (by decide) (by decide)]
  exact hV
theorem mWd_scr {u w : hW} (h : scr u w) (hW : mWd u) : mWd w := by
  unfold mWd at *
  rw [h.1 64 (by decide) (by decide)]
  exact hW
theorem mLt_scr {u w : hW} (h : scr u w) : mLt w = mLt u ∧ mEd w = mEd u ∧ mBs w = mBs u := by
  have e1 : mEd w = mEd u := by unfold mEd; rw [h.2.1 32 (by decide) (by decide) (by decide)]
  have e2 : mBs w = mBs u := by unfold mBs; rw [h.2.1 30 (by decide) (by decide) (by decide)]
  refine ⟨funext fun q => ?_, e1, e2⟩
  unfold mLt
  rw [e1, e2, h.2.2]
theorem mStep_scr {u w : hW} (h : scr u w) {p : Int32} : mStep w p = mStep u p := by
  unfold mStep mWet
  rw [h.2.1 3 (by decide) (by decide) (by decide), h.2.1 4 (by decide) (by decide) (by decide), h.2.1 5 (by decide) (by decide) (by decide)]
theorem mFul_scr {u w : hW} (h : scr u w) {f : Nat} : mFul w f = mFul u f := by
  unfold mFul
  rw [h.2.1 0 (by decide) (by decide) (by decide), h.2.1 1 (by decide) (by decide) (by decide), h.2.1 2 (by decide) (by decide) (by decide)]
def pFit (w : hW) (f i : Nat) (v0 v : Int32) : Bool := match f with
  | 0 => if i = 0 then !decide (6 < v) else if i = 1 then decide (0 < v) else if i = 2 then decide (0 < v) && decide (v < 10) else mStep w v
  | 1 => decide (0 < v)
  | 2 => if i = 0 then decide (v < w.1 45 0) else if i = 2 then true else mStep w v
  | 3 => mLongOk w v
  | 4 => if i = 0 then true else mRivOk w v0 v
  | _ => decide (v < 10)
theorem pFit_m {u w : hW} (h : scr u w) {f i : Nat} {v : Int32} {v0 : Int32} (h0 : i = 0 ∨ w.1 65 0 = v0) : mFit w f i v = pFit u f i v0 v := by
  have k : ∀ j, j ≠ 31 → j ≠ 33 → j ≠ 34 → w.1 45 j = u.1 45 j := h.2.1
  have e1 : mLongOk w v = mLongOk u v := by
    unfold mLongOk
    rw [k 5 (by decide) (by decide) (by decide), k 0 (by decide) (by decide) (by decide), k 2 (by decide) (by decide) (by decide), h.1 50 (by decide) (by decide), h.1 56 (by decide) (by decide)]
  have e2 : ∀ x, mRivOk w x v = mRivOk u x v := by
    intro x
    unfold mRivOk
    rw [k 3 (by decide) (by decide) (by decide), k 0 (by decide) (by decide) (by decide), k 2 (by decide) (by decide) (by decide), h.1 50 (by decide) (by decide), h.1 56 (by decide) (by decide)]
  rcases f with _ | _ | _ | _ | _ | f
  · show (if i = 0 then !decide (6 < v) else if i = 1 then decide (0 < v) else if i = 2 then decide (0 < v) && decide (v < 10) else mStep w v) = (if i = 0 then !decide (6 < v) else if i = 1 then decide (0 < v) else if i = 2 then decide (0 < v) && decide (v < 10) else mStep u v)
    rw [mStep_scr h]
  · show decide (0 < v) = decide (0 < v)
    rfl
  · show (if i = 0 then decide (v < w.1 45 0) else if i = 2 then true else mStep w v) = (if i = 0 then decide (v < u.1 45 0) else if i = 2 then true else mStep u v)
    rw [mStep_scr h, k 0 (by decide) (by decide) (by decide)]
  · show mLongOk w v = mLongOk u v
    exact e1
  · show (if i = 0 then true else mRivOk w (w.1 65 0) v) = (if i = 0 then true else mRivOk u v0 v)
    by_cases hi : i = 0
    · rw [if_pos hi, if_pos hi]
    · rw [if_neg hi, if_neg hi, e2]
      rcases h0 with h0 | h0
      · exact absurd h0 hi
      · rw [h0]
  · show decide (v < 10) = decide (v < 10)
    rfl
theorem pFit_u {u w : hW} (h : scr u w) {f i : Nat} {v v0 : Int32} : pFit w f i v0 v = pFit u f i v0 v := by
  have k : ∀ j, j ≠ 31 → j ≠ 33 → j ≠ 34 → w.1 45 j = u.1 45 j := h.2.1
  unfold pFit mLongOk mRivOk
  rw [mStep_scr h, k 5 (by decide) (by decide) (by decide), k 3 (by decide) (by decide) (by decide), k 0 (by decide) (by decide) (by decide), k 2 (by decide) (by decide) (by decide), h.1 50 (by decide) (by decide), h.1 56 (by decide) (by decide)]
/-- a row of numbers from a place on: the place of the first fault, or the numbers and where they end -/
def pNs (L : Nat → Int32) (ft : Nat → Int32 → Int32 → Bool) : Nat → Nat → Nat → Int32 → Nat ⊕ (List Int32 × Nat)
  | 0, _, a, _ => .inr ([], a)
  | r + 1, i, a, v0 => if i ≠ 0 ∧ L a ≠ 32 then .inl a else if rDig (L (if i = 0 then a else a + 1)) then (if ft i (if i = 0 then numV L (if i = 0 then a else a + 1) else v0) (numV L (if i = 0 then a else a + 1)) then (match pNs L ft r (i + 1) (numE L (if i = 0 then a else a + 1)) (if i = 0 then numV L (if i = 0 then a else a + 1) else v0) with
    | .inl q => .inl q
    | .inr x => .inr (numV L (if i = 0 then a else a + 1) :: x.1, x.2)) else .inl (if i = 0 then a else a + 1)) else .inl (if i = 0 then a else a + 1)
def mCnt (f : Nat) : Nat := if f = 0 then 4 else if f = 2 then 3 else if f = 4 then 2 else 1
def itA (w : hW) (f : Nat) (l : List Int32) : hW := match f with
  | 0 => mAddT w (l.getD 0 0) (l.getD 1 0) (l.getD 2 0) (l.getD 3 0)
  | 1 => mAddM w (l.getD 0 0)
  | 2 => mAddW w (l.getD 0 0) (l.getD 1 0) (l.getD 2 0)
  | 3 => wI w 45 3 (l.getD 0 0)
  | 4 => wI (wI w 45 4 (l.getD 0 0)) 45 5 (l.getD 1 0)
  | _ => wI w 45 6 (l.getD 0 0)
theorem itA_scr {u w : hW} (h : scr u w) {f : Nat} {l : List Int32} : scr (itA u f l) (itA w f l) := by
  have k : ∀ j, j ≠ 31 → j ≠ 33 → j ≠ 34 → w.1 45 j = u.1 45 j := h.2.1
  unfold itA
  split
  · unfold mAddT
    rw [k 0 (by decide) (by decide) (by decide)]
    exact scr_wI (scr_wI (scr_wI (scr_wI (scr_wI (scr_wI (scr_wI h))))))
  · unfold mAddM
    rw [k 1 (by decide) (by decide) (by decide)]
    exact scr_wI (scr_wI (scr_wI h))
  · unfold mAddW
    rw [k 2 (by decide) (by decide) (by decide)]
    exact scr_wI (scr_wI (scr_wI (scr_wI h)))
  · exact scr_wI h
  · exact scr_wI (scr_wI h)
  · exact scr_wI h
def mItF (w : hW) : Nat → Nat → Bool
  | _, 0 => false
  | f, r + 1 => if (mWA w f && mFul w f) = true then true else mItF w (f + 1) r
/-- an item: the place of its first fault, or its word, its numbers, its end -/
def pItem (w : hW) : Nat ⊕ (Nat × List Int32 × Nat) := if mItF w 0 6 then .inl (mAt w) else match wdF (mLt w) (mAt w) 0 6 (mAt w) with
  | .inr q => .inl q
  | .inl f => match pNs (mLt w) (pFit w f) (mCnt f) 0 (mAt w + (wLen f + 1)) 0 with
    | .inl q => .inl q
    | .inr x => .inr (f, x.1, x.2)
theorem pItem_scr {u w : hW} (h : scr u w) (ha : mAt w = mAt u) : pItem w = pItem u := by
  obtain ⟨e1, e2, e3⟩ := mLt_scr h
  have eF : ∀ r f, mItF w f r = mItF u f r := by
    intro r
    induction r with
    | zero => intro f; rfl
    | succ r ih =>
      intro f
      unfold mItF mWA
      rw [e1, ha, mFul_scr h, ih]
  have eP : ∀ f, pFit w f = pFit u f := fun f => funext fun i => funext fun v0 => funext fun v => pFit_u h
  unfold pItem
  rw [eF, e1, ha]
  simp only [eP]
section
variable {Q : aPost}
/-- one number of an item, and what follows it -/
theorem itmT {f n : Nat} {first : Int32} (hf : f < 6) (hn : n ≤ 4) : ∀ (r i : Nat) (w : hW) (v0 : Int32), mI w → mP w → i + r = n → (i = 0 ∨ w.1 65 0 = v0) → match pNs (mLt w) (pFit w f) r i (mAt w) v0 with
  | .inl q => ∃ w', scr w w' ∧ w'.1 45 34 = nI q ∧ ∀ (d : Nat) (Q : aPost) (a5 : Option Value), Tr (d + 4) 191 133 [some (.ref 45), some (.int first), some (.int (nI f)), some (.int (nI n)), some (.int (nI i)), a5] [] w Q = Q (some (.int 0)) w'
  | .inr x => ∃ w', scr w w' ∧ mP w' ∧ mAt w' = x.2 ∧ (∀ k, k < i → w'.1 65 k = w.1 65 k) ∧ (∀ k, k < r → w'.1 65 (i + k) = x.1.getD k 0) ∧ ∀ (d : Nat) (Q : aPost) (a5 : Option Value), ∃ a5', Tr (d + 4) 191 133 [some (.ref 45), some (.int first), some (.int (nI f)), some (.int (nI n)), some (.int (nI i)), a5] [] w Q = Go (d + 4) 191 246 [some (.ref 45), some (.int first), some (.int (nI f)), some (.int (nI n)), some (.int (nI n)), a5'] [] w' Q := by
  intro r
  induction r with
  | zero =>
    intro i w v0 hI hP hi h0
    have hi2 : i = n := by omega
    subst hi2
    have h1 : ¬ nI i < nI i := by rw [i32_lt]; omega
    unfold pNs
    refine ⟨w, scr.rf, hP, rfl, fun _ _ => rfl, fun k hk => by omega, fun d Q a5 => ⟨a5, ?_⟩⟩
    show Go (d + 4) 191 133 _ _ _ _ = _
    simp only [s191_133, s191_135, s191_136, gF_i, gF_r, gP_f, gP_t, aRd_1, aRd_4, aKd_e, oo_s, z0, z1, okP_n, okP_i, okP_r, vtl, vtn, true_and, and_true, bI_ite, bI_01, h1, decide_true, decide_false, not_true_eq_false, not_false_eq_true, Bool.and_true, Bool.true_and, Bool.and_false, Bool.false_and, Bool.or_true, Bool.true_or, Bool.or_false, Bool.false_or, Bool.not_true, Bool.not_false, ite_true, ite_false, if_true, if_false, Bool.false_eq_true, reduceIte, decide_not, and_true, true_and, and_false, false_and, or_true, true_or, or_false, false_or, not_false, not_true]
  | succ r ih =>
    intro i w v0 hI hP hi h0
    have h1 : nI i < nI n := by rw [nIlt (by omega), nI_toInt (by omega)]; omega
    have hP' := hP
    obtain ⟨a1, a2, a3, a4, a5', a6⟩ := hP
    have hpos : (0 < nI i) = (i ≠ 0) := by rw [nIpos (by omega)]; exact propext (by omega)
    have ci := nI_cl (show i < 2 ^ 31 by omega)
    have ii := nI_inb (show i < 2 ^ 31 by omega) (show i < 4 by omega)
    rw [pNs]
    by_cases hb : i ≠ 0 ∧ mLt w (mAt w) ≠ 32
    · rw [if_pos hb]
      refine ⟨wI w 45 34 (nI (mAt w)), scr_j (by omega), wI_is, fun d Q a5 => ?_⟩
      show Go (d + 4) 191 133 _ _ _ _ = _
      by_cases h2 : mAt w < mEd w
      · have h3 : nI (mAt w) < nI (mEd w) := by rw [nIlt (by omega), nI_toInt (by omega)]; omega
        obtain ⟨e1, e2, e3, e4⟩ := mLt_in hP' h2
        have h4 := hb.2
        rw [e1] at h4
        simp only [s191_133, s191_135, s191_136, s191_139, s191_141, s191_144, s191_145, s191_148, s191_149, s191_152, s191_155, s191_156, s191_159, s191_160, s191_163, s191_164, s191_167, s191_168, s191_169, s191_170, s191_172, s191_175, s191_176, s191_177, s191_180, s191_183, gF_i, gF_r, gP_f, gP_t, aRd_1, aRd_4, aKd_e, oo_s, z0, z1, okP_n, okP_i, okP_r, vtl, vtn, true_and, and_true, bI_ite, bI_01, F8_7, F8_13, F8_16, F8_19, F8_23, F8_26, F8_29, F8_32, F8_35, F8_38, F8_41, F8_44, F8_47, F8_50, F8_53, F8_56, F8_59, F8_62, F8_65, F8_68, F8_72, F8_75, F8_78, F8_81, F8_84, F8_87, F8_90, F8_93, F8_96, F8_99, F8_102, F8_105, F8_108, F8_111, F8_114, F8_117, F8_171, F8_123, F8_126, F8_120, F8_162, F8_190, F8_184, F8_187, F8_181, F8_223, F8_200, F8_277, F8_304, F8_319, P8_7, P8_13, P8_16, P8_117, P8_171, P8_123, P8_126, P8_120, P8_162, P8_190, P8_184, P8_187, P8_181, P8_223, P8_200, P8_277, P8_304, P8_319, A_46, A_47, A_48, A_49, A_50, A_51, A_52, A_53, A_54, A_55, A_56, A_57, A_58, A_59, A_60, A_61, A_62, A_63, A_64, A_65, A_66, A_67, A_68, A_69, A_70, A_71, A_72, A_73, A_74, A_75, A_76, A_77, cs_n, Nat.zero_le, cs_i, cs_r, cs_l, Nat.reduceAdd, Nat.reduceLeDiff, R_8, h1, hpos, hb.1, a1, a2, a3, h3, e2, e3, e4, if_neg h4, c8_wr, ne_eq, not_false_eq_true, decide_true, decide_false, not_true_eq_false, not_false_eq_true, Bool.and_true, Bool.true_and, Bool.and_false, Bool.false_and, Bool.or_true, Bool.true_or, Bool.or_false, Bool.false_or, Bool.not_true, Bool.not_false, ite_true, ite_false, if_true, if_false, Bool.false_eq_true, reduceIte, decide_not, and_true, true_and, and_false, false_and, or_true, true_or, or_false, false_or, not_false, not_true]
      · have h3 : ¬ nI (mAt w) < nI (mEd w) := by rw [nIlt (by omega), nI_toInt (by omega)]; omega
        simp only [s191_133, s191_135, s191_136, s191_139, s191_141, s191_144, s191_145, s191_148, s191_149, s191_152, s191_155, s191_156, s191_159, s191_160, s191_163, s191_164, s191_167, s191_168, s191_169, s191_170, s191_172, s191_175, s191_176, s191_177, s191_180, s191_183, gF_i, gF_r, gP_f, gP_t, aRd_1, aRd_4, aKd_e, oo_s, z0, z1, okP_n, okP_i, okP_r, vtl, vtn, true_and, and_true, bI_ite, bI_01, F8_7, F8_13, F8_16, F8_19, F8_23, F8_26, F8_29, F8_32, F8_35, F8_38, F8_41, F8_44, F8_47, F8_50, F8_53, F8_56, F8_59, F8_62, F8_65, F8_68, F8_72, F8_75, F8_78, F8_81, F8_84, F8_87, F8_90, F8_93, F8_96, F8_99, F8_102, F8_105, F8_108, F8_111, F8_114, F8_117, F8_171, F8_123, F8_126, F8_120, F8_162, F8_190, F8_184, F8_187, F8_181, F8_223, F8_200, F8_277, F8_304, F8_319, P8_7, P8_13, P8_16, P8_117, P8_171, P8_123, P8_126, P8_120, P8_162, P8_190, P8_184, P8_187, P8_181, P8_223, P8_200, P8_277, P8_304, P8_319, A_46, A_47, A_48, A_49, A_50, A_51, A_52, A_53, A_54, A_55, A_56, A_57, A_58, A_59, A_60, A_61, A_62, A_63, A_64, A_65, A_66, A_67, A_68, A_69, A_70, A_71, A_72, A_73, A_74, A_75, A_76, A_77, cs_n, Nat.zero_le, cs_i, cs_r, cs_l, Nat.reduceAdd, Nat.reduceLeDiff, R_8, h1, hpos, hb.1, a2, a3, h3, c8_wr, ne_eq, not_false_eq_true, decide_true, decide_false, not_true_eq_false, not_false_eq_true, Bool.and_true, Bool.true_and, Bool.and_false, Bool.false_and, Bool.or_true, Bool.true_or, Bool.or_false, Bool.false_or, Bool.not_true, Bool.not_false, ite_true, ite_false, if_true, if_false, Bool.false_eq_true, reduceIte, decide_not, and_true, true_and, and_false, false_and, or_true, true_or, or_false, false_or, not_false, not_true]
    · rw [if_neg hb]
      /- the blank is passed -/
      have hA : ∃ w1, scr w w1 ∧ mP w1 ∧ mAt w1 = (if i = 0 then mAt w else mAt w + 1) ∧ mLt w1 = mLt w ∧ w1.1 65 = w.1 65 ∧ ∀ (d : Nat) (Q : aPost) (a5 : Option Value), Tr (d + 4) 191 133 [some (.ref 45), some (.int first), some (.int (nI f)), some (.int (nI n)), some (.int (nI i)), a5] [] w Q = Go (d + 4) 191 194 [some (.ref 45), some (.int first), some (.int (nI f)), some (.int (nI n)), some (.int (nI i)), a5] [] w1 Q := by
        by_cases hi0 : i = 0
        · refine ⟨w, scr.rf, hP', by rw [if_pos hi0], rfl, rfl, fun d Q a5 => ?_⟩
          have hp0 : ¬ (0 < nI i) := by rw [hpos]; exact fun e => e hi0
          show Go (d + 4) 191 133 _ _ _ _ = _
          simp only [s191_133, s191_135, s191_136, s191_139, s191_141, gF_i, gF_r, gP_f, gP_t, aRd_1, aRd_4, aKd_e, oo_s, z0, z1, okP_n, okP_i, okP_r, vtl, vtn, true_and, and_true, bI_ite, bI_01, h1, hp0, decide_true, decide_false, not_true_eq_false, not_false_eq_true, Bool.and_true, Bool.true_and, Bool.and_false, Bool.false_and, Bool.or_true, Bool.true_or, Bool.or_false, Bool.false_or, Bool.not_true, Bool.not_false, ite_true, ite_false, if_true, if_false, Bool.false_eq_true, reduceIte, decide_not, and_true, true_and, and_false, false_and, or_true, true_or, or_false, false_or, not_false, not_true]
        · have hl : mLt w (mAt w) = 32 := by
            rcases Classical.em (mLt w (mAt w) = 32) with e | e
            · exact e
            · exact absurd ⟨hi0, e⟩ hb
          have h2 : mAt w < mEd w := by
            rcases Nat.lt_or_ge (mAt w) (mEd w) with e | e
            · exact e
            · unfold mLt at hl
              rw [if_neg (by omega)] at hl
              exact absurd hl (by decide)
          obtain ⟨q1, q2, q3⟩ := mP_at (a := mAt w + 1) hP' (by omega)
          refine ⟨wI w 45 31 (nI (mAt w + 1)), scr_j (by omega), q1, by rw [if_neg hi0]; exact q2, q3, wI_q (by decide), fun d Q a5 => ?_⟩
          have h3 : nI (mAt w) < nI (mEd w) := by rw [nIlt (by omega), nI_toInt (by omega)]; omega
          obtain ⟨e1, e2, e3, e4⟩ := mLt_in hP' h2
          have h4 := hl
          rw [e1] at h4
          have hi1 : (i ≠ 0) = True := eq_true hi0
          show Go (d + 4) 191 133 _ _ _ _ = _
          simp only [s191_133, s191_135, s191_136, s191_139, s191_141, s191_144, s191_145, s191_148, s191_149, s191_152, s191_155, s191_156, s191_159, s191_160, s191_163, s191_164, s191_167, s191_168, s191_169, s191_170, s191_172, s191_175, s191_176, s191_177, s191_180, s191_183, s191_184, s191_185i, s191_185, s191_186, s191_189, s191_190, s191_191, gF_i, gF_r, gP_f, gP_t, aRd_1, aRd_4, aKd_e, oo_s, z0, z1, okP_n, okP_i, okP_r, vtl, vtn, true_and, and_true, bI_ite, bI_01, F8_7, F8_13, F8_16, F8_19, F8_23, F8_26, F8_29, F8_32, F8_35, F8_38, F8_41, F8_44, F8_47, F8_50, F8_53, F8_56, F8_59, F8_62, F8_65, F8_68, F8_72, F8_75, F8_78, F8_81, F8_84, F8_87, F8_90, F8_93, F8_96, F8_99, F8_102, F8_105, F8_108, F8_111, F8_114, F8_117, F8_171, F8_123, F8_126, F8_120, F8_162, F8_190, F8_184, F8_187, F8_181, F8_223, F8_200, F8_277, F8_304, F8_319, P8_7, P8_13, P8_16, P8_117, P8_171, P8_123, P8_126, P8_120, P8_162, P8_190, P8_184, P8_187, P8_181, P8_223, P8_200, P8_277, P8_304, P8_319, A_46, A_47, A_48, A_49, A_50, A_51, A_52, A_53, A_54, A_55, A_56, A_57, A_58, A_59, A_60, A_61, A_62, A_63, A_64, A_65, A_66, A_67, A_68, A_69, A_70, A_71, A_72, A_73, A_74, A_75, A_76, A_77, h1, hpos, hi1, a1, a2, a3, h3, e2, e3, e4, if_pos h4, nI_1, decide_true, decide_false, not_true_eq_false, not_false_eq_true, Bool.and_true, Bool.true_and, Bool.and_false, Bool.false_and, Bool.or_true, Bool.true_or, Bool.or_false, Bool.false_or, Bool.not_true, Bool.not_false, ite_true, ite_false, if_true, if_false, Bool.false_eq_true, reduceIte, decide_not, and_true, true_and, and_false, false_and, or_true, true_or, or_false, false_or, not_false, not_true]
      obtain ⟨w1, s1, P1, at1, L1, t1, hG⟩ := hA
      have I1 := mI_scr s1 hI
      obtain ⟨b1, b2, b3, b4, b5, b6⟩ := P1
      have P1' : mP w1 := ⟨b1, b2, b3, b4, b5, b6⟩
      generalize hp : (if i = 0 then mAt w else mAt w + 1) = p at at1
      have hnum := fun (d : Nat) (Q : aPost) => c8_number (d := d) (Q := Q) P1'
      unfold mNum at hnum
      rw [L1, at1] at hnum
      rw [at1] at b2
      by_cases hd : rDig (mLt w p) = true
      · rw [if_pos hd]
        rw [if_pos hd] at hnum
        have hlt : p < mEd w1 := by
          have := mLt_dig hd
          rw [(mLt_scr s1).2.1]
          exact this
        have hle : numE (mLt w) p ≤ mEd w1 := by
          unfold numE
          split
          · rename_i h
            have := mLt_dig h
            rw [(mLt_scr s1).2.1]
            omega
          · omega
        obtain ⟨r1, r2, r3⟩ := mP_j (j := 33) (x := numV (mLt w) p) P1' (by omega)
        obtain ⟨u1, u2, u3⟩ := mP_at (a := numE (mLt w) p) r1 (by rw [show mEd (wI w1 45 33 (numV (mLt w) p)) = mEd w1 from by unfold mEd; rw [wI_at (by decide)]]; exact hle)
        have s2 : scr w (nmW w1 (numV (mLt w) p) (numE (mLt w) p)) := s1.tr ((scr_j (by omega)).tr (scr_j (by omega)))
        have I2 : mI (nmW w1 (numV (mLt w) p) (numE (mLt w) p)) := mI_scr s2 hI
        have v33 : (nmW w1 (numV (mLt w) p) (numE (mLt w) p)).1 45 33 = numV (mLt w) p := by unfold nmW; rw [wI_at (by decide), wI_is]
        have hfit := fun (d : Nat) (Q : aPost) => c8_isFit (d := d) (Q := Q) I2 hf (show i < 4 by omega)
        rw [v33] at hfit
        have hv0 : i = 0 ∨ (nmW w1 (numV (mLt w) p) (numE (mLt w) p)).1 65 0 = (if i = 0 then numV (mLt w) p else v0) := by
          by_cases hi0 : i = 0
          · exact Or.inl hi0
          · right
            rw [if_neg hi0]
            unfold nmW
            rw [wI_q (by decide), wI_q (by decide), t1]
            rcases h0 with h0 | h0
            · exact absurd h0 hi0
            · exact h0
        rw [pFit_m s2 hv0] at hfit
        by_cases hft : pFit w f i (if i = 0 then numV (mLt w) p else v0) (numV (mLt w) p) = true
        · rw [if_pos hft]
          have s3 : scr w (wI (nmW w1 (numV (mLt w) p) (numE (mLt w) p)) 65 i (numV (mLt w) p)) := s2.tr scr_65
          obtain ⟨x1, x2, x3⟩ := mP_q (p := 65) (i := i) (x := numV (mLt w) p) u1 (by decide)
          have hih := ih (i + 1) (wI (nmW w1 (numV (mLt w) p) (numE (mLt w) p)) 65 i (numV (mLt w) p)) (if i = 0 then numV (mLt w) p else v0) (mI_scr s3 hI) x1 (by omega) (Or.inr (by
            by_cases hi0 : i = 0
            · rw [if_pos hi0]; subst hi0; exact wI_is
            · rw [if_neg hi0, wI_at (by omega)]
              unfold nmW
              rw [wI_q (by decide), wI_q (by decide), t1]
              rcases h0 with h0 | h0
              · exact absurd h0 hi0
              · exact h0))
          have eL : mLt (wI (nmW w1 (numV (mLt w) p) (numE (mLt w) p)) 65 i (numV (mLt w) p)) = mLt w := (mLt_scr s3).1
          have eP : pFit (wI (nmW w1 (numV (mLt w) p) (numE (mLt w) p)) 65 i (numV (mLt w) p)) f = pFit w f := funext fun i => funext fun v0 => funext fun v => pFit_u s3
          have eA : mAt (wI (nmW w1 (numV (mLt w) p) (numE (mLt w) p)) 65 i (numV (mLt w) p)) = numE (mLt w) p := x2.trans u2
          rw [eL, eP, eA] at hih
          have hst : ∀ (d : Nat) (Q : aPost) (a5 : Option Value), Tr (d + 4) 191 133 [some (.ref 45), some (.int first), some (.int (nI f)), some (.int (nI n)), some (.int (nI i)), a5] [] w Q = Tr (d + 4) 191 133 [some (.ref 45), some (.int first), some (.int (nI f)), some (.int (nI n)), some (.int (nI (i + 1))), some (.int (nI p))] [] (wI (nmW w1 (numV (mLt w) p) (numE (mLt w) p)) 65 i (numV (mLt w) p)) Q := by
            intro d Q a5
            have o1 : ¬ (1 : Int32) = 0 := by decide
            rw [hG]
            simp only [s191_194, s191_195, s191_198, s191_200, s191_201, s191_202, s191_204, s191_207, s191_210, s191_211, s191_212, s191_213, s191_214, s191_216, s191_219, s191_222, s191_223, s191_225, s191_228, s191_229, s191_230, s191_233, s191_235, s191_236, s191_239, s191_240, s191_243, gF_i, gF_r, gP_f, gP_t, aRd_1, aRd_4, aKd_e, oo_s, z0, z1, okP_n, okP_i, okP_r, vtl, vtn, true_and, and_true, bI_ite, bI_01, F8_7, F8_13, F8_16, F8_19, F8_23, F8_26, F8_29, F8_32, F8_35, F8_38, F8_41, F8_44, F8_47, F8_50, F8_53, F8_56, F8_59, F8_62, F8_65, F8_68, F8_72, F8_75, F8_78, F8_81, F8_84, F8_87, F8_90, F8_93, F8_96, F8_99, F8_102, F8_105, F8_108, F8_111, F8_114, F8_117, F8_171, F8_123, F8_126, F8_120, F8_162, F8_190, F8_184, F8_187, F8_181, F8_223, F8_200, F8_277, F8_304, F8_319, P8_7, P8_13, P8_16, P8_117, P8_171, P8_123, P8_126, P8_120, P8_162, P8_190, P8_184, P8_187, P8_181, P8_223, P8_200, P8_277, P8_304, P8_319, A_46, A_47, A_48, A_49, A_50, A_51, A_52, A_53, A_54, A_55, A_56, A_57, A_58, A_59, A_60, A_61, A_62, A_63, A_64, A_65, A_66, A_67, A_68, A_69, A_70, A_71, A_72, A_73, A_74, A_75, A_76, A_77, cs_n, Nat.zero_le, cs_i, cs_r, cs_l, Nat.reduceAdd, Nat.reduceLeDiff, R_8, b2, hnum, hfit, hft, v33, ci, ii, if_neg o1, nI_1, decide_true, decide_false, not_true_eq_false, not_false_eq_true, Bool.and_true, Bool.true_and, Bool.and_false, Bool.false_and, Bool.or_true, Bool.true_or, Bool.or_false, Bool.false_or, Bool.not_true, Bool.not_false, ite_true, ite_false, if_true, if_false, Bool.false_eq_true, reduceIte, decide_not, and_true, true_and, and_false, false_and, or_true, true_or, or_false, false_or, not_false, not_true]
          cases hm : pNs (mLt w) (pFit w f) r (i + 1) (numE (mLt w) p) (if i = 0 then numV (mLt w) p else v0) with
          | inl q =>
            rw [hm] at hih
            obtain ⟨w', y1, y2, y3⟩ := hih
            exact ⟨w', s3.tr y1, y2, fun d Q a5 => by rw [hst, y3]⟩
          | inr x =>
            rw [hm] at hih
            obtain ⟨w', y1, y2, y3, y4, y5, y6⟩ := hih
            refine ⟨w', s3.tr y1, y2, y3, fun k hk => ?_, fun k hk => ?_, fun d Q a5 => ?_⟩
            · rw [y4 k (by omega), wI_at (by omega)]
              unfold nmW
              rw [wI_q (by decide), wI_q (by decide), t1]
            · cases k with
              | zero =>
                rw [Nat.add_zero, y4 i (by omega), wI_is]
                rfl
              | succ k =>
                have := y5 k (by omega)
                rw [show i + (k + 1) = i + 1 + k by omega, this]
                rfl
            · obtain ⟨a5', z⟩ := y6 d Q (some (.int (nI p)))
              exact ⟨a5', by rw [hst, z]⟩
        · rw [if_neg hft]
          refine ⟨wI (nmW w1 (numV (mLt w) p) (numE (mLt w) p)) 45 34 (nI p), s2.tr (scr_j (by omega)), wI_is, fun d Q a5 => ?_⟩
          have o1 : ¬ (1 : Int32) = 0 := by decide
          rw [hG]
          simp only [s191_194, s191_195, s191_198, s191_200, s191_201, s191_202, s191_204, s191_207, s191_210, s191_211, s191_212, s191_213, s191_214, s191_216, s191_219, s191_222, s191_223, s191_225, s191_228, gF_i, gF_r, gP_f, gP_t, aRd_1, aRd_4, aKd_e, oo_s, z0, z1, okP_n, okP_i, okP_r, vtl, vtn, true_and, and_true, bI_ite, bI_01, F8_7, F8_13, F8_16, F8_19, F8_23, F8_26, F8_29, F8_32, F8_35, F8_38, F8_41, F8_44, F8_47, F8_50, F8_53, F8_56, F8_59, F8_62, F8_65, F8_68, F8_72, F8_75, F8_78, F8_81, F8_84, F8_87, F8_90, F8_93, F8_96, F8_99, F8_102, F8_105, F8_108, F8_111, F8_114, F8_117, F8_171, F8_123, F8_126, F8_120, F8_162, F8_190, F8_184, F8_187, F8_181, F8_223, F8_200, F8_277, F8_304, F8_319, P8_7, P8_13, P8_16, P8_117, P8_171, P8_123, P8_126, P8_120, P8_162, P8_190, P8_184, P8_187, P8_181, P8_223, P8_200, P8_277, P8_304, P8_319, cs_n, Nat.zero_le, cs_i, cs_r, cs_l, Nat.reduceAdd, Nat.reduceLeDiff, R_8, b2, hnum, hfit, hft, if_neg o1, c8_wr, decide_true, decide_false, not_true_eq_false, not_false_eq_true, Bool.and_true, Bool.true_and, Bool.and_false, Bool.false_and, Bool.or_true, Bool.true_or, Bool.or_false, Bool.false_or, Bool.not_true, Bool.not_false, ite_true, ite_false, if_true, if_false, Bool.false_eq_true, reduceIte, decide_not, and_true, true_and, and_false, false_and, or_true, true_or, or_false, false_or, not_false, not_true]
      · rw [if_neg hd]
        rw [if_neg hd] at hnum
        refine ⟨wI w1 45 34 (nI p), s1.tr (scr_j (by omega)), wI_is, fun d Q a5 => ?_⟩
        rw [hG]
        simp only [s191_194, s191_195, s191_198, s191_200, s191_201, s191_202, s191_204, s191_207, s191_210, s191_211, gF_i, gF_r, gP_f, gP_t, aRd_1, aRd_4, aKd_e, oo_s, z0, z1, okP_n, okP_i, okP_r, vtl, vtn, true_and, and_true, bI_ite, bI_01, F8_7, F8_13, F8_16, F8_19, F8_23, F8_26, F8_29, F8_32, F8_35, F8_38, F8_41, F8_44, F8_47, F8_50, F8_53, F8_56, F8_59, F8_62, F8_65, F8_68, F8_72, F8_75, F8_78, F8_81, F8_84, F8_87, F8_90, F8_93, F8_96, F8_99, F8_102, F8_105, F8_108, F8_111, F8_114, F8_117, F8_171, F8_123, F8_126, F8_120, F8_162, F8_190, F8_184, F8_187, F8_181, F8_223, F8_200, F8_277, F8_304, F8_319, P8_7, P8_13, P8_16, P8_117, P8_171, P8_123, P8_126, P8_120, P8_162, P8_190, P8_184, P8_187, P8_181, P8_223, P8_200, P8_277, P8_304, P8_319, cs_n, Nat.zero_le, cs_i, cs_r, cs_l, Nat.reduceAdd, Nat.reduceLeDiff, R_8, b2, hnum, decide_true, decide_false, not_true_eq_false, not_false_eq_true, Bool.and_true, Bool.true_and, Bool.and_false, Bool.false_and, Bool.or_true, Bool.true_or, Bool.or_false, Bool.false_or, Bool.not_true, Bool.not_false, ite_true, ite_false, if_true, if_false, Bool.false_eq_true, reduceIte, decide_not, and_true, true_and, and_false, false_and, or_true, true_or, or_false, false_or, not_false, not_true]
theorem itfT {w : hW} (hW : mWd w) (hP : mP w) {a2 a3 a4 a5 : Option Value} {d : Nat} {Q : aPost} : ∀ (r f : Nat), f + r = 6 → Tr (d + 1) 191 2 [some (.ref 45), some (.int (nI f)), a2, a3, a4, a5] [] w Q = (if mItF w f r = true then Q (some (.int 0)) (wI w 45 34 (nI (mAt w))) else Go (d + 1) 191 39 [some (.ref 45), some (.int (nI 6)), a2, a3, a4, a5] [] w Q) := by
  have z6 : (6 : Int32).toInt = 6 := rfl
  have e2 := hP.2.1
  intro r
  induction r with
  | zero =>
    intro f hf
    have hf2 : f = 6 := by omega
    subst hf2
    have h1 : ¬ nI 6 < 6 := by decide
    show Go (d + 1) 191 2 _ _ _ _ = _
    simp only [s191_2, s191_3, s191_5, s191_8, s191_9, s191_10, s191_13, s191_16, s191_17, s191_18, s191_21, s191_24, s191_25, s191_26, s191_29, s191_32, s191_33, s191_36, gF_i, gF_r, gP_f, gP_t, aRd_1, aRd_4, aKd_e, oo_s, z0, z1, okP_n, okP_i, okP_r, vtl, vtn, true_and, and_true, bI_ite, bI_01, h1, mItF, decide_true, decide_false, not_true_eq_false, not_false_eq_true, Bool.and_true, Bool.true_and, Bool.and_false, Bool.false_and, Bool.or_true, Bool.true_or, Bool.or_false, Bool.false_or, Bool.not_true, Bool.not_false, ite_true, ite_false, if_true, if_false, Bool.false_eq_true, reduceIte, decide_not, and_true, true_and, and_false, false_and, or_true, true_or, or_false, false_or, not_false, not_true]
  | succ r ih =>
    intro f hf
    have h1 : nI f < 6 := by rw [nIlt (by omega), z6]; omega
    show Go (d + 1) 191 2 _ _ _ _ = _
    have e : mItF w f (r + 1) = if (mWA w f && mFul w f) = true then true else mItF w (f + 1) r := rfl
    cases h2 : mWA w f
    · rw [h2] at e
      have e' : mItF w f (r + 1) = mItF w (f + 1) r := by rw [e]; simp
      rw [e', ← ih (f + 1) (by omega)]
      simp only [s191_2, s191_3, s191_5, s191_8, s191_9, s191_10, s191_13, s191_16, s191_17, s191_18, s191_21, s191_24, s191_25, s191_26, s191_29, s191_32, s191_33, s191_36, gF_i, gF_r, gP_f, gP_t, aRd_1, aRd_4, aKd_e, oo_s, z0, z1, okP_n, okP_i, okP_r, vtl, vtn, true_and, and_true, bI_ite, bI_01, cs_n, Nat.zero_le, cs_i, cs_r, cs_l, Nat.reduceAdd, Nat.reduceLeDiff, R_8, h1, c8_isWordAt (show f < 6 by omega) hW hP, h2, nI_1, decide_true, decide_false, not_true_eq_false, not_false_eq_true, Bool.and_true, Bool.true_and, Bool.and_false, Bool.false_and, Bool.or_true, Bool.true_or, Bool.or_false, Bool.false_or, Bool.not_true, Bool.not_false, ite_true, ite_false, if_true, if_false, Bool.false_eq_true, reduceIte, decide_not, and_true, true_and, and_false, false_and, or_true, true_or, or_false, false_or, not_false, not_true]
    · cases h3 : mFul w f
      · rw [h2, h3] at e
        have e' : mItF w f (r + 1) = mItF w (f + 1) r := by rw [e]; simp
        rw [e', ← ih (f + 1) (by omega)]
        simp only [s191_2, s191_3, s191_5, s191_8, s191_9, s191_10, s191_13, s191_16, s191_17, s191_18, s191_21, s191_24, s191_25, s191_26, s191_29, s191_32, s191_33, s191_36, gF_i, gF_r, gP_f, gP_t, aRd_1, aRd_4, aKd_e, oo_s, z0, z1, okP_n, okP_i, okP_r, vtl, vtn, true_and, and_true, bI_ite, bI_01, cs_n, Nat.zero_le, cs_i, cs_r, cs_l, Nat.reduceAdd, Nat.reduceLeDiff, R_8, h1, c8_isWordAt (show f < 6 by omega) hW hP, c8_isFull (show f < 6 by omega), h2, h3, nI_1, decide_true, decide_false, not_true_eq_false, not_false_eq_true, Bool.and_true, Bool.true_and, Bool.and_false, Bool.false_and, Bool.or_true, Bool.true_or, Bool.or_false, Bool.false_or, Bool.not_true, Bool.not_false, ite_true, ite_false, if_true, if_false, Bool.false_eq_true, reduceIte, decide_not, and_true, true_and, and_false, false_and, or_true, true_or, or_false, false_or, not_false, not_true]
      · rw [h2, h3] at e
        have e' : mItF w f (r + 1) = true := by rw [e]; rfl
        rw [e']
        simp only [s191_2, s191_3, s191_5, s191_8, s191_9, s191_10, s191_13, s191_16, s191_17, s191_18, s191_21, s191_24, s191_25, s191_26, s191_29, s191_32, s191_33, s191_36, gF_i, gF_r, gP_f, gP_t, aRd_1, aRd_4, aKd_e, oo_s, z0, z1, okP_n, okP_i, okP_r, vtl, vtn, true_and, and_true, bI_ite, bI_01, F8_7, F8_13, F8_16, F8_19, F8_23, F8_26, F8_29, F8_32, F8_35, F8_38, F8_41, F8_44, F8_47, F8_50, F8_53, F8_56, F8_59, F8_62, F8_65, F8_68, F8_72, F8_75, F8_78, F8_81, F8_84, F8_87, F8_90, F8_93, F8_96, F8_99, F8_102, F8_105, F8_108, F8_111, F8_114, F8_117, F8_171, F8_123, F8_126, F8_120, F8_162, F8_190, F8_184, F8_187, F8_181, F8_223, F8_200, F8_277, F8_304, F8_319, P8_7, P8_13, P8_16, P8_117, P8_171, P8_123, P8_126, P8_120, P8_162, P8_190, P8_184, P8_187, P8_181, P8_223, P8_200, P8_277, P8_304, P8_319, cs_n, Nat.zero_le, cs_i, cs_r, cs_l, Nat.reduceAdd, Nat.reduceLeDiff, R_8, h1, c8_isWordAt (show f < 6 by omega) hW hP, c8_isFull (show f < 6 by omega), h2, h3, e2, c8_wr, decide_true, decide_false, not_true_eq_false, not_false_eq_true, Bool.and_true, Bool.true_and, Bool.and_false, Bool.false_and, Bool.or_true, Bool.true_or, Bool.or_false, Bool.false_or, Bool.not_true, Bool.not_false, ite_true, ite_false, if_true, if_false, Bool.false_eq_true, reduceIte, decide_not, and_true, true_and, and_false, false_and, or_true, true_or, or_false, false_or, not_false, not_true]
end

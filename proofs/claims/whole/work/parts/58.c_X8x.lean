/-! CONTRACTS of the model: valley -/
/-- the items of a text from where a world stands: the place of the first fault, or how many there are and the world behind them -/
def pVl : Nat → Nat → hW → Nat ⊕ (Nat × hW)
  | 0, n, w => .inr (n, w)
  | r + 1, n, w => if mAt w < mEd w then (if mLt w (mAt w) = 59 then (match pItem (wI w 45 31 (nI (mAt w + 1))) with
    | .inl q => .inl q
    | .inr x => pVl r (n + 1) (wI (itA (wI w 45 31 (nI (mAt w + 1))) x.1 x.2.1) 45 31 (nI x.2.2))) else .inl (mAt w)) else .inr (n, w)
def pVs (w : hW) : Nat ⊕ (Nat × hW) := match pItem w with
  | .inl q => .inl q
  | .inr x => pVl 200 1 (wI (itA w x.1 x.2.1) 45 31 (nI x.2.2))
def vl0 (w : hW) (s : Int32) : hW := wI (wI (wI (wI (mSv w 66) 45 30 (160 * s)) 45 31 0) 45 32 (w.1 60 s.toNatClampNeg)) 45 9 (-1)
/-- what reading leaves alone -/
def fxd (u w : hW) : Prop := (∀ q, q ≠ 45 → q ≠ 65 → ¬ (47 ≤ q ∧ q ≤ 57) → w.1 q = u.1 q) ∧ (∀ j, 9 ≤ j → j ≠ 31 → j ≠ 33 → j ≠ 34 → w.1 45 j = u.1 45 j) ∧ w.2 = u.2
theorem fxd.rf {w : hW} : fxd w w := ⟨fun _ _ _ _ => rfl, fun _ _ _ _ _ => rfl, rfl⟩
theorem fxd.tr {a b c : hW} (h : fxd a b) (h2 : fxd b c) : fxd a c := ⟨fun q x y z => (h2.1 q x y z).trans (h.1 q x y z), fun j x y z u => (h2.2.1 j x y z u).trans (h.2.1 j x y z u), h2.2.2.trans h.2.2⟩
theorem fxd.of {u w : hW} (h : scr u w) : fxd u w := ⟨fun q a b _ => h.1 q a b, fun j _ a b c => h.2.1 j a b c, h.2.2⟩
theorem fxd_itA {w : hW} {f : Nat} {l : List Int32} : fxd w (itA w f l) := ⟨fun q a _ b => itA_o a b, fun j h _ _ _ => itA_45 (by omega), itA_2⟩
theorem mWd_fxd {u w : hW} (h : fxd u w) (hW : mWd u) : mWd w := by
  unfold mWd at *
  rw [h.1 64 (by decide) (by decide) (by omega)]
  exact hW
theorem fxd_lt {u w : hW} (h : fxd u w) : mLt w = mLt u ∧ mEd w = mEd u ∧ mBs w = mBs u := by
  have e1 : mEd w = mEd u := by unfold mEd; rw [h.2.1 32 (by decide) (by decide) (by decide) (by decide)]
  have e2 : mBs w = mBs u := by unfold mBs; rw [h.2.1 30 (by decide) (by decide) (by decide) (by decide)]
  refine ⟨funext fun q => ?_, e1, e2⟩
  unfold mLt
  rw [e1, e2, h.2.2]
theorem mP_fxd {u w : hW} (h : fxd u w) (hP : mP u) {a : Nat} (ha : w.1 45 31 = nI a) (hle : a ≤ mEd u) : mP w ∧ mAt w = a := by
  obtain ⟨-, e2, e3⟩ := fxd_lt h
  obtain ⟨a1, a2, a3, a4, a5, a6⟩ := hP
  have hA : mAt w = a := by unfold mAt; rw [ha, nI_toInt (by omega)]; omega
  refine ⟨⟨?_, by rw [hA]; exact ha, ?_, by rw [e2, e3]; exact a4, by rw [e2]; exact a5, by rw [hA, e2]; exact hle⟩, hA⟩
  · rw [h.2.1 30 (by decide) (by decide) (by decide) (by decide), e3]; exact a1
  · rw [h.2.1 32 (by decide) (by decide) (by decide) (by decide), e2]; exact a3
theorem vlyT {s b : Int32} : ∀ (r n : Nat) (c w : hW), scr c w → w.1 45 31 = c.1 45 31 → mI c → mP c → mWd c → mEd c < r + mAt c → match pVl r n c with
  | .inl q => ∃ w', fxd c w' ∧ w'.1 45 34 = nI q ∧ ∀ (d : Nat) (Q : aPost), ∃ n' : Nat, Tr (d + 5) 194 62 [some (.ref 45), some (.int s), some (.int b), some (.int (nI n)), some (.int 1)] [] w Q = Go (d + 5) 194 140 [some (.ref 45), some (.int s), some (.int b), some (.int (nI n')), some (.int 0)] [] w' Q
  | .inr x => ∃ w', scr x.2 w' ∧ fxd c x.2 ∧ mI x.2 ∧ ∀ (d : Nat) (Q : aPost), Tr (d + 5) 194 62 [some (.ref 45), some (.int s), some (.int b), some (.int (nI n)), some (.int 1)] [] w Q = Q (some (.int (nI x.1))) w' := by
  have o1 : ¬ (1 : Int32) = 0 := by decide
  intro r
  induction r with
  | zero =>
    intro n c w hs ha hI hP hW hr
    have := hP.2.2.2.2.2
    omega
  | succ r ih =>
    intro n c w hs ha hI hP hW hr
    have hPc := hP
    obtain ⟨a1, a2, a3, a4, a5, a6⟩ := hP
    have b2 : w.1 45 31 = nI (mAt c) := ha.trans a2
    have b1 : w.1 45 30 = nI (mBs c) := (hs.2.1 30 (by decide) (by decide) (by decide)).trans a1
    have b3 : w.1 45 32 = nI (mEd c) := (hs.2.1 32 (by decide) (by decide) (by decide)).trans a3
    have b4 : w.2 = c.2 := hs.2.2
    rw [pVl]
    by_cases h1 : mAt c < mEd c
    · have h1' : nI (mAt c) < nI (mEd c) := by rw [nIlt (by omega), nI_toInt (by omega)]; omega
      obtain ⟨e1, e2, e3, e4⟩ := mLt_in hPc h1
      rw [if_pos h1]
      by_cases h2 : mLt c (mAt c) = 59
      · rw [if_pos h2]
        have h2' := h2
        rw [e1] at h2'
        have hsc : scr (wI c 45 31 (nI (mAt c + 1))) (wI w 45 31 (nI (mAt c + 1))) := scr_wI hs
        obtain ⟨p1, p2, p3⟩ := mP_at (a := mAt c + 1) hPc (by omega)
        have hI1 : mI (wI c 45 31 (nI (mAt c + 1))) := mI_scr (scr_j (by omega)) hI
        have hW1 : mWd (wI c 45 31 (nI (mAt c + 1))) := mWd_scr (scr_j (by omega)) hW
        have hfw : fxd (wI c 45 31 (nI (mAt c + 1))) (wI w 45 31 (nI (mAt c + 1))) := fxd.of hsc
        obtain ⟨q1, q2⟩ := mP_fxd hfw p1 (a := mAt c + 1) wI_is (by
          have : mEd (wI c 45 31 (nI (mAt c + 1))) = mEd c := (mLt_scr (scr_j (by omega))).2.1
          omega)
        have hit := c8_item (mI_scr hsc hI1) q1 (mWd_scr hsc hW1)
        rw [pItem_scr hsc (by rw [q2, p2])] at hit
        cases hp : pItem (wI c 45 31 (nI (mAt c + 1))) with
        | inl q =>
          rw [hp] at hit
          obtain ⟨w', y1, y2, y3⟩ := hit
          refine ⟨w', ((fxd.of (scr_j (by omega))).tr hfw).tr (fxd.of y1), y2, fun d Q => ⟨n + 1, ?_⟩⟩
          show Go (d + 5) 194 62 _ _ _ _ = _
          simp only [s194_62, s194_64, s194_67, s194_68, s194_71, s194_72, s194_75, s194_78, s194_79, s194_82, s194_83, s194_86, s194_87, s194_90, s194_91, s194_92, s194_93, s194_95, s194_98, s194_99, s194_100, s194_103, s194_106, s194_108, s194_111, s194_112i, s194_112, s194_113, s194_116, s194_117, s194_118, s194_121, s194_124, s194_125, s194_128, s194_130, s194_133, s194_135, gF_i, gF_r, gP_f, gP_t, aRd_1, aRd_4, aKd_e, oo_s, z0, z1, okP_n, okP_i, okP_r, vtl, vtn, true_and, and_true, bI_ite, bI_01, F8_7, F8_13, F8_16, F8_19, F8_23, F8_26, F8_29, F8_32, F8_35, F8_38, F8_41, F8_44, F8_47, F8_50, F8_53, F8_56, F8_59, F8_62, F8_65, F8_68, F8_72, F8_75, F8_78, F8_81, F8_84, F8_87, F8_90, F8_93, F8_96, F8_99, F8_102, F8_105, F8_108, F8_111, F8_114, F8_117, F8_171, F8_123, F8_126, F8_120, F8_162, F8_190, F8_184, F8_187, F8_181, F8_223, F8_200, F8_277, F8_304, F8_319, P8_7, P8_13, P8_16, P8_117, P8_171, P8_123, P8_126, P8_120, P8_162, P8_190, P8_184, P8_187, P8_181, P8_223, P8_200, P8_277, P8_304, P8_319, A_46, A_47, A_48, A_49, A_50, A_51, A_52, A_53, A_54, A_55, A_56, A_57, A_58, A_59, A_60, A_61, A_62, A_63, A_64, A_65, A_66, A_67, A_68, A_69, A_70, A_71, A_72, A_73, A_74, A_75, A_76, A_77, cs_n, Nat.zero_le, cs_i, cs_r, cs_l, Nat.reduceAdd, Nat.reduceLeDiff, R_8, if_neg o1, b1, b2, b3, b4, h1', e2, e3, e4, if_pos h2', nI_1, y3, decide_true, decide_false, not_true_eq_false, not_false_eq_true, Bool.and_true, Bool.true_and, Bool.and_false, Bool.false_and, Bool.or_true, Bool.true_or, Bool.or_false, Bool.false_or, Bool.not_true, Bool.not_false, ite_true, ite_false, if_true, if_false, Bool.false_eq_true, reduceIte, decide_not, and_true, true_and, and_false, false_and, or_true, true_or, or_false, false_or, not_false, not_true]
          show Go (d + 5) 194 62 _ _ _ _ = _
          simp only [s194_62, s194_64, s194_133, s194_135, gF_i, gF_r, gP_f, gP_t, aRd_1, aRd_4, aKd_e, oo_s, z0, z1, okP_n, okP_i, okP_r, vtl, vtn, true_and, and_true, bI_ite, bI_01, decide_true, decide_false, not_true_eq_false, not_false_eq_true, Bool.and_true, Bool.true_and, Bool.and_false, Bool.false_and, Bool.or_true, Bool.true_or, Bool.or_false, Bool.false_or, Bool.not_true, Bool.not_false, ite_true, ite_false, if_true, if_false, Bool.false_eq_true, reduceIte, decide_not, and_true, true_and, and_false, false_and, or_true, true_or, or_false, false_or, not_false, not_true]
        | inr x =>
          rw [hp] at hit
          obtain ⟨w', y1, y2, y3, y4⟩ := hit
          have hok := pItem_ok hp
          rw [p2] at hok
          have hEd1 : mEd (wI w 45 31 (nI (mAt c + 1))) = mEd c := by unfold mEd; rw [wI_at (by decide), hs.2.1 32 (by decide) (by decide) (by decide)]
          rw [hEd1] at y3
          have y1c : scr (itA (wI c 45 31 (nI (mAt c + 1))) x.1 x.2.1) w' := (itA_scr hsc).tr y1
          have hs2 : scr (wI (itA (wI c 45 31 (nI (mAt c + 1))) x.1 x.2.1) 45 31 (nI x.2.2)) w' := by
            refine ⟨fun q u v => ?_, fun j u v z => ?_, y1c.2.2⟩
            · rw [wI_q u]; exact y1c.1 q u v
            · rw [wI_at u]; exact y1c.2.1 j u v z
          have hfc : fxd c (wI (itA (wI c 45 31 (nI (mAt c + 1))) x.1 x.2.1) 45 31 (nI x.2.2)) := ((fxd.of (scr_j (by omega))).tr fxd_itA).tr (fxd.of (scr_j (by omega)))
          have hI2 : mI (wI (itA (wI c 45 31 (nI (mAt c + 1))) x.1 x.2.1) 45 31 (nI x.2.2)) := mI_scr (scr_j (by omega)) (mI_itA hI1 hp)
          obtain ⟨hP2, hA2⟩ := mP_fxd hfc hPc (a := x.2.2) wI_is y3
          have hih := ih (n + 1) _ w' hs2 (by rw [y2, wI_is]) hI2 hP2 (mWd_fxd hfc hW) (by rw [hA2, (fxd_lt hfc).2.1]; omega)
          have hst : ∀ (d : Nat) (Q : aPost), Tr (d + 5) 194 62 [some (.ref 45), some (.int s), some (.int b), some (.int (nI n)), some (.int 1)] [] w Q = Tr (d + 5) 194 62 [some (.ref 45), some (.int s), some (.int b), some (.int (nI (n + 1))), some (.int 1)] [] w' Q := by
            intro d Q
            show Go (d + 5) 194 62 _ _ _ _ = _
            simp only [s194_62, s194_64, s194_67, s194_68, s194_71, s194_72, s194_75, s194_78, s194_79, s194_82, s194_83, s194_86, s194_87, s194_90, s194_91, s194_92, s194_93, s194_95, s194_98, s194_99, s194_100, s194_103, s194_106, s194_108, s194_111, s194_112i, s194_112, s194_113, s194_116, s194_117, s194_118, s194_121, s194_124, s194_125, s194_128, s194_130, gF_i, gF_r, gP_f, gP_t, aRd_1, aRd_4, aKd_e, oo_s, z0, z1, okP_n, okP_i, okP_r, vtl, vtn, true_and, and_true, bI_ite, bI_01, F8_7, F8_13, F8_16, F8_19, F8_23, F8_26, F8_29, F8_32, F8_35, F8_38, F8_41, F8_44, F8_47, F8_50, F8_53, F8_56, F8_59, F8_62, F8_65, F8_68, F8_72, F8_75, F8_78, F8_81, F8_84, F8_87, F8_90, F8_93, F8_96, F8_99, F8_102, F8_105, F8_108, F8_111, F8_114, F8_117, F8_171, F8_123, F8_126, F8_120, F8_162, F8_190, F8_184, F8_187, F8_181, F8_223, F8_200, F8_277, F8_304, F8_319, P8_7, P8_13, P8_16, P8_117, P8_171, P8_123, P8_126, P8_120, P8_162, P8_190, P8_184, P8_187, P8_181, P8_223, P8_200, P8_277, P8_304, P8_319, A_46, A_47, A_48, A_49, A_50, A_51, A_52, A_53, A_54, A_55, A_56, A_57, A_58, A_59, A_60, A_61, A_62, A_63, A_64, A_65, A_66, A_67, A_68, A_69, A_70, A_71, A_72, A_73, A_74, A_75, A_76, A_77, cs_n, Nat.zero_le, cs_i, cs_r, cs_l, Nat.reduceAdd, Nat.reduceLeDiff, R_8, if_neg o1, b1, b2, b3, b4, h1', e2, e3, e4, if_pos h2', nI_1, y4, decide_true, decide_false, not_true_eq_false, not_false_eq_true, Bool.and_true, Bool.true_and, Bool.and_false, Bool.false_and, Bool.or_true, Bool.true_or, Bool.or_false, Bool.false_or, Bool.not_true, Bool.not_false, ite_true, ite_false, if_true, if_false, Bool.false_eq_true, reduceIte, decide_not, and_true, true_and, and_false, false_and, or_true, true_or, or_false, false_or, not_false, not_true]
          cases hv : pVl r (n + 1) (wI (itA (wI c 45 31 (nI (mAt c + 1))) x.1 x.2.1) 45 31 (nI x.2.2)) with
          | inl q =>
            rw [hv] at hih
            obtain ⟨w2, z1, z2, z3⟩ := hih
            simp only [hv]
            refine ⟨w2, hfc.tr z1, z2, fun d Q => ?_⟩
            obtain ⟨n', z4⟩ := z3 d Q
            exact ⟨n', by rw [hst, z4]⟩
          | inr y =>
            rw [hv] at hih
            obtain ⟨w2, z1, z2, z3, z4⟩ := hih
            simp only [hv]
            exact ⟨w2, z1, hfc.tr z2, z3, fun d Q => by rw [hst, z4]⟩
      · rw [if_neg h2]
        have h2' := h2
        rw [e1] at h2'
        refine ⟨wI w 45 34 (nI (mAt c)), (fxd.of hs).tr (fxd.of (scr_j (by omega))), wI_is, fun d Q => ⟨n, ?_⟩⟩
        show Go (d + 5) 194 62 _ _ _ _ = _
        simp only [s194_62, s194_64, s194_67, s194_68, s194_71, s194_72, s194_75, s194_78, s194_79, s194_82, s194_83, s194_86, s194_87, s194_90, s194_91, s194_92, s194_93, s194_95, s194_98, s194_99, s194_100, s194_103, s194_106, s194_108, s194_111, s194_112i, s194_112, s194_113, s194_116, s194_117, s194_118, s194_121, s194_124, s194_125, s194_128, s194_130, gF_i, gF_r, gP_f, gP_t, aRd_1, aRd_4, aKd_e, oo_s, z0, z1, okP_n, okP_i, okP_r, vtl, vtn, true_and, and_true, bI_ite, bI_01, F8_7, F8_13, F8_16, F8_19, F8_23, F8_26, F8_29, F8_32, F8_35, F8_38, F8_41, F8_44, F8_47, F8_50, F8_53, F8_56, F8_59, F8_62, F8_65, F8_68, F8_72, F8_75, F8_78, F8_81, F8_84, F8_87, F8_90, F8_93, F8_96, F8_99, F8_102, F8_105, F8_108, F8_111, F8_114, F8_117, F8_171, F8_123, F8_126, F8_120, F8_162, F8_190, F8_184, F8_187, F8_181, F8_223, F8_200, F8_277, F8_304, F8_319, P8_7, P8_13, P8_16, P8_117, P8_171, P8_123, P8_126, P8_120, P8_162, P8_190, P8_184, P8_187, P8_181, P8_223, P8_200, P8_277, P8_304, P8_319, A_46, A_47, A_48, A_49, A_50, A_51, A_52, A_53, A_54, A_55, A_56, A_57, A_58, A_59, A_60, A_61, A_62, A_63, A_64, A_65, A_66, A_67, A_68, A_69, A_70, A_71, A_72, A_73, A_74, A_75, A_76, A_77, cs_n, Nat.zero_le, cs_i, cs_r, cs_l, Nat.reduceAdd, Nat.reduceLeDiff, R_8, if_neg o1, b1, b2, b3, b4, h1', e2, e3, e4, if_neg h2', c8_wr, decide_true, decide_false, not_true_eq_false, not_false_eq_true, Bool.and_true, Bool.true_and, Bool.and_false, Bool.false_and, Bool.or_true, Bool.true_or, Bool.or_false, Bool.false_or, Bool.not_true, Bool.not_false, ite_true, ite_false, if_true, if_false, Bool.false_eq_true, reduceIte, decide_not, and_true, true_and, and_false, false_and, or_true, true_or, or_false, false_or, not_false, not_true]
        show Go (d + 5) 194 62 _ _ _ _ = _
        simp only [s194_62, s194_64, s194_133, s194_135, gF_i, gF_r, gP_f, gP_t, aRd_1, aRd_4, aKd_e, oo_s, z0, z1, okP_n, okP_i, okP_r, vtl, vtn, true_and, and_true, bI_ite, bI_01, decide_true, decide_false, not_true_eq_false, not_false_eq_true, Bool.and_true, Bool.true_and, Bool.and_false, Bool.false_and, Bool.or_true, Bool.true_or, Bool.or_false, Bool.false_or, Bool.not_true, Bool.not_false, ite_true, ite_false, if_true, if_false, Bool.false_eq_true, reduceIte, decide_not, and_true, true_and, and_false, false_and, or_true, true_or, or_false, false_or, not_false, not_true]
    · have h1' : ¬ nI (mAt c) < nI (mEd c) := by rw [nIlt (by omega), nI_toInt (by omega)]; omega
      rw [if_neg h1]
      refine ⟨w, hs, fxd.rf, hI, fun d Q => ?_⟩
      show Go (d + 5) 194 62 _ _ _ _ = _
      simp only [s194_62, s194_64, s194_67, s194_68, s194_71, s194_72, s194_75, s194_78, s194_79, s194_82, s194_83, s194_86, s194_87, s194_90, s194_91, s194_92, s194_93, s194_95, s194_98, s194_99, s194_100, s194_103, s194_106, s194_108, s194_111, s194_112i, s194_112, s194_113, s194_116, s194_117, s194_118, s194_121, s194_124, s194_125, s194_128, s194_130, s194_133, s194_135, s194_138, s194_139, gF_i, gF_r, gP_f, gP_t, aRd_1, aRd_4, aKd_e, oo_s, z0, z1, okP_n, okP_i, okP_r, vtl, vtn, true_and, and_true, bI_ite, bI_01, F8_7, F8_13, F8_16, F8_19, F8_23, F8_26, F8_29, F8_32, F8_35, F8_38, F8_41, F8_44, F8_47, F8_50, F8_53, F8_56, F8_59, F8_62, F8_65, F8_68, F8_72, F8_75, F8_78, F8_81, F8_84, F8_87, F8_90, F8_93, F8_96, F8_99, F8_102, F8_105, F8_108, F8_111, F8_114, F8_117, F8_171, F8_123, F8_126, F8_120, F8_162, F8_190, F8_184, F8_187, F8_181, F8_223, F8_200, F8_277, F8_304, F8_319, P8_7, P8_13, P8_16, P8_117, P8_171, P8_123, P8_126, P8_120, P8_162, P8_190, P8_184, P8_187, P8_181, P8_223, P8_200, P8_277, P8_304, P8_319, A_46, A_47, A_48, A_49, A_50, A_51, A_52, A_53, A_54, A_55, A_56, A_57, A_58, A_59, A_60, A_61, A_62, A_63, A_64, A_65, A_66, A_67, A_68, A_69, A_70, A_71, A_72, A_73, A_74, A_75, A_76, A_77, cs_n, Nat.zero_le, cs_i, cs_r, cs_l, Nat.reduceAdd, Nat.reduceLeDiff, R_8, if_neg o1, b2, b3, h1', decide_true, decide_false, not_true_eq_false, not_false_eq_true, Bool.and_true, Bool.true_and, Bool.and_false, Bool.false_and, Bool.or_true, Bool.true_or, Bool.or_false, Bool.false_or, Bool.not_true, Bool.not_false, ite_true, ite_false, if_true, if_false, Bool.false_eq_true, reduceIte, decide_not, and_true, true_and, and_false, false_and, or_true, true_or, or_false, false_or, not_false, not_true]
/-- a world that is as another, but for what is jotted down, and for cells behind the ends of the rows -/
def bak (u w : hW) : Prop := (∀ r j, 47 ≤ r → r ≤ 54 → j < 8 → w.1 r j = u.1 r j) ∧ (∀ r j, 55 ≤ r → r ≤ 57 → j < 4 → w.1 r j = u.1 r j) ∧ (∀ q, q ≠ 45 → ¬ (47 ≤ q ∧ q ≤ 57) → q ≠ 65 → q ≠ 66 → w.1 q = u.1 q) ∧ (∀ j, ¬ (30 ≤ j ∧ j ≤ 34) → w.1 45 j = u.1 45 j) ∧ w.2 = u.2
theorem mSv_q {w : hW} {q r j : Nat} : (∀ (h1 : 47 ≤ r) (h2 : r ≤ 54) (h3 : j < 8), (mSv w q).1 q (8 * (r - 47) + j) = w.1 r j) ∧ (∀ (h1 : 55 ≤ r) (h2 : r ≤ 57) (h3 : j < 4), (mSv w q).1 q (64 + 4 * (r - 55) + j) = w.1 r j) ∧ (∀ (h3 : j < 9), (mSv w q).1 q (76 + j) = w.1 45 j) := by
  unfold mSv
  rw [wA_s]
  refine ⟨fun h1 h2 h3 => ?_, fun h1 h2 h3 => ?_, fun h3 => ?_⟩
  · rw [if_pos (by omega), show 47 + (8 * (r - 47) + j) / 8 = r by omega, show (8 * (r - 47) + j) % 8 = j by omega]
  · rw [if_neg (by omega)]
    have : r = 55 ∨ r = 56 ∨ r = 57 := by omega
    rcases this with rfl | rfl | rfl
    · rw [if_pos (by omega), show 64 + 4 * (55 - 55) + j - 64 = j by omega]
    · rw [if_neg (by omega), if_pos (by omega), show 64 + 4 * (56 - 55) + j - 68 = j by omega]
    · rw [if_neg (by omega), if_neg (by omega), if_pos (by omega), show 64 + 4 * (57 - 55) + j - 72 = j by omega]
  · rw [if_neg (by omega), if_neg (by omega), if_neg (by omega), if_neg (by omega), if_pos (by omega), show 76 + j - 76 = j by omega]
theorem mLd_q {w : hW} {q r j : Nat} : (∀ (h1 : 47 ≤ r) (h2 : r ≤ 54) (h3 : j < 8), (mLd w q).1 r j = w.1 q (8 * (r - 47) + j)) ∧ (∀ (h1 : 55 ≤ r) (h2 : r ≤ 57) (h3 : j < 4), (mLd w q).1 r j = w.1 q (64 + 4 * (r - 55) + j)) ∧ (∀ (h3 : j < 9), (mLd w q).1 45 j = w.1 q (76 + j)) ∧ (∀ (h1 : r ≠ 45) (h2 : ¬ (47 ≤ r ∧ r ≤ 57)), (mLd w q).1 r = w.1 r) ∧ (∀ (h3 : 9 ≤ j), (mLd w q).1 45 j = w.1 45 j) := by
  unfold mLd
  refine ⟨fun h1 h2 h3 => ?_, fun h1 h2 h3 => ?_, fun h3 => ?_, fun h1 h2 => ?_, fun h3 => ?_⟩
  · simp only
    rw [if_pos (by omega)]
  · simp only
    rw [if_neg (by omega), if_pos (by omega)]
  · simp only
    rw [if_neg (by omega), if_neg (by omega), if_pos ⟨trivial, h3⟩]
  · funext k
    simp only
    rw [if_neg (by omega), if_neg (by omega), if_neg (by omega)]
  · simp only
    rw [if_neg (by omega), if_neg (by omega), if_neg (by omega)]
/-- what is put away comes back -/
theorem bak_ld {w w' : hW} {q : Nat} (hq : q = 66 ∨ q = 68) (h66 : w'.1 q = (mSv w q).1 q) (ho : ∀ p, p ≠ 45 → ¬ (47 ≤ p ∧ p ≤ 57) → p ≠ 65 → p ≠ q → w'.1 p = w.1 p) (hj : ∀ j, 9 ≤ j → ¬ (30 ≤ j ∧ j ≤ 34) → w'.1 45 j = w.1 45 j) (h2 : w'.2 = w.2) : (∀ r j, 47 ≤ r → r ≤ 54 → j < 8 → (mLd w' q).1 r j = w.1 r j) ∧ (∀ r j, 55 ≤ r → r ≤ 57 → j < 4 → (mLd w' q).1 r j = w.1 r j) ∧ (∀ p, p ≠ 45 → ¬ (47 ≤ p ∧ p ≤ 57) → p ≠ 65 → p ≠ q → (mLd w' q).1 p = w.1 p) ∧ (∀ j, ¬ (30 ≤ j ∧ j ≤ 34) → (mLd w' q).1 45 j = w.1 45 j) ∧ (mLd w' q).2 = w.2 := by
  refine ⟨fun r j a b c => ?_, fun r j a b c => ?_, fun p a b c e => ?_, fun j a => ?_, h2⟩
  · rw [(mLd_q (w := w') (q := q) (r := r) (j := j)).1 a b c, h66, (mSv_q (w := w) (q := q) (r := r) (j := j)).1 a b c]
  · rw [(mLd_q (w := w') (q := q) (r := r) (j := j)).2.1 a b c, h66, (mSv_q (w := w) (q := q) (r := r) (j := j)).2.1 a b c]
  · rw [(mLd_q (w := w') (q := q) (r := p) (j := 0)).2.2.2.1 a b]
    exact ho p a b c e
  · by_cases h : j < 9
    · rw [(mLd_q (w := w') (q := q) (r := 45) (j := j)).2.2.1 h, h66, (mSv_q (w := w) (q := q) (r := 45) (j := j)).2.2 h]
    · rw [(mLd_q (w := w') (q := q) (r := 45) (j := j)).2.2.2.2 (by omega)]
      exact hj j (by omega) a
theorem mP_vl0 {w : hW} (hI : mI w) {s : Int32} (hs : sHas s = true) : mP (vl0 w s) ∧ mAt (vl0 w s) = 0 ∧ mBs (vl0 w s) = 160 * s.toNatClampNeg ∧ mEd (vl0 w s) = (w.1 60 s.toNatClampNeg).toInt.toNat := by
  have hin := sHas_in8 hs
  have hz := hI.2.2.2.2.1 s.toNatClampNeg (by have := hin.2; have := hin.1; rw [i32_clamp]; omega)
  have e30 : (vl0 w s).1 45 30 = 160 * s := by unfold vl0; rw [wI_at (by decide), wI_at (by decide), wI_at (by decide), wI_is]
  have e31 : (vl0 w s).1 45 31 = 0 := by unfold vl0; rw [wI_at (by decide), wI_at (by decide), wI_is]
  have e32 : (vl0 w s).1 45 32 = w.1 60 s.toNatClampNeg := by unfold vl0; rw [wI_at (by decide), wI_is]
  have hm := (mCel_at hs (i := 0) (by decide) (by decide)).1
  rw [show (160 : Int32) * s + 0 = 160 * s by rw [Int32.add_zero]] at hm
  have z0' : (0 : Int32).toInt = 0 := rfl
  rw [z0'] at hm
  have hc : s.toNatClampNeg = s.toInt.toNat := rfl
  have h0 := hin.1
  have h7 := hin.2
  have eB : mBs (vl0 w s) = 160 * s.toNatClampNeg := by unfold mBs; rw [e30]; omega
  have eE : mEd (vl0 w s) = (w.1 60 s.toNatClampNeg).toInt.toNat := by unfold mEd; rw [e32]
  have eA : mAt (vl0 w s) = 0 := by unfold mAt; rw [e31]; rfl
  refine ⟨⟨?_, ?_, ?_, by rw [eB, eE]; omega, by rw [eE]; omega, by rw [eA]; omega⟩, eA, eB, eE⟩
  · rw [eB, e30, ← nIof (x := 160 * s) (by omega)]
    congr 1
    first | omega | skip
  · rw [eA, e31]; rfl
  · rw [eE, e32]; exact (nIof hz.1).symm
theorem mSv_9 {w : hW} {q : Nat} {x : Int32} (hq : 58 ≤ q) : (mSv (wI w 45 9 x) q).1 q = (mSv w q).1 q := by
  unfold mSv
  rw [wA_s, wA_s]
  funext j
  by_cases h1 : j < 64
  · rw [if_pos h1, if_pos h1, wI_q (by omega)]
  · rw [if_neg h1, if_neg h1]
    by_cases h2 : j < 68
    · rw [if_pos h2, if_pos h2, wI_q (by omega)]
    · rw [if_neg h2, if_neg h2]
      by_cases h3 : j < 72
      · rw [if_pos h3, if_pos h3, wI_q (by omega)]
      · rw [if_neg h3, if_neg h3]
        by_cases h4 : j < 76
        · rw [if_pos h4, if_pos h4, wI_q (by omega)]
        · rw [if_neg h4, if_neg h4]
          by_cases h5 : j < 85
          · rw [if_pos h5, if_pos h5, wI_at (by omega)]
          · rw [if_neg h5, if_neg h5, wI_q (by omega)]
theorem c8_valley {w : hW} (hI : mI w) (hWd : mWd w) {s : Int32} (hb : mBars w s = 0) : match pVs (vl0 w s) with
  | .inl q => ∃ w', bak (mNo (wI w 45 9 (nI q)) (-6)) w' ∧ ∀ (d : Nat) (Q : aPost), Cl (d + 12) 194 [.ref 45, .int s] w Q = Q (some (.int (-6))) w'
  | .inr x => ∃ w', scr x.2 w' ∧ fxd (vl0 w s) x.2 ∧ mI x.2 ∧ ∀ (d : Nat) (Q : aPost), Cl (d + 12) 194 [.ref 45, .int s] w Q = Q (some (.int (nI x.1))) w' := by
  obtain ⟨hs, -, -⟩ := mBars_has hb
  have hin := sHas_in8 hs
  have o1 : ¬ (1 : Int32) = 0 := by decide
  obtain ⟨hP, hA, hB, hE⟩ := mP_vl0 hI hs
  have sv_o : ∀ q, q ≠ 45 → q ≠ 66 → (vl0 w s).1 q = w.1 q := by
    intro q a b
    unfold vl0
    rw [wI_q a, wI_q a, wI_q a, wI_q a, mSv_o b]
  have sv_j : ∀ j, j ≠ 30 → j ≠ 31 → j ≠ 32 → j ≠ 9 → (vl0 w s).1 45 j = w.1 45 j := by
    intro j a b c e
    unfold vl0
    rw [wI_at e, wI_at c, wI_at b, wI_at a, mSv_o (by decide)]
  have hI0 : mI (vl0 w s) := mI_had hI (fun q hq => sv_o q (by omega) (by omega)) (sv_j 0 (by decide) (by decide) (by decide) (by decide)) (sv_j 1 (by decide) (by decide) (by decide) (by decide)) (sv_j 2 (by decide) (by decide) (by decide) (by decide)) (fun t => Or.inl (by rw [sv_o 51 (by decide) (by decide)]))
  have hW0 : mWd (vl0 w s) := by
    unfold mWd
    rw [sv_o 64 (by decide) (by decide)]
    exact hWd
  have hit := c8_item hI0 hP hW0
  have hst : ∀ (d : Nat) (Q : aPost), Go (d + 12) 194 0 [some (.ref 45), some (.int s), none, none, none] [] w Q = Go (d + 12) 194 54 [some (.ref 45), some (.int s), some (.int 0), none, none] [] (vl0 w s) Q := by
    intro d Q
    have k60 : ∀ x y, (wI (wI (mSv w 66) 45 30 x) 45 31 y).1 60 = w.1 60 := fun x y => by rw [wI_q (by decide), wI_q (by decide), mSv_o (by decide)]
    simp only [s194_0, s194_1, s194_2, s194_5, s194_6, s194_7, s194_10, s194_11, s194_12, s194_15, s194_16, s194_17, s194_18, s194_21, s194_22, s194_25, s194_26, s194_29, s194_30, s194_31, s194_34, s194_35, s194_36, s194_39, s194_40, s194_41, s194_44, s194_45, s194_46, s194_49, s194_50, s194_51, gF_i, gF_r, gP_f, gP_t, aRd_1, aRd_4, aKd_e, oo_s, z0, z1, okP_n, okP_i, okP_r, vtl, vtn, true_and, and_true, bI_ite, bI_01, F8_7, F8_13, F8_16, F8_19, F8_23, F8_26, F8_29, F8_32, F8_35, F8_38, F8_41, F8_44, F8_47, F8_50, F8_53, F8_56, F8_59, F8_62, F8_65, F8_68, F8_72, F8_75, F8_78, F8_81, F8_84, F8_87, F8_90, F8_93, F8_96, F8_99, F8_102, F8_105, F8_108, F8_111, F8_114, F8_117, F8_171, F8_123, F8_126, F8_120, F8_162, F8_190, F8_184, F8_187, F8_181, F8_223, F8_200, F8_277, F8_304, F8_319, P8_7, P8_13, P8_16, P8_117, P8_171, P8_123, P8_126, P8_120, P8_162, P8_190, P8_184, P8_187, P8_181, P8_223, P8_200, P8_277, P8_304, P8_319, A_46, A_47, A_48, A_49, A_50, A_51, A_52, A_53, A_54, A_55, A_56, A_57, A_58, A_59, A_60, A_61, A_62, A_63, A_64, A_65, A_66, A_67, A_68, A_69, A_70, A_71, A_72, A_73, A_74, A_75, A_76, A_77, cs_n, Nat.zero_le, cs_i, cs_r, cs_l, Nat.reduceAdd, Nat.reduceLeDiff, R_8, c8_wants, hb, c8_allF (show isBk 66 by unfold isBk; omega), k60, hin, decide_true, decide_false, not_true_eq_false, not_false_eq_true, Bool.and_true, Bool.true_and, Bool.and_false, Bool.false_and, Bool.or_true, Bool.true_or, Bool.or_false, Bool.false_or, Bool.not_true, Bool.not_false, ite_true, ite_false, if_true, if_false, Bool.false_eq_true, reduceIte, decide_not, and_true, true_and, and_false, false_and, or_true, true_or, or_false, false_or, not_false, not_true]
    rfl
  have hbad : ∀ (q : Nat) (w' : hW), fxd (vl0 w s) w' → w'.1 45 34 = nI q → ∃ w2, bak (mNo (wI w 45 9 (nI q)) (-6)) w2 ∧ ∀ (d : Nat) (Q : aPost) (n : Int32), Go (d + 12) 194 140 [some (.ref 45), some (.int s), some (.int 0), some (.int n), some (.int 0)] [] w' Q = Q (some (.int (-6))) w2 := by
    intro q w' hf h34
    obtain ⟨k1, k2, k3, k4, k5⟩ := bak_ld (w := wI w 45 9 (-1)) (w' := w') (q := 66) (by omega) (by
      rw [hf.1 66 (by decide) (by decide) (by omega), mSv_9 (by decide)]
      unfold vl0
      rw [wI_q (by decide), wI_q (by decide), wI_q (by decide), wI_q (by decide)]) (fun p a b c e => by rw [wI_q a]; exact (hf.1 p a c b).trans (sv_o p a e)) (fun j a b => by
      by_cases h9 : j = 9
      · subst h9
        rw [wI_is, hf.2.1 9 (by decide) (by decide) (by decide) (by decide)]
        unfold vl0
        rw [wI_is]
      · rw [wI_at h9]
        exact (hf.2.1 j a (by omega) (by omega) (by omega)).trans (sv_j j (by omega) (by omega) (by omega) h9)) (hf.2.2.trans rfl)
    have e34 : (mLd w' 66).1 45 34 = nI q := by rw [(mLd_q (w := w') (q := 66) (r := 45) (j := 34)).2.2.2.2 (by decide)]; exact h34
    refine ⟨mNo (wI (mLd w' 66) 45 9 (nI q)) (-6), ?_, fun d Q n => ?_⟩
    · unfold mNo
      refine ⟨fun r j a b c => ?_, fun r j a b c => ?_, fun p a b c e => ?_, fun j a => ?_, k5⟩
      · rw [wI_q (by omega), wI_q (by omega), wI_q (by omega), wI_q (by omega), k1 r j a b c, wI_q (by omega)]
      · rw [wI_q (by omega), wI_q (by omega), wI_q (by omega), wI_q (by omega), k2 r j a b c, wI_q (by omega)]
      · have h := k3 p a b c e
        rw [wI_q a] at h
        by_cases h46 : p = 46
        · subst h46
          funext j
          simp only [wI]
          rw [h]
        · rw [wI_q h46, wI_q h46, wI_q a, wI_q a, h]
      · have h := k4 j a
        have e46 : ∀ (u : hW) (i : Nat) (x : Int32), (wI u 46 i x).1 45 = u.1 45 := fun u i x => wI_q (by decide)
        rw [e46, e46]
        by_cases h9 : j = 9
        · subst h9; rw [wI_is, wI_is]
        · rw [wI_at h9] at h
          rw [wI_at h9, wI_at h9, h]
    · simp only [s194_140, s194_141, s194_142, s194_145, s194_146, s194_149, s194_150, s194_151, s194_154, s194_157, s194_158, s194_160, s194_163, gF_i, gF_r, gP_f, gP_t, aRd_1, aRd_4, aKd_e, oo_s, z0, z1, okP_n, okP_i, okP_r, vtl, vtn, true_and, and_true, bI_ite, bI_01, F8_7, F8_13, F8_16, F8_19, F8_23, F8_26, F8_29, F8_32, F8_35, F8_38, F8_41, F8_44, F8_47, F8_50, F8_53, F8_56, F8_59, F8_62, F8_65, F8_68, F8_72, F8_75, F8_78, F8_81, F8_84, F8_87, F8_90, F8_93, F8_96, F8_99, F8_102, F8_105, F8_108, F8_111, F8_114, F8_117, F8_171, F8_123, F8_126, F8_120, F8_162, F8_190, F8_184, F8_187, F8_181, F8_223, F8_200, F8_277, F8_304, F8_319, P8_7, P8_13, P8_16, P8_117, P8_171, P8_123, P8_126, P8_120, P8_162, P8_190, P8_184, P8_187, P8_181, P8_223, P8_200, P8_277, P8_304, P8_319, A_46, A_47, A_48, A_49, A_50, A_51, A_52, A_53, A_54, A_55, A_56, A_57, A_58, A_59, A_60, A_61, A_62, A_63, A_64, A_65, A_66, A_67, A_68, A_69, A_70, A_71, A_72, A_73, A_74, A_75, A_76, A_77, cs_n, Nat.zero_le, cs_i, cs_r, cs_l, Nat.reduceAdd, Nat.reduceLeDiff, R_8, c8_allB (show isBk 66 by unfold isBk; omega), e34, c8_no ib6, decide_true, decide_false, not_true_eq_false, not_false_eq_true, Bool.and_true, Bool.true_and, Bool.and_false, Bool.false_and, Bool.or_true, Bool.true_or, Bool.or_false, Bool.false_or, Bool.not_true, Bool.not_false, ite_true, ite_false, if_true, if_false, Bool.false_eq_true, reduceIte, decide_not, and_true, true_and, and_false, false_and, or_true, true_or, or_false, false_or, not_false, not_true]
  have hgo : ∀ (d : Nat) (Q : aPost), Cl (d + 12) 194 [.ref 45, .int s] w Q = Go (d + 12) 194 54 [some (.ref 45), some (.int s), some (.int 0), none, none] [] (vl0 w s) Q := by
    intro d Q
    rw [Cl_go (L := [some (.ref 45), some (.int s), none, none, none]) rfl]
    exact hst d Q
  cases hp : pItem (vl0 w s) with
  | inl q =>
    rw [hp] at hit
    obtain ⟨w', y1, y2, y3⟩ := hit
    obtain ⟨w2, z1, z2⟩ := hbad q w' (fxd.of y1) y2
    unfold pVs
    simp only [hp]
    refine ⟨w2, z1, fun d Q => ?_⟩
    rw [hgo]
    simp only [s194_54, s194_55, s194_56, s194_57, s194_60, gF_i, gF_r, gP_f, gP_t, aRd_1, aRd_4, aKd_e, oo_s, z0, z1, okP_n, okP_i, okP_r, vtl, vtn, true_and, and_true, bI_ite, bI_01, cs_n, Nat.zero_le, cs_i, cs_r, cs_l, Nat.reduceAdd, Nat.reduceLeDiff, R_8, y3, decide_true, decide_false, not_true_eq_false, not_false_eq_true, Bool.and_true, Bool.true_and, Bool.and_false, Bool.false_and, Bool.or_true, Bool.true_or, Bool.or_false, Bool.false_or, Bool.not_true, Bool.not_false, ite_true, ite_false, if_true, if_false, Bool.false_eq_true, reduceIte, decide_not, and_true, true_and, and_false, false_and, or_true, true_or, or_false, false_or, not_false, not_true]
    show Go (d + 12) 194 62 _ _ _ _ = _
    simp only [s194_62, s194_64, s194_133, s194_135, gF_i, gF_r, gP_f, gP_t, aRd_1, aRd_4, aKd_e, oo_s, z0, z1, okP_n, okP_i, okP_r, vtl, vtn, true_and, and_true, bI_ite, bI_01, z2, decide_true, decide_false, not_true_eq_false, not_false_eq_true, Bool.and_true, Bool.true_and, Bool.and_false, Bool.false_and, Bool.or_true, Bool.true_or, Bool.or_false, Bool.false_or, Bool.not_true, Bool.not_false, ite_true, ite_false, if_true, if_false, Bool.false_eq_true, reduceIte, decide_not, and_true, true_and, and_false, false_and, or_true, true_or, or_false, false_or, not_false, not_true]
  | inr x =>
    rw [hp] at hit
    obtain ⟨w', y1, y2, y3, y4⟩ := hit
    have hok := pItem_ok hp
    rw [hA] at hok
    have hs2 : scr (wI (itA (vl0 w s) x.1 x.2.1) 45 31 (nI x.2.2)) w' := by
      refine ⟨fun q u v => ?_, fun j u v z => ?_, y1.2.2⟩
      · rw [wI_q u]; exact y1.1 q u v
      · rw [wI_at u]; exact y1.2.1 j u v z
    have hfc : fxd (vl0 w s) (wI (itA (vl0 w s) x.1 x.2.1) 45 31 (nI x.2.2)) := fxd_itA.tr (fxd.of (scr_j (by omega)))
    have hI2 : mI (wI (itA (vl0 w s) x.1 x.2.1) 45 31 (nI x.2.2)) := mI_scr (scr_j (by omega)) (mI_itA hI0 hp)
    obtain ⟨hP2, hA2⟩ := mP_fxd hfc hP (a := x.2.2) wI_is y3
    have hEle := hP.2.2.2.2.1
    have hih := vlyT (s := s) (b := 0) 200 1 _ w' hs2 (by rw [y2, wI_is]) hI2 hP2 (mWd_fxd hfc hW0) (by rw [hA2, (fxd_lt hfc).2.1]; omega)
    rw [show nI 1 = 1 from rfl] at hih
    unfold pVs
    simp only [hp]
    cases hv : pVl 200 1 (wI (itA (vl0 w s) x.1 x.2.1) 45 31 (nI x.2.2)) with
    | inl q =>
      rw [hv] at hih
      obtain ⟨w3, z1, z2, z3⟩ := hih
      obtain ⟨w2, u1, u2⟩ := hbad q w3 (hfc.tr z1) z2
      simp only
      refine ⟨w2, u1, fun d Q => ?_⟩
      obtain ⟨n', z4⟩ := z3 (d + 7) Q
      rw [hgo]
      simp only [s194_54, s194_55, s194_56, s194_57, s194_60, gF_i, gF_r, gP_f, gP_t, aRd_1, aRd_4, aKd_e, oo_s, z0, z1, okP_n, okP_i, okP_r, vtl, vtn, true_and, and_true, bI_ite, bI_01, cs_n, Nat.zero_le, cs_i, cs_r, cs_l, Nat.reduceAdd, Nat.reduceLeDiff, R_8, y4, z4, u2, decide_true, decide_false, not_true_eq_false, not_false_eq_true, Bool.and_true, Bool.true_and, Bool.and_false, Bool.false_and, Bool.or_true, Bool.true_or, Bool.or_false, Bool.false_or, Bool.not_true, Bool.not_false, ite_true, ite_false, if_true, if_false, Bool.false_eq_true, reduceIte, decide_not, and_true, true_and, and_false, false_and, or_true, true_or, or_false, false_or, not_false, not_true]
    | inr y =>
      rw [hv] at hih
      obtain ⟨w3, z1, z2, z3, z4⟩ := hih
      simp only
      refine ⟨w3, z1, hfc.tr z2, z3, fun d Q => ?_⟩
      have z5 := z4 (d + 7) Q
      rw [hgo]
      simp only [s194_54, s194_55, s194_56, s194_57, s194_60, gF_i, gF_r, gP_f, gP_t, aRd_1, aRd_4, aKd_e, oo_s, z0, z1, okP_n, okP_i, okP_r, vtl, vtn, true_and, and_true, bI_ite, bI_01, cs_n, Nat.zero_le, cs_i, cs_r, cs_l, Nat.reduceAdd, Nat.reduceLeDiff, R_8, y4, z5, decide_true, decide_false, not_true_eq_false, not_false_eq_true, Bool.and_true, Bool.true_and, Bool.and_false, Bool.false_and, Bool.or_true, Bool.true_or, Bool.or_false, Bool.false_or, Bool.not_true, Bool.not_false, ite_true, ite_false, if_true, if_false, Bool.false_eq_true, reduceIte, decide_not, and_true, true_and, and_false, false_and, or_true, true_or, or_false, false_or, not_false, not_true]

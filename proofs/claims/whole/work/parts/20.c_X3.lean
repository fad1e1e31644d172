/-! CONTRACTS: Relay's last, and Sharing (class 3) -/
theorem nIof {x : Int32} (h : 0 ≤ x.toInt) : nI x.toInt.toNat = x := by
  have h2 := Int32.toInt_lt x
  rw [i32_eq, nI_toInt (by omega)]
  omega
def vN (w : hW) (b : Nat) : Nat := (w.1 (b + 3) 3).toInt.toNat
theorem sh_all : ∀ n : Nat, n < 9 → (1 : Int32) <<< (nI n &&& 31) - 1 = nI (2 ^ n - 1) := by decide +kernel
theorem vAll_n {w : hW} {b : Nat} (hI : vI w b) : vAll w b = nI (2 ^ vN w b - 1) ∧ vN w b ≤ 8 := by
  have hw := hI.2.2.2.2.2.2.2.1
  have h8 : vN w b ≤ 8 := by unfold vN; omega
  refine ⟨?_, h8⟩
  unfold vAll
  rw [← sh_all (vN w b) (by omega)]
  unfold vN
  rw [nIof hw.1]
theorem pw_lt {n : Nat} (h : n ≤ 8) : 2 ^ n - 1 < 256 := by
  have := Nat.pow_le_pow_right (n := 2) (by decide) h
  omega
theorem cnt_le : ∀ S : Nat, S < 256 → cnt8 S ≤ 8 := by decide +kernel
theorem cnt_lt {a b : Nat} (ha : a < 256) (hb : b < 256) : (nI (cnt8 a) < nI (cnt8 b)) = (cnt8 a < cnt8 b) := by
  have h1 := cnt_le a ha
  have h2 := cnt_le b hb
  rw [nIlt (by omega), nI_toInt (by omega)]
  apply propext
  omega
theorem nI_z {a : Nat} (h : a < 256) : (nI a = 0) = (a = 0) := by
  have z : (0 : Int32).toInt = 0 := rfl
  rw [i32_eq, nI_toInt (by omega), z]
  apply propext
  omega
def dwF (w : hW) (t : Int32) (M : Nat) (more : Int32) (F : Nat → Int32) : Nat → Int32 := upd F M (vReach w 2 (vStr w 2 (nI M) more) t)
def snL (fr tt : Int32) (g : Nat → Int32) (st step : Int32) (S M : Nat) : Nat → Nat → Nat → (Nat → Int32) → (Nat → Int32) → Nat × (Nat → Int32) × (Nat → Int32)
  | 0, _, hi, F, E => (hi, F, E)
  | m + 1, lo, hi, F, E => if lo + 1 < hi then (if fiE fr tt (upd F M (g ((lo + hi) / 2))) step st S E S = step then snL fr tt g st step S M m lo ((lo + hi) / 2) (upd F M (g ((lo + hi) / 2))) (fiE fr tt (upd F M (g ((lo + hi) / 2))) step st S E) else snL fr tt g st step S M m ((lo + hi) / 2) hi (upd F M (g ((lo + hi) / 2))) (fiE fr tt (upd F M (g ((lo + hi) / 2))) step st S E)) else (hi, F, E)
theorem half_n : ∀ a : Nat, a < 200 → nI a / 2 = nI (a / 2) := by decide +kernel
theorem nI_sum (a b : Nat) : nI a + nI b = nI (a + b) := by
  unfold nI
  exact (Int32.ofNat_add a b).symm
section
variable {d : Nat} {w : hW} {Q : aPost}
theorem leaL {t step : Int32} {A : Nat} (hA : A < 256) : ∀ (m i least : Nat) (a6 : Option Value), i + m = A + 1 → 1 ≤ i → least < 256 → Tr (d + 1) 24 22 [some (.ref 37), some (.int t), some (.int step), some (.int (nI A)), some (.int (nI least)), some (.int (nI i)), a6] [] w Q = Q (some (.int (nI (lsL (w.1 39) step i m least)))) w := by
  intro m
  induction m with
  | zero =>
    intro i least a6 hi h0 hl
    have h1 : nI A < nI i := by rw [nIlt (by omega), nI_toInt (by omega)]; omega
    show Go (d + 1) 24 22 _ _ _ _ = _
    simp only [s24_0, s24_1, s24_4, s24_7, s24_8, s24_9, s24_10, s24_11, s24_12, s24_15, s24_16, s24_17, s24_19, s24_20, s24_22, s24_24, s24_25, s24_28, s24_30, s24_33, s24_35, s24_38, s24_40, s24_43, s24_46, s24_47, s24_50, s24_51, s24_53, s24_55, s24_58, s24_59, s24_61, s24_64, s24_65, s24_68, s24_70, s24_72, s24_75, s24_78, s24_80, gF_i, gF_r, gP_f, gP_t, aRd_1, aRd_4, aKd_e, oo_s, z0, z1, okP_n, okP_i, okP_r, vtl, vtn, true_and, and_true, bI_ite, bI_01, F2_9, F2_15, F2_18, F2_73, F2_57, F2_70, F2_80, F2_105, P2_73, P2_80, P2_105, cs_n, Nat.zero_le, cs_i, cs_r, cs_l, Nat.reduceAdd, Nat.reduceLeDiff, h1, decide_true, decide_false, not_true_eq_false, not_false_eq_true, Bool.and_true, Bool.true_and, Bool.and_false, Bool.false_and, Bool.or_true, Bool.true_or, Bool.or_false, Bool.false_or, Bool.not_true, Bool.not_false, ite_true, ite_false, if_true, if_false, Bool.false_eq_true, reduceIte, decide_not, and_true, true_and, and_false, false_and, or_true, true_or, or_false, false_or, not_false, not_true, lsL]
  | succ m ih =>
    intro i least a6 hi h0 hl
    have hi2 : i < 256 := by omega
    have h1 : ¬ nI A < nI i := by rw [nIlt (by omega), nI_toInt (by omega)]; omega
    have o1 : ¬ ((1 : Int32) = 0) := by decide
    show Go (d + 1) 24 22 _ _ _ _ = _
    unfold lsL
    by_cases h2 : least = 0
    · subst h2
      have h3 : nI 0 = 0 := nI_0
      by_cases h4 : w.1 39 i = step
      · rw [if_pos ⟨Or.inl rfl, h4⟩]
        simp only [s24_0, s24_1, s24_4, s24_7, s24_8, s24_9, s24_10, s24_11, s24_12, s24_15, s24_16, s24_17, s24_19, s24_20, s24_22, s24_24, s24_25, s24_28, s24_30, s24_33, s24_35, s24_38, s24_40, s24_43, s24_46, s24_47, s24_50, s24_51, s24_53, s24_55, s24_58, s24_59, s24_61, s24_64, s24_65, s24_68, s24_70, s24_72, s24_75, s24_78, s24_80, gF_i, gF_r, gP_f, gP_t, aRd_1, aRd_4, aKd_e, oo_s, z0, z1, okP_n, okP_i, okP_r, vtl, vtn, true_and, and_true, bI_ite, bI_01, F2_9, F2_15, F2_18, F2_73, F2_57, F2_70, F2_80, F2_105, P2_73, P2_80, P2_105, cs_n, Nat.zero_le, cs_i, cs_r, cs_l, Nat.reduceAdd, Nat.reduceLeDiff, h1, h3, R_2, c2_endFound hi2, h4, o1, nI_1, ih (i + 1) i _ (by omega) (by omega) hi2, decide_true, decide_false, not_true_eq_false, not_false_eq_true, Bool.and_true, Bool.true_and, Bool.and_false, Bool.false_and, Bool.or_true, Bool.true_or, Bool.or_false, Bool.false_or, Bool.not_true, Bool.not_false, ite_true, ite_false, if_true, if_false, Bool.false_eq_true, reduceIte, decide_not, and_true, true_and, and_false, false_and, or_true, true_or, or_false, false_or, not_false, not_true]
      · rw [if_neg (fun z => h4 z.2)]
        have h5 := fun a6 => ih (i + 1) 0 a6 (by omega) (by omega) (by omega)
        simp only [nI_0] at h5
        simp only [s24_0, s24_1, s24_4, s24_7, s24_8, s24_9, s24_10, s24_11, s24_12, s24_15, s24_16, s24_17, s24_19, s24_20, s24_22, s24_24, s24_25, s24_28, s24_30, s24_33, s24_35, s24_38, s24_40, s24_43, s24_46, s24_47, s24_50, s24_51, s24_53, s24_55, s24_58, s24_59, s24_61, s24_64, s24_65, s24_68, s24_70, s24_72, s24_75, s24_78, s24_80, gF_i, gF_r, gP_f, gP_t, aRd_1, aRd_4, aKd_e, oo_s, z0, z1, okP_n, okP_i, okP_r, vtl, vtn, true_and, and_true, bI_ite, bI_01, F2_9, F2_15, F2_18, F2_73, F2_57, F2_70, F2_80, F2_105, P2_73, P2_80, P2_105, cs_n, Nat.zero_le, cs_i, cs_r, cs_l, Nat.reduceAdd, Nat.reduceLeDiff, h1, h3, R_2, c2_endFound hi2, h4, o1, nI_1, h5, decide_true, decide_false, not_true_eq_false, not_false_eq_true, Bool.and_true, Bool.true_and, Bool.and_false, Bool.false_and, Bool.or_true, Bool.true_or, Bool.or_false, Bool.false_or, Bool.not_true, Bool.not_false, ite_true, ite_false, if_true, if_false, Bool.false_eq_true, reduceIte, decide_not, and_true, true_and, and_false, false_and, or_true, true_or, or_false, false_or, not_false, not_true]
    · have h3 : ¬ (nI least = 0) := by rw [nI_z hl]; exact h2
      by_cases h5 : cnt8 i < cnt8 least
      · have h6 : nI (cnt8 i) < nI (cnt8 least) := by rw [cnt_lt hi2 hl]; exact h5
        by_cases h4 : w.1 39 i = step
        · rw [if_pos ⟨Or.inr h5, h4⟩]
          simp only [s24_0, s24_1, s24_4, s24_7, s24_8, s24_9, s24_10, s24_11, s24_12, s24_15, s24_16, s24_17, s24_19, s24_20, s24_22, s24_24, s24_25, s24_28, s24_30, s24_33, s24_35, s24_38, s24_40, s24_43, s24_46, s24_47, s24_50, s24_51, s24_53, s24_55, s24_58, s24_59, s24_61, s24_64, s24_65, s24_68, s24_70, s24_72, s24_75, s24_78, s24_80, gF_i, gF_r, gP_f, gP_t, aRd_1, aRd_4, aKd_e, oo_s, z0, z1, okP_n, okP_i, okP_r, vtl, vtn, true_and, and_true, bI_ite, bI_01, F2_9, F2_15, F2_18, F2_73, F2_57, F2_70, F2_80, F2_105, P2_73, P2_80, P2_105, cs_n, Nat.zero_le, cs_i, cs_r, cs_l, Nat.reduceAdd, Nat.reduceLeDiff, h1, h3, R_2, cJ_bits, iBits_cnt i hi2, iBits_cnt least hl, h6, c2_endFound hi2, h4, o1, nI_1, ih (i + 1) i _ (by omega) (by omega) hi2, decide_true, decide_false, not_true_eq_false, not_false_eq_true, Bool.and_true, Bool.true_and, Bool.and_false, Bool.false_and, Bool.or_true, Bool.true_or, Bool.or_false, Bool.false_or, Bool.not_true, Bool.not_false, ite_true, ite_false, if_true, if_false, Bool.false_eq_true, reduceIte, decide_not, and_true, true_and, and_false, false_and, or_true, true_or, or_false, false_or, not_false, not_true]
        · rw [if_neg (fun z => h4 z.2)]
          simp only [s24_0, s24_1, s24_4, s24_7, s24_8, s24_9, s24_10, s24_11, s24_12, s24_15, s24_16, s24_17, s24_19, s24_20, s24_22, s24_24, s24_25, s24_28, s24_30, s24_33, s24_35, s24_38, s24_40, s24_43, s24_46, s24_47, s24_50, s24_51, s24_53, s24_55, s24_58, s24_59, s24_61, s24_64, s24_65, s24_68, s24_70, s24_72, s24_75, s24_78, s24_80, gF_i, gF_r, gP_f, gP_t, aRd_1, aRd_4, aKd_e, oo_s, z0, z1, okP_n, okP_i, okP_r, vtl, vtn, true_and, and_true, bI_ite, bI_01, F2_9, F2_15, F2_18, F2_73, F2_57, F2_70, F2_80, F2_105, P2_73, P2_80, P2_105, cs_n, Nat.zero_le, cs_i, cs_r, cs_l, Nat.reduceAdd, Nat.reduceLeDiff, h1, h3, R_2, cJ_bits, iBits_cnt i hi2, iBits_cnt least hl, h6, c2_endFound hi2, h4, o1, nI_1, ih (i + 1) least _ (by omega) (by omega) hl, decide_true, decide_false, not_true_eq_false, not_false_eq_true, Bool.and_true, Bool.true_and, Bool.and_false, Bool.false_and, Bool.or_true, Bool.true_or, Bool.or_false, Bool.false_or, Bool.not_true, Bool.not_false, ite_true, ite_false, if_true, if_false, Bool.false_eq_true, reduceIte, decide_not, and_true, true_and, and_false, false_and, or_true, true_or, or_false, false_or, not_false, not_true]
      · have h6 : ¬ nI (cnt8 i) < nI (cnt8 least) := by rw [cnt_lt hi2 hl]; exact h5
        rw [if_neg (fun z => z.1.elim h2 h5)]
        simp only [s24_0, s24_1, s24_4, s24_7, s24_8, s24_9, s24_10, s24_11, s24_12, s24_15, s24_16, s24_17, s24_19, s24_20, s24_22, s24_24, s24_25, s24_28, s24_30, s24_33, s24_35, s24_38, s24_40, s24_43, s24_46, s24_47, s24_50, s24_51, s24_53, s24_55, s24_58, s24_59, s24_61, s24_64, s24_65, s24_68, s24_70, s24_72, s24_75, s24_78, s24_80, gF_i, gF_r, gP_f, gP_t, aRd_1, aRd_4, aKd_e, oo_s, z0, z1, okP_n, okP_i, okP_r, vtl, vtn, true_and, and_true, bI_ite, bI_01, F2_9, F2_15, F2_18, F2_73, F2_57, F2_70, F2_80, F2_105, P2_73, P2_80, P2_105, cs_n, Nat.zero_le, cs_i, cs_r, cs_l, Nat.reduceAdd, Nat.reduceLeDiff, h1, h3, R_2, cJ_bits, iBits_cnt i hi2, iBits_cnt least hl, h6, nI_1, ih (i + 1) least _ (by omega) (by omega) hl, decide_true, decide_false, not_true_eq_false, not_false_eq_true, Bool.and_true, Bool.true_and, Bool.and_false, Bool.false_and, Bool.or_true, Bool.true_or, Bool.or_false, Bool.false_or, Bool.not_true, Bool.not_false, ite_true, ite_false, if_true, if_false, Bool.false_eq_true, reduceIte, decide_not, and_true, true_and, and_false, false_and, or_true, true_or, or_false, false_or, not_false, not_true]
theorem c2_leastSet (hI : vI w 2) {t step : Int32} : Cl (d + 5) 24 [.ref 37, .int t, .int step] w Q = Q (some (.int (nI (lsL (fiE (w.1 2 4) (w.1 2 5) ((rMeas w t).1 38) step (vStep w 2 t) (2 ^ vN w 2 - 1) (w.1 39)) step 1 (2 ^ vN w 2 - 1) 0)))) (wA (rMeas w t) 39 (fiE (w.1 2 4) (w.1 2 5) ((rMeas w t).1 38) step (vStep w 2 t) (2 ^ vN w 2 - 1) (w.1 39))) := by
  rw [Cl_go (L := [some (.ref 37), some (.int t), some (.int step), none, none, none, none]) rfl]
  obtain ⟨e1, e2⟩ := vAll_n hI
  have hA := pw_lt e2
  have h := fun w' => leaL (d := d + 4) (Q := Q) (w := w') (t := t) (step := step) hA (2 ^ vN w 2 - 1) 1 0 none (by omega) (by omega) (by omega)
  simp only [nI_0, show nI 1 = 1 from rfl] at h
  simp only [s24_0, s24_1, s24_4, s24_7, s24_8, s24_9, s24_10, s24_11, s24_12, s24_15, s24_16, s24_17, s24_19, s24_20, s24_22, s24_24, s24_25, s24_28, s24_30, s24_33, s24_35, s24_38, s24_40, s24_43, s24_46, s24_47, s24_50, s24_51, s24_53, s24_55, s24_58, s24_59, s24_61, s24_64, s24_65, s24_68, s24_70, s24_72, s24_75, s24_78, s24_80, gF_i, gF_r, gP_f, gP_t, aRd_1, aRd_4, aKd_e, oo_s, z0, z1, okP_n, okP_i, okP_r, vtl, vtn, true_and, and_true, bI_ite, bI_01, F2_9, F2_15, F2_18, F2_73, F2_57, F2_70, F2_80, F2_105, P2_73, P2_80, P2_105, cs_n, Nat.zero_le, cs_i, cs_r, cs_l, Nat.reduceAdd, Nat.reduceLeDiff, R_2, iv2, vl_rcv iv2, c6_everybody iv2, e1, c2_endOf hI hA, h, wA_s]
theorem c2_doesWith (hI : vI w 2) {t step more : Int32} {S M : Nat} (hS : S < 256) (hM : M < 8) : Cl (d + 4) 32 [.ref 37, .int t, .int (nI S), .int step, .int (nI M), .int more] w Q = Q (some (.int (bI (decide (fiE (w.1 2 4) (w.1 2 5) (dwF w t M more (w.1 38)) step (vStep w 2 t) S (w.1 39) S = step))))) (wA (wA w 38 (dwF w t M more (w.1 38))) 39 (fiE (w.1 2 4) (w.1 2 5) (dwF w t M more (w.1 38)) step (vStep w 2 t) S (w.1 39))) := by
  rw [Cl_go (L := [some (.ref 37), some (.int t), some (.int (nI S)), some (.int step), some (.int (nI M)), some (.int more)]) rfl]
  have h1 : nI M < 8 := by rw [nI_l8 (by omega)]; exact hM
  have hs : ∀ f, vSame 2 w (wA w 38 f) := fun f => vSame_wA (by omega)
  have hI2 : ∀ f, vI (wA w 38 f) 2 := fun f => by rw [vSame_I (hs f)]; exact hI
  have h2 : ∀ f, vStep (wA w 38 f) 2 t = vStep w 2 t := fun f => vStep_same (hs f)
  simp only [s32_0, s32_2, s32_5, s32_7, s32_9, s32_12, s32_13, s32_16, s32_18, s32_19, s32_22, s32_23, s32_26, s32_28, s32_30, s32_33, s32_34, s32_37, s32_38, s32_39, s32_40, s32_43, s32_44, s32_47, s32_48, s32_49, s32_52, s32_53, s32_56, s32_57, s32_60, s32_61, gF_i, gF_r, gP_f, gP_t, aRd_1, aRd_4, aKd_e, oo_s, z0, z1, okP_n, okP_i, okP_r, vtl, vtn, true_and, and_true, bI_ite, bI_01, F2_9, F2_15, F2_18, F2_73, F2_57, F2_70, F2_80, F2_105, P2_73, P2_80, P2_105, cs_n, Nat.zero_le, cs_i, cs_r, cs_l, Nat.reduceAdd, Nat.reduceLeDiff, R_2, iv2, vl_rcv iv2, nI_neg (show M < 2 ^ 31 by omega), h1, A_38, nI_inb (show M < 2 ^ 31 by omega) hM, nI_cl (show M < 2 ^ 31 by omega), c6_strengthLeft iv2 hI, c6_reach iv2 hI, c6_stepOf iv2 (hI2 _), c2_fill hS, wI_A, h2, wA_s, wA_o n2_38, wA_o n39_38, decide_true, decide_false, not_true_eq_false, not_false_eq_true, Bool.and_true, Bool.true_and, Bool.and_false, Bool.false_and, Bool.or_true, Bool.true_or, Bool.or_false, Bool.false_or, Bool.not_true, Bool.not_false, ite_true, ite_false, if_true, if_false, Bool.false_eq_true, reduceIte, decide_not, and_true, true_and, and_false, false_and, or_true, true_or, or_false, false_or, not_false, not_true]
  have e : upd (w.1 38) M (vReach w 2 (vStr w 2 (nI M) more) t) = dwF w t M more (w.1 38) := rfl
  simp only [e]
  by_cases h3 : fiE (w.1 2 4) (w.1 2 5) (dwF w t M more (w.1 38)) step (vStep w 2 t) S (w.1 39) S = step
  · simp only [if_pos h3, decide_eq_true h3]; rfl
  · simp only [if_neg h3, decide_eq_false h3]; rfl
theorem strL {t step : Int32} {S M : Nat} (hS : S < 256) (hM : M < 8) {w0 : hW} (hI : vI w0 2) : ∀ (m c lo hi : Nat) (w : hW) (a8 : Option Value), vSame 2 w0 w → c + m = 99 → lo ≤ 99 → hi ≤ 99 → Tr (d + 5) 31 31 [some (.ref 37), some (.int t), some (.int (nI S)), some (.int step), some (.int (nI M)), some (.int (nI lo)), some (.int (nI hi)), some (.int (nI c)), a8] [] w Q = Q (some (.int (nI (snL (w0.1 2 4) (w0.1 2 5) (fun k => vReach w0 2 (vStr w0 2 (nI M) (nI k)) t) (vStep w0 2 t) step S M m lo hi (w.1 38) (w.1 39)).1))) (wA (wA w 38 (snL (w0.1 2 4) (w0.1 2 5) (fun k => vReach w0 2 (vStr w0 2 (nI M) (nI k)) t) (vStep w0 2 t) step S M m lo hi (w.1 38) (w.1 39)).2.1) 39 (snL (w0.1 2 4) (w0.1 2 5) (fun k => vReach w0 2 (vStr w0 2 (nI M) (nI k)) t) (vStep w0 2 t) step S M m lo hi (w.1 38) (w.1 39)).2.2) := by
  intro m
  induction m with
  | zero =>
    intro c lo hi w a8 hs hc hlo hhi
    have h1 : ¬ nI c < 99 := by rw [nIlt (by omega), i99]; omega
    show Go (d + 5) 31 31 _ _ _ _ = _
    simp only [s31_0, s31_1, s31_2, s31_5, s31_6, s31_7, s31_8, s31_9, s31_11, s31_13, s31_16, s31_19, s31_20, s31_21, s31_22, s31_24, s31_26, s31_28, s31_29, s31_31, s31_33, s31_35, s31_38, s31_40, s31_42, s31_43, s31_44, s31_47, s31_49, s31_51, s31_52, s31_53, s31_54, s31_56, s31_57, s31_58, s31_59, s31_60, s31_62, s31_64, s31_67, s31_70, s31_72, s31_74, s31_77, s31_79, s31_81, s31_84, s31_87, s31_89, gF_i, gF_r, gP_f, gP_t, aRd_1, aRd_4, aKd_e, oo_s, z0, z1, okP_n, okP_i, okP_r, vtl, vtn, true_and, and_true, bI_ite, bI_01, F2_9, F2_15, F2_18, F2_73, F2_57, F2_70, F2_80, F2_105, P2_73, P2_80, P2_105, cs_n, Nat.zero_le, cs_i, cs_r, cs_l, Nat.reduceAdd, Nat.reduceLeDiff, h1, decide_true, decide_false, not_true_eq_false, not_false_eq_true, Bool.and_true, Bool.true_and, Bool.and_false, Bool.false_and, Bool.or_true, Bool.true_or, Bool.or_false, Bool.false_or, Bool.not_true, Bool.not_false, ite_true, ite_false, if_true, if_false, Bool.false_eq_true, reduceIte, decide_not, and_true, true_and, and_false, false_and, or_true, true_or, or_false, false_or, not_false, not_true, snL]
    rw [wA_id, wA_id]
  | succ m ih =>
    intro c lo hi w a8 hs hc hlo hhi
    have h1 : nI c < 99 := by rw [nIlt (by omega), i99]; omega
    have hI2 : vI w 2 := by rw [vSame_I hs]; exact hI
    have e1 : (nI hi - nI lo).toInt = (hi : Int) - lo := by
      rw [i32_sub (by rw [nI_toInt (by omega), nI_toInt (by omega)]; omega) (by rw [nI_toInt (by omega), nI_toInt (by omega)]; omega), nI_toInt (by omega), nI_toInt (by omega)]
    have o1 : (1 : Int32).toInt = 1 := rfl
    show Go (d + 5) 31 31 _ _ _ _ = _
    unfold snL
    by_cases h2 : lo + 1 < hi
    · have h3 : 1 < nI hi - nI lo := by rw [i32_lt, e1, o1]; omega
      have e2 : (nI lo + nI hi) / 2 = nI ((lo + hi) / 2) := by rw [nI_sum, half_n _ (by omega)]
      have e3 : dwF w t M (nI ((lo + hi) / 2)) (w.1 38) = upd (w.1 38) M (vReach w0 2 (vStr w0 2 (nI M) (nI ((lo + hi) / 2))) t) := by
        unfold dwF
        rw [vStr_same hs, vReach_same hs]
      have hs2 : ∀ f g, vSame 2 w0 (wA (wA w 38 f) 39 g) := fun f g q a b => by
        rw [wA_o (by omega), wA_o (by omega)]; exact hs q a b
      rw [if_pos h2]
      by_cases h4 : fiE (w0.1 2 4) (w0.1 2 5) (upd (w.1 38) M (vReach w0 2 (vStr w0 2 (nI M) (nI ((lo + hi) / 2))) t)) step (vStep w0 2 t) S (w.1 39) S = step
      · rw [if_pos h4]
        have h5 : decide (fiE (w0.1 2 4) (w0.1 2 5) (upd (w.1 38) M (vReach w0 2 (vStr w0 2 (nI M) (nI ((lo + hi) / 2))) t)) step (vStep w0 2 t) S (w.1 39) S = step) = true := decide_eq_true h4
        simp only [s31_0, s31_1, s31_2, s31_5, s31_6, s31_7, s31_8, s31_9, s31_11, s31_13, s31_16, s31_19, s31_20, s31_21, s31_22, s31_24, s31_26, s31_28, s31_29, s31_31, s31_33, s31_35, s31_38, s31_40, s31_42, s31_43, s31_44, s31_47, s31_49, s31_51, s31_52, s31_53, s31_54, s31_56, s31_57, s31_58, s31_59, s31_60, s31_62, s31_64, s31_67, s31_70, s31_72, s31_74, s31_77, s31_79, s31_81, s31_84, s31_87, s31_89, gF_i, gF_r, gP_f, gP_t, aRd_1, aRd_4, aKd_e, oo_s, z0, z1, okP_n, okP_i, okP_r, vtl, vtn, true_and, and_true, bI_ite, bI_01, F2_9, F2_15, F2_18, F2_73, F2_57, F2_70, F2_80, F2_105, P2_73, P2_80, P2_105, cs_n, Nat.zero_le, cs_i, cs_r, cs_l, Nat.reduceAdd, Nat.reduceLeDiff, R_2, h1, h3, nz2, e2, c2_doesWith hI2 hS hM, e3, vSame_f hs, vStep_same hs, h5, nI_1, ih (c + 1) _ _ _ _ (hs2 _ _) (by omega) hlo (show (lo + hi) / 2 ≤ 99 by omega), wA_s, wA_o n38_39, decide_true, decide_false, not_true_eq_false, not_false_eq_true, Bool.and_true, Bool.true_and, Bool.and_false, Bool.false_and, Bool.or_true, Bool.true_or, Bool.or_false, Bool.false_or, Bool.not_true, Bool.not_false, ite_true, ite_false, if_true, if_false, Bool.false_eq_true, reduceIte, decide_not, and_true, true_and, and_false, false_and, or_true, true_or, or_false, false_or, not_false, not_true]
        congr 1
        refine Prod.ext (funext fun q => ?_) rfl
        simp only [wA]
        by_cases z1 : q = 39 <;> by_cases z2 : q = 38 <;> simp [z1, z2]
      · rw [if_neg h4]
        have h5 : decide (fiE (w0.1 2 4) (w0.1 2 5) (upd (w.1 38) M (vReach w0 2 (vStr w0 2 (nI M) (nI ((lo + hi) / 2))) t)) step (vStep w0 2 t) S (w.1 39) S = step) = false := decide_eq_false h4
        simp only [s31_0, s31_1, s31_2, s31_5, s31_6, s31_7, s31_8, s31_9, s31_11, s31_13, s31_16, s31_19, s31_20, s31_21, s31_22, s31_24, s31_26, s31_28, s31_29, s31_31, s31_33, s31_35, s31_38, s31_40, s31_42, s31_43, s31_44, s31_47, s31_49, s31_51, s31_52, s31_53, s31_54, s31_56, s31_57, s31_58, s31_59, s31_60, s31_62, s31_64, s31_67, s31_70, s31_72, s31_74, s31_77, s31_79, s31_81, s31_84, s31_87, s31_89, gF_i, gF_r, gP_f, gP_t, aRd_1, aRd_4, aKd_e, oo_s, z0, z1, okP_n, okP_i, okP_r, vtl, vtn, true_and, and_true, bI_ite, bI_01, F2_9, F2_15, F2_18, F2_73, F2_57, F2_70, F2_80, F2_105, P2_73, P2_80, P2_105, cs_n, Nat.zero_le, cs_i, cs_r, cs_l, Nat.reduceAdd, Nat.reduceLeDiff, R_2, h1, h3, nz2, e2, c2_doesWith hI2 hS hM, e3, vSame_f hs, vStep_same hs, h5, nI_1, ih (c + 1) _ _ _ _ (hs2 _ _) (by omega) (show (lo + hi) / 2 ≤ 99 by omega) hhi, wA_s, wA_o n38_39, decide_true, decide_false, not_true_eq_false, not_false_eq_true, Bool.and_true, Bool.true_and, Bool.and_false, Bool.false_and, Bool.or_true, Bool.true_or, Bool.or_false, Bool.false_or, Bool.not_true, Bool.not_false, ite_true, ite_false, if_true, if_false, Bool.false_eq_true, reduceIte, decide_not, and_true, true_and, and_false, false_and, or_true, true_or, or_false, false_or, not_false, not_true]
        congr 1
        refine Prod.ext (funext fun q => ?_) rfl
        simp only [wA]
        by_cases z1 : q = 39 <;> by_cases z2 : q = 38 <;> simp [z1, z2]
    · have h3 : ¬ 1 < nI hi - nI lo := by rw [i32_lt, e1, o1]; omega
      rw [if_neg h2]
      simp only [s31_0, s31_1, s31_2, s31_5, s31_6, s31_7, s31_8, s31_9, s31_11, s31_13, s31_16, s31_19, s31_20, s31_21, s31_22, s31_24, s31_26, s31_28, s31_29, s31_31, s31_33, s31_35, s31_38, s31_40, s31_42, s31_43, s31_44, s31_47, s31_49, s31_51, s31_52, s31_53, s31_54, s31_56, s31_57, s31_58, s31_59, s31_60, s31_62, s31_64, s31_67, s31_70, s31_72, s31_74, s31_77, s31_79, s31_81, s31_84, s31_87, s31_89, gF_i, gF_r, gP_f, gP_t, aRd_1, aRd_4, aKd_e, oo_s, z0, z1, okP_n, okP_i, okP_r, vtl, vtn, true_and, and_true, bI_ite, bI_01, F2_9, F2_15, F2_18, F2_73, F2_57, F2_70, F2_80, F2_105, P2_73, P2_80, P2_105, cs_n, Nat.zero_le, cs_i, cs_r, cs_l, Nat.reduceAdd, Nat.reduceLeDiff, h1, h3, decide_true, decide_false, not_true_eq_false, not_false_eq_true, Bool.and_true, Bool.true_and, Bool.and_false, Bool.false_and, Bool.or_true, Bool.true_or, Bool.or_false, Bool.false_or, Bool.not_true, Bool.not_false, ite_true, ite_false, if_true, if_false, Bool.false_eq_true, reduceIte, decide_not, and_true, true_and, and_false, false_and, or_true, true_or, or_false, false_or, not_false, not_true]
      rw [wA_id, wA_id]
end

/-! CONTRACTS of Valley (class 6): flights, parts, nights, rows added, a valley taken over -/
theorem wI_tab {w : hW} {p q j : Nat} {x : Int32} (h : q ≠ p) : tI (wI w p j x) q = tI w q := by
  unfold tI
  rw [wI_p h, wI_p h, wI_p h]
theorem i8 : (8 : Int32).toInt = 8 := rfl
theorem i4 : (4 : Int32).toInt = 4 := rfl
theorem add1 {x : Int32} (h : 0 ≤ x.toInt) (h2 : x.toInt < 100) : (x + 1).toInt = x.toInt + 1 := by
  rw [i32_add] <;> (have : (1 : Int32).toInt = 1 := rfl) <;> omega
theorem vI_add1 {w : hW} {b : Nat} (h : vI w b) (h2 : (w.1 (b + 1) 3).toInt < 8) : vI (wI w (b + 1) 3 (w.1 (b + 1) 3 + 1)) b := by
  obtain ⟨h1, h2', h3, h4, h5, h6, ⟨h7, h8⟩, ⟨h9, h10⟩, h11, h12⟩ := h
  have e := add1 (x := w.1 (b + 1) 3) h7 (by omega)
  refine ⟨?_, ?_, ?_, ?_, ?_, ?_, ?_, ?_, ?_⟩ <;> simp [wI, h1, h2', h3, h4, h5, h6, h7, h8, h9, h10, h11, h12, e]
  omega
theorem vI_add3 {w : hW} {b : Nat} (h : vI w b) (h2 : (w.1 (b + 3) 3).toInt < 8) : vI (wI w (b + 3) 3 (w.1 (b + 3) 3 + 1)) b := by
  obtain ⟨h1, h2', h3, h4, h5, h6, ⟨h7, h8⟩, ⟨h9, h10⟩, h11, h12⟩ := h
  have e := add1 (x := w.1 (b + 3) 3) h9 (by omega)
  refine ⟨?_, ?_, ?_, ?_, ?_, ?_, ?_, ?_, ?_⟩ <;> simp [wI, h1, h2', h3, h4, h5, h6, h7, h8, h9, h10, h11, h12, e]
  omega
theorem vI_add5 {w : hW} {b : Nat} (h : vI w b) (h2 : (w.1 (b + 5) 3).toInt < 4) : vI (wI w (b + 5) 3 (w.1 (b + 5) 3 + 1)) b := by
  obtain ⟨h1, h2', h3, h4, h5, h6, ⟨h7, h8⟩, ⟨h9, h10⟩, h11, h12⟩ := h
  have e := add1 (x := w.1 (b + 5) 3) h11 (by omega)
  refine ⟨?_, ?_, ?_, ?_, ?_, ?_, ?_, ?_, ?_⟩ <;> simp [wI, h1, h2', h3, h4, h5, h6, h7, h8, h9, h10, h11, h12, e]
  omega
def vFlC (w : hW) (b : Nat) (m t dd : Int32) : Bool := decide (vRand (vSeed2 w b) 10 < vTenths (wI w b 7 (vSeed2 w b)) b m t dd)
def vFlW (w : hW) (b : Nat) (m t dd : Int32) : hW := tPut (vMove (wI w b 7 (vSeed2 w b)) b m t dd) (b + 1) t 4 (-1)
def vFling (w : hW) (b : Nat) (m t dd : Int32) : hW := if vFlC w b m t dd then vFlW w b m t dd else if tCell (vFlW w b m t dd) (b + 1) t 0 = 4 then tPut (vFlW w b m t dd) (b + 1) t 5 1 else vFlW w b m t dd
theorem vI_vFlW {w : hW} {b c : Nat} {m t dd : Int32} (hb : isVal b) (hc : isVal c) : vI (vFlW w b m t dd) c = vI w c := by
  unfold vFlW
  rw [vI_tPut (vt1 hb) hc, vI_vMove hb hc, vI_wI hb hc]
theorem vI_vFling {w : hW} {b c : Nat} {m t dd : Int32} (hb : isVal b) (hc : isVal c) : vI (vFling w b m t dd) c = vI w c := by
  unfold vFling
  split
  · exact vI_vFlW hb hc
  · split
    · rw [vI_tPut (vt1 hb) hc, vI_vFlW hb hc]
    · exact vI_vFlW hb hc
def vAddT0 (w : hW) (b : Nat) (n k wt ex st : Int32) : hW := tPut (tPut (tPut (tPut (tPut (tPut w (b + 1) n 0 k) (b + 1) n 1 wt) (b + 1) n 2 ex) (b + 1) n 3 st) (b + 1) n 4 (-1)) (b + 1) n 5 0
def vAddT (w : hW) (b : Nat) (k wt ex st : Int32) : hW := vAddT0 (wI w (b + 1) 3 (w.1 (b + 1) 3 + 1)) b (w.1 (b + 1) 3) k wt ex st
def vAddM (w : hW) (b : Nat) (s : Int32) : hW := tPut (tPut (wI w (b + 3) 3 (w.1 (b + 3) 3 + 1)) (b + 3) (w.1 (b + 3) 3) 0 s) (b + 3) (w.1 (b + 3) 3) 1 0
def vAddW (w : hW) (b : Nat) (t st v : Int32) : hW := tPut (tPut (tPut (wI w (b + 5) 3 (w.1 (b + 5) 3 + 1)) (b + 5) (w.1 (b + 5) 3) 0 t) (b + 5) (w.1 (b + 5) 3) 1 st) (b + 5) (w.1 (b + 5) 3) 2 v
theorem vI_vAddT0 {w : hW} {b c : Nat} {n k wt ex st : Int32} (hb : isVal b) (hc : isVal c) : vI (vAddT0 w b n k wt ex st) c = vI w c := by
  unfold vAddT0
  simp only [vI_tPut (vt1 hb) hc]
theorem vI_vAddT {w : hW} {b : Nat} {k wt ex st : Int32} (hb : isVal b) (h : vI w b) (h2 : (w.1 (b + 1) 3).toInt < 8) : vI (vAddT w b k wt ex st) b := by
  unfold vAddT
  rw [vI_vAddT0 hb hb]
  exact vI_add1 h h2
theorem vI_vAddM {w : hW} {b : Nat} {s : Int32} (hb : isVal b) (h : vI w b) (h2 : (w.1 (b + 3) 3).toInt < 8) : vI (vAddM w b s) b := by
  unfold vAddM
  rw [vI_tPut (vt3 hb) hb, vI_tPut (vt3 hb) hb]
  exact vI_add3 h h2
theorem vI_vAddW {w : hW} {b : Nat} {t st v : Int32} (hb : isVal b) (h : vI w b) (h2 : (w.1 (b + 5) 3).toInt < 4) : vI (vAddW w b t st v) b := by
  unfold vAddW
  rw [vI_tPut (vt5 hb) hb, vI_tPut (vt5 hb) hb, vI_tPut (vt5 hb) hb]
  exact vI_add5 h h2
def vCut1 (w : hW) (b : Nat) (t wt : Int32) : hW := tPut (vAddT w b 0 wt 1 (vStep w b t)) (b + 1) (w.1 (b + 1) 3) 4 (tCell (vAddT w b 0 wt 1 (vStep w b t)) (b + 1) t 4)
def vCutL (b : Nat) (t wt : Int32) : Nat → hW → hW
  | 0, w => w
  | m + 1, w => if tFull w (b + 1) then w else vCutL b t wt m (vCut1 w b t wt)
def vCut0 (w : hW) (b : Nat) (t : Int32) : hW := tPut (tPut (tPut w (b + 1) t 0 0) (b + 1) t 1 (fUp (tCell w (b + 1) t 1) (tCell w (b + 1) t 2))) (b + 1) t 2 1
def vCut (w : hW) (b : Nat) (t : Int32) : hW := vCutL b t (fUp (tCell w (b + 1) t 1) (tCell w (b + 1) t 2)) ((tCell w (b + 1) t 2).toInt - 1).toNat (vCut0 w b t)
theorem notFull {w : hW} {b : Nat} (hI : vI w b) (h : ¬ tFull w (b + 1) = true) : (w.1 (b + 1) 3).toInt < 8 := by
  simp only [tFull, Bool.not_eq_true', decide_eq_false_iff_not, Decidable.not_not, i32_lt, hI.1, i8] at h
  exact h
def vSlM (b : Nat) : Nat → Nat → hW → hW
  | _, 0, w => w
  | i, m + 1, w => vSlM b (i + 1) m (tPut w (b + 3) (nI i) 1 (tCell w (b + 3) (nI i) 1 / 2))
def vSlS (b : Nat) : Nat → Nat → hW → Int32 → Int32
  | _, 0, _, s => s
  | i, m + 1, w, s => vSlS b (i + 1) m (tPut w (b + 3) (nI i) 1 (tCell w (b + 3) (nI i) 1 / 2)) (s + tCell w (b + 3) (nI i) 1 / 2)
def vSlT (b : Nat) : Nat → Nat → hW → hW
  | _, 0, w => w
  | i, m + 1, w => vSlT b (i + 1) m (tPut w (b + 1) (nI i) 4 (-1))
def vNight (w : hW) (b : Nat) : hW := vSlT b 0 (w.1 (b + 1) 3).toInt.toNat (vSlM b 0 (w.1 (b + 3) 3).toInt.toNat w)
def vNightS (w : hW) (b : Nat) : Int32 := vSlS b 0 (w.1 (b + 3) 3).toInt.toNat w 0
section
variable {d b : Nat} {w : hW} {Q : aPost}
theorem c6_fling (hb : isVal b) (hI : vI w b) {m t dd : Int32} : Cl (d + 4) 94 [.ref b, .int m, .int t, .int dd] w Q = Q (some (.int (bI (vFlC w b m t dd)))) (vFling w b m t dd) := by
  rw [Cl_go (L := [some (.ref b), some (.int m), some (.int t), some (.int dd), none]) rfl]
  have h0 : vI (wI w b 7 (vSeed2 w b)) b := by rw [vI_wI hb hb]; exact hI
  have h1 : tI (vMove (wI w b 7 (vSeed2 w b)) b m t dd) (b + 1) := vI_1 (by rw [vI_vMove hb hb]; exact h0)
  have h2 : tI (vFlW w b m t dd) (b + 1) := vI_1 (by rw [vI_vFlW hb hb]; exact hI)
  have e : tPut (vMove (wI w b 7 (vSeed2 w b)) b m t dd) (b + 1) t 4 (-1) = vFlW w b m t dd := rfl
  simp only [s94_0, s94_1, s94_3, s94_6, s94_7, s94_8, s94_9, s94_10, s94_13, s94_16, s94_17, s94_20, s94_21, s94_23, s94_24, s94_25, s94_26, s94_27, s94_30, s94_31, s94_34, s94_35, s94_36, s94_37, s94_40, s94_42, s94_45, s94_46, s94_49, s94_50, s94_51, s94_54, s94_55, s94_58, s94_59, s94_62, s94_63, s94_64, s94_65, s94_68, s94_70, gF_i, gF_r, gP_f, gP_t, aRd_1, aRd_4, aKd_e, oo_s, z0, z1, okP_n, okP_i, okP_r, vtl, vtn, true_and, and_true, bI_ite, bI_01, F6_14, F6_20, F6_23, F6_26, F6_30, F6_43, F6_37, F6_40, F6_46, F6_64, P6_26, P6_30, P6_43, P6_37, P6_40, P6_46, P6_64, hb, hI, vt1 hb, vt3 hb, vt5 hb, vl_rcv hb, tb_rcv (vt1 hb), tb_rcv (vt3 hb), tb_rcv (vt5 hb), vI_1 hI, vI_3 hI, vI_5 hI, cs_n, Nat.zero_le, cs_i, cs_r, cs_l, Nat.reduceAdd, Nat.reduceLeDiff, c6_draw, c6_caughtTenths, h0, c6_moveOn, c5_put, h1, e, c5_cell, h2]
  unfold vFling
  by_cases hc : vRand (vSeed2 w b) 10 < vTenths (wI w b 7 (vSeed2 w b)) b m t dd
  · have hc2 : vFlC w b m t dd = true := by simp only [vFlC, hc, decide_true]
    simp only [hc, hc2, bI, decide_true, decide_false, not_true_eq_false, not_false_eq_true, Bool.and_true, Bool.true_and, Bool.and_false, Bool.false_and, Bool.or_true, Bool.true_or, Bool.or_false, Bool.false_or, Bool.not_true, Bool.not_false, ite_true, ite_false, if_true, if_false, Bool.false_eq_true, reduceIte, decide_not, and_true, true_and, and_false, false_and, or_true, true_or, or_false, false_or, not_false, not_true]
    simp
  · have hc2 : vFlC w b m t dd = false := by simp only [vFlC, hc, decide_false]
    simp only [hc, hc2, bI, decide_true, decide_false, not_true_eq_false, not_false_eq_true, Bool.and_true, Bool.true_and, Bool.and_false, Bool.false_and, Bool.or_true, Bool.true_or, Bool.or_false, Bool.false_or, Bool.not_true, Bool.not_false, ite_true, ite_false, if_true, if_false, Bool.false_eq_true, reduceIte, decide_not, and_true, true_and, and_false, false_and, or_true, true_or, or_false, false_or, not_false, not_true]
    by_cases h4 : tCell (vFlW w b m t dd) (b + 1) t 0 = 4
    · simp only [h4, decide_true, decide_false, not_true_eq_false, not_false_eq_true, Bool.and_true, Bool.true_and, Bool.and_false, Bool.false_and, Bool.or_true, Bool.true_or, Bool.or_false, Bool.false_or, Bool.not_true, Bool.not_false, ite_true, ite_false, if_true, if_false, Bool.false_eq_true, reduceIte, decide_not, and_true, true_and, and_false, false_and, or_true, true_or, or_false, false_or, not_false, not_true]
    · simp only [h4, decide_true, decide_false, not_true_eq_false, not_false_eq_true, Bool.and_true, Bool.true_and, Bool.and_false, Bool.false_and, Bool.or_true, Bool.true_or, Bool.or_false, Bool.false_or, Bool.not_true, Bool.not_false, ite_true, ite_false, if_true, if_false, Bool.false_eq_true, reduceIte, decide_not, and_true, true_and, and_false, false_and, or_true, true_or, or_false, false_or, not_false, not_true]
theorem c6_addThing (hb : isVal b) (hI : vI w b) (h8 : (w.1 (b + 1) 3).toInt < 8) {k wt ex st : Int32} : Cl (d + 3) 67 [.ref b, .int k, .int wt, .int ex, .int st] w Q = Q (some (.int (w.1 (b + 1) 3))) (vAddT w b k wt ex st) := by
  rw [Cl_go (L := [some (.ref b), some (.int k), some (.int wt), some (.int ex), some (.int st), none]) rfl]
  have h1 := vI_1 (vI_add1 hI h8)
  simp only [s67_0, s67_1, s67_4, s67_7, s67_9, s67_10, s67_13, s67_15, s67_16, s67_17, s67_20, s67_21, s67_24, s67_26, s67_27, s67_28, s67_31, s67_32, s67_35, s67_37, s67_38, s67_39, s67_42, s67_43, s67_46, s67_48, s67_49, s67_51, s67_54, s67_55, s67_58, s67_60, s67_61, s67_62, s67_65, s67_66, s67_69, s67_71, s67_72, s67_73, s67_76, s67_78, gF_i, gF_r, gP_f, gP_t, aRd_1, aRd_4, aKd_e, oo_s, z0, z1, okP_n, okP_i, okP_r, vtl, vtn, true_and, and_true, bI_ite, bI_01, F6_14, F6_20, F6_23, F6_26, F6_30, F6_43, F6_37, F6_40, F6_46, F6_64, P6_26, P6_30, P6_43, P6_37, P6_40, P6_46, P6_64, hb, hI, vt1 hb, vt3 hb, vt5 hb, vl_rcv hb, tb_rcv (vt1 hb), tb_rcv (vt3 hb), tb_rcv (vt5 hb), vI_1 hI, vI_3 hI, vI_5 hI, cs_n, Nat.zero_le, cs_i, cs_r, cs_l, Nat.reduceAdd, Nat.reduceLeDiff, c5_append, c5_put, h1, tI_tPut]
  rfl
theorem c6_addMan (hb : isVal b) (hI : vI w b) (h8 : (w.1 (b + 3) 3).toInt < 8) {s : Int32} : Cl (d + 3) 68 [.ref b, .int s] w Q = Q (some (.int (w.1 (b + 3) 3))) (vAddM w b s) := by
  rw [Cl_go (L := [some (.ref b), some (.int s), none]) rfl]
  have h1 := vI_3 (vI_add3 hI h8)
  simp only [s68_0, s68_1, s68_4, s68_7, s68_8, s68_9, s68_12, s68_13, s68_14, s68_15, s68_18, s68_19, s68_22, s68_23, s68_24, s68_25, s68_28, s68_29, gF_i, gF_r, gP_f, gP_t, aRd_1, aRd_4, aKd_e, oo_s, z0, z1, okP_n, okP_i, okP_r, vtl, vtn, true_and, and_true, bI_ite, bI_01, F6_14, F6_20, F6_23, F6_26, F6_30, F6_43, F6_37, F6_40, F6_46, F6_64, P6_26, P6_30, P6_43, P6_37, P6_40, P6_46, P6_64, hb, hI, vt1 hb, vt3 hb, vt5 hb, vl_rcv hb, tb_rcv (vt1 hb), tb_rcv (vt3 hb), tb_rcv (vt5 hb), vI_1 hI, vI_3 hI, vI_5 hI, cs_n, Nat.zero_le, cs_i, cs_r, cs_l, Nat.reduceAdd, Nat.reduceLeDiff, c5_append, c5_put, h1, tI_tPut]
  rfl
theorem c6_addWant (hb : isVal b) (hI : vI w b) (h8 : (w.1 (b + 5) 3).toInt < 4) {t st v : Int32} : Cl (d + 3) 69 [.ref b, .int t, .int st, .int v] w Q = Q (some (.int (w.1 (b + 5) 3))) (vAddW w b t st v) := by
  rw [Cl_go (L := [some (.ref b), some (.int t), some (.int st), some (.int v), none]) rfl]
  have h1 := vI_5 (vI_add5 hI h8)
  simp only [s69_0, s69_1, s69_4, s69_7, s69_9, s69_10, s69_13, s69_15, s69_16, s69_17, s69_20, s69_21, s69_24, s69_26, s69_27, s69_28, s69_31, s69_32, s69_35, s69_37, s69_38, s69_39, s69_42, s69_44, gF_i, gF_r, gP_f, gP_t, aRd_1, aRd_4, aKd_e, oo_s, z0, z1, okP_n, okP_i, okP_r, vtl, vtn, true_and, and_true, bI_ite, bI_01, F6_14, F6_20, F6_23, F6_26, F6_30, F6_43, F6_37, F6_40, F6_46, F6_64, P6_26, P6_30, P6_43, P6_37, P6_40, P6_46, P6_64, hb, hI, vt1 hb, vt3 hb, vt5 hb, vl_rcv hb, tb_rcv (vt1 hb), tb_rcv (vt3 hb), tb_rcv (vt5 hb), vI_1 hI, vI_3 hI, vI_5 hI, cs_n, Nat.zero_le, cs_i, cs_r, cs_l, Nat.reduceAdd, Nat.reduceLeDiff, c5_append, c5_put, h1, tI_tPut]
  rfl
theorem cutL (hb : isVal b) {t wt ps : Int32} : ∀ (m i : Nat) (w : hW) (a5 : Option Value), vI w b → 1 ≤ i → ps.toInt - i = m ∨ (ps.toInt ≤ i ∧ m = 0 ∧ i = 1) → Tr (d + 4) 96 57 [some (.ref b), some (.int t), some (.int ps), some (.int wt), some (.int (nI i)), a5] [] w Q = Q none (vCutL b t wt m w) := by
  intro m
  induction m with
  | zero =>
    intro i w a5 hI h1 h2
    have hp : ps.toInt < 2147483648 := Int32.toInt_lt ps
    have h3 : ¬ nI i < ps := by rw [nIlt (by omega)]; omega
    show Go (d + 4) 96 57 _ _ _ _ = _
    simp only [s96_0, s96_1, s96_4, s96_5, s96_6, s96_9, s96_10, s96_11, s96_14, s96_15, s96_16, s96_19, s96_20, s96_23, s96_24, s96_25, s96_28, s96_29, s96_30, s96_31, s96_34, s96_35, s96_38, s96_39, s96_40, s96_41, s96_44, s96_45, s96_48, s96_49, s96_50, s96_51, s96_54, s96_55, s96_57, s96_59, s96_60, s96_63, s96_64, s96_67, s96_70, s96_73, s96_74, s96_75, s96_76, s96_77, s96_78, s96_79, s96_82, s96_85, s96_87, s96_88, s96_91, s96_93, s96_94, s96_95, s96_98, s96_99, s96_100, s96_103, s96_106, s96_109, s96_112, gF_i, gF_r, gP_f, gP_t, aRd_1, aRd_4, aKd_e, oo_s, z0, z1, okP_n, okP_i, okP_r, vtl, vtn, true_and, and_true, bI_ite, bI_01, F6_14, F6_20, F6_23, F6_26, F6_30, F6_43, F6_37, F6_40, F6_46, F6_64, P6_26, P6_30, P6_43, P6_37, P6_40, P6_46, P6_64, hb, hI, vt1 hb, vt3 hb, vt5 hb, vl_rcv hb, tb_rcv (vt1 hb), tb_rcv (vt3 hb), tb_rcv (vt5 hb), vI_1 hI, vI_3 hI, vI_5 hI, cs_n, Nat.zero_le, cs_i, cs_r, cs_l, Nat.reduceAdd, Nat.reduceLeDiff, h3, decide_true, decide_false, not_true_eq_false, not_false_eq_true, Bool.and_true, Bool.true_and, Bool.and_false, Bool.false_and, Bool.or_true, Bool.true_or, Bool.or_false, Bool.false_or, Bool.not_true, Bool.not_false, ite_true, ite_false, if_true, if_false, Bool.false_eq_true, reduceIte, decide_not, and_true, true_and, and_false, false_and, or_true, true_or, or_false, false_or, not_false, not_true]
    rfl
  | succ m ih =>
    intro i w a5 hI h1 h2
    have hp : ps.toInt < 2147483648 := Int32.toInt_lt ps
    have h3 : nI i < ps := by rw [nIlt (by omega)]; omega
    show Go (d + 4) 96 57 _ _ _ _ = _
    by_cases hf : tFull w (b + 1) = true
    · simp only [s96_0, s96_1, s96_4, s96_5, s96_6, s96_9, s96_10, s96_11, s96_14, s96_15, s96_16, s96_19, s96_20, s96_23, s96_24, s96_25, s96_28, s96_29, s96_30, s96_31, s96_34, s96_35, s96_38, s96_39, s96_40, s96_41, s96_44, s96_45, s96_48, s96_49, s96_50, s96_51, s96_54, s96_55, s96_57, s96_59, s96_60, s96_63, s96_64, s96_67, s96_70, s96_73, s96_74, s96_75, s96_76, s96_77, s96_78, s96_79, s96_82, s96_85, s96_87, s96_88, s96_91, s96_93, s96_94, s96_95, s96_98, s96_99, s96_100, s96_103, s96_106, s96_109, s96_112, gF_i, gF_r, gP_f, gP_t, aRd_1, aRd_4, aKd_e, oo_s, z0, z1, okP_n, okP_i, okP_r, vtl, vtn, true_and, and_true, bI_ite, bI_01, F6_14, F6_20, F6_23, F6_26, F6_30, F6_43, F6_37, F6_40, F6_46, F6_64, P6_26, P6_30, P6_43, P6_37, P6_40, P6_46, P6_64, hb, hI, vt1 hb, vt3 hb, vt5 hb, vl_rcv hb, tb_rcv (vt1 hb), tb_rcv (vt3 hb), tb_rcv (vt5 hb), vI_1 hI, vI_3 hI, vI_5 hI, cs_n, Nat.zero_le, cs_i, cs_r, cs_l, Nat.reduceAdd, Nat.reduceLeDiff, h3, c5_isFull, hf, vCutL, decide_true, decide_false, not_true_eq_false, not_false_eq_true, Bool.and_true, Bool.true_and, Bool.and_false, Bool.false_and, Bool.or_true, Bool.true_or, Bool.or_false, Bool.false_or, Bool.not_true, Bool.not_false, ite_true, ite_false, if_true, if_false, Bool.false_eq_true, reduceIte, decide_not, and_true, true_and, and_false, false_and, or_true, true_or, or_false, false_or, not_false, not_true]
    · have h8 := notFull hI hf
      have h9 := vI_vAddT (k := 0) (wt := wt) (ex := 1) (st := vStep w b t) hb hI h8
      have h10 : vI (vCut1 w b t wt) b := by unfold vCut1; rw [vI_tPut (vt1 hb) hb]; exact h9
      have e : tPut (vAddT w b 0 wt 1 (vStep w b t)) (b + 1) (w.1 (b + 1) 3) 4 (tCell (vAddT w b 0 wt 1 (vStep w b t)) (b + 1) t 4) = vCut1 w b t wt := rfl
      simp only [s96_0, s96_1, s96_4, s96_5, s96_6, s96_9, s96_10, s96_11, s96_14, s96_15, s96_16, s96_19, s96_20, s96_23, s96_24, s96_25, s96_28, s96_29, s96_30, s96_31, s96_34, s96_35, s96_38, s96_39, s96_40, s96_41, s96_44, s96_45, s96_48, s96_49, s96_50, s96_51, s96_54, s96_55, s96_57, s96_59, s96_60, s96_63, s96_64, s96_67, s96_70, s96_73, s96_74, s96_75, s96_76, s96_77, s96_78, s96_79, s96_82, s96_85, s96_87, s96_88, s96_91, s96_93, s96_94, s96_95, s96_98, s96_99, s96_100, s96_103, s96_106, s96_109, s96_112, gF_i, gF_r, gP_f, gP_t, aRd_1, aRd_4, aKd_e, oo_s, z0, z1, okP_n, okP_i, okP_r, vtl, vtn, true_and, and_true, bI_ite, bI_01, F6_14, F6_20, F6_23, F6_26, F6_30, F6_43, F6_37, F6_40, F6_46, F6_64, P6_26, P6_30, P6_43, P6_37, P6_40, P6_46, P6_64, hb, hI, vt1 hb, vt3 hb, vt5 hb, vl_rcv hb, tb_rcv (vt1 hb), tb_rcv (vt3 hb), tb_rcv (vt5 hb), vI_1 hI, vI_3 hI, vI_5 hI, cs_n, Nat.zero_le, cs_i, cs_r, cs_l, Nat.reduceAdd, Nat.reduceLeDiff, h3, c5_isFull, hf, vCutL, c6_stepOf, c6_addThing, h8, vI_1 h9, c5_cell, c5_put, e, nI_1, ih (i + 1) _ _ h10 (by omega) (by omega), decide_true, decide_false, not_true_eq_false, not_false_eq_true, Bool.and_true, Bool.true_and, Bool.and_false, Bool.false_and, Bool.or_true, Bool.true_or, Bool.or_false, Bool.false_or, Bool.not_true, Bool.not_false, ite_true, ite_false, if_true, if_false, Bool.false_eq_true, reduceIte, decide_not, and_true, true_and, and_false, false_and, or_true, true_or, or_false, false_or, not_false, not_true]
theorem c6_cutUp (hb : isVal b) (hI : vI w b) {t : Int32} : Cl (d + 4) 96 [.ref b, .int t] w Q = Q none (vCut w b t) := by
  rw [Cl_go (L := [some (.ref b), some (.int t), none, none, none, none]) rfl]
  have h0 : vI (vCut0 w b t) b := by unfold vCut0; simp only [vI_tPut (vt1 hb) hb]; exact hI
  have e : tPut (tPut (tPut w (b + 1) t 0 0) (b + 1) t 1 (fUp (tCell w (b + 1) t 1) (tCell w (b + 1) t 2))) (b + 1) t 2 1 = vCut0 w b t := rfl
  have h1 := cutL (d := d) (Q := Q) hb (t := t) (wt := fUp (tCell w (b + 1) t 1) (tCell w (b + 1) t 2)) (ps := tCell w (b + 1) t 2) ((tCell w (b + 1) t 2).toInt - 1).toNat 1 (vCut0 w b t) none h0 (by omega) (by omega)
  rw [show nI 1 = 1 from rfl] at h1
  simp only [s96_0, s96_1, s96_4, s96_5, s96_6, s96_9, s96_10, s96_11, s96_14, s96_15, s96_16, s96_19, s96_20, s96_23, s96_24, s96_25, s96_28, s96_29, s96_30, s96_31, s96_34, s96_35, s96_38, s96_39, s96_40, s96_41, s96_44, s96_45, s96_48, s96_49, s96_50, s96_51, s96_54, s96_55, s96_57, s96_59, s96_60, s96_63, s96_64, s96_67, s96_70, s96_73, s96_74, s96_75, s96_76, s96_77, s96_78, s96_79, s96_82, s96_85, s96_87, s96_88, s96_91, s96_93, s96_94, s96_95, s96_98, s96_99, s96_100, s96_103, s96_106, s96_109, s96_112, gF_i, gF_r, gP_f, gP_t, aRd_1, aRd_4, aKd_e, oo_s, z0, z1, okP_n, okP_i, okP_r, vtl, vtn, true_and, and_true, bI_ite, bI_01, F6_14, F6_20, F6_23, F6_26, F6_30, F6_43, F6_37, F6_40, F6_46, F6_64, P6_26, P6_30, P6_43, P6_37, P6_40, P6_46, P6_64, hb, hI, vt1 hb, vt3 hb, vt5 hb, vl_rcv hb, tb_rcv (vt1 hb), tb_rcv (vt3 hb), tb_rcv (vt5 hb), vI_1 hI, vI_3 hI, vI_5 hI, cs_n, Nat.zero_le, cs_i, cs_r, cs_l, Nat.reduceAdd, Nat.reduceLeDiff, c5_cell, c6_byRoundedUp, c5_put, tI_tPut, e, h1]
  rfl
theorem sleepT (hb : isVal b) {s : Int32} : ∀ (m i : Nat) (w : hW) (a3 : Option Value), vI w b → i + m = (w.1 (b + 1) 3).toInt.toNat → Tr (d + 3) 97 49 [some (.ref b), some (.int s), some (.int (nI i)), a3] [] w Q = Q (some (.int s)) (vSlT b i m w) := by
  intro m
  induction m with
  | zero =>
    intro i w a3 hI hi
    have hw := hI.2.2.2.2.2.2.1
    have h1 : ¬ nI i < w.1 (b + 1) 3 := by rw [nIlt (by omega)]; omega
    show Go (d + 3) 97 49 _ _ _ _ = _
    simp only [s97_0, s97_1, s97_2, s97_3, s97_4, s97_5, s97_6, s97_9, s97_12, s97_15, s97_16, s97_19, s97_20, s97_21, s97_24, s97_25, s97_26, s97_27, s97_28, s97_31, s97_32, s97_33, s97_34, s97_37, s97_38, s97_39, s97_40, s97_41, s97_44, s97_47, s97_48, s97_49, s97_50, s97_51, s97_54, s97_57, s97_60, s97_61, s97_64, s97_65, s97_66, s97_67, s97_70, s97_73, s97_76, s97_77, gF_i, gF_r, gP_f, gP_t, aRd_1, aRd_4, aKd_e, oo_s, z0, z1, okP_n, okP_i, okP_r, vtl, vtn, true_and, and_true, bI_ite, bI_01, F6_14, F6_20, F6_23, F6_26, F6_30, F6_43, F6_37, F6_40, F6_46, F6_64, P6_26, P6_30, P6_43, P6_37, P6_40, P6_46, P6_64, hb, hI, vt1 hb, vt3 hb, vt5 hb, vl_rcv hb, tb_rcv (vt1 hb), tb_rcv (vt3 hb), tb_rcv (vt5 hb), vI_1 hI, vI_3 hI, vI_5 hI, cs_n, Nat.zero_le, cs_i, cs_r, cs_l, Nat.reduceAdd, Nat.reduceLeDiff, h1, decide_true, decide_false, not_true_eq_false, not_false_eq_true, Bool.and_true, Bool.true_and, Bool.and_false, Bool.false_and, Bool.or_true, Bool.true_or, Bool.or_false, Bool.false_or, Bool.not_true, Bool.not_false, ite_true, ite_false, if_true, if_false, Bool.false_eq_true, reduceIte, decide_not, and_true, true_and, and_false, false_and, or_true, true_or, or_false, false_or, not_false, not_true]
    rfl
  | succ m ih =>
    intro i w a3 hI hi
    have hw := hI.2.2.2.2.2.2.1
    have h1 : nI i < w.1 (b + 1) 3 := by rw [nIlt (by omega)]; omega
    have h2 : vI (tPut w (b + 1) (nI i) 4 (-1)) b := by rw [vI_tPut (vt1 hb) hb]; exact hI
    show Go (d + 3) 97 49 _ _ _ _ = _
    simp only [s97_0, s97_1, s97_2, s97_3, s97_4, s97_5, s97_6, s97_9, s97_12, s97_15, s97_16, s97_19, s97_20, s97_21, s97_24, s97_25, s97_26, s97_27, s97_28, s97_31, s97_32, s97_33, s97_34, s97_37, s97_38, s97_39, s97_40, s97_41, s97_44, s97_47, s97_48, s97_49, s97_50, s97_51, s97_54, s97_57, s97_60, s97_61, s97_64, s97_65, s97_66, s97_67, s97_70, s97_73, s97_76, s97_77, gF_i, gF_r, gP_f, gP_t, aRd_1, aRd_4, aKd_e, oo_s, z0, z1, okP_n, okP_i, okP_r, vtl, vtn, true_and, and_true, bI_ite, bI_01, F6_14, F6_20, F6_23, F6_26, F6_30, F6_43, F6_37, F6_40, F6_46, F6_64, P6_26, P6_30, P6_43, P6_37, P6_40, P6_46, P6_64, hb, hI, vt1 hb, vt3 hb, vt5 hb, vl_rcv hb, tb_rcv (vt1 hb), tb_rcv (vt3 hb), tb_rcv (vt5 hb), vI_1 hI, vI_3 hI, vI_5 hI, cs_n, Nat.zero_le, cs_i, cs_r, cs_l, Nat.reduceAdd, Nat.reduceLeDiff, h1, decide_true, decide_false, not_true_eq_false, not_false_eq_true, Bool.and_true, Bool.true_and, Bool.and_false, Bool.false_and, Bool.or_true, Bool.true_or, Bool.or_false, Bool.false_or, Bool.not_true, Bool.not_false, ite_true, ite_false, if_true, if_false, Bool.false_eq_true, reduceIte, decide_not, and_true, true_and, and_false, false_and, or_true, true_or, or_false, false_or, not_false, not_true, c5_put, nI_1, ih (i + 1) _ _ h2 (by rw [tPut_tab (vt1 hb) (vt1 hb)]; omega)]
    rfl
theorem sleepM (hb : isVal b) : ∀ (m i : Nat) (w : hW) (s : Int32) (a3 : Option Value), vI w b → i + m = (w.1 (b + 3) 3).toInt.toNat → Tr (d + 3) 97 4 [some (.ref b), some (.int s), some (.int (nI i)), a3] [] w Q = Q (some (.int (vSlS b i m w s))) (vSlT b 0 (w.1 (b + 1) 3).toInt.toNat (vSlM b i m w)) := by
  intro m
  induction m with
  | zero =>
    intro i w s a3 hI hi
    have hw := hI.2.2.2.2.2.2.2.1
    have h1 : ¬ nI i < w.1 (b + 3) 3 := by rw [nIlt (by omega)]; omega
    have h2 := sleepT (d := d) (Q := Q) hb (s := s) (w.1 (b + 1) 3).toInt.toNat 0 w a3 hI (by omega)
    rw [nI_0] at h2
    show Go (d + 3) 97 4 _ _ _ _ = _
    simp only [s97_0, s97_1, s97_2, s97_3, s97_4, s97_5, s97_6, s97_9, s97_12, s97_15, s97_16, s97_19, s97_20, s97_21, s97_24, s97_25, s97_26, s97_27, s97_28, s97_31, s97_32, s97_33, s97_34, s97_37, s97_38, s97_39, s97_40, s97_41, s97_44, s97_47, s97_48, s97_49, s97_50, s97_51, s97_54, s97_57, s97_60, s97_61, s97_64, s97_65, s97_66, s97_67, s97_70, s97_73, s97_76, s97_77, gF_i, gF_r, gP_f, gP_t, aRd_1, aRd_4, aKd_e, oo_s, z0, z1, okP_n, okP_i, okP_r, vtl, vtn, true_and, and_true, bI_ite, bI_01, F6_14, F6_20, F6_23, F6_26, F6_30, F6_43, F6_37, F6_40, F6_46, F6_64, P6_26, P6_30, P6_43, P6_37, P6_40, P6_46, P6_64, hb, hI, vt1 hb, vt3 hb, vt5 hb, vl_rcv hb, tb_rcv (vt1 hb), tb_rcv (vt3 hb), tb_rcv (vt5 hb), vI_1 hI, vI_3 hI, vI_5 hI, cs_n, Nat.zero_le, cs_i, cs_r, cs_l, Nat.reduceAdd, Nat.reduceLeDiff, h1, decide_true, decide_false, not_true_eq_false, not_false_eq_true, Bool.and_true, Bool.true_and, Bool.and_false, Bool.false_and, Bool.or_true, Bool.true_or, Bool.or_false, Bool.false_or, Bool.not_true, Bool.not_false, ite_true, ite_false, if_true, if_false, Bool.false_eq_true, reduceIte, decide_not, and_true, true_and, and_false, false_and, or_true, true_or, or_false, false_or, not_false, not_true, h2]
    rfl
  | succ m ih =>
    intro i w s a3 hI hi
    have hw := hI.2.2.2.2.2.2.2.1
    have h1 : nI i < w.1 (b + 3) 3 := by rw [nIlt (by omega)]; omega
    have h2 : vI (tPut w (b + 3) (nI i) 1 (tCell w (b + 3) (nI i) 1 / 2)) b := by rw [vI_tPut (vt3 hb) hb]; exact hI
    show Go (d + 3) 97 4 _ _ _ _ = _
    simp only [s97_0, s97_1, s97_2, s97_3, s97_4, s97_5, s97_6, s97_9, s97_12, s97_15, s97_16, s97_19, s97_20, s97_21, s97_24, s97_25, s97_26, s97_27, s97_28, s97_31, s97_32, s97_33, s97_34, s97_37, s97_38, s97_39, s97_40, s97_41, s97_44, s97_47, s97_48, s97_49, s97_50, s97_51, s97_54, s97_57, s97_60, s97_61, s97_64, s97_65, s97_66, s97_67, s97_70, s97_73, s97_76, s97_77, gF_i, gF_r, gP_f, gP_t, aRd_1, aRd_4, aKd_e, oo_s, z0, z1, okP_n, okP_i, okP_r, vtl, vtn, true_and, and_true, bI_ite, bI_01, F6_14, F6_20, F6_23, F6_26, F6_30, F6_43, F6_37, F6_40, F6_46, F6_64, P6_26, P6_30, P6_43, P6_37, P6_40, P6_46, P6_64, hb, hI, vt1 hb, vt3 hb, vt5 hb, vl_rcv hb, tb_rcv (vt1 hb), tb_rcv (vt3 hb), tb_rcv (vt5 hb), vI_1 hI, vI_3 hI, vI_5 hI, cs_n, Nat.zero_le, cs_i, cs_r, cs_l, Nat.reduceAdd, Nat.reduceLeDiff, h1, decide_true, decide_false, not_true_eq_false, not_false_eq_true, Bool.and_true, Bool.true_and, Bool.and_false, Bool.false_and, Bool.or_true, Bool.true_or, Bool.or_false, Bool.false_or, Bool.not_true, Bool.not_false, ite_true, ite_false, if_true, if_false, Bool.false_eq_true, reduceIte, decide_not, and_true, true_and, and_false, false_and, or_true, true_or, or_false, false_or, not_false, not_true, c5_cell, nz2, c5_put, nI_1, ih (i + 1) _ _ _ h2 (by rw [tPut_tab (vt3 hb) (vt3 hb)]; omega), tPut_tab (vt3 hb) (vt1 hb)]
    rfl
theorem c6_sleep (hb : isVal b) (hI : vI w b) : Cl (d + 3) 97 [.ref b] w Q = Q (some (.int (vNightS w b))) (vNight w b) := by
  rw [Cl_go (L := [some (.ref b), none, none, none]) rfl]
  have h1 := sleepM (d := d) (Q := Q) hb (w.1 (b + 3) 3).toInt.toNat 0 w 0 none hI (by omega)
  rw [nI_0] at h1
  simp only [s97_0, s97_1, s97_2, s97_3, s97_4, s97_5, s97_6, s97_9, s97_12, s97_15, s97_16, s97_19, s97_20, s97_21, s97_24, s97_25, s97_26, s97_27, s97_28, s97_31, s97_32, s97_33, s97_34, s97_37, s97_38, s97_39, s97_40, s97_41, s97_44, s97_47, s97_48, s97_49, s97_50, s97_51, s97_54, s97_57, s97_60, s97_61, s97_64, s97_65, s97_66, s97_67, s97_70, s97_73, s97_76, s97_77, gF_i, gF_r, gP_f, gP_t, aRd_1, aRd_4, aKd_e, oo_s, z0, z1, okP_n, okP_i, okP_r, vtl, vtn, true_and, and_true, bI_ite, bI_01, h1]
  rfl
end

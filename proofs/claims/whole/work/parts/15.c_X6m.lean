/-! CONTRACTS of Valley (class 6): what changes it -/
theorem val_ne {b p : Nat} (hb : isVal b) (hp : isTab p) : b ≠ p + 1 ∧ b ≠ p := by
  rcases hb with rfl | rfl | rfl <;> rcases hp with rfl | rfl | rfl | rfl | rfl | rfl | rfl | rfl | rfl <;> decide
theorem tPut_tab {w : hW} {p q : Nat} {i k v : Int32} {j : Nat} (hp : isTab p) (hq : isTab q) : (tPut w p i k v).1 q j = w.1 q j := by
  unfold tPut
  split
  · exact wI_p (tab_ne hp hq)
  · rfl
theorem tPut_val {w : hW} {p b : Nat} {i k v : Int32} {j : Nat} (hp : isTab p) (hb : isVal b) : (tPut w p i k v).1 b j = w.1 b j := by
  unfold tPut
  split
  · exact wI_p (val_ne hb hp).1
  · rfl
theorem tPut_2 {w : hW} {p : Nat} {i k v : Int32} : (tPut w p i k v).2 = w.2 := by unfold tPut; split <;> rfl
theorem tI_tPut {w : hW} {p q : Nat} {i k v : Int32} (hp : isTab p) (hq : isTab q) : tI (tPut w p i k v) q = tI w q := by
  unfold tI
  rw [tPut_tab hp hq, tPut_tab hp hq, tPut_tab hp hq]
theorem vI_tPut {w : hW} {p b : Nat} {i k v : Int32} (hp : isTab p) (hb : isVal b) : vI (tPut w p i k v) b = vI w b := by
  unfold vI
  simp only [tPut_tab hp (vt1 hb), tPut_tab hp (vt3 hb), tPut_tab hp (vt5 hb)]
theorem tab_val {b q : Nat} (hb : isVal b) (hq : isTab q) : q ≠ b := by
  rcases hb with rfl | rfl | rfl <;> rcases hq with rfl | rfl | rfl | rfl | rfl | rfl | rfl | rfl | rfl <;> decide
theorem tab_val1 {b q : Nat} (hb : isVal b) (hq : isTab q) : q + 1 ≠ b := by
  rcases hb with rfl | rfl | rfl <;> rcases hq with rfl | rfl | rfl | rfl | rfl | rfl | rfl | rfl | rfl <;> decide
theorem tI_wI {w : hW} {b q j : Nat} {x : Int32} (hb : isVal b) (hq : isTab q) : tI (wI w b j x) q = tI w q := by
  unfold tI
  rw [wI_p (tab_val hb hq), wI_p (tab_val hb hq), wI_p (tab_val hb hq)]
theorem vI_wI {w : hW} {b c j : Nat} {x : Int32} (hb : isVal b) (hc : isVal c) : vI (wI w b j x) c = vI w c := by
  unfold vI
  simp only [wI_p (tab_val hb (vt1 hc)), wI_p (tab_val hb (vt3 hc)), wI_p (tab_val hb (vt5 hc))]
theorem tHas_tPut {w : hW} {p q : Nat} {i k v a : Int32} (hp : isTab p) (hq : isTab q) : tHas (tPut w p i k v) q a = tHas w q a := by
  unfold tHas
  rw [tPut_tab hp hq]
theorem tHasC_tPut {w : hW} {p q : Nat} {i k v a c : Int32} (hp : isTab p) (hq : isTab q) : tHasC (tPut w p i k v) q a c = tHasC w q a c := by
  unfold tHasC
  rw [tHas_tPut hp hq, tPut_tab hp hq]
theorem tAt_tPut {w : hW} {p q : Nat} {i k v a c : Int32} (hp : isTab p) (hq : isTab q) : tAt (tPut w p i k v) q a c = tAt w q a c := by
  unfold tAt
  rw [tPut_tab hp hq]
theorem tAt_inj {w : hW} {p : Nat} {i k i2 k2 : Int32} (h1 : tHasC w p i k = true) (h2 : tHasC w p i2 k2 = true) (h : tAt w p i k = tAt w p i2 k2) : i2 = i ∧ k2 = k := by
  simp only [tHasC, tHas, Bool.and_eq_true, Bool.not_eq_true', decide_eq_false_iff_not, decide_eq_true_eq, i32_lt] at h1 h2
  obtain ⟨⟨a1, a2⟩, a3, a4⟩ := h1
  obtain ⟨⟨b1, b2⟩, b3, b4⟩ := h2
  have z : (0 : Int32).toInt = 0 := rfl
  rw [z] at a1 a3 b1 b3
  unfold tAt at h
  have e1 := congrArg (fun x => x / (w.1 p 2).toInt.toNat) h
  have e2 := congrArg (fun x => x % (w.1 p 2).toInt.toNat) h
  have hW : 0 < (w.1 p 2).toInt.toNat := by omega
  have l1 : k.toInt.toNat < (w.1 p 2).toInt.toNat := by omega
  have l2 : k2.toInt.toNat < (w.1 p 2).toInt.toNat := by omega
  simp only [Nat.mul_comm _ (w.1 p 2).toInt.toNat, Nat.mul_add_div hW, Nat.mul_add_mod, Nat.div_eq_of_lt l1, Nat.div_eq_of_lt l2, Nat.mod_eq_of_lt l1, Nat.mod_eq_of_lt l2] at e1 e2
  exact ⟨i32_eq.mpr (by omega), i32_eq.mpr (by omega)⟩
/-- a cell behind a write into the same table -/
theorem tCell_put {w : hW} {p : Nat} {i k v a c : Int32} (hp : isTab p) : tCell (tPut w p i k v) p a c = if tHasC w p i k = true ∧ a = i ∧ c = k then v else tCell w p a c := by
  unfold tCell
  rw [tHasC_tPut hp hp, tAt_tPut hp hp]
  by_cases h1 : tHasC w p i k = true
  · by_cases h2 : tHasC w p a c = true
    · simp only [h1, h2, tPut, if_true, true_and]
      by_cases h3 : a = i ∧ c = k
      · rw [if_pos h3, h3.1, h3.2]
        exact wI_s
      · rw [if_neg h3, wI_o]
        rintro ⟨-, h4⟩
        exact h3 (tAt_inj h1 h2 h4.symm)
    · have h3 : ¬ (a = i ∧ c = k) := by rintro ⟨rfl, rfl⟩; exact h2 h1
      simp only [h1, h2, h3, tPut, and_false, if_false]
      rfl
  · simp only [h1, tPut, false_and, if_false]
    rfl
theorem tCell_other {w : hW} {p q : Nat} {i k v a c : Int32} (hp : isTab p) (hq : isTab q) (h : q ≠ p) : tCell (tPut w p i k v) q a c = tCell w q a c := by
  unfold tCell
  rw [tHasC_tPut hp hq, tAt_tPut hp hq]
  split
  · unfold tPut
    split
    · exact wI_p (by omega)
    · rfl
  · rfl
theorem tCell_col {w : hW} {p : Nat} {i k v a c : Int32} (hp : isTab p) (h : c ≠ k) : tCell (tPut w p i k v) p a c = tCell w p a c := by
  rw [tCell_put hp, if_neg]
  rintro ⟨-, -, h2⟩
  exact h h2
theorem tCell_wI {w : hW} {b q j : Nat} {x a c : Int32} (hb : isVal b) (hq : isTab q) : tCell (wI w b j x) q a c = tCell w q a c := by
  have e1 : (wI w b j x).1 q = w.1 q := funext fun i => wI_p (tab_val hb hq)
  have e2 : (wI w b j x).1 (q + 1) = w.1 (q + 1) := funext fun i => wI_p (tab_val1 hb hq)
  unfold tCell tHasC tAt tHas
  rw [e1, e2]
def vMove (w : hW) (b : Nat) (m t dd : Int32) : hW := wI (tPut (tPut w (b + 1) t 3 (vStep w b t + dd)) (b + 3) m 1 (if 99 < tCell w (b + 3) m 1 + tCell w (b + 1) t 1 / 10 + 1 then 99 else tCell w (b + 3) m 1 + tCell w (b + 1) t 1 / 10 + 1)) b 8 (w.1 b 8 + 1)
def vBring (w : hW) (b : Nat) (m t dd : Int32) : hW := tPut (vMove w b m t dd) (b + 1) t 4 m
theorem vI_vMove {w : hW} {b c : Nat} {m t dd : Int32} (hb : isVal b) (hc : isVal c) : vI (vMove w b m t dd) c = vI w c := by
  unfold vMove
  rw [vI_wI hb hc, vI_tPut (vt3 hb) hc, vI_tPut (vt1 hb) hc]
theorem vI_vBring {w : hW} {b c : Nat} {m t dd : Int32} (hb : isVal b) (hc : isVal c) : vI (vBring w b m t dd) c = vI w c := by
  unfold vBring
  rw [vI_tPut (vt1 hb) hc, vI_vMove hb hc]
def vSeed2 (w : hW) (b : Nat) : Int32 := w.1 b 7 * 1103515245 + 12345
def vRand (s n : Int32) : Int32 := if 0 < n then (s.toUInt32 >>> ((16 : Int32).toUInt32 &&& Int32.toUInt32 31)).toInt32 - (s.toUInt32 >>> ((16 : Int32).toUInt32 &&& Int32.toUInt32 31)).toInt32 / n * n else 0
section
variable {d b : Nat} {w : hW} {Q : aPost}
theorem v13 {b : Nat} : (b + 3 ≠ b + 1) = True := by simp
theorem v31 {b : Nat} : (b + 1 ≠ b + 3) = True := by simp
theorem n13 : ((1 : Int32) ≠ 3) = True := by simp
theorem c6_moveOn (hb : isVal b) (hI : vI w b) {m t dd : Int32} : Cl (d + 3) 90 [.ref b, .int m, .int t, .int dd] w Q = Q none (vMove w b m t dd) := by
  rw [Cl_go (L := [some (.ref b), some (.int m), some (.int t), some (.int dd), none]) rfl]
  simp only [s90_0, s90_1, s90_4, s90_5, s90_6, s90_7, s90_8, s90_11, s90_12, s90_13, s90_16, s90_17, s90_20, s90_21, s90_22, s90_25, s90_26, s90_29, s90_30, s90_31, s90_34, s90_36, s90_37, s90_38, s90_39, s90_40, s90_42, s90_43, s90_46, s90_47, s90_48, s90_50, s90_52, s90_55, s90_58, s90_59i, s90_59, s90_60, s90_63, s90_64, s90_65, s90_68, gF_i, gF_r, gP_f, gP_t, aRd_1, aRd_4, aKd_e, oo_s, z0, z1, okP_n, okP_i, okP_r, vtl, vtn, true_and, and_true, bI_ite, bI_01, F6_14, F6_20, F6_23, F6_26, F6_30, F6_43, F6_37, F6_40, F6_46, F6_64, P6_26, P6_30, P6_43, P6_37, P6_40, P6_46, P6_64, hb, hI, vt1 hb, vt3 hb, vt5 hb, vl_rcv hb, tb_rcv (vt1 hb), tb_rcv (vt3 hb), tb_rcv (vt5 hb), vI_1 hI, vI_3 hI, vI_5 hI, cs_n, Nat.zero_le, cs_i, cs_r, cs_l, Nat.reduceAdd, Nat.reduceLeDiff, c5_cell, c6_stepOf, c5_put, tI_tPut, tCell_other, tCell_col, nz10, n13, v13, v31, ne_eq, not_false_eq_true, tPut_val]
  rfl
theorem c6_bring (hb : isVal b) (hI : vI w b) {m t dd : Int32} : Cl (d + 4) 89 [.ref b, .int m, .int t, .int dd] w Q = Q none (vBring w b m t dd) := by
  rw [Cl_go (L := [some (.ref b), some (.int m), some (.int t), some (.int dd)]) rfl]
  have h1 : tI (vMove w b m t dd) (b + 1) := vI_1 (by rw [vI_vMove hb hb]; exact hI)
  simp only [s89_0, s89_1, s89_2, s89_3, s89_4, s89_7, s89_8, s89_11, s89_12, s89_13, s89_14, s89_17, gF_i, gF_r, gP_f, gP_t, aRd_1, aRd_4, aKd_e, oo_s, z0, z1, okP_n, okP_i, okP_r, vtl, vtn, true_and, and_true, bI_ite, bI_01, F6_14, F6_20, F6_23, F6_26, F6_30, F6_43, F6_37, F6_40, F6_46, F6_64, P6_26, P6_30, P6_43, P6_37, P6_40, P6_46, P6_64, hb, hI, vt1 hb, vt3 hb, vt5 hb, vl_rcv hb, tb_rcv (vt1 hb), tb_rcv (vt3 hb), tb_rcv (vt5 hb), vI_1 hI, vI_3 hI, vI_5 hI, cs_n, Nat.zero_le, cs_i, cs_r, cs_l, Nat.reduceAdd, Nat.reduceLeDiff, c6_moveOn, c5_put, h1]
  rfl
theorem c6_draw (hb : isVal b) {n : Int32} : Cl d 95 [.ref b, .int n] w Q = Q (some (.int (vRand (vSeed2 w b) n))) (wI w b 7 (vSeed2 w b)) := by
  rw [Cl_go (L := [some (.ref b), some (.int n)]) rfl]
  simp only [s95_0, s95_1, s95_2, s95_5, s95_7, s95_8, s95_11, s95_12, s95_15, s95_16, s95_19, s95_20, s95_23, s95_25, s95_26, s95_27, s95_28, s95_31, s95_32, gF_i, gF_r, gP_f, gP_t, aRd_1, aRd_4, aKd_e, oo_s, z0, z1, okP_n, okP_i, okP_r, vtl, vtn, true_and, and_true, bI_ite, bI_01, F6_14, F6_20, F6_23, F6_26, F6_30, F6_43, F6_37, F6_40, F6_46, F6_64, P6_26, P6_30, P6_43, P6_37, P6_40, P6_46, P6_64, hb, cs_n, Nat.zero_le, cs_i, cs_r, cs_l, Nat.reduceAdd, Nat.reduceLeDiff, wI_s]
  unfold vRand
  by_cases h : 0 < n
  · have h2 : ¬ n = 0 := by rintro rfl; exact absurd h (by decide)
    simp only [h, h2, decide_true, decide_false, not_true_eq_false, not_false_eq_true, Bool.and_true, Bool.true_and, Bool.and_false, Bool.false_and, Bool.or_true, Bool.true_or, Bool.or_false, Bool.false_or, Bool.not_true, Bool.not_false, ite_true, ite_false, if_true, if_false, Bool.false_eq_true, reduceIte, decide_not, and_true, true_and, and_false, false_and, or_true, true_or, or_false, false_or, not_false, not_true]
    rfl
  · simp only [h, decide_true, decide_false, not_true_eq_false, not_false_eq_true, Bool.and_true, Bool.true_and, Bool.and_false, Bool.false_and, Bool.or_true, Bool.true_or, Bool.or_false, Bool.false_or, Bool.not_true, Bool.not_false, ite_true, ite_false, if_true, if_false, Bool.false_eq_true, reduceIte, decide_not, and_true, true_and, and_false, false_and, or_true, true_or, or_false, false_or, not_false, not_true]
    rfl
end

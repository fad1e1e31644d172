/-! CONTRACTS of Reader.read and the class's valley -/
def rI (w : hW) : Prop := 0 ≤ (w.1 35 4).toInt ∧ (w.1 35 4).toInt ≤ (w.1 35 3).toInt ∧ (w.1 35 3).toInt ≤ 160
theorem rI_ne {w : hW} (h : rI w) : w.1 35 4 ≠ -1 := by
  intro e
  have h1 := h.1
  rw [e] at h1
  exact absurd h1 (by decide)
theorem wI_at {w : hW} {p i j : Nat} {x : Int32} (h : j ≠ i) : (wI w p i x).1 p j = w.1 p j := by simp [wI, h]
theorem wI_is {w : hW} {p i : Nat} {x : Int32} : (wI w p i x).1 p i = x := by simp [wI]
theorem rI_wI {w : hW} {j : Nat} {x : Int32} (h : rI w) (h4 : j ≠ 4) (h3 : j ≠ 3) : rI (wI w 35 j x) := by
  unfold rI
  rw [wI_at (Ne.symm h4), wI_at (Ne.symm h3)]
  exact h
theorem rLet_lt {w : hW} (h : rI w) (hl : rLet w (w.1 35 4) ≠ -1) : (w.1 35 4).toInt < (w.1 35 3).toInt := by
  unfold rLet at hl
  split at hl
  · exact absurd rfl hl
  · split at hl
    · rename_i h2; exact i32_lt.mp h2
    · exact absurd rfl hl
theorem rI_up {w : hW} (h : rI w) (hl : rLet w (w.1 35 4) ≠ -1) : rI (wI w 35 4 (w.1 35 4 + 1)) := by
  have h2 := rLet_lt h hl
  have o1 : (1 : Int32).toInt = 1 := rfl
  have h3 := i32_add (a := w.1 35 4) (b := 1) (by rw [o1]; have := h.1; omega) (by rw [o1]; have := h.2.2; omega)
  unfold rI
  rw [wI_is, wI_at (by decide), h3, o1]
  exact ⟨by have := h.1; omega, by omega, h.2.2⟩
theorem rI_fail {w : hW} {p : Int32} (h : rI w) : rI (rFail w p) := by
  unfold rFail
  split
  · exact rI_wI h (by decide) (by decide)
  · exact h
theorem rI_exp {w : hW} {c : Int32} (hc : c ≠ -1) (h : rI w) : rI (rExp w c) := by
  unfold rExp
  split
  · split
    · rename_i h2; exact rI_up h (by rw [h2]; exact hc)
    · exact rI_fail h
  · exact h
theorem rI_must {w : hW} {b : Bool} (h : rI w) : rI (rMust w b) := by
  unfold rMust
  split
  · exact h
  · exact rI_fail h
theorem rI_numL : ∀ (m : Nat) (w : hW) (v : Int32), rI w → rI (rNumL m w v).2
  | 0, w, v, h => h
  | m + 1, w, v, h => by
    unfold rNumL
    split
    · split
      · rename_i h2
        refine rI_numL m _ _ (rI_up h (fun e => ?_))
        rw [e] at h2
        exact absurd h2 (by decide)
      · exact h
    · exact h
theorem rI_num {w : hW} (h : rI w) : rI (rNum w).2 := by
  have h1 : rI (rNum1 w) := rI_wI (rI_exp (by decide) h) (by decide) (by decide)
  unfold rNum
  refine rI_numL _ _ _ ?_
  unfold rNum0
  split
  · exact h1
  · exact rI_fail h1
theorem rI_word {tx : List Int32} (ht : ∀ c ∈ tx, c ≠ -1) : ∀ (m i : Nat) (w : hW), i + m ≤ tx.length → rI w → rI (rWordI tx i m w)
  | 0, i, w, hi, h => h
  | m + 1, i, w, hi, h => by
    unfold rWordI
    refine rI_word ht m (i + 1) _ (by omega) (rI_exp (ht _ ?_) h)
    rw [List.getD_eq_getElem?_getD, List.getElem?_eq_getElem (by omega)]
    exact List.getElem_mem _
theorem gTx_ne : ∀ j, j < 6 → ∀ c ∈ gTxs.getD j [], c ≠ -1 := by decide
theorem rI_EW {w : hW} {j : Nat} {b : Bool} (hj : j < 6) (h : rI w) : rI (rEW w j b) := by
  unfold rEW
  split
  · exact rI_fail (rI_word (gTx_ne j hj) _ _ _ (by omega) h)
  · exact rI_word (gTx_ne j hj) _ _ _ (by omega) h
theorem rI_o {w w' : hW} (h : w'.1 35 = w.1 35) : rI w' = rI w := by unfold rI; rw [h]
theorem addT_o {w : hW} {b q : Nat} {k wt ex st : Int32} (h : q ≠ b + 1) (h2 : q ≠ b + 2) : (vAddT w b k wt ex st).1 q = w.1 q := by
  unfold vAddT vAddT0
  rw [tPut_o h2, tPut_o h2, tPut_o h2, tPut_o h2, tPut_o h2, tPut_o h2, wI_q h]
theorem addM_o2 {w : hW} {b q : Nat} {v : Int32} (h : q ≠ b + 3) (h2 : q ≠ b + 4) : (vAddM w b v).1 q = w.1 q := by
  unfold vAddM
  rw [tPut_o h2, tPut_o h2, wI_q h]
theorem addW_o {w : hW} {b q : Nat} {t s v : Int32} (h : q ≠ b + 5) (h2 : q ≠ b + 6) : (vAddW w b t s v).1 q = w.1 q := by
  unfold vAddW
  rw [tPut_o h2, tPut_o h2, tPut_o h2, wI_q h]
theorem tPut_lg {w : hW} {p : Nat} {i k v : Int32} : (tPut w p i k v).2 = w.2 := by
  unfold tPut
  split <;> rfl
theorem addT_2 {w : hW} {b : Nat} {k wt ex st : Int32} : (vAddT w b k wt ex st).2 = w.2 := by
  unfold vAddT vAddT0
  rw [tPut_lg, tPut_lg, tPut_lg, tPut_lg, tPut_lg, tPut_lg]
  rfl
theorem addM_2 {w : hW} {b : Nat} {v : Int32} : (vAddM w b v).2 = w.2 := by
  unfold vAddM
  rw [tPut_lg, tPut_lg]
  rfl
theorem addW_2 {w : hW} {b : Nat} {t s v : Int32} : (vAddW w b t s v).2 = w.2 := by
  unfold vAddW
  rw [tPut_lg, tPut_lg, tPut_lg]
  rfl
/-- what reading leaves alone: all but the reader and the scratch valley -/
def fr16 (w w' : hW) : Prop := (∀ q, q ≠ 35 → ¬ (16 ≤ q ∧ q ≤ 22) → w'.1 q = w.1 q) ∧ w'.2 = w.2 ∧ w'.1 35 3 = w.1 35 3 ∧ w'.1 35 7 = w.1 35 7
theorem fr16.of {w w' : hW} (h : fr35 w w') : fr16 w w' := ⟨fun q h1 _ => h.1 q h1, h.2.1, h.2.2.1, h.2.2.2⟩
theorem fr16.rf {w : hW} : fr16 w w := fr16.of fr35.rf
theorem fr16.tr {a b c : hW} (h : fr16 a b) (h2 : fr16 b c) : fr16 a c := ⟨fun q hq hr => (h2.1 q hq hr).trans (h.1 q hq hr), h2.2.1.trans h.2.1, h2.2.2.1.trans h.2.2.1, h2.2.2.2.trans h.2.2.2⟩
theorem fr16_add {w w' : hW} (h : ∀ q, ¬ (16 ≤ q ∧ q ≤ 22) → w'.1 q = w.1 q) (h2 : w'.2 = w.2) : fr16 w w' := ⟨fun q _ hr => h q hr, h2, by rw [h 35 (by omega)], by rw [h 35 (by omega)]⟩
/-- an item keeps the reader and the scratch valley in order -/
theorem itemT {w : hW} (hI : vI w 16) (hr : rI w) : vI (rThing w) 16 ∧ rI (rThing w) ∧ fr16 w (rThing w) := by
  have f5 := fr_T5 (w := w)
  have r5 : rI (rThing5 w) := by
    unfold rThing5 rThing4 rThing3 rThing2 rThing1
    exact rI_must (rI_num (rI_must (rI_num (rI_must (rI_num (rI_must (rI_num (rI_EW (by decide) hr))))))))
  have i5 : vI (rThing5 w) 16 := by rw [fr35_vI f5 iv16]; exact hI
  unfold rThing
  split
  · rename_i h1
    have h8 : ((rThing5 w).1 (16 + 1) 3).toInt < 8 := by
      have hf : ¬ tFull w (16 + 1) = true := fun hf => flt_T5 (rI_ne hr) hf h1
      rw [f5.1 (16 + 1) (by decide)]
      exact full8 hI hf
    refine ⟨vI_vAddT iv16 i5 h8, ?_, (fr16.of f5).tr (fr16_add (fun q hq => addT_o (by omega) (by omega)) addT_2)⟩
    rw [rI_o (addT_o (by omega) (by omega))]
    exact r5
  · exact ⟨i5, r5, fr16.of f5⟩
theorem itemM {w : hW} (hI : vI w 16) (hr : rI w) : vI (rMan w) 16 ∧ rI (rMan w) ∧ fr16 w (rMan w) := by
  have f5 := (fr_M (w := w)).2
  have r5 : rI (rMan2 w) := by
    unfold rMan2 rMan1
    exact rI_must (rI_num (rI_EW (by decide) hr))
  have i5 : vI (rMan2 w) 16 := by rw [fr35_vI f5 iv16]; exact hI
  unfold rMan
  split
  · rename_i h1
    have h8 : ((rMan2 w).1 (16 + 3) 3).toInt < 8 := by
      have hf : ¬ tFull w (16 + 3) = true := fun hf => flt_M2 (rI_ne hr) hf h1
      rw [f5.1 (16 + 3) (by decide)]
      exact full8p hI hf
    refine ⟨vI_vAddM iv16 i5 h8, ?_, (fr16.of f5).tr (fr16_add (fun q hq => addM_o2 (by omega) (by omega)) addM_2)⟩
    rw [rI_o (addM_o2 (by omega) (by omega))]
    exact r5
  · exact ⟨i5, r5, fr16.of f5⟩
theorem itemW {w : hW} (hI : vI w 16) (hr : rI w) : vI (rWant w) 16 ∧ rI (rWant w) ∧ fr16 w (rWant w) := by
  have f5 := (fr_W (w := w)).2.2.2
  have r5 : rI (rWant4 w) := by
    unfold rWant4 rWant3 rWant2 rWant1
    exact rI_must (rI_num (rI_must (rI_num (rI_must (rI_num (rI_EW (by decide) hr))))))
  have i5 : vI (rWant4 w) 16 := by rw [fr35_vI f5 iv16]; exact hI
  unfold rWant
  split
  · rename_i h1
    have h8 : ((rWant4 w).1 (16 + 5) 3).toInt < 4 := by
      have hf : ¬ tFull w (16 + 5) = true := fun hf => flt_W4 (rI_ne hr) hf h1
      rw [f5.1 (16 + 5) (by decide)]
      exact full4 hI hf
    refine ⟨vI_vAddW iv16 i5 h8, ?_, (fr16.of f5).tr (fr16_add (fun q hq => addW_o (by omega) (by omega)) addW_2)⟩
    rw [rI_o (addW_o (by omega) (by omega))]
    exact r5
  · exact ⟨i5, r5, fr16.of f5⟩
theorem item16 {w : hW} {j : Nat} {x : Int32} (hI : vI w 16) (hr : rI w) : vI (wI w 16 j x) 16 ∧ rI (wI w 16 j x) ∧ fr16 w (wI w 16 j x) := ⟨by rw [vI_wI iv16 iv16]; exact hI, by rw [rI_o (wI_q (by decide))]; exact hr, fr16_add (fun q hq => wI_q (by omega)) rfl⟩
theorem itemL {w : hW} (hI : vI w 16) (hr : rI w) : vI (rLong w) 16 ∧ rI (rLong w) ∧ fr16 w (rLong w) := by
  have f5 : fr35 w (rLong2 w) := (fr35_EW.tr fr35_num).tr fr35_must
  have r5 : rI (rLong2 w) := rI_must (rI_num (rI_EW (by decide) hr))
  have i5 : vI (rLong2 w) 16 := by rw [fr35_vI f5 iv16]; exact hI
  unfold rLong
  split
  · obtain ⟨a, b, c⟩ := item16 (j := 3) (x := (rNum (rLong1 w)).1) i5 r5
    exact ⟨a, b, (fr16.of f5).tr c⟩
  · exact ⟨i5, r5, fr16.of f5⟩
theorem itemR {w : hW} (hI : vI w 16) (hr : rI w) : vI (rRiver w) 16 ∧ rI (rRiver w) ∧ fr16 w (rRiver w) := by
  have f5 : fr35 w (rRiver3 w) := ((fr35_EW.tr fr35_num).tr fr35_num).tr fr35_must
  have r5 : rI (rRiver3 w) := rI_must (rI_num (rI_num (rI_EW (by decide) hr)))
  have i5 : vI (rRiver3 w) 16 := by rw [fr35_vI f5 iv16]; exact hI
  unfold rRiver
  split
  · obtain ⟨a, b, c⟩ := item16 (j := 4) (x := (rNum (rRiver1 w)).1) i5 r5
    obtain ⟨a2, b2, c2⟩ := item16 (j := 5) (x := (rNum (rNum (rRiver1 w)).2).1) a b
    exact ⟨a2, b2, ((fr16.of f5).tr c).tr c2⟩
  · exact ⟨i5, r5, fr16.of f5⟩
theorem itemD {w : hW} (hI : vI w 16) (hr : rI w) : vI (rWind w) 16 ∧ rI (rWind w) ∧ fr16 w (rWind w) := by
  have f5 : fr35 w (rWind2 w) := (fr35_EW.tr fr35_num).tr fr35_must
  have r5 : rI (rWind2 w) := rI_must (rI_num (rI_EW (by decide) hr))
  have i5 : vI (rWind2 w) 16 := by rw [fr35_vI f5 iv16]; exact hI
  unfold rWind
  split
  · obtain ⟨a, b, c⟩ := item16 (j := 6) (x := (rNum (rWind1 w)).1) i5 r5
    exact ⟨a, b, (fr16.of f5).tr c⟩
  · exact ⟨i5, r5, fr16.of f5⟩
theorem itemA {w : hW} (hI : vI w 16) (hr : rI w) : vI (rItem w) 16 ∧ rI (rItem w) ∧ fr16 w (rItem w) := by
  unfold rItem
  split
  · exact itemT hI hr
  · split
    · exact itemM hI hr
    · split
      · exact itemL hI hr
      · split
        · exact itemR hI hr
        · split
          · split
            · exact itemD hI hr
            · exact itemW hI hr
          · exact ⟨by rw [fr35_vI fr35_fail iv16]; exact hI, rI_fail hr, fr16.of fr35_fail⟩
def rFil (s : Int32) : Nat → Nat → hW → hW
  | _, 0, w => w
  | i, m + 1, w => rFil s (i + 1) m (wI w 36 i (sLong w s (nI i)).toInt32)
def rNext (w : hW) : hW := wI (rItem (rExp w 59)) 35 7 ((rItem (rExp w 59)).1 35 7 + 1)
def rLoop : Nat → hW → hW
  | 0, w => w
  | m + 1, w => if w.1 35 6 = -1 then (if w.1 35 4 < w.1 35 3 then rLoop m (rNext w) else w) else w
def rSiz (w : hW) (s : Int32) : Int32 := if 160 < sSize w s then 160 else sSize w s
def rRead0 (w : hW) (s : Int32) : hW := wI (wI (rFil s 0 (rSiz w s).toNatClampNeg (wI w 35 3 (rSiz w s))) 35 4 0) 35 6 (-1)
def rRead (w : hW) (s : Int32) : hW := rLoop 159 (wI (rItem (rRead0 w s)) 35 7 1)
theorem fil_o {s : Int32} {q : Nat} (h : q ≠ 36) : ∀ (m i : Nat) (w : hW), (rFil s i m w).1 q = w.1 q
  | 0, i, w => rfl
  | m + 1, i, w => by unfold rFil; rw [fil_o h m, wI_q h]
theorem fil_2 {s : Int32} : ∀ (m i : Nat) (w : hW), (rFil s i m w).2 = w.2
  | 0, i, w => rfl
  | m + 1, i, w => by unfold rFil; rw [fil_2 m]; rfl

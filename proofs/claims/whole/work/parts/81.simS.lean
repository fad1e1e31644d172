/-! THE TWO SIDES ALIKE: an item, both -/
def iOut (w : hW) : Nat ⊕ (Nat × List Int32 × Nat) → hW → Prop
  | .inl q, z => rBad w z q ∧ q < 1000
  | .inr x, z => ∃ w1, rAt w w1 x.2.2 ∧ z = xA x.1 w1 x.2.1
def xIt (L : Nat → Int32) (u : hW) (a f : Nat) : Nat ⊕ (Nat × List Int32 × Nat) := if mtF L (gTxs.getD f []) a (wLen f) 0 = wLen f then (if mFul u f = true then .inl a else (match qN L (pFit u f) (mCnt f) 0 (a + wLen f) 0 with
  | .inl q => .inl q
  | .inr x => .inr (f, x.1, x.2))) else .inl (a + mtF L (gTxs.getD f []) a (wLen f) 0)
section
variable {w0 w u : hW} {L : Nat → Int32}
theorem i99_1 {v : Int32} (h : 0 ≤ v.toInt ∧ v.toInt ≤ 99) : wtOk v = decide (0 < v) := by
  have e1 : (1 : Int32).toInt = 1 := rfl
  have e2 : (99 : Int32).toInt = 99 := rfl
  have e0 : (0 : Int32).toInt = 0 := rfl
  rw [Bool.eq_iff_iff]
  simp only [wtOk, Bool.and_eq_true, Bool.not_eq_true', decide_eq_false_iff_not, decide_eq_true_eq, i32_lt, e1, e2, e0]
  omega
theorem i99_2 {v : Int32} (h : 0 ≤ v.toInt ∧ v.toInt ≤ 99) : kOk v = !decide (6 < v) := by
  have e1 : (7 : Int32).toInt = 7 := rfl
  have e2 : (6 : Int32).toInt = 6 := rfl
  have e0 : (0 : Int32).toInt = 0 := rfl
  rw [Bool.eq_iff_iff]
  simp only [kOk, Bool.and_eq_true, Bool.not_eq_true', decide_eq_false_iff_not, decide_eq_true_eq, i32_lt, e1, e2, e0]
  omega
theorem i99_3 {v : Int32} : exOk v = (decide (0 < v) && decide (v < 10)) := by
  have e1 : (1 : Int32).toInt = 1 := rfl
  have e2 : (9 : Int32).toInt = 9 := rfl
  have e3 : (10 : Int32).toInt = 10 := rfl
  have e0 : (0 : Int32).toInt = 0 := rfl
  rw [Bool.eq_iff_iff]
  simp only [exOk, Bool.and_eq_true, Bool.not_eq_true', decide_eq_false_iff_not, decide_eq_true_eq, i32_lt, e1, e2, e3, e0]
  omega
theorem i99_4 {v : Int32} (h : 0 ≤ v.toInt ∧ v.toInt ≤ 99) : woOk v = true := by
  have e2 : (99 : Int32).toInt = 99 := rfl
  have e0 : (0 : Int32).toInt = 0 := rfl
  simp only [woOk, Bool.and_eq_true, Bool.not_eq_true', decide_eq_false_iff_not, i32_lt, e2, e0]
  omega
theorem i99_5 {v : Int32} (h : 0 ≤ v.toInt ∧ v.toInt ≤ 99) : wiOk v = decide (v < 10) := by
  have e1 : (9 : Int32).toInt = 9 := rfl
  have e2 : (10 : Int32).toInt = 10 := rfl
  have e0 : (0 : Int32).toInt = 0 := rfl
  rw [Bool.eq_iff_iff]
  simp only [wiOk, Bool.and_eq_true, Bool.not_eq_true', decide_eq_false_iff_not, decide_eq_true_eq, i32_lt, e1, e2, e0]
  omega
theorem i99_6 {x v : Int32} (h : 0 ≤ v.toInt) : (!decide (v < 0) && decide (v < x)) = decide (v < x) := by
  have e0 : (0 : Int32).toInt = 0 := rfl
  rw [decide_eq_false (p := v < 0) (by rw [i32_lt, e0]; omega)]
  rfl
theorem VR_fr {V : Nat → Nat → Int32} (h : fr35 w0 w) (hv : VR w0 16 V) : VR w 16 V := VR_o hv (fun q a b => h.1 q (by omega))
theorem ftX_m (hv : VR w0 16 (vwM u)) (hok : Ok (vwM u)) {f : Nat} (hf : f < 6) (i : Nat) (w : hW) (v0 v : Int32) (h : fr35 w0 w) (h9 : 0 ≤ v.toInt ∧ v.toInt ≤ 99) : ftX f i w v0 v = pFit u f i v0 v := by
  have hw := VR_fr h hv
  rcases nI6 hf with rfl | rfl | rfl | rfl | rfl | rfl
  · show (if i = 0 then kOk v else if i = 1 then wtOk v else if i = 2 then exOk v else vStand w 16 v) = (if i = 0 then !decide (6 < v) else if i = 1 then decide (0 < v) else if i = 2 then decide (0 < v) && decide (v < 10) else mStep u v)
    rw [i99_2 h9, i99_1 h9, i99_3, stand_m hw]
  · show wtOk v = decide (0 < v)
    exact i99_1 h9
  · show (if i = 0 then tHas w 17 v else if i = 2 then woOk v else vStand w 16 v) = (if i = 0 then decide (v < u.1 45 0) else if i = 2 then true else mStep u v)
    rw [show tHas w 17 v = mThing u v from hasT (b := 16) hw, stand_m hw, i99_4 h9, mThing, i99_6 h9.1]
  · show vLongOk w 16 v = mLongOk u v
    exact long_ok hw hok
  · show (if i = 0 then true else vRivOk w 16 v0 v) = (if i = 0 then true else mRivOk u v0 v)
    rw [riv_m hw]
  · show wiOk v = decide (v < 10)
    exact i99_5 h9
theorem fuX_m (hv : VR w 16 (vwM u)) (hok : Ok (vwM u)) {f : Nat} (hf : f < 6) : fuX f w = mFul u f := by
  rcases nI6 hf with rfl | rfl | rfl | rfl | rfl | rfl
  · rw [fu_0, show tFull w 17 = decide (vwM u 0 0 = 8) from full_m (b := 16) hv hok.1.1, show vwM u 0 0 = u.1 45 0 from rfl]
    unfold mFul
    simp
  · rw [fu_1, show tFull w 19 = decide (vwM u 0 1 = 8) from full_m3 (b := 16) hv hok.1.2.1, show vwM u 0 1 = u.1 45 1 from rfl]
    unfold mFul
    simp
  · rw [fu_2, show tFull w 21 = decide (vwM u 0 2 = 4) from full_m5 (b := 16) hv hok.1.2.2.1, show vwM u 0 2 = u.1 45 2 from rfl]
    unfold mFul
    simp
  · rw [fu_3]
    unfold mFul
    simp
  · rw [fu_4]
    unfold mFul
    simp
  · rw [fu_5]
    unfold mFul
    simp
theorem rKz_bad {x : List Int32 × hW} {f q : Nat} (h : rBad w0 x.2 q) (hq : q < 1000) : rBad w0 (rKz f x) q := by
  unfold rKz
  rw [if_neg (rBad_6 h hq)]
  exact h
theorem wLen_le : ∀ f : Nat, f < 6 → 2 ≤ wLen f ∧ wLen f ≤ 6 := by decide +kernel
theorem mCnt_p {f : Nat} : ∃ r, mCnt f = r + 1 ∧ r ≤ 3 := by
  unfold mCnt
  repeat' split
  · exact ⟨3, rfl, by omega⟩
  · exact ⟨2, rfl, by omega⟩
  · exact ⟨1, rfl, by omega⟩
  · exact ⟨0, rfl, by omega⟩
theorem rK_m (hL : ∀ q, q < 1000 → rLet w0 (nI q) = L q) (hv : VR w0 16 (vwM u)) (hok : Ok (vwM u)) {a f : Nat} (hf : f < 6) (h : rAt w0 w0 a) (ha : a < 900) : iOut w0 (xIt L u a f) (rK f w0) := by
  obtain ⟨l2, l6⟩ := wLen_le f hf
  obtain ⟨r, hr, r3⟩ := mCnt_p (f := f)
  have el : (gTxs.getD f []).length = wLen f := rfl
  obtain ⟨k1, k2, k3⟩ := rEW_m hL (j := f) (b := fuX f w0) h (by rw [el]; omega)
  rw [el] at k1 k2 k3
  have eF := fuX_m hv hok hf
  have mb := mtF_b (L := L) (tx := gTxs.getD f []) (a := a) (wLen f) 0
  unfold rK xIt
  generalize rEW w0 f (fuX f w0) = z at k1 k2 k3 ⊢
  by_cases c1 : mtF L (gTxs.getD f []) a (wLen f) 0 = wLen f
  · rw [if_pos c1]
    by_cases c2 : mFul u f = true
    · rw [if_pos c2]
      have hb := k2 c1 (by rw [eF]; exact c2)
      exact ⟨rKz_bad (cN_bad (by omega) _ _ _ _ hb) (by omega), by omega⟩
    · rw [if_neg c2]
      have hg := k1 c1 (by rw [eF]; simpa using c2)
      have hc := cN_m hL (ft' := ftX f) (ft := pFit u f) (fun i w v0 v => ftX_m hv hok hf i w v0 v) (mCnt f) 0 z (a + wLen f) 0 hg (by omega)
      generalize cN (ftX f) (mCnt f) 0 z 0 = y at hc ⊢
      cases hq : qN L (pFit u f) (mCnt f) 0 (a + wLen f) 0 with
      | inl q =>
        rw [hq] at hc
        exact ⟨rKz_bad hc.1 hc.2, hc.2⟩
      | inr x =>
        rw [hq] at hc
        refine ⟨y.2, hc.1, ?_⟩
        unfold rKz
        rw [if_pos hc.1.2.1, hc.2]
  · rw [if_neg c1]
    have hb := k3 c1
    exact ⟨rKz_bad (cN_bad (by omega) _ _ _ _ hb) (by omega), by omega⟩
theorem rK_bad {q f : Nat} (h : rBad w0 w q) (hq : q < 1000) : rBad w0 (rK f w) q := by
  have h1 : rBad w0 (rEW w f (fuX f w)) q := by
    have hw := rWord_bad (tx := gTxs.getD f []) hq (gTxs.getD f []).length 0 w h
    unfold rEW
    split
    · rw [flt_fail (rBad_6 hw hq)]
      exact hw
    · exact hw
  exact rKz_bad (cN_bad hq _ _ _ _ h1) hq
theorem item_bad {q : Nat} (h : rBad w0 w q) (hq : q < 1000) : rBad w0 (rItem w) q := by
  unfold rItem
  rw [← rK_0, ← rK_1, ← rK_2, ← rK_3, ← rK_4, ← rK_5]
  repeat' split
  all_goals first | exact rK_bad h hq | skip
  rw [flt_fail (rBad_6 h hq)]
  exact h
/-! one word alone can be meant -/
theorem mtF_0 {tx : List Int32} {a r : Nat} (h : L a ≠ tx.getD 0 0) : mtF L tx a (r + 1) 0 = 0 := by
  unfold mtF
  rw [if_neg (by rw [Nat.add_zero]; exact h)]
theorem mtF_1 {tx : List Int32} {a r : Nat} (h : L (a + 1) ≠ tx.getD 1 0) : mtF L tx a (r + 2) 0 ≤ 1 := by
  unfold mtF
  split
  · unfold mtF
    rw [if_neg h]
    omega
  · omega
theorem mtF_p {tx : List Int32} {a r : Nat} (h : L a = tx.getD 0 0) : 1 ≤ mtF L tx a (r + 1) 0 := by
  unfold mtF
  rw [if_pos (by rw [Nat.add_zero]; exact h)]
  exact (mtF_b (L := L) (tx := tx) (a := a) r 1).1
theorem mtF_g {tx tx' : List Int32} {a : Nat} : ∀ (r i : Nat), (∀ k, i ≤ k → k < i + r → tx.getD k 0 = tx'.getD k 0) → mtF L tx a r i = mtF L tx' a r i
  | 0, _, _ => rfl
  | r + 1, i, h => by
    unfold mtF
    rw [h i (by omega) (by omega), mtF_g r (i + 1) (fun k h1 h2 => h k (by omega) (by omega))]
theorem mtF_last {tx : List Int32} {a : Nat} : ∀ (r i : Nat), mtF L tx a (r + 1) i = if mtF L tx a r i = i + r then (if L (a + (i + r)) = tx.getD (i + r) 0 then i + r + 1 else i + r) else mtF L tx a r i
  | 0, i => by
    show (if L (a + i) = tx.getD i 0 then i + 1 else i) = if i = i + 0 then _ else i
    rw [if_pos (show i = i + 0 by omega)]
    rfl
  | r + 1, i => by
    rw [mtF, mtF_last r (i + 1)]
    have e : i + 1 + r = i + (r + 1) := by omega
    by_cases c : L (a + i) = tx.getD i 0
    · rw [if_pos c, e]
      have e2 : mtF L tx a (r + 1) i = mtF L tx a r (i + 1) := by rw [mtF, if_pos c]
      rw [e2]
    · rw [if_neg c]
      have e2 : mtF L tx a (r + 1) i = i := by rw [mtF, if_neg c]
      rw [e2, if_neg (by omega)]
theorem mItF_n : ∀ r i, (∀ g, i ≤ g → g < i + r → (mWA u g && mFul u g) = false) → mItF u i r = false
  | 0, _, _ => rfl
  | r + 1, i, h => by
    unfold mItF
    rw [h i (by omega) (by omega), if_neg (by decide)]
    exact mItF_n r (i + 1) (fun g h1 h2 => h g (by omega) (by omega))
theorem mItF_y {f : Nat} (hf : (mWA u f && mFul u f) = true) : ∀ r i, i ≤ f → f < i + r → mItF u i r = true
  | 0, i, _, _ => by omega
  | r + 1, i, h1, h2 => by
    unfold mItF
    split
    · rfl
    · rename_i c
      by_cases e : i = f
      · subst e
        exact absurd hf c
      · exact mItF_y hf r (i + 1) (by omega) (by omega)
theorem item_f (hu : mLt u = L) {a f : Nat} (ha : mAt u = a) (hf : f < 6) (hH : ∀ g, g < 6 → g ≠ f → mtF L (wBl g) a (wLen g + 1) 0 ≤ 1) (h1 : 1 ≤ mtF L (wBl f) a (wLen f + 1) 0) : pItem u = xIt L u a f := by
  have hW : ∀ g, g < 6 → mtF L (gTxs.getD g []) a (wLen g) 0 = mtF L (wBl g) a (wLen g) 0 := fun g hg => mtF_g _ _ (fun k _ hk => (wB_in g hg k (by omega)).symm)
  have hb : (wBl f).getD (wLen f) 0 = 32 := (wW_3 f hf).1
  have hl := mtF_last (L := L) (tx := wBl f) (a := a) (wLen f) 0
  rw [Nat.zero_add, ← hW f hf, hb] at hl
  have mb := mtF_b (L := L) (tx := gTxs.getD f []) (a := a) (wLen f) 0
  have hA : ∀ g, mWA u g = decide (mtF L (gTxs.getD g []) a (wLen g) 0 = wLen g) := fun g => by unfold mWA; rw [hu, ha]
  have hN : ∀ g, g < 6 → g ≠ f → mWA u g = false := fun g hg e => by
    have g1 := hH g hg e
    obtain ⟨g2, g6⟩ := wLen_le g hg
    have g3 := mtF_last (L := L) (tx := wBl g) (a := a) (wLen g) 0
    rw [Nat.zero_add, ← hW g hg] at g3
    rw [hA, decide_eq_false_iff_not]
    intro e2
    rw [if_pos e2] at g3
    rw [g3] at g1
    split at g1 <;> omega
  have hwd := wd_m (L := L) (a := a) (f := f) hf (fun g hg e => ⟨hH g hg e, by have := (wLen_le g hg).1; omega⟩) h1 6 0 a rfl (by omega) (Nat.le_refl _) (by omega)
  unfold pItem xIt
  rw [hu, ha, hwd]
  by_cases c1 : mtF L (gTxs.getD f []) a (wLen f) 0 = wLen f
  · rw [if_pos c1] at hl ⊢
    have hAf : mWA u f = true := by rw [hA]; exact decide_eq_true c1
    by_cases c2 : mFul u f = true
    · rw [if_pos c2, if_pos (mItF_y (by rw [hAf, c2]; rfl) 6 0 (by omega) (by omega))]
    · rw [if_neg c2, mItF_n 6 0 (fun g _ hg => by
        by_cases e : g = f
        · rw [e, hAf]; simpa using c2
        · rw [hN g (by omega) e]; rfl), if_neg (by decide)]
      obtain ⟨r, hr, -⟩ := mCnt_p (f := f)
      by_cases c3 : L (a + wLen f) = 32
      · rw [if_pos c3] at hl
        rw [if_pos hl]
        dsimp only
        rw [hr, show a + (wLen f + 1) = a + wLen f + 1 by omega, pNs_q0 c3]
        cases qN L (pFit u f) (r + 1) 0 (a + wLen f) 0 <;> rfl
      · rw [if_neg c3] at hl
        rw [if_neg (by omega), hl, hr]
        unfold qN
        rw [if_neg c3]
  · rw [if_neg c1] at hl ⊢
    rw [mItF_n 6 0 (fun g _ hg => by
      by_cases e : g = f
      · rw [e, hA, decide_eq_false c1]; rfl
      · rw [hN g (by omega) e]; rfl), if_neg (by decide), if_neg (by omega), hl]
theorem wB_0 : ∀ g : Nat, g < 6 → (wBl g).getD 0 0 = ([116, 109, 119, 108, 114, 119] : List Int32).getD g 0 ∧ (wBl g).getD 1 0 = ([104, 97, 97, 111, 105, 105] : List Int32).getD g 0 := by decide +kernel
theorem item_0 (hu : mLt u = L) {a : Nat} (ha : mAt u = a) (hH : ∀ g, g < 6 → L a ≠ (wBl g).getD 0 0) : pItem u = .inl a := by
  have hz : ∀ g, g < 6 → mtF L (wBl g) a (wLen g + 1) 0 = 0 := fun g hg => mtF_0 (hH g hg)
  have hN : ∀ g, g < 6 → mWA u g = false := fun g hg => by
    obtain ⟨g2, g6⟩ := wLen_le g hg
    obtain ⟨r, hr⟩ : ∃ r, wLen g = r + 1 := ⟨wLen g - 1, by omega⟩
    unfold mWA
    rw [hu, ha, decide_eq_false_iff_not, hr, mtF_0]
    · omega
    · rw [← wB_in g hg 0 (by omega)]
      exact hH g hg
  unfold pItem
  rw [hu, ha, mItF_n 6 0 (fun g _ hg => by rw [hN g (by omega)]; rfl), if_neg (by decide), wd_0 hz 6 0 rfl]
theorem item_m (hL : ∀ q, q < 1000 → rLet w (nI q) = L q) (hv : VR w 16 (vwM u)) (hok : Ok (vwM u)) (hu : mLt u = L) {a : Nat} (hat : mAt u = a) (h : rAt w w a) (ha : a < 900) : iOut w (pItem u) (rItem w) := by
  have e0 : rLet w (w.1 35 4) = L a := by rw [h.2.2, hL a (by omega)]
  have e1 : rLet w (w.1 35 4 + 1) = L (a + 1) := by rw [h.2.2, nI_1, hL (a + 1) (by omega)]
  have key : ∀ f, f < 6 → L a = (wBl f).getD 0 0 → (∀ g, g < 6 → g ≠ f → L a ≠ (wBl g).getD 0 0 ∨ L (a + 1) ≠ (wBl g).getD 1 0) → iOut w (pItem u) (rK f w) := by
    intro f hf h0 hH
    rw [item_f hu hat hf (fun g hg e => by
      rcases hH g hg e with k | k
      · rw [mtF_0 k]; omega
      · have := (wLen_le g hg).1
        obtain ⟨r, hr⟩ : ∃ r, wLen g + 1 = r + 2 := ⟨wLen g - 1, by omega⟩
        rw [hr]
        exact mtF_1 k) (mtF_p h0)]
    exact rK_m hL hv hok hf h ha
  unfold rItem
  rw [e0, e1]
  by_cases c1 : L a = 116
  · rw [if_pos c1, ← rK_0]
    refine key 0 (by omega) (by rw [(wB_0 0 (by omega)).1, c1]; rfl) (fun g hg e => Or.inl ?_)
    rw [(wB_0 g hg).1, c1]
    revert g
    decide
  rw [if_neg c1]
  by_cases c2 : L a = 109
  · rw [if_pos c2, ← rK_1]
    refine key 1 (by omega) (by rw [(wB_0 1 (by omega)).1, c2]; rfl) (fun g hg e => Or.inl ?_)
    rw [(wB_0 g hg).1, c2]
    revert g
    decide
  rw [if_neg c2]
  by_cases c3 : L a = 108
  · rw [if_pos c3, ← rK_3]
    refine key 3 (by omega) (by rw [(wB_0 3 (by omega)).1, c3]; rfl) (fun g hg e => Or.inl ?_)
    rw [(wB_0 g hg).1, c3]
    revert g
    decide
  rw [if_neg c3]
  by_cases c4 : L a = 114
  · rw [if_pos c4, ← rK_4]
    refine key 4 (by omega) (by rw [(wB_0 4 (by omega)).1, c4]; rfl) (fun g hg e => Or.inl ?_)
    rw [(wB_0 g hg).1, c4]
    revert g
    decide
  rw [if_neg c4]
  by_cases c5 : L a = 119
  · rw [if_pos c5]
    by_cases c6 : L (a + 1) = 105
    · rw [if_pos c6, ← rK_5]
      refine key 5 (by omega) (by rw [(wB_0 5 (by omega)).1, c5]; rfl) (fun g hg e => ?_)
      rw [(wB_0 g hg).1, (wB_0 g hg).2, c5, c6]
      revert g
      decide
    · rw [if_neg c6, ← rK_2]
      refine key 2 (by omega) (by rw [(wB_0 2 (by omega)).1, c5]; rfl) (fun g hg e => ?_)
      by_cases e5 : g = 5
      · subst e5
        right
        rw [(wB_0 5 hg).2]
        exact c6
      · left
        rw [(wB_0 g hg).1, c5]
        revert g
        decide
  rw [if_neg c5]
  rw [item_0 hu hat (fun g hg => by
    rw [(wB_0 g hg).1]
    rcases nI6 hg with rfl | rfl | rfl | rfl | rfl | rfl
    · exact c1
    · exact c2
    · exact c5
    · exact c3
    · exact c4
    · exact c5)]
  rw [h.2.2]
  exact ⟨rFail_at h.1 h.2.1, by omega⟩
end

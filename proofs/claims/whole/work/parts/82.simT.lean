/-! THE TWO SIDES ALIKE: valley, what is read -/
def lpR (w u : hW) (a : Nat) : Prop := w.1 35 6 = -1 ∧ w.1 35 4 = nI a ∧ mAt u = a ∧ w.1 35 3 = nI (mEd u) ∧ (∀ q, q < 1000 → rLet w (nI q) = mLt u q) ∧ VR w 16 (vwM u) ∧ Ok (vwM u) ∧ mI u ∧ mP u ∧ mWd u
def lpO (u : hW) : Nat ⊕ (Nat × hW) → hW → Prop
  | .inl q, z => z.1 35 6 = nI q ∧ q < 1000
  | .inr x, z => z.1 35 6 = -1 ∧ z.1 35 7 = nI x.1 ∧ VR z 16 (vwM x.2) ∧ Ok (vwM x.2) ∧ (u.1 45 0).toInt ≤ (x.2.1 45 0).toInt
section
variable {p w u : hW}
theorem itA_m (hw : VR w 16 (vwM u)) (hok : Ok (vwM u)) {x : Nat × List Int32 × Nat} (h : pItem u = .inr x) : VR (xA x.1 w x.2.1) 16 (vwM (itA u x.1 x.2.1)) ∧ Ok (vwM (itA u x.1 x.2.1)) ∧ (∀ q, ¬ (16 ≤ q ∧ q ≤ 22) → (xA x.1 w x.2.1).1 q = w.1 q) ∧ (u.1 45 0).toInt ≤ ((itA u x.1 x.2.1).1 45 0).toInt := by
  obtain ⟨h1, h2, -, h3, h4⟩ := pItem_ok h
  obtain ⟨f, l, e⟩ := x
  simp only at h1 h2 h3 h4 ⊢
  have z0' : (0 : Int32).toInt = 0 := rfl
  have z6 : (6 : Int32).toInt = 6 := rfl
  have z10 : (10 : Int32).toInt = 10 := rfl
  have z8 : (8 : Int32).toInt = 8 := rfl
  have z4 : (4 : Int32).toInt = 4 := rfl
  have v0 : vwM u 0 0 = u.1 45 0 := rfl
  have v1 : vwM u 0 1 = u.1 45 1 := rfl
  have v2 : vwM u 0 2 = u.1 45 2 := rfl
  have o0 := hok.1.1
  have o1 := hok.1.2.1
  have o2 := hok.1.2.2.1
  rw [v0] at o0
  rw [v1] at o1
  rw [v2] at o2
  rcases nI6 h1 with rfl | rfl | rfl | rfl | rfl | rfl
  · have h8 : (u.1 45 0).toInt < 8 := by
      have : ¬ u.1 45 0 = 8 := fun e => by unfold mFul at h2; simp [e] at h2
      rw [i32_eq, z8] at this
      omega
    have b0 := h3 0 (by decide)
    have b1 := h3 1 (by decide)
    have b2 := h3 2 (by decide)
    have c0 : (!decide (6 < l.getD 0 0)) = true := h4 0 (by decide)
    have c1 : decide (0 < l.getD 1 0) = true := h4 1 (by decide)
    have c2 : (decide (0 < l.getD 2 0) && decide (l.getD 2 0 < 10)) = true := h4 2 (by decide)
    have c3 : mStep u (l.getD 3 0) = true := h4 3 (by decide)
    simp only [decide_eq_true_eq, Bool.and_eq_true, Bool.not_eq_true', decide_eq_false_iff_not, i32_lt, z0', z10, z6] at c0 c1 c2
    show VR (vAddT w 16 (l.getD 0 0) (l.getD 1 0) (l.getD 2 0) (l.getD 3 0)) 16 (vwM (mAddT u (l.getD 0 0) (l.getD 1 0) (l.getD 2 0) (l.getD 3 0))) ∧ Ok (vwM (mAddT u (l.getD 0 0) (l.getD 1 0) (l.getD 2 0) (l.getD 3 0))) ∧ (∀ q, ¬ (16 ≤ q ∧ q ≤ 22) → (vAddT w 16 (l.getD 0 0) (l.getD 1 0) (l.getD 2 0) (l.getD 3 0)).1 q = w.1 q) ∧ (u.1 45 0).toInt ≤ ((mAddT u (l.getD 0 0) (l.getD 1 0) (l.getD 2 0) (l.getD 3 0)).1 45 0).toInt
    rw [vwM_addT, mAddT_0, inc_z o0.1 (by omega)]
    exact ⟨VR_addT iv16 hw h8, Ok_addT hok h8 (by omega) (by omega) (by omega) (step_Std c3), fun q hq => frb_addT.1 q (by omega), by omega⟩
  · have h8 : (u.1 45 1).toInt < 8 := by
      have : ¬ u.1 45 1 = 8 := fun e => by unfold mFul at h2; simp [e] at h2
      rw [i32_eq, z8] at this
      omega
    have b0 := h3 0 (by decide)
    have c0 : decide (0 < l.getD 0 0) = true := h4 0 (by decide)
    simp only [decide_eq_true_eq, i32_lt, z0'] at c0
    show VR (vAddM w 16 (l.getD 0 0)) 16 (vwM (mAddM u (l.getD 0 0))) ∧ Ok (vwM (mAddM u (l.getD 0 0))) ∧ (∀ q, ¬ (16 ≤ q ∧ q ≤ 22) → (vAddM w 16 (l.getD 0 0)).1 q = w.1 q) ∧ (u.1 45 0).toInt ≤ ((mAddM u (l.getD 0 0)).1 45 0).toInt
    have e0 : (mAddM u (l.getD 0 0)).1 45 0 = u.1 45 0 := by
      unfold mAddM
      rw [wI_at (by decide), wI_q (by decide), wI_q (by decide)]
    rw [vwM_addM, e0]
    exact ⟨VR_addM iv16 hw h8, Ok_addM hok h8 (by omega), fun q hq => frb_addM.1 q (by omega), Int.le_refl _⟩
  · have h8 : (u.1 45 2).toInt < 4 := by
      have : ¬ u.1 45 2 = 4 := fun e => by unfold mFul at h2; simp [e] at h2
      rw [i32_eq, z4] at this
      omega
    have b0 := h3 0 (by decide)
    have b2 := h3 2 (by decide)
    have c0 : decide (l.getD 0 0 < u.1 45 0) = true := h4 0 (by decide)
    have c1 : mStep u (l.getD 1 0) = true := h4 1 (by decide)
    simp only [decide_eq_true_eq, i32_lt] at c0
    show VR (vAddW w 16 (l.getD 0 0) (l.getD 1 0) (l.getD 2 0)) 16 (vwM (mAddW u (l.getD 0 0) (l.getD 1 0) (l.getD 2 0))) ∧ Ok (vwM (mAddW u (l.getD 0 0) (l.getD 1 0) (l.getD 2 0))) ∧ (∀ q, ¬ (16 ≤ q ∧ q ≤ 22) → (vAddW w 16 (l.getD 0 0) (l.getD 1 0) (l.getD 2 0)).1 q = w.1 q) ∧ (u.1 45 0).toInt ≤ ((mAddW u (l.getD 0 0) (l.getD 1 0) (l.getD 2 0)).1 45 0).toInt
    have e0 : (mAddW u (l.getD 0 0) (l.getD 1 0) (l.getD 2 0)).1 45 0 = u.1 45 0 := by
      unfold mAddW
      rw [wI_at (by decide), wI_q (by decide), wI_q (by decide), wI_q (by decide)]
    rw [vwM_addW, e0]
    exact ⟨VR_addW iv16 hw h8, Ok_addW hok h8 ⟨b0.1, c0⟩ (step_Std c1) b2, fun q hq => frb_addW.1 q (by omega), Int.le_refl _⟩
  · have c0 : mLongOk u (l.getD 0 0) = true := h4 0 (by decide)
    show VR (wI w 16 3 (l.getD 0 0)) 16 (vwM (wI u 45 3 (l.getD 0 0))) ∧ Ok (vwM (wI u 45 3 (l.getD 0 0))) ∧ (∀ q, ¬ (16 ≤ q ∧ q ≤ 22) → (wI w 16 3 (l.getD 0 0)).1 q = w.1 q) ∧ (u.1 45 0).toInt ≤ ((wI u 45 3 (l.getD 0 0)).1 45 0).toInt
    rw [vwM_0, wI_at (by decide)]
    exact ⟨VR_sc hw (by omega) (by omega), Ok_long hok c0, fun q hq => wI_q (by omega), Int.le_refl _⟩
  · have c1 : mRivOk u (l.getD 0 0) (l.getD 1 0) = true := h4 1 (by decide)
    show VR (wI (wI w 16 4 (l.getD 0 0)) 16 5 (l.getD 1 0)) 16 (vwM (wI (wI u 45 4 (l.getD 0 0)) 45 5 (l.getD 1 0))) ∧ Ok (vwM (wI (wI u 45 4 (l.getD 0 0)) 45 5 (l.getD 1 0))) ∧ (∀ q, ¬ (16 ≤ q ∧ q ≤ 22) → (wI (wI w 16 4 (l.getD 0 0)) 16 5 (l.getD 1 0)).1 q = w.1 q) ∧ (u.1 45 0).toInt ≤ ((wI (wI u 45 4 (l.getD 0 0)) 45 5 (l.getD 1 0)).1 45 0).toInt
    rw [vwM_0, vwM_0, wI_at (by decide), wI_at (by decide)]
    exact ⟨VR_sc (VR_sc hw (by omega) (by omega)) (by omega) (by omega), Ok_riv hok c1, fun q hq => by rw [wI_q (by omega), wI_q (by omega)], Int.le_refl _⟩
  · have b0 := h3 0 (by decide)
    have c0 : decide (l.getD 0 0 < 10) = true := h4 0 (by decide)
    simp only [decide_eq_true_eq, i32_lt, z10] at c0
    show VR (wI w 16 6 (l.getD 0 0)) 16 (vwM (wI u 45 6 (l.getD 0 0))) ∧ Ok (vwM (wI u 45 6 (l.getD 0 0))) ∧ (∀ q, ¬ (16 ≤ q ∧ q ≤ 22) → (wI w 16 6 (l.getD 0 0)).1 q = w.1 q) ∧ (u.1 45 0).toInt ≤ ((wI u 45 6 (l.getD 0 0)).1 45 0).toInt
    rw [vwM_0, wI_at (by decide)]
    exact ⟨VR_sc hw (by omega) (by omega), Ok_wind hok (by omega), fun q hq => wI_q (by omega), Int.le_refl _⟩
theorem rLet_o {w w' : hW} (h3 : w'.1 35 3 = w.1 35 3) (h36 : w'.1 36 = w.1 36) {x : Int32} : rLet w' x = rLet w x := by unfold rLet; rw [h3, h36]
theorem lp_ed {a : Nat} (h : lpR w u a) : a ≤ mEd u ∧ mEd u ≤ 160 := by
  obtain ⟨-, -, h3, -, -, -, -, -, hP, -⟩ := h
  have h5 := hP.2.2.2.2
  rw [h3] at h5
  exact ⟨h5.2, h5.1⟩
theorem lp_rI {a : Nat} (h : lpR w u a) : rI w := by
  obtain ⟨h1, h2⟩ := lp_ed h
  unfold rI
  rw [h.2.1, h.2.2.2.1, nI_toInt (by omega), nI_toInt (by omega)]
  omega
theorem vw_31 {j : Nat} {x : Int32} (hj : 9 ≤ j) : eqV (vwM u) (vwM (wI u 45 j x)) := by
  rw [vwM_0]
  exact ⟨fun k hk => (vset_o (by omega)).symm, fun c i h1 _ _ => (vset_c (by omega)).symm, fun c i h1 _ _ => (vset_c (by omega)).symm⟩
/-- one item, on both sides -/
theorem it_step {a : Nat} {k : Int32} (h : lpR w u a) : match pItem u with
  | .inl q => (wI (rItem w) 35 7 k).1 35 6 = nI q ∧ q < 1000
  | .inr x => lpR (wI (rItem w) 35 7 k) (wI (itA u x.1 x.2.1) 45 31 (nI x.2.2)) x.2.2 ∧ a + 2 ≤ x.2.2 ∧ mEd (wI (itA u x.1 x.2.1) 45 31 (nI x.2.2)) = mEd u ∧ (u.1 45 0).toInt ≤ ((itA u x.1 x.2.1).1 45 0).toInt := by
  obtain ⟨l1, l2⟩ := lp_ed h
  obtain ⟨h6, h4, hA, h3, hL, hv, hok, hI, hP, hW⟩ := h
  have it := item_m hL hv hok rfl hA ⟨fr35.rf, h6, h4⟩ (by omega)
  have c8 := c8_item hI hP hW
  cases hp : pItem u with
  | inl q =>
    rw [hp] at it
    exact ⟨by rw [wI_at (by decide)]; exact it.1.2, it.2⟩
  | inr x =>
    rw [hp] at it c8
    obtain ⟨w2, ⟨f2, f6, f4⟩, hz⟩ := it
    obtain ⟨-, -, -, hle, -⟩ := c8
    have hok2 := pItem_ok hp
    rw [hA] at hok2
    obtain ⟨m1, m2, m3, m4⟩ := itA_m (VR_fr f2 hv) hok hp
    have fx : fxd u (wI (itA u x.1 x.2.1) 45 31 (nI x.2.2)) := fxd_itA.tr (fxd.of (scr_j (by omega)))
    obtain ⟨e1, e2, -⟩ := fxd_lt fx
    obtain ⟨P2, A2⟩ := mP_fxd fx hP (a := x.2.2) wI_is hle
    have e35 : (rItem w).1 35 = w2.1 35 := by rw [hz]; exact m3 35 (by omega)
    have e36 : (rItem w).1 36 = w2.1 36 := by rw [hz]; exact m3 36 (by omega)
    have k35 : ∀ j, j ≠ 7 → (wI (rItem w) 35 7 k).1 35 j = w2.1 35 j := fun j hj => by rw [wI_at hj, e35]
    have k36 : (wI (rItem w) 35 7 k).1 36 = w2.1 36 := by rw [wI_q (by decide), e36]
    refine ⟨⟨?_, ?_, A2, ?_, fun q hq => ?_, ?_, ?_, ?_, P2, mWd_fxd fx hW⟩, hok2.2.2.1, e2, m4⟩
    · rw [k35 6 (by decide)]; exact f6
    · rw [k35 4 (by decide)]; exact f4
    · rw [k35 3 (by decide), f2.2.2.1, e2]; exact h3
    · rw [rLet_o (k35 3 (by decide)) k36, rLet_fr f2, hL q hq, e1]
    · rw [hz]
      exact VR_ext (VR_o m1 (fun q _ _ => wI_q (by omega))) (vw_31 (by omega))
    · exact Ok_ext m2 (vw_31 (by omega))
    · exact mI_scr (scr_j (by omega)) (mI_itA hI hp)
theorem ex_step {a : Nat} (h : lpR w u a) (ha : a < mEd u) : (mLt u a = 59 → lpR (rExp w 59) (wI u 45 31 (nI (a + 1))) (a + 1)) ∧ (mLt u a ≠ 59 → rBad w (rExp w 59) a) := by
  obtain ⟨l1, l2⟩ := lp_ed h
  obtain ⟨h6, h4, hA, h3, hL, hv, hok, hI, hP, hW⟩ := h
  obtain ⟨x1, x2⟩ := rAt_exp (c := 59) hL ⟨fr35.rf, h6, h4⟩ (by omega)
  refine ⟨fun e => ?_, x2⟩
  obtain ⟨f1, f6, f4⟩ := x1 e
  obtain ⟨p1, p2, p3⟩ := mP_at (a := a + 1) hP (by omega)
  have s1 : scr u (wI u 45 31 (nI (a + 1))) := scr_j (by omega)
  refine ⟨f6, f4, p2, ?_, fun q hq => ?_, VR_ext (VR_fr f1 hv) (vw_31 (by omega)), Ok_ext hok (vw_31 (by omega)), mI_scr s1 hI, p1, mWd_scr s1 hW⟩
  · rw [f1.2.2.1, h3, (mLt_scr s1).2.1]
  · rw [rLet_fr f1, hL q hq, p3]
theorem rLoop_bad (h : w.1 35 6 ≠ -1) : ∀ m, rLoop m w = w
  | 0 => rfl
  | m + 1 => by
    unfold rLoop
    rw [if_neg h]
theorem lp_m : ∀ (m r n : Nat) (w u : hW) (a : Nat), lpR w u a → w.1 35 7 = nI n → mEd u ≤ a + m → mEd u ≤ a + r → lpO u (pVl r n u) (rLoop m w) := by
  have fin : ∀ (m r n : Nat) (w u : hW) (a : Nat), lpR w u a → w.1 35 7 = nI n → ¬ a < mEd u → lpO u (pVl r n u) (rLoop m w) := by
    intro m r n w u a h h7 ha
    obtain ⟨l1, l2⟩ := lp_ed h
    obtain ⟨h6, h4, hA, h3, hL, hv, hok, hI, hP, hW⟩ := h
    have e1 : pVl r n u = .inr (n, u) := by
      cases r with
      | zero => rfl
      | succ r =>
        unfold pVl
        rw [if_neg (by rw [hA]; exact ha)]
    have e2 : rLoop m w = w := by
      cases m with
      | zero => rfl
      | succ m =>
        unfold rLoop
        rw [if_pos h6, if_neg (by rw [h4, h3, nIlt (by omega), nI_toInt (by omega)]; omega)]
    rw [e1, e2]
    exact ⟨h6, h7, hv, hok, Int.le_refl _⟩
  intro m
  induction m with
  | zero =>
    intro r n w u a h h7 hm hr
    exact fin 0 r n w u a h h7 (by omega)
  | succ m ih =>
    intro r n w u a h h7 hm hr
    by_cases ha : a < mEd u
    · obtain ⟨l1, l2⟩ := lp_ed h
      obtain ⟨r, rfl⟩ : ∃ r', r = r' + 1 := ⟨r - 1, by omega⟩
      have e2 : rLoop (m + 1) w = rLoop m (rNext w) := by
        rw [rLoop, if_pos h.1, if_pos (by rw [h.2.1, h.2.2.2.1, nIlt (by omega), nI_toInt (by omega)]; omega)]
      obtain ⟨x1, x2⟩ := ex_step h ha
      have hA := h.2.2.1
      rw [e2]
      unfold pVl
      rw [hA, if_pos ha]
      by_cases c : mLt u a = 59
      · rw [if_pos c]
        have hs := it_step (k := (rItem (rExp w 59)).1 35 7 + 1) (x1 c)
        have hr1 := lp_rI (x1 c)
        have f1 := (itemA (x1 c).2.2.2.2.2.1.1 hr1).2.2
        have e7 : (rNext w).1 35 7 = nI (n + 1) := by
          unfold rNext
          rw [wI_is, f1.2.2.2, (fr35_exp (w := w) (c := 59)).2.2.2, h7, nI_1]
        have eEd : mEd (wI u 45 31 (nI (a + 1))) = mEd u := (mLt_scr (scr_j (by omega))).2.1
        have e0 : (wI u 45 31 (nI (a + 1))).1 45 0 = u.1 45 0 := wI_at (by decide)
        cases hp : pItem (wI u 45 31 (nI (a + 1))) with
        | inl q =>
          rw [hp] at hs
          have hb : (rNext w).1 35 6 ≠ -1 := by
            show (wI (rItem (rExp w 59)) 35 7 ((rItem (rExp w 59)).1 35 7 + 1)).1 35 6 ≠ -1
            rw [hs.1]
            exact nI_ne (by omega)
          rw [rLoop_bad hb]
          exact hs
        | inr x =>
          rw [hp] at hs
          obtain ⟨s1, s2, s3, s4⟩ := hs
          rw [eEd] at s3
          rw [e0] at s4
          have hi := ih r (n + 1) (rNext w) _ x.2.2 s1 e7 (by omega) (by omega)
          have e00 : (wI (itA (wI u 45 31 (nI (a + 1))) x.1 x.2.1) 45 31 (nI x.2.2)).1 45 0 = (itA (wI u 45 31 (nI (a + 1))) x.1 x.2.1).1 45 0 := wI_at (by decide)
          dsimp only
          cases hv : pVl r (n + 1) (wI (itA (wI u 45 31 (nI (a + 1))) x.1 x.2.1) 45 31 (nI x.2.2)) with
          | inl q => rw [hv] at hi; exact hi
          | inr y =>
            rw [hv] at hi
            obtain ⟨i1, i2, i3, i4, i5⟩ := hi
            rw [e00] at i5
            exact ⟨i1, i2, i3, i4, Int.le_trans s4 i5⟩
      · rw [if_neg c]
        have hb := item_bad (x2 c) (by omega)
        have h6 : (rNext w).1 35 6 = nI a := by
          unfold rNext
          rw [wI_at (by decide)]
          exact hb.2
        rw [rLoop_bad (by rw [h6]; exact nI_ne (by omega))]
        exact ⟨h6, by omega⟩
    · exact fin (m + 1) r n w u a h h7 ha
theorem lp_fr : ∀ (m : Nat) (w : hW), vI w 16 → rI w → vI (rLoop m w) 16 ∧ (∀ q, q ≠ 35 → ¬ (16 ≤ q ∧ q ≤ 22) → (rLoop m w).1 q = w.1 q) ∧ (rLoop m w).2 = w.2
  | 0, w, hI, hr => ⟨hI, fun _ _ _ => rfl, rfl⟩
  | m + 1, w, hI, hr => by
    unfold rLoop
    split
    · split
      · have rE : rI (rExp w 59) := rI_exp (by decide) hr
        have iE : vI (rExp w 59) 16 := by rw [fr35_vI fr35_exp iv16]; exact hI
        obtain ⟨iT, rT, fT⟩ := itemA iE rE
        have iN : vI (rNext w) 16 := by unfold rNext; rw [show vI (wI (rItem (rExp w 59)) 35 7 ((rItem (rExp w 59)).1 35 7 + 1)) 16 = vI (rItem (rExp w 59)) 16 from vSame_I (fun q _ _ => wI_q (by omega))]; exact iT
        have rN : rI (rNext w) := rI_wI rT (by decide) (by decide)
        obtain ⟨i1, i2, i3⟩ := lp_fr m (rNext w) iN rN
        have f0 := (fr16.of (fr35_exp (w := w) (c := 59))).tr fT
        refine ⟨i1, fun q a b => ?_, ?_⟩
        · rw [i2 q a b]
          unfold rNext
          rw [wI_q a, f0.1 q a b]
        · rw [i3]
          unfold rNext
          exact f0.2.1
      · exact ⟨hI, fun _ _ _ => rfl, rfl⟩
    · exact ⟨hI, fun _ _ _ => rfl, rfl⟩
end

/-! THE TWO SIDES ALIKE: restore, judge -/
section
variable {p u p' u' : hW} {b : Nat} {V : Nat → Nat → Int32}
theorem sThing_c {w w' : hW} {x : Nat} (hx : x < 8) (h : w'.1 24 x = w.1 24 x) : sThing w' (nI x) = sThing w (nI x) := by
  unfold sThing sRow sCont
  rw [nI_cl (by omega), h]
theorem sDrop_is {n : Int32} : ∀ (m i : Nat) (w : hW), i + m ≤ 8 → (∀ q, q ≠ 24 → (sDrop n i m w).1 q = w.1 q) ∧ (sDrop n i m w).2 = w.2 ∧ ∀ s, (sDrop n i m w).1 24 s = if (i ≤ s ∧ s < i + m) ∧ (sThing w (nI s) && !decide (w.1 24 s < n)) = true then -1 else w.1 24 s
  | 0, i, w, _ => ⟨fun _ _ => rfl, rfl, fun s => by rw [if_neg (by omega)]; rfl⟩
  | m + 1, i, w, h => by
    unfold sDrop
    obtain ⟨a1, a2, a3⟩ := sDrop_is (n := n) m (i + 1) (if (sThing w (nI i) && !decide (w.1 24 i < n)) = true then wI w 24 i (-1) else w) (by omega)
    have o1 : ∀ q, q ≠ 24 → (if (sThing w (nI i) && !decide (w.1 24 i < n)) = true then wI w 24 i (-1) else w).1 q = w.1 q := fun q hq => by
      split
      · exact wI_q hq
      · rfl
    have o2 : (if (sThing w (nI i) && !decide (w.1 24 i < n)) = true then wI w 24 i (-1) else w).2 = w.2 := by split <;> rfl
    have o3 : ∀ s, s ≠ i → (if (sThing w (nI i) && !decide (w.1 24 i < n)) = true then wI w 24 i (-1) else w).1 24 s = w.1 24 s := fun s hs => by
      split
      · exact wI_o (by omega)
      · rfl
    refine ⟨fun q hq => (a1 q hq).trans (o1 q hq), a2.trans o2, fun s => ?_⟩
    rw [a3 s]
    by_cases e : s = i
    · subst e
      rw [if_neg (by omega)]
      by_cases c : (sThing w (nI s) && !decide (w.1 24 s < n)) = true
      · rw [if_pos c, if_pos ⟨by omega, c⟩, wI_s]
      · rw [if_neg c, if_neg (fun e => c e.2)]
    · have e1 : ∀ x, x < 8 → x ≠ i → sThing (if (sThing w (nI i) && !decide (w.1 24 i < n)) = true then wI w 24 i (-1) else w) (nI x) = sThing w (nI x) := fun x hx hxi => by
        exact sThing_c hx (o3 x hxi)
      rw [o3 s e]
      by_cases c : i ≤ s ∧ s < i + (m + 1)
      · rw [e1 s (by omega) e]
        by_cases c2 : (sThing w (nI s) && !decide (w.1 24 s < n)) = true
        · rw [if_pos ⟨by omega, c2⟩, if_pos ⟨c, c2⟩]
        · rw [if_neg (fun e => c2 e.2), if_neg (fun e => c2 e.2)]
      · rw [if_neg (fun e => c (by omega)), if_neg (fun e => c e.1)]
theorem mDrp_is : ∀ (m i : Nat) (w : hW), (∀ q, q ≠ 58 → (mDrp i m w).1 q = w.1 q) ∧ (mDrp i m w).2 = w.2 ∧ ∀ s, (mDrp i m w).1 58 s = if (i ≤ s ∧ s < i + m) ∧ (w.1 58 s = 2 ∧ ¬ w.1 61 s < w.1 45 0) then 0 else w.1 58 s
  | 0, i, w => ⟨fun _ _ => rfl, rfl, fun s => by rw [if_neg (by omega)]; rfl⟩
  | m + 1, i, w => by
    unfold mDrp
    have eW : (if w.1 58 i = 2 then (if w.1 61 i < w.1 45 0 then w else wI w 58 i 0) else w) = (if w.1 58 i = 2 ∧ ¬ w.1 61 i < w.1 45 0 then wI w 58 i 0 else w) := by
      by_cases c1 : w.1 58 i = 2
      · by_cases c2 : w.1 61 i < w.1 45 0
        · rw [if_pos c1, if_pos c2, if_neg (fun e => e.2 c2)]
        · rw [if_pos c1, if_neg c2, if_pos ⟨c1, c2⟩]
      · rw [if_neg c1, if_neg (fun e => c1 e.1)]
    rw [eW]
    obtain ⟨a1, a2, a3⟩ := mDrp_is m (i + 1) (if w.1 58 i = 2 ∧ ¬ w.1 61 i < w.1 45 0 then wI w 58 i 0 else w)
    have o1 : ∀ q, q ≠ 58 → (if w.1 58 i = 2 ∧ ¬ w.1 61 i < w.1 45 0 then wI w 58 i 0 else w).1 q = w.1 q := fun q hq => by
      split
      · exact wI_q hq
      · rfl
    have o2 : (if w.1 58 i = 2 ∧ ¬ w.1 61 i < w.1 45 0 then wI w 58 i 0 else w).2 = w.2 := by split <;> rfl
    have o3 : ∀ s, s ≠ i → (if w.1 58 i = 2 ∧ ¬ w.1 61 i < w.1 45 0 then wI w 58 i 0 else w).1 58 s = w.1 58 s := fun s hs => by
      split
      · exact wI_o (by omega)
      · rfl
    refine ⟨fun q hq => (a1 q hq).trans (o1 q hq), a2.trans o2, fun s => ?_⟩
    rw [a3 s, o1 61 (by omega), o1 45 (by omega)]
    by_cases e : s = i
    · subst e
      rw [if_neg (by omega)]
      by_cases c : w.1 58 s = 2 ∧ ¬ w.1 61 s < w.1 45 0
      · rw [if_pos c, if_pos ⟨by omega, c⟩, wI_s]
      · rw [if_neg c, if_neg (fun e => c e.2)]
    · rw [o3 s e]
      by_cases c : i ≤ s ∧ s < i + (m + 1)
      · by_cases c2 : w.1 58 s = 2 ∧ ¬ w.1 61 s < w.1 45 0
        · rw [if_pos ⟨by omega, c2⟩, if_pos ⟨c, c2⟩]
        · rw [if_neg (fun e => c2 e.2), if_neg (fun e => c2 e.2)]
      · rw [if_neg (fun e => c (by omega)), if_neg (fun e => c e.1)]
theorem sHas_nI {s : Nat} (h : s < 8) : sHas (nI s) = true := by
  unfold sHas
  simp only [Bool.and_eq_true, Bool.not_eq_true', decide_eq_false_iff_not, decide_eq_true_eq, i32_lt, i32_0, i32_8, nI_toInt (show s < 2 ^ 31 by omega)]
  omega
theorem sim_restore (h : R p u) : Sim p u (xRestore p) (mRestore u) := by
  unfold xRestore mRestore xNo
  have hk := h.2.2.2.2.2.1
  by_cases c0 : u.1 45 49 = 0
  · rw [if_pos c0, if_pos (by rw [hk.1]; exact c0)]; exact Sim_no h k6
  · rw [if_neg c0, if_neg (by rw [hk.1]; exact c0)]
    obtain ⟨hv9, ok9⟩ := hk.2 c0
    have hP : VR (vTake p 2 9) 2 (vwK u 67) := VR_take iv2 iv9 (by omega) h.1.1 hv9
    have hv : VR (vTake p 2 9) 2 (vwM (mLd u 67)) := VR_ext hP eqV_ld
    have hok : Ok (vwM (mLd u 67)) := Ok_ext ok9 eqV_ld
    have en : (vTake p 2 9).1 3 3 = u.1 67 76 := hP.2.1
    have en2 : (mLd u 67).1 45 0 = u.1 67 76 := by rw [← en]; exact hv.2.1.symm
    rw [en]
    obtain ⟨x1, x2, x3⟩ := sDrop_is (n := u.1 67 76) 8 0 (vTake p 2 9) (by omega)
    obtain ⟨m1, m2, m3⟩ := mDrp_is 8 0 (mLd u 67)
    have fl := frm_ld (u := u) (q := 67)
    obtain ⟨r1, r2, ⟨r3, r4⟩, r5, r6, ⟨r7, r8⟩, r9, ⟨ra, rb, rc⟩, rd⟩ := h
    have X1 : ∀ q, q ≠ 24 → (q < 2 ∨ 8 < q) → (sDrop (u.1 67 76) 0 8 (vTake p 2 9)).1 q = p.1 q := fun q h1 h2 => (x1 q h1).trans (vTake_o iv2 (by omega))
    have M1 : ∀ q, q ≠ 58 → q ≠ 45 → (q < 47 ∨ 57 < q) → (mDrp 0 8 (mLd u 67)).1 q = u.1 q := fun q h1 h2 h3 => (m1 q h1).trans (fl.1 q h2 h3)
    have M2 : ∀ j, 9 ≤ j → (mDrp 0 8 (mLd u 67)).1 45 j = u.1 45 j := fun j hj => by rw [m1 45 (by omega)]; exact fl.2.1 j hj
    have hvM : eqV (vwM (mLd u 67)) (vwM (mDrp 0 8 (mLd u 67))) := ⟨fun k hk => by unfold vwM; rw [if_pos rfl, if_pos rfl, m1 45 (by omega)], fun c i h1 h2 _ => by unfold vwM; rw [if_neg (by omega), if_neg (by omega), m1 _ (by omega)], fun c i h1 h2 _ => by unfold vwM; rw [if_neg (by omega), if_neg (by omega), m1 _ (by omega)]⟩
    have hkM : vwK (mDrp 0 8 (mLd u 67)) 67 = vwK u 67 := by funext c i; unfold vwK; rw [M1 67 (by omega) (by omega) (by omega)]
    have S2 : (sDrop (u.1 67 76) 0 8 (vTake p 2 9)).2 = p.2 := by rw [x2]; rfl
    have S3 : (mDrp 0 8 (mLd u 67)).2 = u.2 := by rw [m2]; rfl
    generalize sDrop (u.1 67 76) 0 8 (vTake p 2 9) = P' at x1 x2 x3 X1 S2 ⊢
    generalize mDrp 0 8 (mLd u 67) = U' at m1 m2 m3 M1 M2 hvM hkM S3 ⊢
    refine ⟨rfl, ⟨VR_ext (VR_o hv (fun q a a' => x1 q (by omega))) hvM, Ok_ext hok hvM, ⟨vI_o r3 (fun q a a' => X1 q (by omega) (by omega)), vI_o r4 (fun q a a' => X1 q (by omega) (by omega))⟩, fun s hs => ?_, fun k a a' => ?_, ⟨?_, fun e => ?_⟩, ?_, ⟨?_, ?_, fun j hj => ?_⟩, fun i hi => ?_⟩, ⟨fun q hq => X1 q (by omega) (by omega), fun q _ => by rw [S2]⟩, ⟨fun q hq => M1 q (by omega) (by omega) (by omega), fun q _ => by rw [S3]⟩⟩
    · have hS := r5 s hs
      have c24 : (vTake p 2 9).1 24 = p.1 24 := vTake_o iv2 (by omega)
      have e24 := x3 s
      rw [c24] at e24
      have e58 := m3 s
      rw [fl.1 58 (by omega) (by omega), fl.1 61 (by omega) (by omega), en2] at e58
      have nc : (nI s).toNatClampNeg = s := nI_cl (by omega)
      have sh := sHas_nI hs
      have S1 : P'.1 25 = p.1 25 := X1 25 (by omega) (by omega)
      unfold RS at hS ⊢
      rw [M1 59 (by omega) (by omega) (by omega), M1 60 (by omega) (by omega) (by omega), M1 61 (by omega) (by omega) (by omega), S1, S2, S3]
      obtain ⟨hz, ⟨e1, e2, e3⟩ | ⟨e1, e2, e3, e4, e5⟩ | ⟨e1, e2, e3, e4⟩⟩ := hS
      · have hth := (sh_0 (p := vTake p 2 9) (s := nI s) sh (by rw [nc, c24]; exact e2)).2.2
        rw [hth, if_neg (by simp)] at e24
        rw [e1, if_neg (fun e => absurd e.2.1 (by decide))] at e58
        rw [e24, e58]
        exact ⟨hz, Or.inl ⟨rfl, e2, e3⟩⟩
      · have hth := (sh_1 (p := vTake p 2 9) (s := nI s) sh e3 (by rw [nc, c24]; exact e2)).2.2
        rw [hth, if_neg (by simp)] at e24
        rw [e1, if_neg (fun e => absurd e.2.1 (by decide))] at e58
        rw [e24, e58]
        exact ⟨hz, Or.inr (Or.inl ⟨rfl, e2, e3, e4, e5⟩)⟩
      · have hr : 0 ≤ (u.1 61 s).toInt ∧ (u.1 61 s).toInt ≤ 8 := by
          have o0 := r2.1.1.2
          have o0' : (u.1 45 0).toInt ≤ 8 := o0
          simp only [mThing, Bool.and_eq_true, Bool.not_eq_true', decide_eq_false_iff_not, decide_eq_true_eq, i32_lt, i32_0] at e3
          omega
        have hth := (sh_2 (p := vTake p 2 9) (s := nI s) sh hr (by rw [nc, c24]; exact e2)).2.2
        rw [hth, e2] at e24
        rw [e1] at e58
        by_cases c : u.1 61 s < u.1 67 76
        · rw [if_neg (by simp [c])] at e24
          rw [if_neg (fun e => e.2.2 c)] at e58
          rw [e24, e58]
          refine ⟨hz, Or.inr (Or.inr ⟨rfl, rfl, ?_, e4⟩)⟩
          unfold mThing
          rw [m1 45 (by omega), en2]
          simp only [Bool.and_eq_true, Bool.not_eq_true', decide_eq_false_iff_not, decide_eq_true_eq]
          exact ⟨by rw [i32_lt, i32_0]; omega, c⟩
        · rw [if_pos ⟨by omega, by simp [c]⟩] at e24
          rw [if_pos ⟨by omega, rfl, c⟩] at e58
          rw [e24, e58]
          exact ⟨hz, Or.inl ⟨rfl, rfl, e4⟩⟩
    · show P'.1 1 k = U'.1 46 k
      rw [X1 1 (by omega) (by omega), M1 46 (by omega) (by omega) (by omega)]; exact r6 k a a'
    · show P'.1 0 9 = U'.1 45 49
      rw [X1 0 (by omega) (by omega), M2 49 (by omega)]; exact r7
    · have e' : u.1 45 49 ≠ 0 := c0
      show VR P' 9 (vwK U' 67) ∧ Ok (vwK U' 67)
      rw [hkM]
      exact ⟨VR_o (r8 e').1 (fun q a a' => X1 q (by omega) (by omega)), (r8 e').2⟩
    · show P'.1 0 10 = U'.1 45 9
      rw [X1 0 (by omega) (by omega), M2 9 (by omega)]; exact r9
    · show P'.1 43 1 = U'.1 45 48
      rw [X1 43 (by omega) (by omega), M2 48 (by omega)]; exact ra
    · show 0 ≤ (U'.1 45 48).toInt
      rw [M2 48 (by omega)]; exact rb
    · show P'.1 44 j = U'.1 77 j
      rw [X1 44 (by omega) (by omega), M1 77 (by omega) (by omega) (by omega)]; exact rc j hj
    · show U'.1 64 i = _
      rw [M1 64 (by omega) (by omega) (by omega)]; exact rd i hi
/-! judge: the class moves its scratch valley, and counts; the model moves its own, and takes it back -/
theorem mI_of (h : Ok (vwM u)) (h60 : ∀ s, s < 8 → 0 ≤ (u.1 60 s).toInt ∧ (u.1 60 s).toInt ≤ 160) (h61 : ∀ s, s < 8 → u.1 58 s = 2 → mThing u (u.1 61 s) = true) : mI u := by
  obtain ⟨⟨o0, o1, o2, o3, o4, o5⟩, oT, oM, oW⟩ := h
  refine ⟨o0, o1, o2, fun t ht => ⟨(oT t ht).2.1, (oT t ht).2.2.1⟩, h60, h61, fun i hi => ?_, fun t ht => ?_⟩
  · have h2 := (oW i hi).1
    unfold mThing
    simp only [Bool.and_eq_true, Bool.not_eq_true', decide_eq_false_iff_not, decide_eq_true_eq, i32_lt, i32_0]
    exact ⟨Int.not_lt.mpr h2.1, h2.2⟩
  · rcases (oT t ht).2.2.2.2.1 with h2 | h2
    · exact Or.inl h2
    · right
      unfold mMan
      simp only [Bool.and_eq_true, Bool.not_eq_true', decide_eq_false_iff_not, decide_eq_true_eq, i32_lt, i32_0]
      exact ⟨Int.not_lt.mpr h2.1, h2.2⟩
theorem mWhy_gh {y m t dd : Int32} : mWhy (wI u 45 8 y) m t dd = mWhy u m t dd := by
  have e : ∀ k, k ≠ 8 → (wI u 45 8 y).1 45 k = u.1 45 k := fun k hk => wI_o (by omega)
  have f : ∀ q, q ≠ 45 → (wI u 45 8 y).1 q = u.1 q := fun q hq => wI_q hq
  unfold mWhy mFar mFarBy mWet
  rw [e 3 (by omega), e 4 (by omega), e 5 (by omega), e 6 (by omega), f 47 (by omega), f 48 (by omega), f 49 (by omega), f 50 (by omega), f 51 (by omega), f 52 (by omega), f 53 (by omega), f 54 (by omega)]
theorem vwM_car0 {m t dd : Int32} : vwM (mCar u m t dd) = vset (vset (vset (vwM u) 4 t.toNatClampNeg (u.1 50 t.toNatClampNeg + dd)) 5 t.toNatClampNeg m) 8 m.toNatClampNeg (iLow 99 (vwM u 8 m.toNatClampNeg + vwM u 2 t.toNatClampNeg / 10 + 1)) := by
  unfold mCar mTir
  rw [vw8, vw5, vw4]
  have e8 : (wI (wI u 50 t.toNatClampNeg (u.1 50 t.toNatClampNeg + dd)) 51 t.toNatClampNeg m).1 54 m.toNatClampNeg = vwM u 8 m.toNatClampNeg := by rw [wI_q (by omega), wI_q (by omega)]; rfl
  have e2 : (wI (wI u 50 t.toNatClampNeg (u.1 50 t.toNatClampNeg + dd)) 51 t.toNatClampNeg m).1 48 t.toNatClampNeg = vwM u 2 t.toNatClampNeg := by rw [wI_q (by omega), wI_q (by omega)]; rfl
  rw [e8, e2]
theorem car_gh {y m t dd : Int32} : vwM (mDone (mCar (wI u 45 8 y) m t dd)) = vset (vwM (mCar u m t dd)) 0 8 (y + 1) := by
  rw [vwM_car, vwM_car0, vwM_0]
  unfold movV
  have e50 : (wI u 45 8 y).1 50 = u.1 50 := wI_q (by omega)
  rw [e50, vset_c (V := vwM u) (a := 8) (by omega), vset_c (V := vwM u) (a := 2) (by omega), vset_s]
  funext a j
  simp only [vset]
  by_cases e : a = 0 ∧ j = 8
  · rw [if_pos e, if_pos e]
  · rw [if_neg e, if_neg e, if_neg e]
theorem car_o {m t dd : Int32} : (∀ q, q ≠ 50 → q ≠ 51 → q ≠ 54 → (mCar u m t dd).1 q = u.1 q) ∧ (mCar u m t dd).2 = u.2 := by
  unfold mCar mTir
  exact ⟨fun q h1 h2 h3 => by rw [wI_q h3, wI_q h2, wI_q h1], rfl⟩
theorem judge_l {p u : hW} (h : R p u) {t s : Int32} {n : Nat} (hs : sHas s = true) (h1 : u.1 58 s.toNatClampNeg = 1) (hn : 2 * (n : Int) ≤ (u.1 60 s.toNatClampNeg).toInt) (ht : mThing u t = true) : ∀ (r c : Nat) (w v : hW) (y : Int32), c + r = n → VR w 16 (vset (vwM v) 0 8 y) → Ok (vwM v) → frb 16 p w → (∀ q, q ≠ 50 → q ≠ 51 → q ≠ 54 → v.1 q = (mSv u 68).1 q) → v.2 = u.2 → (jgL t s c r w).1 = (mJL t s c r v).1 ∧ frb 16 p (jgL t s c r w).2 ∧ vI (jgL t s c r w).2 16 ∧ (∀ q, q ≠ 50 → q ≠ 51 → q ≠ 54 → (mJL t s c r v).2.1 q = (mSv u 68).1 q) ∧ (mJL t s c r v).2.2 = u.2
  | 0, c, w, v, y, hc, hv, hk, hf, hm, hm2 => ⟨rfl, hf, hv.1, hm, hm2⟩
  | r + 1, c, w, v, y, hc, hv, hk, hf, hm, hm2 => by
    have hz := (h.2.2.2.1 _ (sHas_lt hs)).1
    have gv : vset (vwM v) 0 8 y = vwM (wI v 45 8 y) := vwM_0.symm
    have sl : ∀ i, i < 2 * n → (sLong w s (nI i)).toInt32 = mInt v s (nI i) := by
      intro i hi
      have sp : sSpan p s (nI i) 1 = true := by
        rw [span_1 h hs h1]
        simp only [Bool.and_eq_true, Bool.not_eq_true', decide_eq_false_iff_not, decide_eq_true_eq, i32_lt, i32_0, nI_toInt (show i < 2 ^ 31 by omega)]
        omega
      have e1 : sLong w s (nI i) = sLong p s (nI i) := by
        unfold sLong sSpan sSize
        rw [hf.1 25 (by omega), hf.2]
      rw [e1, long_m h hs h1 sp]
      unfold mInt
      rw [hm2]
    have i2 : 2 * nI c = nI (2 * c) := by
      have e2 : (2 : Int32).toInt = 2 := rfl
      rw [i32_eq, i32_mul (by rw [e2, nI_toInt (by omega)]; omega) (by rw [e2, nI_toInt (by omega)]; omega), e2, nI_toInt (by omega), nI_toInt (by omega)]
      omega
    have i3 : 2 * nI c + 1 = nI (2 * c + 1) := by rw [i2]; exact nI_sum (2 * c) 1
    have hg : VR w 16 (vwM (wI v 45 8 y)) := by rw [← gv]; exact hv
    have okg : Ok (vwM (wI v 45 8 y)) := by rw [← gv]; exact Ok_seed hk (Or.inr rfl)
    have e1 : (wI v 45 8 y).1 45 1 = v.1 45 1 := wI_o (by omega)
    have e0 : (wI v 45 8 y).1 45 0 = v.1 45 0 := wI_o (by omega)
    have v45 : v.1 45 = u.1 45 := by rw [hm 45 (by omega) (by omega) (by omega), mSv_p (by omega)]
    have ht2 : mThing (wI v 45 8 y) t = true := by unfold mThing at ht ⊢; rw [e0, v45]; exact ht
    unfold jgL mJL
    rw [i3, i2, sl _ (by omega), sl _ (by omega)]
    generalize mInt v s (nI (2 * c)) = m
    generalize mInt v s (nI (2 * c + 1)) = dd
    have em : tHas w 19 m = mMan v m := by
      have := hasM hg (t := m)
      rw [show tHas w 19 m = tHas w (16 + 3) m from rfl, this]
      unfold mMan
      rw [e1]
    rw [em]
    by_cases hM : mMan v m = true
    · rw [if_pos hM, if_pos hM]
      have hM2 : mMan (wI v 45 8 y) m = true := by unfold mMan at hM ⊢; rw [e1]; exact hM
      have hI2 : mI (wI v 45 8 y) := by
        refine mI_of okg (fun s' hs' => ?_) (fun s' hs' e => ?_)
        · rw [wI_q (by omega), hm 60 (by omega) (by omega) (by omega), mSv_p (by omega)]
          exact (h.2.2.2.1 s' hs').1
        · rw [wI_q (by omega), hm 58 (by omega) (by omega) (by omega), mSv_p (by omega)] at e
          have hx := (R_mI h).2.2.2.2.2.1 s' hs' e
          unfold mThing at hx ⊢
          rw [e0, v45, wI_q (by omega), hm 61 (by omega) (by omega) (by omega), mSv_p (by omega)]
          exact hx
      have ew := why_m hg hI2 okg hM2 ht2 (dd := dd)
      rw [mWhy_gh] at ew
      rw [ew]
      by_cases hw : mWhy v m t (mNear dd) = 0
      · rw [if_pos hw, if_pos hw]
        have hw2 := hw
        rw [← mWhy_gh (y := y)] at hw2
        obtain ⟨en, hst⟩ := why_0 okg ht2 hw2
        have hm3 := hM2
        have ht3 := ht2
        rw [← hasM hg] at hm3
        rw [← hasT hg] at ht3
        have rm := mM_rng hI2 hM2
        have rt := mT_rng hI2 ht2
        have q := VR_had iv16 hg hm3 ht3 (dd := dd) (st := (wI v 45 8 y).1 50 t.toNatClampNeg + dd) (had := m) (by rw [step_m hg ht2])
        rw [← vwM_car, car_gh] at q
        have ok2 : Ok (vwM (mCar v m t dd)) := by
          have o1 : Ok (vwM (mDone (mCar (wI v 45 8 y) m t dd))) := by
            rw [vwM_car]
            exact Ok_mov okg (by rw [i32_clamp]; show _ < ((wI v 45 8 y).1 45 1).toInt; omega) (by rw [i32_clamp]; show _ < ((wI v 45 8 y).1 45 0).toInt; omega) hst (Or.inr ⟨rm.1, rm.2.1⟩)
          have o2 := Ok_seed o1 (k := 8) (Or.inr rfl) (v := vwM (mCar v m t dd) 0 8)
          rw [car_gh] at o2
          have e : vset (vset (vwM (mCar v m t dd)) 0 8 (y + 1)) 0 8 (vwM (mCar v m t dd) 0 8) = vwM (mCar v m t dd) := by
            funext a j
            simp only [vset]
            by_cases e : a = 0 ∧ j = 8
            · rw [if_pos e, e.1, e.2]
            · rw [if_neg e, if_neg e]
          rw [e] at o2
          exact o2
        exact judge_l h hs h1 hn ht r (c + 1) _ _ (y + 1) (by omega) q ok2 (frb.tr hf frb_bring) (fun q h1 h2 h3 => (car_o.1 q h1 h2 h3).trans (hm q h1 h2 h3)) (car_o.2.trans hm2)
      · rw [if_neg hw, if_neg hw]
        exact ⟨rfl, hf, hv.1, hm, hm2⟩
    · rw [if_neg hM, if_neg hM]
      exact ⟨rfl, hf, hv.1, hm, hm2⟩
theorem sim_judge (h : R p u) {t s n : Int32} : Sim p u (xJudge p t s n) (mJudge u t s n) := by
  unfold xJudge mJudge xNo
  rw [hasT h.1, sNo_m h]
  by_cases ht : mThing u t = true
  · rw [if_pos ht, if_pos ht]
    by_cases hb : mBars u s = 0
    · obtain ⟨hs, h1⟩ := bars_row h hb
      rw [if_pos hb, if_pos hb]
      by_cases hn : n < 0
      · rw [if_pos hn, if_pos hn]; exact Sim_no h k4
      · rw [if_neg hn, if_neg hn, size_m h hs h1]
        have hz := (h.2.2.2.1 _ (sHas_lt hs)).1
        have e2 : (2 : Int32).toInt = 2 := rfl
        have e64 : (2 : Int64).toInt = 2 := rfl
        have e40 : (40 : Int32).toInt = 40 := rfl
        have ln := Int32.toInt_lt n
        rw [i32_lt, i32_0] at hn
        have m64 : (2 * n.toInt64).toInt = 2 * n.toInt := by
          rw [Int64.toInt_mul, e64, toI64, Int.bmod_eq_of_le (by omega) (by omega)]
        have dv := i32_div (a := u.1 60 s.toNatClampNeg) (b := 2) hz.1 (by rw [e2]; omega)
        rw [e2] at dv
        by_cases c5 : u.1 60 s.toNatClampNeg / 2 < n
        · rw [if_pos c5, if_pos (by rw [i64_lt, toI64, m64]; rw [i32_lt, dv] at c5; omega)]; exact Sim_no h k5
        · rw [if_neg c5, if_neg (by rw [i64_lt, toI64, m64]; rw [i32_lt, dv] at c5; omega)]
          rw [i32_lt, dv] at c5
          by_cases c6 : 40 < n
          · rw [if_pos c6, if_pos c6]; exact Sim_no h k6
          · rw [if_neg c6, if_neg c6]
            have v0 : VR (vTake p 16 2) 16 (vset (vwM (mSv u 68)) 0 8 (u.1 45 8)) := by
              refine VR_ext (VR_take iv16 iv2 (by omega) h.2.2.1.2 h.1) ?_
              have o : ∀ q, q ≠ 68 → (mSv u 68).1 q = u.1 q := fun q hq => mSv_p hq
              refine ⟨fun k hk => ?_, fun c i a a' _ => ?_, fun c i a a' _ => ?_⟩
              · by_cases e : k = 8
                · rw [e, vset_s]; rfl
                · rw [vset_o (by omega)]; unfold vwM; rw [if_pos rfl, if_pos rfl, o _ (by omega)]
              · rw [vset_c (by omega)]; unfold vwM; rw [if_neg (by omega), if_neg (by omega), o _ (by omega)]
              · rw [vset_c (by omega)]; unfold vwM; rw [if_neg (by omega), if_neg (by omega), o _ (by omega)]
            have ok0 : Ok (vwM (mSv u 68)) := by
              refine Ok_ext h.2.1 ?_
              have o : ∀ q, q ≠ 68 → (mSv u 68).1 q = u.1 q := fun q hq => mSv_p hq
              exact ⟨fun k hk => by unfold vwM; rw [if_pos rfl, if_pos rfl, o _ (by omega)], fun c i h1 h2 _ => by unfold vwM; rw [if_neg (by omega), if_neg (by omega), o _ (by omega)], fun c i h1 h2 _ => by unfold vwM; rw [if_neg (by omega), if_neg (by omega), o _ (by omega)]⟩
            have nn : n.toNatClampNeg = n.toInt.toNat := rfl
            obtain ⟨j1, j2, j3, j4, j5⟩ := judge_l h (n := n.toNatClampNeg) hs h1 (by omega) ht n.toNatClampNeg 0 (vTake p 16 2) (mSv u 68) (u.1 45 8) (by omega) v0 ok0 (frb_take iv16) (fun _ _ _ _ => rfl) rfl
            generalize hx : jgL t s 0 n.toNatClampNeg (vTake p 16 2) = X at j1 j2 j3 j4 j5
            generalize hm : mJL t s 0 n.toNatClampNeg (mSv u 68) = M at j1 j2 j3 j4 j5
            have fl := frm_ld (u := M.2) (q := 68)
            have ev : eqV (vwM u) (vwM (mLd M.2 68)) := by
              refine eqV.tr (eqV_sv (q := 68)) (eqV.tr ?_ eqV_ld)
              have : vwK M.2 68 = vwK (mSv u 68) 68 := by funext c i; unfold vwK; rw [j4 68 (by omega) (by omega) (by omega)]
              rw [this]
              exact eqV.rf
            have M1 : ∀ q, q ≠ 45 → (q < 47 ∨ 57 < q) → q ≠ 68 → (mLd M.2 68).1 q = u.1 q := fun q h1 h2 h3 => by rw [fl.1 q h1 h2, j4 q (by omega) (by omega) (by omega), mSv_p h3]
            have M2 : ∀ j, 9 ≤ j → (mLd M.2 68).1 45 j = u.1 45 j := fun j hj => by rw [fl.2.1 j hj, j4 45 (by omega) (by omega) (by omega), mSv_p (by omega)]
            have z0 := ev.1 0 (by omega)
            have z0' : u.1 45 0 = (mLd M.2 68).1 45 0 := z0
            refine ⟨j1, R_val h (VR_ext (VR_o h.1 (fun q a a' => j2.1 q (by omega))) ev) (Ok_ext h.2.1 ev) (by show _ ≤ ((mLd M.2 68).1 45 0).toInt; rw [← z0']; exact Int.le_refl _) ⟨fun q hq => j2.1 q (by omega), fun q a a' => j2.1 q (by omega), fun q a a' => j2.1 q (by omega), by rw [j2.1 43 (by omega)], j2.1 44 (by omega), fun q _ => by rw [j2.2], j3⟩ ⟨M1 _ (by omega) (by omega) (by omega), fun q a a' => M1 _ (by omega) (by omega) (by omega), M1 _ (by omega) (by omega) (by omega), M1 _ (by omega) (by omega) (by omega), M1 _ (by omega) (by omega) (by omega), M2 _ (by omega), M2 _ (by omega), M2 _ (by omega), ?_⟩, ⟨fun q hq => j2.1 q (by omega), fun q _ => by rw [j2.2]⟩, ⟨fun q hq => M1 q (by omega) (by omega) (by omega), fun q _ => ?_⟩⟩
            · show (mLd M.2 68).2 62 = _
              rw [fl.2.2, j5]
            · show (mLd M.2 68).2 q = _
              rw [fl.2.2, j5]
    · rw [if_neg hb, if_neg hb]; exact Sim_no h (bars_k h hb)
  · rw [if_neg ht, if_neg ht]; exact Sim_no h k1
end

/-! THE TWO SIDES ALIKE: parts, image, restore, judge -/
section
variable {p u p' u' : hW} {b : Nat} {V : Nat → Nat → Int32}
theorem Ok_T3 (h : Ok V) {t : Nat} {k wt ex : Int32} (hk : 0 ≤ k.toInt ∧ k.toInt ≤ 6) (hw : 1 ≤ wt.toInt ∧ wt.toInt ≤ 99) (he : 1 ≤ ex.toInt ∧ ex.toInt ≤ 9) : Ok (vset (vset (vset V 1 t k) 2 t wt) 3 t ex) := by
  obtain ⟨⟨o0, o1, o2, o3, o4, o5⟩, oT, oM, oW⟩ := h
  have e : ∀ c j, c ≠ 1 → c ≠ 2 → c ≠ 3 → vset (vset (vset V 1 t k) 2 t wt) 3 t ex c j = V c j := fun c j h1 h2 h3 => by rw [vset_c h3, vset_c h2, vset_c h1]
  have S : ∀ {x}, Std V x → Std (vset (vset (vset V 1 t k) 2 t wt) 3 t ex) x := fun hx => Std_V (e 0 3 (by omega) (by omega) (by omega)) (e 0 4 (by omega) (by omega) (by omega)) (e 0 5 (by omega) (by omega) (by omega)) hx
  refine ⟨⟨?_, ?_, ?_, ?_, ?_, ?_⟩, fun t' ht' => ?_, fun m' hm' => ?_, fun i hi => ?_⟩
  · rw [e 0 0 (by omega) (by omega) (by omega)]; exact o0
  · rw [e 0 1 (by omega) (by omega) (by omega)]; exact o1
  · rw [e 0 2 (by omega) (by omega) (by omega)]; exact o2
  · rw [e 0 3 (by omega) (by omega) (by omega)]; exact o3
  · rw [e 0 3 (by omega) (by omega) (by omega), e 0 4 (by omega) (by omega) (by omega), e 0 5 (by omega) (by omega) (by omega)]; exact o4
  · rw [e 0 6 (by omega) (by omega) (by omega)]; exact o5
  · rw [e 0 0 (by omega) (by omega) (by omega)] at ht'
    obtain ⟨b1, b2, b3, b4, b5, b6⟩ := oT t' ht'
    rw [e 4 t' (by omega) (by omega) (by omega), e 5 t' (by omega) (by omega) (by omega), e 6 t' (by omega) (by omega) (by omega), e 0 1 (by omega) (by omega) (by omega)]
    have f1 : vset (vset (vset V 1 t k) 2 t wt) 3 t ex 1 t' = if t' = t then k else V 1 t' := by
      rw [vset_c (by omega), vset_c (by omega)]
      simp [vset]
    have f2 : vset (vset (vset V 1 t k) 2 t wt) 3 t ex 2 t' = if t' = t then wt else V 2 t' := by
      rw [vset_c (by omega)]
      simp [vset]
    have f3 : vset (vset (vset V 1 t k) 2 t wt) 3 t ex 3 t' = if t' = t then ex else V 3 t' := by
      simp [vset]
    rw [f1, f2, f3]
    by_cases c : t' = t
    · rw [if_pos c, if_pos c, if_pos c]
      exact ⟨hk, hw, he, S b4, b5, b6⟩
    · rw [if_neg c, if_neg c, if_neg c]
      exact ⟨b1, b2, b3, S b4, b5, b6⟩
  · rw [e 0 1 (by omega) (by omega) (by omega)] at hm'
    rw [e 7 m' (by omega) (by omega) (by omega), e 8 m' (by omega) (by omega) (by omega)]
    exact oM m' hm'
  · rw [e 0 2 (by omega) (by omega) (by omega)] at hi
    obtain ⟨b1, b2, b3⟩ := oW i hi
    rw [e 9 i (by omega) (by omega) (by omega), e 10 i (by omega) (by omega) (by omega), e 11 i (by omega) (by omega) (by omega), e 0 0 (by omega) (by omega) (by omega)]
    exact ⟨b1, S b2, b3⟩
theorem Ok_had (h : Ok V) {t : Nat} {had : Int32} (hh : had = -1 ∨ (0 ≤ had.toInt ∧ had.toInt < (V 0 1).toInt)) : Ok (vset V 5 t had) := by
  obtain ⟨⟨o0, o1, o2, o3, o4, o5⟩, oT, oM, oW⟩ := h
  have e : ∀ c j, c ≠ 5 → vset V 5 t had c j = V c j := fun c j hc => vset_c hc
  have S : ∀ {x}, Std V x → Std (vset V 5 t had) x := fun hx => Std_V (e 0 3 (by omega)) (e 0 4 (by omega)) (e 0 5 (by omega)) hx
  refine ⟨⟨?_, ?_, ?_, ?_, ?_, ?_⟩, fun t' ht' => ?_, fun m' hm' => ?_, fun i hi => ?_⟩
  · rw [e 0 0 (by omega)]; exact o0
  · rw [e 0 1 (by omega)]; exact o1
  · rw [e 0 2 (by omega)]; exact o2
  · rw [e 0 3 (by omega)]; exact o3
  · rw [e 0 3 (by omega), e 0 4 (by omega), e 0 5 (by omega)]; exact o4
  · rw [e 0 6 (by omega)]; exact o5
  · rw [e 0 0 (by omega)] at ht'
    obtain ⟨b1, b2, b3, b4, b5, b6⟩ := oT t' ht'
    rw [e 1 t' (by omega), e 2 t' (by omega), e 3 t' (by omega), e 4 t' (by omega), e 6 t' (by omega), e 0 1 (by omega)]
    refine ⟨b1, b2, b3, S b4, ?_, b6⟩
    unfold vset
    split
    · exact hh
    · exact b5
  · rw [e 0 1 (by omega)] at hm'
    rw [e 7 m' (by omega), e 8 m' (by omega)]
    exact oM m' hm'
  · rw [e 0 2 (by omega)] at hi
    obtain ⟨b1, b2, b3⟩ := oW i hi
    rw [e 9 i (by omega), e 10 i (by omega), e 11 i (by omega), e 0 0 (by omega)]
    exact ⟨b1, S b2, b3⟩
theorem cut1_m (h : VR p 2 (vwM u)) (hk : Ok (vwM u)) (h8 : (u.1 45 0).toInt < 8) {t wt : Int32} (ht : mThing u t = true) (hw : 1 ≤ wt.toInt ∧ wt.toInt ≤ 99) : VR (vCut1 p 2 t wt) 2 (vwM (mPt1 u t wt)) ∧ Ok (vwM (mPt1 u t wt)) ∧ frb 2 p (vCut1 p 2 t wt) ∧ frm u (mPt1 u t wt) ∧ ((mPt1 u t wt).1 45 0).toInt = (u.1 45 0).toInt + 1 ∧ mThing (mPt1 u t wt) t = true := by
  have es : vStep p 2 t = u.1 50 t.toNatClampNeg := step_m h ht
  have e0 : p.1 (2 + 1) 3 = u.1 45 0 := h.2.1
  have g0 := hk.1.1.1
  have g0' : 0 ≤ (u.1 45 0).toInt := g0
  have q := VR_addT iv2 h h8 (k := 0) (wt := wt) (ex := 1) (st := u.1 50 t.toNatClampNeg)
  have a1 := add1 (x := u.1 45 0) g0 (by omega)
  have en : (vwM (mAddT u 0 wt 1 (u.1 50 t.toNatClampNeg))) 0 0 = u.1 45 0 + 1 := by
    rw [vwM_addT]
    unfold addT
    rw [vset_s]
    rfl
  rw [← vwM_addT] at q
  have rt : 0 ≤ t.toInt ∧ t.toInt < (u.1 45 0).toInt := by
    simp only [mThing, Bool.and_eq_true, Bool.not_eq_true', decide_eq_false_iff_not, decide_eq_true_eq, i32_lt, i32_0] at ht
    omega
  have hT := Ok_T hk ht
  have hok : Ok (vwM (mAddT u 0 wt 1 (u.1 50 t.toNatClampNeg))) := by
    rw [vwM_addT]
    exact Ok_addT hk h8 (by rw [i32_0]; omega) hw (by decide) hT.2.2.2.1
  have hn : tHas (vAddT p 2 0 wt 1 (u.1 50 t.toNatClampNeg)) (2 + 1) (u.1 45 0) = true := by
    rw [VR_has q.2.1, en]
    simp only [Bool.and_eq_true, Bool.not_eq_true', decide_eq_false_iff_not, decide_eq_true_eq, i32_lt, i32_0, a1]
    omega
  have htt : tHas (vAddT p 2 0 wt 1 (u.1 50 t.toNatClampNeg)) (2 + 1) t = true := by
    rw [VR_has q.2.1, en]
    simp only [Bool.and_eq_true, Bool.not_eq_true', decide_eq_false_iff_not, decide_eq_true_eq, i32_lt, i32_0, a1]
    omega
  have c4 : tCell (vAddT p 2 0 wt 1 (u.1 50 t.toNatClampNeg)) (2 + 1) t 4 = (mAddT u 0 wt 1 (u.1 50 t.toNatClampNeg)).1 51 t.toNatClampNeg := vT4 q htt
  have ev : vwM (mPt1 u t wt) = vset (vwM (mAddT u 0 wt 1 (u.1 50 t.toNatClampNeg))) 5 (u.1 45 0).toNatClampNeg ((mAddT u 0 wt 1 (u.1 50 t.toNatClampNeg)).1 51 t.toNatClampNeg) := by
    unfold mPt1
    rw [vw5]
  have ez : (mPt1 u t wt).1 45 0 = u.1 45 0 + 1 := by
    show (vwM (mPt1 u t wt)) 0 0 = _
    rw [ev, vset_c (by omega)]
    exact en
  refine ⟨?_, ?_, ?_, ?_, ?_, ?_⟩
  · rw [ev]
    unfold vCut1
    rw [es, e0, c4]
    exact VR_putT q hn (c := 4) (by omega)
  · rw [ev]
    refine Ok_had hok ?_
    have := (hok.2.1 t.toNatClampNeg (by rw [en, a1, i32_clamp]; omega)).2.2.2.2.1
    exact this
  · unfold vCut1
    exact frb.tr frb_addT (frb_put (by omega) (by omega))
  · unfold mPt1
    exact frm.tr frm_addT (frm_c (by omega) (by omega))
  · rw [ez, a1]
  · exact mThing_le (by rw [ez, a1]; omega) ht
theorem cutL_m {t wt : Int32} (hw : 1 ≤ wt.toInt ∧ wt.toInt ≤ 99) : ∀ (r : Nat) (p u : hW), VR p 2 (vwM u) → Ok (vwM u) → mThing u t = true → (u.1 45 0).toInt + r ≤ 8 → VR (vCutL 2 t wt r p) 2 (vwM (mPtL t wt r u)) ∧ Ok (vwM (mPtL t wt r u)) ∧ frb 2 p (vCutL 2 t wt r p) ∧ frm u (mPtL t wt r u) ∧ (u.1 45 0).toInt ≤ ((mPtL t wt r u).1 45 0).toInt
  | 0, p, u, h, hk, _, _ => ⟨h, hk, frb.rf, frm.rf, Int.le_refl _⟩
  | r + 1, p, u, h, hk, ht, h8 => by
    have hf : ¬ tFull p (2 + 1) = true := by
      rw [full_m h hk.1.1]
      have : ¬ vwM u 0 0 = 8 := by
        rw [i32_eq, i32_8]
        show ¬ (u.1 45 0).toInt = 8
        omega
      rw [decide_eq_false this]
      decide
    obtain ⟨a1, a2, a3, a4, a5, a6⟩ := cut1_m h hk (by omega) ht hw
    obtain ⟨b1, b2, b3, b4, b5⟩ := cutL_m hw r _ _ a1 a2 a6 (by omega)
    unfold vCutL mPtL
    rw [if_neg hf]
    exact ⟨b1, b2, frb.tr a3 b3, frm.tr a4 b4, by omega⟩
theorem up_rng {wt ex : Int32} (hw : 1 ≤ wt.toInt ∧ wt.toInt ≤ 99) (he : 1 ≤ ex.toInt ∧ ex.toInt ≤ 9) : fUp wt ex = (wt + ex - 1) / ex ∧ (1 ≤ ((wt + ex - 1) / ex).toInt ∧ ((wt + ex - 1) / ex).toInt ≤ 99) := by
  have o : (1 : Int32).toInt = 1 := rfl
  have eu : fUp wt ex = (wt + ex - 1) / ex := by unfold fUp; rw [if_pos (by rw [i32_lt, i32_0]; omega)]
  have u1 := i32_add (a := wt) (b := ex) (by omega) (by omega)
  have u2 := i32_sub (a := wt + ex) (b := 1) (by rw [u1, o]; omega) (by rw [u1, o]; omega)
  have u3 : ((wt + ex - 1) / ex).toInt = (wt.toInt + ex.toInt - 1) / ex.toInt := by
    rw [i32_div (by rw [u2, u1, o]; omega) (by omega), u2, u1, o]
  have u4 := up_pos hw.1 he.1
  have u5 : (wt.toInt + ex.toInt - 1) / ex.toInt ≤ wt.toInt := by
    have : (wt.toInt + ex.toInt - 1) / ex.toInt < wt.toInt + 1 := by
      rw [Int.ediv_lt_iff_lt_mul (by omega)]
      have : (wt.toInt + 1) * 1 ≤ (wt.toInt + 1) * ex.toInt := Int.mul_le_mul_of_nonneg_left he.1 (by omega)
      rw [Int.add_mul] at this ⊢
      have e2 : wt.toInt * 1 ≤ wt.toInt * ex.toInt := Int.mul_le_mul_of_nonneg_left he.1 (by omega)
      omega
    omega
  exact ⟨eu, by rw [u3]; omega⟩
theorem sim_part (h : R p u) {t : Int32} : Sim p u (xPart p t) (mPart u t) := by
  unfold xPart mPart xNo
  rw [hasT h.1]
  by_cases ht : mThing u t = true
  · rw [if_pos ht, if_pos ht]
    have ht2 := ht
    rw [← hasT h.1] at ht2
    have k0 : tCell p 3 t 0 = u.1 47 t.toNatClampNeg := vT0 h.1 ht2
    have k1' : tCell p 3 t 1 = u.1 48 t.toNatClampNeg := vT1 h.1 ht2
    have k2' : tCell p 3 t 2 = u.1 49 t.toNatClampNeg := vT2 h.1 ht2
    have e0 : p.1 3 3 = u.1 45 0 := h.1.2.1
    rw [k0, k2', e0]
    by_cases c5 : u.1 47 t.toNatClampNeg = 5
    · rw [if_pos c5, if_pos c5]
      by_cases c8 : 8 < u.1 45 0 + u.1 49 t.toNatClampNeg - 1
      · rw [if_pos c8, if_pos c8]; exact Sim_no h k7
      · rw [if_neg c8, if_neg c8]
        have hT := Ok_T h.2.1 ht
        obtain ⟨w1, w2⟩ := up_rng hT.2.1 hT.2.2.1
        have g0 := h.2.1.1.1
        have g0' : 0 ≤ (u.1 45 0).toInt ∧ (u.1 45 0).toInt ≤ 8 := g0
        have e1 : (1 : Int32).toInt = 1 := rfl
        have hx := hT.2.2.1
        have s1 := i32_add (a := u.1 45 0) (b := u.1 49 t.toNatClampNeg) (by omega) (by omega)
        have s2 := i32_sub (a := u.1 45 0 + u.1 49 t.toNatClampNeg) (b := 1) (by rw [s1, e1]; omega) (by rw [s1, e1]; omega)
        rw [i32_lt, i32_8, s2, s1, e1] at c8
        -- the thing itself becomes a part
        have ev : vwM (mPt0 u t) = vset (vset (vset (vwM u) 1 t.toNatClampNeg 0) 2 t.toNatClampNeg (mPtW u t)) 3 t.toNatClampNeg 1 := by
          unfold mPt0
          rw [vw3, vw2, vw1]
        have t1 := vt1 iv2
        have q0 : VR (vCut0 p 2 t) 2 (vwM (mPt0 u t)) := by
          rw [ev]
          have hw : fUp (tCell p 3 t 1) (tCell p 3 t 2) = mPtW u t := by rw [k1', k2', w1]; rfl
          have r0 := VR_putT h.1 ht2 (c := 0) (by omega) (v := 0)
          have r1 := VR_putT r0 (by rw [tHas_tPut t1 t1]; exact ht2) (c := 1) (by omega) (v := mPtW u t)
          have r2 := VR_putT r1 (by rw [tHas_tPut t1 t1, tHas_tPut t1 t1]; exact ht2) (c := 2) (by omega) (v := 1)
          unfold vCut0
          show VR (tPut (tPut (tPut p (2 + 1) t 0 0) (2 + 1) t 1 (fUp (tCell p 3 t 1) (tCell p 3 t 2))) (2 + 1) t 2 1) 2 _
          rw [hw]
          exact r2
        have o0 : Ok (vwM (mPt0 u t)) := by
          rw [ev]
          exact Ok_T3 h.2.1 (by rw [i32_0]; omega) w2 (by decide)
        have z0 : (mPt0 u t).1 45 0 = u.1 45 0 := by
          show (vwM (mPt0 u t)) 0 0 = _
          rw [ev, vset_c (by omega), vset_c (by omega), vset_c (by omega)]
          rfl
        have t0 : mThing (mPt0 u t) t = true := by unfold mThing at ht ⊢; rw [z0]; exact ht
        obtain ⟨b1, b2, b3, b4, b5⟩ := cutL_m (t := t) (wt := mPtW u t) w2 ((u.1 49 t.toNatClampNeg).toInt - 1).toNat _ _ q0 o0 t0 (by rw [z0]; omega)
        have ec : vCut p 2 t = vCutL 2 t (mPtW u t) ((u.1 49 t.toNatClampNeg).toInt - 1).toNat (vCut0 p 2 t) := by
          unfold vCut
          show vCutL 2 t (fUp (tCell p 3 t 1) (tCell p 3 t 2)) ((tCell p 3 t 2).toInt - 1).toNat (vCut0 p 2 t) = _
          rw [k1', k2', w1]
          rfl
        have er : (vCut p 2 t).1 3 3 = (mPtA u t).1 45 0 := by
          rw [ec]
          exact b1.2.1
        rw [er, ec]
        refine Sim_val h (frb.tr ?_ b3) (frm.tr ?_ b4) b1 b2 (by rw [z0] at b5; exact b5)
        · unfold vCut0
          exact frb.tr (frb.tr (frb_put (by omega) (by omega)) (frb_put (by omega) (by omega))) (frb_put (by omega) (by omega))
        · unfold mPt0
          exact frm.tr (frm.tr (frm_c (by omega) (by omega)) (frm_c (by omega) (by omega))) (frm_c (by omega) (by omega))
    · rw [if_neg c5, if_neg c5]; exact Sim_no h k2
  · rw [if_neg ht, if_neg ht]; exact Sim_no h k1
/-! what is taken over, put away, taken back -/
theorem vTake_o {o q : Nat} (hb : isVal b) (h : q < b ∨ b + 6 < q) : (vTake p b o).1 q = p.1 q := by
  unfold vTake vTake3
  rw [wI_q (by omega), wI_q (by omega), wI_q (by omega), wI_q (by omega), wI_q (by omega), wI_q (by omega)]
  funext j
  rw [tTake_p (by omega) (by omega), tTake_p (by omega) (by omega), tTake_p (by omega) (by omega)]
theorem frb_take {o : Nat} (hb : isVal b) : frb b p (vTake p b o) := ⟨fun q hq => vTake_o hb hq, rfl⟩
theorem vTake_s {o k : Nat} (h3 : 3 ≤ k) (h8 : k ≤ 8) : (vTake p b o).1 b k = p.1 o k := by
  unfold vTake
  rcases (show k = 3 ∨ k = 4 ∨ k = 5 ∨ k = 6 ∨ k = 7 ∨ k = 8 by omega) with rfl | rfl | rfl | rfl | rfl | rfl <;> simp [wI]
theorem vTake_n {o : Nat} (hb : isVal b) (ho : isVal o) (hne : b ≠ o) {k : Nat} (hk : k = 1 ∨ k = 3 ∨ k = 5) : (vTake p b o).1 (b + k) 3 = p.1 (o + k) 3 := by
  unfold vTake vTake3
  rw [wI_q (by omega), wI_q (by omega), wI_q (by omega), wI_q (by omega), wI_q (by omega), wI_q (by omega)]
  unfold isVal at hb ho
  rcases hb with rfl | rfl | rfl <;> rcases ho with rfl | rfl | rfl <;> first | exact absurd rfl hne | (rcases hk with rfl | rfl | rfl <;> simp [tTake])
theorem vTake_c {o : Nat} (hb : isVal b) (ho : isVal o) (hne : b ≠ o) {k j : Nat} (hk : k = 2 ∨ k = 4 ∨ k = 6) (hj : j < 48) : (vTake p b o).1 (b + k) j = p.1 (o + k) j := by
  unfold vTake vTake3
  rw [wI_q (by omega), wI_q (by omega), wI_q (by omega), wI_q (by omega), wI_q (by omega), wI_q (by omega)]
  unfold isVal at hb ho
  rcases hb with rfl | rfl | rfl <;> rcases ho with rfl | rfl | rfl <;> first | exact absurd rfl hne | (rcases hk with rfl | rfl | rfl <;> simp [tTake, hj])
theorem vTake_m {o : Nat} (hb : isVal b) {k j : Nat} (hk : k = 1 ∨ k = 3 ∨ k = 5) (hj : j ≠ 3) : (vTake p b o).1 (b + k) j = p.1 (b + k) j := by
  unfold vTake vTake3
  rw [wI_q (by omega), wI_q (by omega), wI_q (by omega), wI_q (by omega), wI_q (by omega), wI_q (by omega)]
  unfold isVal at hb
  rcases hb with rfl | rfl | rfl <;> rcases hk with rfl | rfl | rfl <;> simp [tTake, hj]
theorem vI_take {o : Nat} (hb : isVal b) (ho : isVal o) (hne : b ≠ o) (h1 : vI p b) (h2 : vI p o) : vI (vTake p b o) b := by
  unfold vI at h1 h2 ⊢
  rw [vTake_m hb (Or.inl rfl) (by omega), vTake_m hb (Or.inl rfl) (by omega), vTake_m hb (Or.inr (Or.inl rfl)) (by omega), vTake_m hb (Or.inr (Or.inl rfl)) (by omega), vTake_m hb (Or.inr (Or.inr rfl)) (by omega), vTake_m hb (Or.inr (Or.inr rfl)) (by omega), vTake_n hb ho hne (Or.inl rfl), vTake_n hb ho hne (Or.inr (Or.inl rfl)), vTake_n hb ho hne (Or.inr (Or.inr rfl))]
  exact ⟨h1.1, h1.2.1, h1.2.2.1, h1.2.2.2.1, h1.2.2.2.2.1, h1.2.2.2.2.2.1, h2.2.2.2.2.2.2⟩
theorem VR_take {o : Nat} (hb : isVal b) (ho : isVal o) (hne : b ≠ o) (h1 : vI p b) (h : VR p o V) : VR (vTake p b o) b V := by
  have h' := h
  obtain ⟨hI, h0, h1', h2, hs, hT, hM, hW⟩ := h
  have z := hI.2.2.2.2.2.2
  rw [h0, h1', h2] at z
  refine ⟨vI_take hb ho hne h1 hI, ?_, ?_, ?_, fun k a a' => ?_, fun t c a a' => ?_, fun t c a a' => ?_, fun t c a a' => ?_⟩
  · rw [vTake_n hb ho hne (Or.inl rfl)]; exact h0
  · rw [vTake_n hb ho hne (Or.inr (Or.inl rfl))]; exact h1'
  · rw [vTake_n hb ho hne (Or.inr (Or.inr rfl))]; exact h2
  · rw [vTake_s a a']; exact hs k a a'
  · rw [vTake_c hb ho hne (Or.inl rfl) (by omega)]; exact hT t c a a'
  · rw [vTake_c hb ho hne (Or.inr (Or.inl rfl)) (by omega)]; exact hM t c a a'
  · rw [vTake_c hb ho hne (Or.inr (Or.inr rfl)) (by omega)]; exact hW t c a a'
theorem eqV_sv {q : Nat} : eqV (vwM u) (vwK (mSv u q) q) := by
  have e : ∀ j, (mSv u q).1 q j = (if j < 64 then u.1 (47 + j / 8) (j % 8) else if j < 68 then u.1 55 (j - 64) else if j < 72 then u.1 56 (j - 68) else if j < 76 then u.1 57 (j - 72) else if j < 85 then u.1 45 (j - 76) else u.1 q j) := fun j => by
    unfold mSv
    rw [wA_s]
  refine ⟨fun k hk => ?_, fun c i h1 h2 h3 => ?_, fun c i h1 h2 h3 => ?_⟩
  · show u.1 45 k = (mSv u q).1 q (76 + k)
    rw [e, if_neg (by omega), if_neg (by omega), if_neg (by omega), if_neg (by omega), if_pos (by omega), show 76 + k - 76 = k by omega]
  · show (if c = 0 then u.1 45 i else u.1 (46 + c) i) = (if c = 0 then (mSv u q).1 q (76 + i) else if c ≤ 8 then (mSv u q).1 q (8 * (c - 1) + i) else (mSv u q).1 q (64 + 4 * (c - 9) + i))
    rw [if_neg (by omega), if_neg (by omega), if_pos h2, e, if_pos (by omega), show 47 + (8 * (c - 1) + i) / 8 = 46 + c by omega, show (8 * (c - 1) + i) % 8 = i by omega]
  · show (if c = 0 then u.1 45 i else u.1 (46 + c) i) = (if c = 0 then (mSv u q).1 q (76 + i) else if c ≤ 8 then (mSv u q).1 q (8 * (c - 1) + i) else (mSv u q).1 q (64 + 4 * (c - 9) + i))
    rw [if_neg (by omega), if_neg (by omega), if_neg (by omega), e, if_neg (by omega)]
    rcases (show c = 9 ∨ c = 10 ∨ c = 11 by omega) with rfl | rfl | rfl
    · rw [if_pos (by omega), show 64 + 4 * (9 - 9) + i - 64 = i by omega]
    · rw [if_neg (by omega), if_pos (by omega), show 64 + 4 * (10 - 9) + i - 68 = i by omega]
    · rw [if_neg (by omega), if_neg (by omega), if_pos (by omega), show 64 + 4 * (11 - 9) + i - 72 = i by omega]
theorem eqV_ld {q : Nat} : eqV (vwK u q) (vwM (mLd u q)) := by
  have e : ∀ r j, (mLd u q).1 r j = (if 47 ≤ r ∧ r ≤ 54 ∧ j < 8 then u.1 q (8 * (r - 47) + j) else if 55 ≤ r ∧ r ≤ 57 ∧ j < 4 then u.1 q (64 + 4 * (r - 55) + j) else if r = 45 ∧ j < 9 then u.1 q (76 + j) else u.1 r j) := fun r j => rfl
  refine ⟨fun k hk => ?_, fun c i h1 h2 h3 => ?_, fun c i h1 h2 h3 => ?_⟩
  · show u.1 q (76 + k) = (mLd u q).1 45 k
    rw [e, if_neg (by omega), if_neg (by omega), if_pos (by omega)]
  · show (if c = 0 then u.1 q (76 + i) else if c ≤ 8 then u.1 q (8 * (c - 1) + i) else u.1 q (64 + 4 * (c - 9) + i)) = (if c = 0 then (mLd u q).1 45 i else (mLd u q).1 (46 + c) i)
    rw [if_neg (by omega), if_pos h2, if_neg (by omega), e, if_pos (by omega), show 46 + c - 47 = c - 1 by omega]
  · show (if c = 0 then u.1 q (76 + i) else if c ≤ 8 then u.1 q (8 * (c - 1) + i) else u.1 q (64 + 4 * (c - 9) + i)) = (if c = 0 then (mLd u q).1 45 i else (mLd u q).1 (46 + c) i)
    rw [if_neg (by omega), if_neg (by omega), if_neg (by omega), e, if_neg (by omega), if_pos (by omega), show 46 + c - 55 = c - 9 by omega]
theorem mLd_o {q r : Nat} (h : ¬ (47 ≤ r ∧ r ≤ 57)) (h2 : r ≠ 45) : (mLd u q).1 r = u.1 r := by
  funext j
  show (if 47 ≤ r ∧ r ≤ 54 ∧ j < 8 then u.1 q (8 * (r - 47) + j) else if 55 ≤ r ∧ r ≤ 57 ∧ j < 4 then u.1 q (64 + 4 * (r - 55) + j) else if r = 45 ∧ j < 9 then u.1 q (76 + j) else u.1 r j) = _
  rw [if_neg (by omega), if_neg (by omega), if_neg (by omega)]
theorem frm_ld {q : Nat} : frm u (mLd u q) := by
  refine ⟨fun r h1 h2 => mLd_o (by omega) h1, fun j hj => ?_, rfl⟩
  show (if 47 ≤ 45 ∧ 45 ≤ 54 ∧ j < 8 then u.1 q (8 * (45 - 47) + j) else if 55 ≤ 45 ∧ 45 ≤ 57 ∧ j < 4 then u.1 q (64 + 4 * (45 - 55) + j) else if 45 = 45 ∧ j < 9 then u.1 q (76 + j) else u.1 45 j) = _
  rw [if_neg (by omega), if_neg (by omega), if_neg (by omega)]
theorem mSv_p {q r : Nat} (h : r ≠ q) : (mSv u q).1 r = u.1 r := wA_o h
theorem sim_image (h : R p u) : Sim p u (p.1 3 3, xImage p) (u.1 45 0, mImage u) := by
  have e0 : p.1 3 3 = u.1 45 0 := h.1.2.1
  rw [e0]
  obtain ⟨r1, r2, ⟨r3, r4⟩, r5, r6, ⟨r7, r8⟩, r9, ⟨ra, rb, rc⟩, rd⟩ := h
  have xo : ∀ q, q ≠ 0 → (q < 9 ∨ 15 < q) → (xImage p).1 q = p.1 q := fun q h0 h1 => by
    unfold xImage
    rw [wI_q h0, vTake_o iv9 (by omega)]
  have x0 : ∀ j, j ≠ 9 → (xImage p).1 0 j = p.1 0 j := fun j hj => by
    unfold xImage
    rw [wI_o (by omega), vTake_o iv9 (by omega)]
  have mo : ∀ q, q ≠ 45 → q ≠ 67 → (mImage u).1 q = u.1 q := fun q h1 h2 => by
    unfold mImage
    rw [mSv_p h2, wI_q h1]
  have m0 : ∀ j, j ≠ 49 → (mImage u).1 45 j = u.1 45 j := fun j hj => by
    unfold mImage
    rw [mSv_p (by omega), wI_o (by omega)]
  have m49 : (mImage u).1 45 49 = 1 := by
    unfold mImage
    rw [mSv_p (by omega), wI_s]
  have hv : eqV (vwM u) (vwM (mImage u)) := ⟨fun k hk => by unfold vwM; rw [if_pos rfl, if_pos rfl, m0 _ (by omega)], fun c i h1 h2 _ => by unfold vwM; rw [if_neg (by omega), if_neg (by omega), mo _ (by omega) (by omega)], fun c i h1 h2 _ => by unfold vwM; rw [if_neg (by omega), if_neg (by omega), mo _ (by omega) (by omega)]⟩
  have hk : eqV (vwM u) (vwK (mImage u) 67) := by
    unfold mImage
    refine eqV.tr ?_ eqV_sv
    exact ⟨fun k hk => by unfold vwM; rw [if_pos rfl, if_pos rfl, wI_o (by omega)], fun c i h1 h2 _ => by unfold vwM; rw [if_neg (by omega), if_neg (by omega), wI_q (by omega)], fun c i h1 h2 _ => by unfold vwM; rw [if_neg (by omega), if_neg (by omega), wI_q (by omega)]⟩
  refine ⟨rfl, ⟨VR_ext (VR_o r1 (fun q a a' => xo q (by omega) (by omega))) hv, Ok_ext r2 hv, ⟨?_, vI_o r4 (fun q a a' => xo q (by omega) (by omega))⟩, fun s hs => ?_, fun k a a' => ?_, ⟨?_, fun e => ⟨?_, Ok_ext r2 hk⟩⟩, ?_, ⟨?_, ?_, fun j hj => ?_⟩, fun i hi => ?_⟩, ⟨fun q hq => xo q (by omega) (by omega), fun q _ => rfl⟩, ⟨fun q hq => mo q (by omega) (by omega), fun q _ => rfl⟩⟩
  · exact vI_o (vI_take iv9 iv2 (by omega) r3 r1.1) (fun q a a' => by show (wI (vTake p 9 2) 0 9 1).1 q = _; rw [wI_q (by omega)])
  · have hS := r5 s hs
    unfold RS mThing at hS ⊢
    show (0 ≤ ((mImage u).1 60 s).toInt ∧ ((mImage u).1 60 s).toInt ≤ 160) ∧ (((mImage u).1 58 s = 0 ∧ (xImage p).1 24 s = -1 ∧ (xImage p).1 25 s = 0) ∨ ((mImage u).1 58 s = 1 ∧ (xImage p).1 24 s = 100 + (mImage u).1 59 s ∧ (0 ≤ ((mImage u).1 59 s).toInt ∧ ((mImage u).1 59 s).toInt ≤ 3) ∧ (xImage p).1 25 s = (mImage u).1 60 s ∧ ∀ j, j < 160 → p.2 (27 + s) j = u.2 62 (160 * s + j)) ∨ ((mImage u).1 58 s = 2 ∧ (xImage p).1 24 s = (mImage u).1 61 s ∧ (!decide ((mImage u).1 61 s < 0) && decide ((mImage u).1 61 s < (mImage u).1 45 0)) = true ∧ (xImage p).1 25 s = 0))
    rw [mo 58 (by omega) (by omega), mo 59 (by omega) (by omega), mo 60 (by omega) (by omega), mo 61 (by omega) (by omega), m0 0 (by omega), xo 24 (by omega) (by omega), xo 25 (by omega) (by omega)]
    exact hS
  · show (xImage p).1 1 k = (mImage u).1 46 k
    rw [xo 1 (by omega) (by omega), mo 46 (by omega) (by omega)]; exact r6 k a a'
  · show (xImage p).1 0 9 = (mImage u).1 45 49
    rw [m49]
    unfold xImage
    rw [wI_s]
  · exact VR_ext (VR_o (VR_take iv9 iv2 (by omega) r3 r1) (fun q a a' => by show (wI (vTake p 9 2) 0 9 1).1 q = _; rw [wI_q (by omega)])) hk
  · show (xImage p).1 0 10 = (mImage u).1 45 9
    rw [x0 10 (by omega), m0 9 (by omega)]; exact r9
  · show (xImage p).1 43 1 = (mImage u).1 45 48
    rw [xo 43 (by omega) (by omega), m0 48 (by omega)]; exact ra
  · show 0 ≤ ((mImage u).1 45 48).toInt
    rw [m0 48 (by omega)]; exact rb
  · show (xImage p).1 44 j = (mImage u).1 77 j
    rw [xo 44 (by omega) (by omega), mo 77 (by omega) (by omega)]; exact rc j hj
  · show (mImage u).1 64 i = _
    rw [mo 64 (by omega) (by omega)]; exact rd i hi
end

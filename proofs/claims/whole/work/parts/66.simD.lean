/-! THE TWO SIDES ALIKE: what there is -/
section
variable {p u p' u' : hW} {b : Nat}
theorem i32_8 : (8 : Int32).toInt = 8 := rfl
theorem i32_4 : (4 : Int32).toInt = 4 := rfl
theorem i32_m1 : (-1 : Int32).toInt = -1 := rfl
/-- the current valley changed on both sides, nothing else -/
theorem Sim_val (h : R p u) {r : Int32} (hx : frb 2 p p') (hm : frm u u') (hv : VR p' 2 (vwM u')) (hok : Ok (vwM u')) (hs : (u.1 45 0).toInt ≤ (u'.1 45 0).toInt) : Sim p u (r, p') (r, u') :=
  ⟨rfl, R_val h hv hok hs (frb2_xQ hx h.2.2.1.2) (frm_mQ hm), frb_xO (by omega) hx, frm_mO hm⟩
theorem lt8 {x : Int32} (h : x.toInt ≤ 8) (h2 : ¬ x = 8) : x.toInt < 8 := by rw [i32_eq, i32_8] at h2; omega
theorem lt4 {x : Int32} (h : x.toInt ≤ 4) (h2 : ¬ x = 4) : x.toInt < 4 := by rw [i32_eq, i32_4] at h2; omega
theorem sim_thing (h : R p u) {k wt ex st : Int32} : Sim p u (xThing p k wt ex st) (mThingF u k wt ex st) := by
  unfold xThing mThingF
  by_cases h1 : kOk k = true
  · rw [if_pos h1, if_pos h1]
    by_cases h2 : wtOk wt = true
    · rw [if_pos h2, if_pos h2]
      by_cases h3 : exOk ex = true
      · rw [if_pos h3, if_pos h3, stand_m h.1]
        by_cases h4 : mStep u st = true
        · rw [if_pos h4, if_pos h4, full_m h.1 h.2.1.1.1]
          show Sim p u (if decide (u.1 45 0 = 8) = true then _ else _) _
          by_cases h5 : u.1 45 0 = 8
          · rw [if_pos h5, if_pos (decide_eq_true h5)]; exact Sim_no h k7
          · rw [if_neg h5, if_neg (by rw [decide_eq_false h5]; decide)]
            have l := lt8 h.2.1.1.1.2 h5
            have e0 : p.1 3 3 = u.1 45 0 := h.1.2.1
            rw [e0]
            refine Sim_val h frb_addT frm_addT ?_ ?_ ?_
            · rw [vwM_addT]; exact VR_addT iv2 h.1 l
            · rw [vwM_addT]; exact Ok_addT h.2.1 l (k_rng h1) (wt_rng h2) (ex_rng h3) (step_Std h4)
            · show _ ≤ ((vwM (mAddT u k wt ex st)) 0 0).toInt
              have e : addT (vwM u) k wt ex st 0 0 = vwM u 0 0 + 1 := by unfold addT; rw [vset_s]
              rw [vwM_addT, e, add1 h.2.1.1.1.1 (by omega)]
              show _ ≤ (u.1 45 0).toInt + 1
              omega
        · rw [if_neg h4, if_neg h4]; exact Sim_no h k6
      · rw [if_neg h3, if_neg h3]; exact Sim_no h k6
    · rw [if_neg h2, if_neg h2]; exact Sim_no h k6
  · rw [if_neg h1, if_neg h1]; exact Sim_no h k1
theorem man_up (h : R p u) {s : Int32} (h1 : wtOk s = true) (h5 : ¬ u.1 45 1 = 8) {r : Int32} : Sim p u (r, vAddM p 2 s) (r, mAddM u s) := by
  have l := lt8 h.2.1.1.2.1.2 h5
  refine Sim_val h frb_addM frm_addM ?_ ?_ ?_
  · rw [vwM_addM]; exact VR_addM iv2 h.1 l
  · rw [vwM_addM]; exact Ok_addM h.2.1 l (wt_rng h1)
  · show _ ≤ ((vwM (mAddM u s)) 0 0).toInt
    have e : addM (vwM u) s 0 0 = vwM u 0 0 := by unfold addM; rw [vset_o (by omega), vset_c (by omega), vset_c (by omega)]
    rw [vwM_addM, e]
    exact Int.le_refl _
theorem full5_m (h : R p u) : tFull p 5 = decide (u.1 45 1 = 8) := full_m3 h.1 h.2.1.1.2.1
theorem sim_man (h : R p u) {s : Int32} : Sim p u (xMan p s) (mManF u s) := by
  unfold xMan mManF
  by_cases h1 : wtOk s = true
  · rw [if_pos h1, if_pos h1, full5_m h]
    by_cases h5 : u.1 45 1 = 8
    · rw [if_pos h5, if_pos (decide_eq_true h5)]; exact Sim_no h k7
    · rw [if_neg h5, if_neg (by rw [decide_eq_false h5]; decide)]
      have e0 : p.1 5 3 = u.1 45 1 := h.1.2.2.1
      rw [e0]
      exact man_up h h1 h5
  · rw [if_neg h1, if_neg h1]; exact Sim_no h k6
theorem sim_want (h : R p u) {t st v : Int32} : Sim p u (xWant p t st v) (mWantF u t st v) := by
  unfold xWant mWantF
  rw [hasT h.1]
  by_cases h1 : mThing u t = true
  · rw [if_pos h1, if_pos h1, stand_m h.1]
    by_cases h2 : mStep u st = true
    · rw [if_pos h2, if_pos h2]
      by_cases h3 : woOk v = true
      · rw [if_pos h3, if_pos h3, full_m5 h.1 h.2.1.1.2.2.1]
        show Sim p u (if decide (u.1 45 2 = 4) = true then _ else _) _
        by_cases h5 : u.1 45 2 = 4
        · rw [if_pos h5, if_pos (decide_eq_true h5)]; exact Sim_no h k7
        · rw [if_neg h5, if_neg (by rw [decide_eq_false h5]; decide)]
          have l := lt4 h.2.1.1.2.2.1.2 h5
          have e0 : p.1 7 3 = u.1 45 2 := h.1.2.2.2.1
          rw [e0]
          have hr := mT_rng (R_mI h) h1
          refine Sim_val h frb_addW frm_addW ?_ ?_ ?_
          · rw [vwM_addW]; exact VR_addW iv2 h.1 l
          · rw [vwM_addW]; exact Ok_addW h.2.1 l ⟨hr.1, hr.2.1⟩ (step_Std h2) (wo_rng h3)
          · show _ ≤ ((vwM (mAddW u t st v)) 0 0).toInt
            have e : addW (vwM u) t st v 0 0 = vwM u 0 0 := by unfold addW; rw [vset_o (by omega), vset_c (by omega), vset_c (by omega), vset_c (by omega)]
            rw [vwM_addW, e]
            exact Int.le_refl _
      · rw [if_neg h3, if_neg h3]; exact Sim_no h k6
    · rw [if_neg h2, if_neg h2]; exact Sim_no h k6
  · rw [if_neg h1, if_neg h1]; exact Sim_no h k1
theorem Sim_sc (h : R p u) {k : Nat} {v r : Int32} (h3 : 3 ≤ k) (h8 : k ≤ 8) (hok : Ok (vset (vwM u) 0 k v)) : Sim p u (r, wI p 2 k v) (r, wI u 45 k v) := by
  refine Sim_val h (frb_wI (by omega) (by omega)) (frm_0 (by omega)) ?_ ?_ ?_
  · rw [vwM_0]; exact VR_sc h.1 h3 h8
  · rw [vwM_0]; exact hok
  · rw [wI_o (by omega)]; exact Int.le_refl _
theorem sim_ask (h : R p u) {a v : Int32} : Sim p u (xAsk p a v) (mAsk u a v) := by
  unfold xAsk mAsk
  by_cases h1 : a = 0
  · rw [if_pos h1, if_pos h1, long_ok h.1 h.2.1]
    by_cases h2 : mLongOk u v = true
    · rw [if_pos h2, if_pos h2, VR_s h.1 (k := 3) (by omega) (by omega)]
      exact Sim_sc h (by omega) (by omega) (Ok_long h.2.1 h2)
    · rw [if_neg h2, if_neg h2]; exact Sim_no h k6
  · rw [if_neg h1, if_neg h1]
    by_cases h2 : a = 1
    · rw [if_pos h2, if_pos h2]
      by_cases h3 : wiOk v = true
      · rw [if_pos h3, if_pos h3, VR_s h.1 (k := 6) (by omega) (by omega)]
        exact Sim_sc h (by omega) (by omega) (Ok_wind h.2.1 (wi_rng h3))
      · rw [if_neg h3, if_neg h3]; exact Sim_no h k6
    · rw [if_neg h2, if_neg h2]; exact Sim_no h k6
theorem sim_river (h : R p u) {f t : Int32} : Sim p u (xRiver p f t) (mRiver u f t) := by
  unfold xRiver mRiver
  rw [riv_m h.1]
  by_cases h2 : mRivOk u f t = true
  · rw [if_pos h2, if_pos h2]
    refine Sim_val h (frb.tr (frb_wI (by omega) (by omega)) (frb_wI (by omega) (by omega))) (frm.tr (frm_0 (by omega)) (frm_0 (by omega))) ?_ ?_ ?_
    · rw [vwM_0, vwM_0]; exact VR_sc (VR_sc h.1 (by omega) (by omega)) (by omega) (by omega)
    · rw [vwM_0, vwM_0]; exact Ok_riv h.2.1 h2
    · rw [wI_o (by omega), wI_o (by omega)]; exact Int.le_refl _
  · rw [if_neg h2, if_neg h2]; exact Sim_no h k6
theorem sim_seed (h : R p u) {v : Int32} : Sim p u (p.1 2 7, wI p 2 7 v) (mSeed u v) := by
  unfold mSeed
  rw [VR_s h.1 (k := 7) (by omega) (by omega)]
  exact Sim_sc h (by omega) (by omega) (Ok_seed h.2.1 (Or.inl rfl))
/-! what is asked of cells -/
theorem hasC_m {k : Nat} {n t c : Int32} {b : Bool} (h2 : p.1 k 2 = n) (hb : tHas p k t = b) : tHasC p k t c = (b && (!decide (c < 0) && decide (c < n))) := by
  unfold tHasC
  rw [hb, h2]
theorem nlt_le {c a b : Int32} (h : b.toInt = a.toInt + 1) : decide (c < b) = !decide (a < c) := by
  rw [← decide_not, decide_eq_decide, i32_lt, i32_lt, h]
  omega
theorem sim_thingOf (h : R p u) {t k : Int32} : Sim p u (xThingOf p t k) (mThingOf u t k) := by
  unfold xThingOf mThingOf
  rw [hasC_m (p := p) (k := 3) (n := 6) (b := mThing u t) h.1.1.2.1 (hasT h.1)]
  by_cases h1 : mThing u t = true
  · rw [h1, if_pos rfl, Bool.true_and, nlt_le (a := 5) (b := 6) (by decide)]
    by_cases h2 : k < 0
    · rw [if_pos h2, decide_eq_true h2, if_neg (by simp)]; exact Sim_no h k5
    · rw [if_neg h2]
      by_cases h3 : 5 < k
      · rw [if_pos h3, decide_eq_true h3, if_neg (by simp)]; exact Sim_no h k5
      · rw [if_neg h3, decide_eq_false h2, decide_eq_false h3, if_pos (show (!false && !false) = true from rfl)]
        have ht := h1
        rw [← hasT h.1] at ht
        have g : k = 0 ∨ k = 1 ∨ k = 2 ∨ k = 3 ∨ k = 4 ∨ k = 5 := by
          have e5 : (5 : Int32).toInt = 5 := rfl
          have e6 : (6 : Int32).toInt = 6 := rfl
          rcases k_7 h2 (by rw [i32_lt, e5] at h3; rw [i32_lt, e6]; omega) with e | e | e | e | e | e | e
          · simp [e]
          · simp [e]
          · simp [e]
          · simp [e]
          · simp [e]
          · simp [e]
          · rw [e] at h3; exact absurd h3 (by decide)
        have e : tCell p 3 t k = (if k = 0 then u.1 47 t.toNatClampNeg else if k = 1 then u.1 48 t.toNatClampNeg else if k = 2 then u.1 49 t.toNatClampNeg else if k = 3 then u.1 50 t.toNatClampNeg else if k = 4 then u.1 51 t.toNatClampNeg else u.1 52 t.toNatClampNeg) := by
          rcases g with rfl | rfl | rfl | rfl | rfl | rfl
          · exact vT0 h.1 ht
          · exact vT1 h.1 ht
          · exact vT2 h.1 ht
          · exact vT3 h.1 ht
          · exact vT4 h.1 ht
          · exact vT5 h.1 ht
        rw [e]
        exact Sim_rf h
  · rw [if_neg h1, if_neg (by rw [Bool.not_eq_true] at h1; rw [h1]; simp)]; exact Sim_no h k5
theorem sim_manOf (h : R p u) {t k : Int32} : Sim p u (xManOf p t k) (mManOf u t k) := by
  unfold xManOf mManOf
  rw [hasC_m (p := p) (k := 5) (n := 2) (b := mMan u t) h.1.1.2.2.2.1 (hasM h.1)]
  by_cases h1 : mMan u t = true
  · rw [h1, if_pos rfl, Bool.true_and, nlt_le (a := 1) (b := 2) (by decide)]
    by_cases h2 : k < 0
    · rw [if_pos h2, decide_eq_true h2, if_neg (by simp)]; exact Sim_no h k5
    · rw [if_neg h2]
      by_cases h3 : 1 < k
      · rw [if_pos h3, decide_eq_true h3, if_neg (by simp)]; exact Sim_no h k5
      · rw [if_neg h3, decide_eq_false h2, decide_eq_false h3, if_pos (show (!false && !false) = true from rfl)]
        have ht := h1
        rw [← hasM h.1] at ht
        have g : k = 0 ∨ k = 1 := by
          have e1 : (1 : Int32).toInt = 1 := rfl
          rw [i32_lt, i32_0] at h2
          rw [i32_lt, e1] at h3
          rw [i32_eq, i32_eq, i32_0, e1]
          omega
        have e : tCell p 5 t k = (if k = 0 then u.1 53 t.toNatClampNeg else u.1 54 t.toNatClampNeg) := by
          rcases g with rfl | rfl
          · exact vM0 h.1 ht
          · exact vM1 h.1 ht
        rw [e]
        exact Sim_rf h
  · rw [if_neg h1, if_neg (by rw [Bool.not_eq_true] at h1; rw [h1]; simp)]; exact Sim_no h k5
theorem want_thing (h : R p u) {t : Int32} (ht : tHas p 7 t = true) : mThing u (u.1 55 t.toNatClampNeg) = true := by
  have hr := tHas_rng ht
  have e0 : p.1 7 3 = u.1 45 2 := h.1.2.2.2.1
  rw [e0] at hr
  exact (R_mI h).2.2.2.2.2.2.1 t.toNatClampNeg (by rw [i32_clamp]; omega)
theorem there_m (h : R p u) {t : Int32} (ht : tHas p 7 t = true) : vThere p 2 t = decide (u.1 50 (u.1 55 t.toNatClampNeg).toNatClampNeg = u.1 56 t.toNatClampNeg) := by
  unfold vThere
  rw [vW0 h.1 ht, vW1 h.1 ht]
  show decide (vStep p 2 (u.1 55 t.toNatClampNeg) = u.1 56 t.toNatClampNeg) = _
  rw [step_m h.1 (want_thing h ht)]
theorem sim_wantOf (h : R p u) {t k : Int32} : Sim p u (xWantOf p t k) (mWantOf u t k) := by
  unfold xWantOf mWantOf
  have e0 : p.1 7 3 = u.1 45 2 := h.1.2.2.2.1
  have hh : tHas p 7 t = (!decide (t < 0) && decide (t < u.1 45 2)) := VR_has e0
  rw [hasC_m (p := p) (k := 7) (n := 3) (b := tHas p 7 t) h.1.1.2.2.2.2.2.1 rfl]
  by_cases h0 : t < 0
  · have hf : tHas p 7 t = false := by rw [hh, decide_eq_true h0]; rfl
    rw [if_pos h0, hf, if_neg (by decide), if_neg (by simp)]; exact Sim_no h k5
  · rw [if_neg h0]
    by_cases h1 : t < u.1 45 2
    · have ht : tHas p 7 t = true := by rw [hh, decide_eq_false h0, decide_eq_true h1]; rfl
      rw [if_pos h1, ht, if_pos rfl, Bool.true_and, nlt_le (a := 2) (b := 3) (by decide)]
      have e2 : (2 : Int32).toInt = 2 := rfl
      have e1 : (1 : Int32).toInt = 1 := rfl
      have e3 : (3 : Int32).toInt = 3 := rfl
      by_cases h2 : k < 0
      · rw [if_pos h2, decide_eq_true h2, if_neg (by rw [i32_lt, i32_0] at h2; rw [i32_eq, e3]; omega), if_neg (by simp)]; exact Sim_no h k5
      · rw [if_neg h2]
        by_cases h3 : 3 < k
        · rw [if_pos h3, if_neg (by rw [i32_lt, e3] at h3; rw [i32_eq, e3]; omega), decide_eq_true (p := 2 < k) (by rw [i32_lt, e3] at h3; rw [i32_lt, e2]; omega), if_neg (by simp)]; exact Sim_no h k5
        · rw [if_neg h3]
          by_cases h4 : k = 3
          · subst h4
            rw [if_pos rfl, there_m h ht]
            have e : (bI (decide (u.1 50 (u.1 55 t.toNatClampNeg).toNatClampNeg = u.1 56 t.toNatClampNeg))) = (if (3 : Int32) = 0 then u.1 55 t.toNatClampNeg else if (3 : Int32) = 1 then u.1 56 t.toNatClampNeg else if (3 : Int32) = 2 then u.1 57 t.toNatClampNeg else if u.1 50 (u.1 55 t.toNatClampNeg).toNatClampNeg = u.1 56 t.toNatClampNeg then 1 else 0) := by
              rw [if_neg (by decide), if_neg (by decide), if_neg (by decide)]
              by_cases e : u.1 50 (u.1 55 t.toNatClampNeg).toNatClampNeg = u.1 56 t.toNatClampNeg
              · rw [if_pos e, decide_eq_true e]; rfl
              · rw [if_neg e, decide_eq_false e]; rfl
            rw [e]
            exact Sim_rf h
          · have g : k = 0 ∨ k = 1 ∨ k = 2 := by
              rw [i32_lt, i32_0] at h2
              rw [i32_lt, e3] at h3
              rw [i32_eq, e3] at h4
              rw [i32_eq, i32_eq, i32_eq, i32_0, e1, e2]
              omega
            rw [if_neg h4, decide_eq_false h2, decide_eq_false (p := 2 < k) (by rw [i32_lt, e2]; rw [i32_lt, e3] at h3; rw [i32_eq, e3] at h4; omega), if_pos (show (!false && !false) = true from rfl)]
            have e : tCell p 7 t k = (if k = 0 then u.1 55 t.toNatClampNeg else if k = 1 then u.1 56 t.toNatClampNeg else if k = 2 then u.1 57 t.toNatClampNeg else if u.1 50 (u.1 55 t.toNatClampNeg).toNatClampNeg = u.1 56 t.toNatClampNeg then 1 else 0) := by
              rcases g with rfl | rfl | rfl
              · exact vW0 h.1 ht
              · exact vW1 h.1 ht
              · exact vW2 h.1 ht
            rw [e]
            exact Sim_rf h
    · have hf : tHas p 7 t = false := by rw [hh, decide_eq_false h1, Bool.and_false]
      rw [if_neg h1, hf, if_neg (by decide), if_neg (by simp)]; exact Sim_no h k5
theorem sim_says (h : R p u) {s k : Int32} : Sim p u (xSays p s k) (mSays u s k) := by
  unfold xSays mSays
  by_cases hs : sHas s = true
  · rw [if_pos hs, if_pos hs]
    by_cases hk : kOk k = true
    · rw [if_pos hk, if_pos hk]
      obtain ⟨za, ⟨e1, e2, e3⟩ | ⟨e1, e2, e3, e4, e5⟩ | ⟨e1, e2, e3, e4⟩⟩ := h.2.2.2.1 _ (sHas_lt hs)
      · obtain ⟨q1, q2, q3⟩ := sh_0 hs e2
        rw [q2, q1, e1, if_neg (by decide), if_pos rfl, if_neg (by decide), if_pos rfl]; exact Sim_no h k3
      · obtain ⟨q1, q2, q3⟩ := sh_1 hs e3 e2
        rw [q2, e1, if_pos rfl, if_pos rfl]; exact Sim_no h k2
      · have hr := R_thing h e3
        obtain ⟨q1, q2, q3⟩ := sh_2 hs (by omega) e2
        have ht := e3
        rw [← hasT h.1] at ht
        rw [q2, q1, e1, if_neg (show ¬ (false = true) by decide), if_neg (show ¬ (u.1 61 s.toNatClampNeg = -1) by rw [i32_eq, i32_m1]; omega), if_neg (show ¬ ((2 : Int32) = 1) by decide), if_neg (show ¬ ((2 : Int32) = 0) by decide)]
        have e : und (tCell p 3 (u.1 61 s.toNatClampNeg) 0) k = mLike k (u.1 47 (u.1 61 s.toNatClampNeg).toNatClampNeg) := by
          have c := vT0 h.1 ht
          rw [show tCell p 3 (u.1 61 s.toNatClampNeg) 0 = u.1 47 (u.1 61 s.toNatClampNeg).toNatClampNeg from c]
          exact und_m hk (Ok_T h.2.1 e3).1
        rw [e]
        by_cases hl : mLike k (u.1 47 (u.1 61 s.toNatClampNeg).toNatClampNeg) = true
        · rw [if_pos hl, if_pos hl, word_m h.1 h.2.1 e3 hk]
          exact Sim_rf h
        · rw [if_neg hl, if_neg hl]; exact Sim_no h k2
    · rw [if_neg hk, if_neg hk]; exact Sim_no h k1
  · rw [if_neg hs, if_neg hs]; exact Sim_no h k1
/-! men -/
theorem span_in (h : R p u) {s i n : Int32} {N : Nat} (hs : sHas s = true) (h1 : u.1 58 s.toNatClampNeg = 1) (hn : n = nI N) (hN : N < 2 ^ 31) (hsp : sSpan p s i n = true) {c : Nat} (hc : c < N) : sSpan p s (i + nI c) 1 = true := by
  have xI := (R_xI h).2.2.2
  obtain ⟨a1, a2, a3, a4⟩ := sSpan_le xI hsp
  rw [hn, nI_toInt hN] at a3
  rw [span_1 h hs h1]
  have e := i32_add (a := i) (b := nI c) (by rw [nI_toInt (by omega)]; omega) (by rw [nI_toInt (by omega)]; omega)
  rw [nI_toInt (by omega)] at e
  rw [size_m h hs h1] at a3
  simp only [Bool.and_eq_true, Bool.not_eq_true', decide_eq_false_iff_not, decide_eq_true_eq, i32_lt, i32_0, e]
  omega
theorem wt_ch {x : Int32} : wtOk x = false ↔ (x < 1 ∨ 99 < x) := by
  unfold wtOk
  by_cases h1 : x < 1
  · simp [h1]
  · by_cases h2 : 99 < x
    · simp [h2]
    · simp [h1, h2]
theorem men_l {s i n : Int32} {N : Nat} (hs : sHas s = true) (hn : n = nI N) (hN : N < 2 ^ 31) : ∀ (r c : Nat) (p u : hW), c + r = N → R p u → u.1 58 s.toNatClampNeg = 1 → sSpan p s i n = true → nI (c + (mnL s i c r p).1) = (mmL s i n c r u).1 ∧ R (mnL s i c r p).2 (mmL s i n c r u).2 ∧ xO p (mnL s i c r p).2 ∧ mO u (mmL s i n c r u).2
  | 0, c, p, u, hc, h, _, _ => by
    unfold mnL mmL
    refine ⟨?_, h, xO.rf, mO.rf⟩
    rw [hn, ← hc]
  | r + 1, c, p, u, hc, h, h1, hsp => by
    have hl := long_m h hs h1 (span_in h hs h1 hn hN hsp (c := c) (by omega))
    unfold mnL mmL
    rw [full5_m h, hl]
    by_cases h5 : u.1 45 1 = 8
    · rw [if_pos h5, if_pos (decide_eq_true h5)]
      exact ⟨rfl, h, xO.rf, mO.rf⟩
    · rw [if_neg h5, if_neg (by rw [decide_eq_false h5]; decide)]
      generalize (u.2 62 (160 * s + (i + nI c)).toNatClampNeg).toInt32 = v
      by_cases hw : wtOk v = true
      · have hw2 := wt_rng hw
        have e1 : (1 : Int32).toInt = 1 := rfl
        have e99 : (99 : Int32).toInt = 99 := rfl
        rw [if_pos hw, if_neg (by rw [i32_lt, e1]; omega), if_neg (by rw [i32_lt, e99]; omega)]
        obtain ⟨-, g1, g2, g3⟩ := man_up h hw h5 (r := 0)
        have g1' : R (vAddM p 2 v) (mAddM u v) := g1
        have g2' : xO p (vAddM p 2 v) := g2
        have g3' : mO u (mAddM u v) := g3
        have k1 : (mAddM u v).1 58 s.toNatClampNeg = 1 := by rw [frm_addM.1 58 (by omega) (by omega)]; exact h1
        have k2 : sSpan (vAddM p 2 v) s i n = true := by
          unfold sSpan sSize at hsp ⊢
          rw [frb_addM.1 25 (by omega)]
          exact hsp
        obtain ⟨q1, q2, q3, q4⟩ := men_l hs hn hN r (c + 1) _ _ (by omega) g1' k1 k2
        refine ⟨?_, q2, xO.tr g2' q3, mO.tr g3' q4⟩
        rw [← q1]
        show nI (c + ((mnL s i (c + 1) r (vAddM p 2 v)).1 + 1)) = _
        congr 1
        omega
      · rw [if_neg hw]
        rw [Bool.not_eq_true, wt_ch] at hw
        by_cases hv : v < 1
        · rw [if_pos hv]
          exact ⟨rfl, h, xO.rf, mO.rf⟩
        · rw [if_neg hv, if_pos (by rcases hw with hw | hw
                                    · exact absurd hw hv
                                    · exact hw)]
          exact ⟨rfl, h, xO.rf, mO.rf⟩
theorem bars_k (h : R p u) {s : Int32} (hb : ¬ mBars u s = 0) : 0 < (-(mBars u s)).toInt ∧ (-(mBars u s)).toInt < 8 := by
  have e : mBars u s = 0 ∨ mBars u s = -1 ∨ mBars u s = -2 ∨ mBars u s = -3 := by
    unfold mBars
    repeat' split
    all_goals simp
  rcases e with e | e | e | e
  · exact absurd e hb
  · rw [e]; decide
  · rw [e]; decide
  · rw [e]; decide
theorem sim_men (h : R p u) {s i n : Int32} : Sim p u (xMen p s i n) (mMenF u s i n) := by
  unfold xMen mMenF xNo
  rw [sNo_m h]
  by_cases hb : mBars u s = 0
  · obtain ⟨hs, h1⟩ := bars_row h hb
    rw [if_pos hb, if_pos hb]
    by_cases hn : n < 0
    · rw [if_pos hn, if_pos hn]; exact Sim_no h k4
    · rw [if_neg hn, if_neg hn]
      have sp := span_m h hs h1 hn (i := i)
      by_cases hi : i < 0
      · rw [if_pos hi, if_neg (by rw [sp, decide_eq_true hi]; simp)]; exact Sim_no h k5
      · rw [if_neg hi]
        by_cases hz : u.1 60 s.toNatClampNeg - n < i
        · rw [if_pos hz, if_neg (by rw [sp, decide_eq_true hz]; simp)]; exact Sim_no h k5
        · have hsp : sSpan p s i n = true := by rw [sp, decide_eq_false hi, decide_eq_false hz]; rfl
          rw [if_neg hz, if_pos hsp]
          rw [i32_lt, i32_0] at hn
          have l := Int32.toInt_lt n
          have hN : n = nI n.toNatClampNeg := by rw [i32_clamp]; exact (nIof (by omega)).symm
          obtain ⟨q1, q2, q3, q4⟩ := men_l hs hN (by rw [i32_clamp]; omega) n.toNatClampNeg 0 p u (by omega) h h1 hsp
          exact ⟨by rw [← q1]; show _ = nI (0 + _); rw [Nat.zero_add], q2, q3, q4⟩
  · rw [if_neg hb, if_neg hb]
    exact Sim_no h (bars_k h hb)
end

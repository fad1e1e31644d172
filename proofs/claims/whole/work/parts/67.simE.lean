/-! THE TWO SIDES ALIKE: carrying and throwing -/
section
variable {p u p' u' : hW} {b : Nat} {V : Nat → Nat → Int32}
theorem vset_cm {c i c' i' : Nat} {v v' : Int32} (h : ¬ (c = c' ∧ i = i')) : vset (vset V c i v) c' i' v' = vset (vset V c' i' v') c i v := by
  funext a j
  simp only [vset]
  by_cases e : a = c ∧ j = i
  · have e' : ¬ (a = c' ∧ j = i') := by omega
    rw [if_pos e, if_neg e', if_pos e]
  · rw [if_neg e, if_neg e]
theorem add64 {x y : Int32} : (x.toInt64 + y.toInt64).toInt = x.toInt + y.toInt := i64_addI
theorem neg_z {x : Int32} (h : -2147483648 < x.toInt) : (-x).toInt = -x.toInt := by
  have l := Int32.toInt_lt x
  rw [Int32.toInt_neg, Int.bmod_eq_of_le (by omega) (by omega)]
theorem i64_32 {x : Int64} (h1 : -2147483648 ≤ x.toInt) (h2 : x.toInt < 2147483648) : x.toInt32.toInt = x.toInt := by
  rw [Int64.toInt_toInt32, Int.bmod_eq_of_le (by omega) (by omega)]
theorem why_m (h : VR p b (vwM u)) (hI : mI u) (hk : Ok (vwM u)) {m t dd : Int32} (hm : mMan u m = true) (ht : mThing u t = true) : vWhy p b m t dd = mWhy u m t (mNear dd) := by
  have hT := Ok_T hk ht
  have fb := mFar_b hI (Ok_mV hk) hm ht
  have h2 := ht
  rw [← hasT h] at h2
  have hs : Std (vwM u) (u.1 50 t.toNatClampNeg) := hT.2.2.2.1
  have s0 := hs.1
  have s1 : (u.1 50 t.toNatClampNeg).toInt ≤ (u.1 45 3).toInt := hs.2.1
  have s3 : (u.1 45 3).toInt ≤ 99 := hk.1.2.2.2.1.2
  have z64 : (0 : Int64).toInt = 0 := rfl
  have k1 : (1000 : Int32).toInt = 1000 := rfl
  have k2 : (-1000 : Int32).toInt = -1000 := rfl
  have d1 := Int32.le_toInt dd
  have d2 := Int32.toInt_lt dd
  unfold vWhy mWhy
  rw [step_m h ht, vT4 h h2, vT5 h h2, VR_s h (k := 3) (by omega) (by omega), far_m h hk hm ht, wet_m h]
  show (if u.1 51 t.toNatClampNeg = m then (1 : Int32) else if (u.1 50 t.toNatClampNeg).toInt64 + dd.toInt64 < 0 then 2 else if (u.1 45 3).toInt64 < (u.1 50 t.toNatClampNeg).toInt64 + dd.toInt64 then 2 else if mWet u ((u.1 50 t.toNatClampNeg).toInt64 + dd.toInt64).toInt32 = true then 3 else if dd = 0 then 4 else if mFar u m t < iAbs dd then 4 else if u.1 52 t.toNatClampNeg = 0 then 0 else 5) = _
  by_cases c0 : u.1 51 t.toNatClampNeg = m
  · rw [if_pos c0, if_pos c0]
  · rw [if_neg c0, if_neg c0]
    by_cases c1 : 1000 < dd
    · have c1' := c1
      rw [i32_lt, k1] at c1'
      have en : (mNear dd).toInt = 1000 := by unfold mNear; rw [if_pos c1, k1]
      generalize mNear dd = nd at en ⊢
      have es := i32_add (a := u.1 50 t.toNatClampNeg) (b := nd) (by omega) (by omega)
      rw [if_neg (by rw [i64_lt, add64, z64]; omega), if_pos (by rw [i64_lt, add64, toI64]; omega), if_neg (by rw [i32_lt, es, i32_0]; omega), if_pos (by rw [i32_lt, es]; omega)]
    · by_cases c2 : dd < -1000
      · have c2' := c2
        rw [i32_lt, k2] at c2'
        have en : (mNear dd).toInt = -1000 := by unfold mNear; rw [if_neg c1, if_pos c2, k2]
        generalize mNear dd = nd at en ⊢
        clear k2 k1 c2 c1
        have es := i32_add (a := u.1 50 t.toNatClampNeg) (b := nd) (by omega) (by omega)
        rw [if_pos (by rw [i64_lt, add64, z64]; omega), if_pos (by rw [i32_lt, es, i32_0]; omega)]
      · have en : mNear dd = dd := by unfold mNear; rw [if_neg c1, if_neg c2]
        rw [i32_lt, k1] at c1
        rw [i32_lt, k2] at c2
        have es := i32_add (a := u.1 50 t.toNatClampNeg) (b := dd) (by omega) (by omega)
        have e32 : ((u.1 50 t.toNatClampNeg).toInt64 + dd.toInt64).toInt32 = u.1 50 t.toNatClampNeg + dd := by
          rw [i32_eq, i64_32 (by rw [add64]; omega) (by rw [add64]; omega), add64, es]
        have ed := neg_z (x := dd) (by omega)
        rw [en, e32]
        by_cases c3 : u.1 50 t.toNatClampNeg + dd < 0
        · rw [if_pos c3, if_pos (by rw [i64_lt, add64, z64]; rw [i32_lt, es, i32_0] at c3; omega)]
        · rw [if_neg c3, if_neg (by rw [i64_lt, add64, z64]; rw [i32_lt, es, i32_0] at c3; omega)]
          by_cases c4 : u.1 45 3 < u.1 50 t.toNatClampNeg + dd
          · rw [if_pos c4, if_pos (by rw [i64_lt, add64, toI64]; rw [i32_lt, es] at c4; omega)]
          · rw [if_neg c4, if_neg (by rw [i64_lt, add64, toI64]; rw [i32_lt, es] at c4; omega)]
            by_cases c5 : mWet u (u.1 50 t.toNatClampNeg + dd) = true
            · rw [if_pos c5, if_pos c5]
            · rw [if_neg c5, if_neg c5]
              by_cases c6 : dd = 0
              · rw [if_pos c6, if_pos c6]
              · rw [if_neg c6, if_neg c6]
                have e5 : (if u.1 52 t.toNatClampNeg = 0 then (0 : Int32) else 5) = (if u.1 52 t.toNatClampNeg = 1 then 5 else 0) := by
                  rcases hT.2.2.2.2.2 with e | e
                  · rw [e]; decide
                  · rw [e]; decide
                rw [e5]
                unfold iAbs
                by_cases c7 : (0 : Int32) ≤ dd
                · rw [if_pos c7]
                  rw [i32_le, i32_0] at c7
                  by_cases c8 : mFar u m t < dd
                  · rw [if_pos c8, if_pos c8]
                  · rw [if_neg c8, if_neg c8, if_neg (show ¬ mFar u m t < -dd by rw [i32_lt, ed]; omega)]
                · rw [if_neg c7]
                  rw [i32_le, i32_0] at c7
                  have e0 : 0 - dd = -dd := by rw [i32_eq, i32_sub (by rw [i32_0]; omega) (by rw [i32_0]; omega), ed, i32_0]; omega
                  rw [e0, if_neg (show ¬ mFar u m t < dd by rw [i32_lt]; omega)]
theorem sim_far (h : R p u) {m t : Int32} : Sim p u (xFar p m t) (mFarF u m t) := by
  unfold xFar mFarF
  rw [both_m h.1]
  by_cases hm : mMan u m = true
  · by_cases ht : mThing u t = true
    · rw [if_pos hm, if_pos ht, if_pos (by rw [hm, ht]; rfl), far_m h.1 h.2.1 hm ht]; exact Sim_rf h
    · rw [if_pos hm, if_neg ht, if_neg (by simp [ht])]; exact Sim_no h k1
  · rw [if_neg hm, if_neg (by simp [hm])]; exact Sim_no h k1
theorem sim_wrong (h : R p u) {m t dd : Int32} : Sim p u (xWrong p m t dd) (mWrong u m t dd) := by
  unfold xWrong mWrong
  rw [both_m h.1]
  by_cases hm : mMan u m = true
  · by_cases ht : mThing u t = true
    · rw [if_pos hm, if_pos ht, if_pos (by rw [hm, ht]; rfl), why_m h.1 (R_mI h) h.2.1 hm ht]; exact Sim_rf h
    · rw [if_pos hm, if_neg ht, if_neg (by simp [ht])]; exact Sim_no h k1
  · rw [if_neg hm, if_neg (by simp [hm])]; exact Sim_no h k1
/-! a move, as numbers -/
def movV (V : Nat → Nat → Int32) (m t : Nat) (st had : Int32) : Nat → Nat → Int32 := vset (vset (vset (vset V 4 t st) 5 t had) 8 m (iLow 99 (V 8 m + V 2 t / 10 + 1))) 0 8 (V 0 8 + 1)
theorem low99 {x : Int32} : (if 99 < x then 99 else x) = iLow 99 x := by unfold iLow; rfl
theorem VR_move (hb : isVal b) (h : VR p b V) {m t dd st : Int32} (hm : tHas p (b + 3) m = true) (ht : tHas p (b + 1) t = true) (hs : vStep p b t + dd = st) : VR (vMove p b m t dd) b (vset (vset (vset V 4 t.toNatClampNeg st) 8 m.toNatClampNeg (iLow 99 (V 8 m.toNatClampNeg + V 2 t.toNatClampNeg / 10 + 1))) 0 8 (V 0 8 + 1)) := by
  unfold vMove
  rw [hs, vM1 h hm, vT1 h ht, low99, VR_s h (k := 8) (by omega) (by omega)]
  have q0 := VR_putT h ht (c := 3) (by omega) (v := st)
  have q1 := VR_putM q0 (by rw [tHas_tPut (vt1 hb) (vt3 hb)]; exact hm) (c := 1) (by omega) (v := iLow 99 (V 8 m.toNatClampNeg + V 2 t.toNatClampNeg / 10 + 1))
  exact VR_sc q1 (k := 8) (by omega) (by omega)
theorem tHas_wI {k j i : Nat} {v t : Int32} (h : k ≠ i) : tHas (wI p i j v) k t = tHas p k t := by unfold tHas; rw [wI_q h]
theorem tHas_move (hb : isVal b) {m t dd x : Int32} : tHas (vMove p b m t dd) (b + 1) x = tHas p (b + 1) x := by
  unfold vMove
  rw [tHas_wI (by omega), tHas_tPut (vt3 hb) (vt1 hb), tHas_tPut (vt1 hb) (vt1 hb)]
theorem VR_had (hb : isVal b) (h : VR p b V) {m t dd st had : Int32} (hm : tHas p (b + 3) m = true) (ht : tHas p (b + 1) t = true) (hs : vStep p b t + dd = st) : VR (tPut (vMove p b m t dd) (b + 1) t 4 had) b (movV V m.toNatClampNeg t.toNatClampNeg st had) := by
  have q := VR_putT (VR_move hb h hm ht hs) (by rw [tHas_move hb]; exact ht) (c := 4) (by omega) (v := had)
  have e : vset (vset (vset (vset V 4 t.toNatClampNeg st) 8 m.toNatClampNeg (iLow 99 (V 8 m.toNatClampNeg + V 2 t.toNatClampNeg / 10 + 1))) 0 8 (V 0 8 + 1)) (1 + 4) t.toNatClampNeg had = movV V m.toNatClampNeg t.toNatClampNeg st had := by
    unfold movV
    rw [vset_cm (c := 0) (by omega), vset_cm (c := 8) (by omega)]
  rw [e] at q
  exact q
theorem vwM_car {m t dd : Int32} : vwM (mDone (mCar u m t dd)) = movV (vwM u) m.toNatClampNeg t.toNatClampNeg (u.1 50 t.toNatClampNeg + dd) m := by
  unfold mDone mCar mTir
  rw [vwM_0, vw8, vw5, vw4]
  unfold movV
  have e8 : (wI (wI u 50 t.toNatClampNeg (u.1 50 t.toNatClampNeg + dd)) 51 t.toNatClampNeg m).1 54 m.toNatClampNeg = vwM u 8 m.toNatClampNeg := by rw [wI_q (by omega), wI_q (by omega)]; rfl
  have e2 : (wI (wI u 50 t.toNatClampNeg (u.1 50 t.toNatClampNeg + dd)) 51 t.toNatClampNeg m).1 48 t.toNatClampNeg = vwM u 2 t.toNatClampNeg := by rw [wI_q (by omega), wI_q (by omega)]; rfl
  rw [e8, e2, wI_q (by omega), wI_q (by omega), wI_q (by omega)]
  rfl
theorem Ok_mov (h : Ok V) {m t : Nat} {st had : Int32} (hm : (m : Int) < (V 0 1).toInt) (ht : (t : Int) < (V 0 0).toInt) (hs : Std V st) (hh : had = -1 ∨ (0 ≤ had.toInt ∧ had.toInt < (V 0 1).toInt)) : Ok (movV V m t st had) := by
  obtain ⟨⟨o0, o1, o2, o3, o4, o5⟩, oT, oM, oW⟩ := h
  have e0 : ∀ j, j ≠ 8 → movV V m t st had 0 j = V 0 j := fun j hj => by
    unfold movV
    rw [vset_o (by omega), vset_c (by omega), vset_c (by omega), vset_c (by omega)]
  have ec : ∀ c j, c ≠ 0 → c ≠ 4 → c ≠ 5 → c ≠ 8 → movV V m t st had c j = V c j := fun c j h0 h4 h5 h8 => by
    unfold movV
    rw [vset_c (by omega), vset_c (by omega), vset_c (by omega), vset_c (by omega)]
  have e4 : ∀ j, movV V m t st had 4 j = if j = t then st else V 4 j := fun j => by
    unfold movV
    rw [vset_c (by omega), vset_c (by omega), vset_c (by omega)]
    simp [vset]
  have e5 : ∀ j, movV V m t st had 5 j = if j = t then had else V 5 j := fun j => by
    unfold movV
    rw [vset_c (by omega), vset_c (by omega)]
    simp [vset]
  have e8 : ∀ j, movV V m t st had 8 j = if j = m then iLow 99 (V 8 m + V 2 t / 10 + 1) else V 8 j := fun j => by
    unfold movV
    rw [vset_c (by omega)]
    simp [vset]
  have S : ∀ {x}, Std V x → Std (movV V m t st had) x := fun hx => Std_V (e0 3 (by omega)) (e0 4 (by omega)) (e0 5 (by omega)) hx
  refine ⟨⟨?_, ?_, ?_, ?_, ?_, ?_⟩, fun t' ht' => ?_, fun m' hm' => ?_, fun i hi => ?_⟩
  · rw [e0 0 (by omega)]; exact o0
  · rw [e0 1 (by omega)]; exact o1
  · rw [e0 2 (by omega)]; exact o2
  · rw [e0 3 (by omega)]; exact o3
  · rw [e0 3 (by omega), e0 4 (by omega), e0 5 (by omega)]; exact o4
  · rw [e0 6 (by omega)]; exact o5
  · rw [e0 0 (by omega)] at ht'
    obtain ⟨b1, b2, b3, b4, b5, b6⟩ := oT t' ht'
    rw [ec 1 t' (by omega) (by omega) (by omega) (by omega), ec 2 t' (by omega) (by omega) (by omega) (by omega), ec 3 t' (by omega) (by omega) (by omega) (by omega), ec 6 t' (by omega) (by omega) (by omega) (by omega), e4, e5, e0 1 (by omega)]
    refine ⟨b1, b2, b3, ?_, ?_, b6⟩
    · split
      · exact S hs
      · exact S b4
    · split
      · exact hh
      · exact b5
  · rw [e0 1 (by omega)] at hm'
    obtain ⟨b1, b2⟩ := oM m' hm'
    rw [ec 7 m' (by omega) (by omega) (by omega) (by omega), e8]
    refine ⟨b1, ?_⟩
    split
    · have c2 := (oM m hm).2
      have w2 := (oT t ht).2.1
      have e10 : (10 : Int32).toInt = 10 := rfl
      have e1 : (1 : Int32).toInt = 1 := rfl
      have e99 : (99 : Int32).toInt = 99 := rfl
      have dv := i32_div (a := V 2 t) (b := 10) (by omega) (by rw [e10]; omega)
      rw [e10] at dv
      have a1 := i32_add (a := V 8 m) (b := V 2 t / 10) (by omega) (by omega)
      have a2 := i32_add (a := V 8 m + V 2 t / 10) (b := 1) (by rw [a1, e1]; omega) (by rw [a1, e1]; omega)
      rw [iLow_z, a2, a1, e1, e99, dv]
      omega
    · exact b2
  · rw [e0 2 (by omega)] at hi
    obtain ⟨b1, b2, b3⟩ := oW i hi
    rw [ec 9 i (by omega) (by omega) (by omega) (by omega), ec 10 i (by omega) (by omega) (by omega) (by omega), ec 11 i (by omega) (by omega) (by omega) (by omega), e0 0 (by omega)]
    exact ⟨b1, S b2, b3⟩
theorem frb_bring {m t dd : Int32} : frb b p (vBring p b m t dd) := by
  unfold vBring vMove
  exact frb.tr (frb.tr (frb.tr (frb_put (by omega) (by omega)) (frb_put (by omega) (by omega))) (frb_wI (by omega) (by omega))) (frb_put (by omega) (by omega))
theorem frm_car {m t dd : Int32} : frm u (mCar u m t dd) := by
  unfold mCar mTir
  exact frm.tr (frm.tr (frm_c (by omega) (by omega)) (frm_c (by omega) (by omega))) (frm_c (by omega) (by omega))
theorem frm_done : frm u (mDone u) := frm_0 (by omega)
/-- a move that is not wrong lands on a step -/
theorem why_0 (hk : Ok (vwM u)) {m t dd : Int32} (ht : mThing u t = true) (h : mWhy u m t (mNear dd) = 0) : mNear dd = dd ∧ Std (vwM u) (u.1 50 t.toNatClampNeg + dd) := by
  have hT := Ok_T hk ht
  have hs : Std (vwM u) (u.1 50 t.toNatClampNeg) := hT.2.2.2.1
  have s0 := hs.1
  have s1 : (u.1 50 t.toNatClampNeg).toInt ≤ (u.1 45 3).toInt := hs.2.1
  have s3 : (u.1 45 3).toInt ≤ 99 := hk.1.2.2.2.1.2
  have k1 : (1000 : Int32).toInt = 1000 := rfl
  have k2 : (-1000 : Int32).toInt = -1000 := rfl
  unfold mWhy at h
  by_cases c0 : u.1 51 t.toNatClampNeg = m
  · rw [if_pos c0] at h; exact absurd h (by decide)
  · rw [if_neg c0] at h
    by_cases c3 : u.1 50 t.toNatClampNeg + mNear dd < 0
    · rw [if_pos c3] at h; exact absurd h (by decide)
    · rw [if_neg c3] at h
      by_cases c4 : u.1 45 3 < u.1 50 t.toNatClampNeg + mNear dd
      · rw [if_pos c4] at h; exact absurd h (by decide)
      · rw [if_neg c4] at h
        by_cases c5 : mWet u (u.1 50 t.toNatClampNeg + mNear dd) = true
        · rw [if_pos c5] at h; exact absurd h (by decide)
        · have en : mNear dd = dd := by
            by_cases c1 : 1000 < dd
            · have en : (mNear dd).toInt = 1000 := by unfold mNear; rw [if_pos c1, k1]
              exfalso
              generalize mNear dd = nd at en c4
              have es := i32_add (a := u.1 50 t.toNatClampNeg) (b := nd) (by omega) (by omega)
              rw [i32_lt, es] at c4
              omega
            · by_cases c2 : dd < -1000
              · have en : (mNear dd).toInt = -1000 := by unfold mNear; rw [if_neg c1, if_pos c2, k2]
                exfalso
                generalize mNear dd = nd at en c3
                clear k2 k1 c2 c1
                have es := i32_add (a := u.1 50 t.toNatClampNeg) (b := nd) (by omega) (by omega)
                rw [i32_lt, es, i32_0] at c3
                omega
              · unfold mNear; rw [if_neg c1, if_neg c2]
          rw [en] at c3 c4 c5
          refine ⟨en, ?_, ?_, ?_⟩
          · rw [i32_lt, i32_0] at c3; omega
          · show _ ≤ (u.1 45 3).toInt
            rw [i32_lt] at c4; omega
          · show _ ≤ (u.1 45 4).toInt ∨ (u.1 45 5).toInt ≤ _
            simp only [mWet, Bool.and_eq_true, decide_eq_true_eq, i32_lt] at c5
            omega
theorem sim_carry (h : R p u) {m t dd : Int32} : Sim p u (xCarry p m t dd) (mCarry u m t dd) := by
  unfold xCarry mCarry
  rw [both_m h.1]
  by_cases hm : mMan u m = true
  · by_cases ht : mThing u t = true
    · rw [if_pos hm, if_pos ht, if_pos (by rw [hm, ht]; rfl), why_m h.1 (R_mI h) h.2.1 hm ht]
      by_cases hw : mWhy u m t (mNear dd) = 0
      · rw [if_pos hw, if_pos hw]
        obtain ⟨en, hs⟩ := why_0 h.2.1 ht hw
        have hm2 := hm
        have ht2 := ht
        rw [← hasM h.1] at hm2
        rw [← hasT h.1] at ht2
        have rm := mM_rng (R_mI h) hm
        have rt := mT_rng (R_mI h) ht
        have hv : VR (vBring p 2 m t dd) 2 (vwM (mDone (mCar u m t dd))) := by
          rw [vwM_car]
          exact VR_had iv2 h.1 hm2 ht2 (by rw [step_m h.1 ht])
        have ht3 : mThing (mDone (mCar u m t dd)) t = true := by
          have e : (mDone (mCar u m t dd)).1 45 0 = u.1 45 0 := by
            unfold mDone
            rw [wI_o (by omega)]
            unfold mCar mTir
            rw [wI_q (by omega), wI_q (by omega), wI_q (by omega)]
          unfold mThing at ht ⊢
          rw [e]
          exact ht
        rw [step_m hv ht3]
        refine Sim_val h frb_bring (frm.tr frm_car frm_done) hv ?_ ?_
        · rw [vwM_car]
          exact Ok_mov h.2.1 (by rw [i32_clamp]; show _ < (u.1 45 1).toInt; omega) (by rw [i32_clamp]; show _ < (u.1 45 0).toInt; omega) hs (Or.inr ⟨rm.1, rm.2.1⟩)
        · show _ ≤ ((vwM (mDone (mCar u m t dd))) 0 0).toInt
          rw [vwM_car]
          unfold movV
          rw [vset_o (by omega), vset_c (by omega), vset_c (by omega), vset_c (by omega)]
          exact Int.le_refl _
      · rw [if_neg hw, if_neg hw]; exact Sim_no h k6
    · rw [if_pos hm, if_neg ht, if_neg (by simp [ht])]; exact Sim_no h k1
  · rw [if_neg hm, if_neg (by simp [hm])]; exact Sim_no h k1
/-! throwing -/
theorem tenths_m (h : VR p b (vwM u)) (hk : Ok (vwM u)) {m t dd : Int32} (hm : mMan u m = true) (ht : mThing u t = true) : vTenths p b m t dd = mCau u m t dd := by
  unfold vTenths mCau
  rw [far_m h hk hm ht]
  by_cases c1 : 2 * mFar u m t < dd
  · rw [if_pos c1, if_pos c1]
  · rw [if_neg c1, if_neg c1]
    generalize 10 - dd / 4 = x
    by_cases c2 : 0 < x
    · rw [if_pos c2, if_neg (by rw [i32_lt, i32_0] at c2 ⊢; omega)]
    · rw [if_neg c2]
      by_cases c3 : x < 0
      · rw [if_pos c3]
      · rw [if_neg c3, i32_eq]; rw [i32_lt] at c2 c3; omega
theorem thrown_m (h : VR p b (vwM u)) (hk : Ok (vwM u)) {m t dd : Int32} (hm : mMan u m = true) (ht : mThing u t = true) : vThrown p b m t dd = mThr u m t dd := by
  unfold vThrown mThr
  rw [far_m h hk hm ht, step_m h ht, stand_m h]
theorem sum_m (h : VR p b (vwM u)) {t dd : Int32} (ht : mThing u t = true) : ∀ (r i : Nat) (a : Int32), i + r = (u.1 45 2).toInt.toNat → vSum p b t dd i r a = mSumL u t (u.1 50 t.toNatClampNeg + dd) i r a
  | 0, _, _, _ => rfl
  | r + 1, i, a, hi => by
    have l2 := Int32.toInt_lt (u.1 45 2)
    have hw := hW_nI h (i := i) (by omega)
    unfold vSum mSumL
    rw [vW0 h hw, vW1 h hw, vW2 h hw, step_m h ht, sum_m h ht r (i + 1) _ (by omega), nI_cl (by omega)]
    congr 1
    show (if u.1 55 i = t ∧ u.1 56 i = u.1 50 t.toNatClampNeg + dd then a + u.1 57 i else a) = _
    by_cases c1 : u.1 55 i = t
    · by_cases c2 : u.1 56 i = u.1 50 t.toNatClampNeg + dd
      · rw [if_pos ⟨c1, c2⟩, if_pos c1, if_pos c2]
      · rw [if_neg (fun e => c2 e.2), if_pos c1, if_neg c2]
    · rw [if_neg (fun e => c1 e.1), if_neg c1]
theorem mean_m (h : VR p b (vwM u)) (hk : Ok (vwM u)) {m t dd : Int32} (hm : mMan u m = true) (ht : mThing u t = true) : vMean p b m t dd = mMeanO u m t dd := by
  have e2 : p.1 (b + 5) 3 = u.1 45 2 := h.2.2.2.1
  unfold vMean mMeanO
  rw [thrown_m h hk hm ht, tenths_m h hk hm ht, e2, sum_m h ht _ _ _ (by omega)]
theorem cast_m (h : VR p 2 (vwM u)) (hk : Ok (vwM u)) {m t : Int32} (hm : mMan u m = true) (ht : mThing u t = true) : ∀ (r i : Nat) (x y : Int32), csL p m t i r x y = mcL u m t i r x y
  | 0, _, _, _ => rfl
  | r + 1, i, x, y => by
    unfold csL mcL
    rw [mean_m h hk hm ht, cast_m h hk hm ht r, cast_m h hk hm ht r]
theorem sim_both (h : R p u) {m t : Int32} {n : Int32} {x : Int32 × hW} {y : Int32 × hW} (hxy : mMan u m = true → mThing u t = true → Sim p u x y) (hn : 0 < (-n).toInt ∧ (-n).toInt < 8) {r : Int32} : Sim p u (if vBoth p 2 m t = true then x else (r, rfA p n)) (if mMan u m = true then (if mThing u t = true then y else (r, mNo u n)) else (r, mNo u n)) := by
  rw [both_m h.1]
  by_cases hm : mMan u m = true
  · by_cases ht : mThing u t = true
    · rw [if_pos hm, if_pos ht, if_pos (by rw [hm, ht]; rfl)]; exact hxy hm ht
    · rw [if_pos hm, if_neg ht, if_neg (by simp [ht])]; exact Sim_no h hn
  · rw [if_neg hm, if_neg (by simp [hm])]; exact Sim_no h hn
theorem sim_caught (h : R p u) {m t dd : Int32} : Sim p u (xCaught p m t dd) (mCaught u m t dd) := by
  unfold xCaught mCaught xNo
  refine sim_both h (fun hm ht => ?_) k1
  by_cases hd : thOk dd = true
  · rw [if_pos hd, if_pos hd, tenths_m h.1 h.2.1 hm ht]; exact Sim_rf h
  · rw [if_neg hd, if_neg hd]; exact Sim_no h k6
theorem sim_mean (h : R p u) {m t dd : Int32} : Sim p u (xMean p m t dd) (mMean u m t dd) := by
  unfold xMean mMean xNo
  refine sim_both h (fun hm ht => ?_) k1
  by_cases hd : thOk dd = true
  · rw [if_pos hd, if_pos hd, mean_m h.1 h.2.1 hm ht]; exact Sim_rf h
  · rw [if_neg hd, if_neg hd]; exact Sim_no h k6
theorem sim_cast (h : R p u) {m t : Int32} : Sim p u (xCast p m t) (mCast u m t) := by
  unfold xCast mCast xNoT
  exact sim_both h (fun hm ht => by rw [cast_m h.1 h.2.1 hm ht]; exact Sim_rf h) k1
theorem rand_m {s : Int32} : vRand s 10 = mRnd s 10 := by
  unfold vRand mRnd
  rw [if_pos (by decide)]
def tosV (V : Nat → Nat → Int32) (m t : Nat) (st sd : Int32) : Nat → Nat → Int32 := movV (vset V 0 7 sd) m t st (-1)
theorem thr_Std {m t dd : Int32} (h : mThr u m t dd = true) : Std (vwM u) (u.1 50 t.toNatClampNeg + dd) := by
  unfold mThr at h
  rw [Bool.and_eq_true] at h
  exact step_Std h.2
theorem vwM_tos0 {m t dd : Int32} : vwM (mDone (mTir (mTos0 u t dd) m t)) = tosV (vwM u) m.toNatClampNeg t.toNatClampNeg (u.1 50 t.toNatClampNeg + dd) (mSeed2 u) := by
  unfold mDone mTir mTos0
  rw [vwM_0, vw8, vw5, vw4, vwM_0]
  unfold tosV movV
  have e8 : (wI (wI (wI u 45 7 (mSeed2 u)) 50 t.toNatClampNeg (u.1 50 t.toNatClampNeg + dd)) 51 t.toNatClampNeg (-1)).1 54 m.toNatClampNeg = vwM u 8 m.toNatClampNeg := by rw [wI_q (by omega), wI_q (by omega), wI_q (by omega)]; rfl
  have e2 : (wI (wI (wI u 45 7 (mSeed2 u)) 50 t.toNatClampNeg (u.1 50 t.toNatClampNeg + dd)) 51 t.toNatClampNeg (-1)).1 48 t.toNatClampNeg = vwM u 2 t.toNatClampNeg := by rw [wI_q (by omega), wI_q (by omega), wI_q (by omega)]; rfl
  have f8 : vset (vwM u) 0 7 (mSeed2 u) 8 m.toNatClampNeg = vwM u 8 m.toNatClampNeg := vset_c (by omega)
  have f2 : vset (vwM u) 0 7 (mSeed2 u) 2 t.toNatClampNeg = vwM u 2 t.toNatClampNeg := vset_c (by omega)
  have f0 : vset (vwM u) 0 7 (mSeed2 u) 0 8 = vwM u 0 8 := vset_o (by omega)
  rw [e8, e2, f8, f2, f0, wI_q (by omega), wI_q (by omega), wI_q (by omega), wI_o (by omega)]
  rfl
theorem seed_m (h : VR p b (vwM u)) : vSeed2 p b = mSeed2 u := by
  unfold vSeed2 mSeed2
  rw [VR_s h (k := 7) (by omega) (by omega)]
  rfl
theorem flC_m (hb : isVal b) (h : VR p b (vwM u)) (hk : Ok (vwM u)) {m t dd : Int32} (hm : mMan u m = true) (ht : mThing u t = true) : vFlC p b m t dd = mTosC u m t dd := by
  unfold vFlC mTosC
  rw [seed_m h, rand_m]
  have hv : VR (wI p b 7 (mSeed2 u)) b (vwM (wI u 45 7 (mSeed2 u))) := by rw [vwM_0]; exact VR_sc h (by omega) (by omega)
  have hk2 : Ok (vwM (wI u 45 7 (mSeed2 u))) := by rw [vwM_0]; exact Ok_seed hk (Or.inl rfl)
  have e : ∀ k, k ≠ 7 → (wI u 45 7 (mSeed2 u)).1 45 k = u.1 45 k := fun k hk => wI_o (by omega)
  have hm2 : mMan (wI u 45 7 (mSeed2 u)) m = true := by unfold mMan at hm ⊢; rw [e 1 (by omega)]; exact hm
  have ht2 : mThing (wI u 45 7 (mSeed2 u)) t = true := by unfold mThing at ht ⊢; rw [e 0 (by omega)]; exact ht
  rw [tenths_m hv hk2 hm2 ht2]
  unfold mCau mFar mFarBy
  rw [e 6 (by omega), wI_q (by omega), wI_q (by omega), wI_q (by omega), wI_q (by omega), wI_q (by omega)]
theorem VR_flW (hb : isVal b) (h : VR p b (vwM u)) {m t dd : Int32} (hm : mMan u m = true) (ht : mThing u t = true) : VR (vFlW p b m t dd) b (tosV (vwM u) m.toNatClampNeg t.toNatClampNeg (u.1 50 t.toNatClampNeg + dd) (mSeed2 u)) := by
  have hm2 := hm
  have ht2 := ht
  rw [← hasM h] at hm2
  rw [← hasT h] at ht2
  unfold vFlW tosV
  rw [seed_m h]
  refine VR_had hb (VR_sc h (by omega) (by omega)) (by rw [tHas_wI (by omega)]; exact hm2) (by rw [tHas_wI (by omega)]; exact ht2) ?_
  unfold vStep
  rw [tCell_wI hb (vt1 hb)]
  show vStep p b t + dd = _
  rw [step_m h ht]
theorem frb_flW {m t dd : Int32} : frb b p (vFlW p b m t dd) := by
  unfold vFlW vMove
  exact frb.tr (frb.tr (frb.tr (frb.tr (frb_wI (by omega) (by omega)) (frb_put (by omega) (by omega))) (frb_put (by omega) (by omega))) (frb_wI (by omega) (by omega))) (frb_put (by omega) (by omega))
theorem frm_tos0 {t dd : Int32} : frm u (mTos0 u t dd) := by
  unfold mTos0
  exact frm.tr (frm.tr (frm_0 (by omega)) (frm_c (by omega) (by omega))) (frm_c (by omega) (by omega))
theorem frm_tir {m t : Int32} : frm u (mTir u m t) := frm_c (by omega) (by omega)
theorem Ok_bro (h : Ok V) {t : Nat} {v : Int32} (hv : v = 0 ∨ v = 1) : Ok (vset V 6 t v) := by
  obtain ⟨⟨o0, o1, o2, o3, o4, o5⟩, oT, oM, oW⟩ := h
  have e : ∀ c j, c ≠ 6 → vset V 6 t v c j = V c j := fun c j hc => vset_c hc
  have S : ∀ {x}, Std V x → Std (vset V 6 t v) x := fun hx => Std_V (e 0 3 (by omega)) (e 0 4 (by omega)) (e 0 5 (by omega)) hx
  refine ⟨⟨?_, ?_, ?_, ?_, ?_, ?_⟩, fun t' ht' => ?_, fun m' hm' => ?_, fun i hi => ?_⟩
  · rw [e 0 0 (by omega)]; exact o0
  · rw [e 0 1 (by omega)]; exact o1
  · rw [e 0 2 (by omega)]; exact o2
  · rw [e 0 3 (by omega)]; exact o3
  · rw [e 0 3 (by omega), e 0 4 (by omega), e 0 5 (by omega)]; exact o4
  · rw [e 0 6 (by omega)]; exact o5
  · rw [e 0 0 (by omega)] at ht'
    obtain ⟨b1, b2, b3, b4, b5, b6⟩ := oT t' ht'
    rw [e 1 t' (by omega), e 2 t' (by omega), e 3 t' (by omega), e 4 t' (by omega), e 5 t' (by omega), e 0 1 (by omega)]
    refine ⟨b1, b2, b3, S b4, b5, ?_⟩
    unfold vset
    split
    · exact hv
    · exact b6
  · rw [e 0 1 (by omega)] at hm'
    rw [e 7 m' (by omega), e 8 m' (by omega)]
    exact oM m' hm'
  · rw [e 0 2 (by omega)] at hi
    obtain ⟨b1, b2, b3⟩ := oW i hi
    rw [e 9 i (by omega), e 10 i (by omega), e 11 i (by omega), e 0 0 (by omega)]
    exact ⟨b1, S b2, b3⟩
theorem sim_toss (h : R p u) {m t dd : Int32} : Sim p u (xToss p m t dd) (mToss u m t dd) := by
  unfold xToss mToss xNo
  refine sim_both h (fun hm ht => ?_) k1
  by_cases hd : thOk dd = true
  · rw [if_pos hd, if_pos hd, thrown_m h.1 h.2.1 hm ht]
    by_cases hth : mThr u m t dd = true
    · rw [if_pos hth, if_pos hth]
      have ht2 := ht
      rw [← hasT h.1] at ht2
      have c5 : tCell p 3 t 5 = u.1 52 t.toNatClampNeg := vT5 h.1 ht2
      have c0 : tCell p 3 t 0 = u.1 47 t.toNatClampNeg := vT0 h.1 ht2
      rw [c5]
      rcases (Ok_T h.2.1 ht).2.2.2.2.2 with e | e
      · rw [e, if_pos rfl, if_neg (by decide), flC_m iv2 h.1 h.2.1 hm ht]
        have rm := mM_rng (R_mI h) hm
        have rt := mT_rng (R_mI h) ht
        have hv := VR_flW iv2 h.1 hm ht (dd := dd)
        have hok : Ok (tosV (vwM u) m.toNatClampNeg t.toNatClampNeg (u.1 50 t.toNatClampNeg + dd) (mSeed2 u)) := by
          have e7 : ∀ j, j ≤ 6 → vset (vwM u) 0 7 (mSeed2 u) 0 j = vwM u 0 j := fun j hj => vset_o (by omega)
          refine Ok_mov (Ok_seed h.2.1 (Or.inl rfl)) ?_ ?_ (Std_V (e7 3 (by omega)) (e7 4 (by omega)) (e7 5 (by omega)) (thr_Std hth)) (Or.inl rfl)
          · rw [e7 1 (by omega), i32_clamp]; show _ < (u.1 45 1).toInt; omega
          · rw [e7 0 (by omega), i32_clamp]; show _ < (u.1 45 0).toInt; omega
        have hsz : ∀ {w : hW}, (∀ a, tosV (vwM u) m.toNatClampNeg t.toNatClampNeg (u.1 50 t.toNatClampNeg + dd) (mSeed2 u) 0 a = vwM w 0 a) → (u.1 45 0).toInt ≤ (w.1 45 0).toInt := by
          intro w hw
          have e := hw 0
          unfold tosV movV at e
          rw [vset_o (by omega), vset_c (by omega), vset_c (by omega), vset_c (by omega), vset_o (by omega)] at e
          show ((vwM u) 0 0).toInt ≤ ((vwM w) 0 0).toInt
          rw [e]
          exact Int.le_refl _
        unfold vFling mTosW
        rw [flC_m iv2 h.1 h.2.1 hm ht]
        by_cases hC : mTosC u m t dd = true
        · rw [hC, if_pos rfl, if_pos rfl]
          refine Sim_val h frb_flW (frm.tr (frm.tr frm_tos0 frm_tir) frm_done) ?_ ?_ (hsz (fun a => by rw [vwM_tos0]))
          · rw [vwM_tos0]; exact hv
          · rw [vwM_tos0]; exact hok
        · rw [Bool.not_eq_true] at hC
          have hh : tHas (vFlW p 2 m t dd) 3 t = true := by
            unfold vFlW
            rw [tHas_tPut (p := 3) (q := 3) (vt1 iv2) (vt1 iv2)]
            show tHas (vMove (wI p 2 7 (vSeed2 p 2)) 2 m t dd) (2 + 1) t = true
            rw [tHas_move iv2, tHas_wI (by omega)]
            exact ht2
          have k0 : tCell (vFlW p 2 m t dd) 3 t 0 = u.1 47 t.toNatClampNeg := by
            have := vT0 hv hh
            have e0 : tosV (vwM u) m.toNatClampNeg t.toNatClampNeg (u.1 50 t.toNatClampNeg + dd) (mSeed2 u) 1 t.toNatClampNeg = u.1 47 t.toNatClampNeg := by
              unfold tosV movV
              rw [vset_c (by omega), vset_c (by omega), vset_c (by omega), vset_c (by omega), vset_c (by omega)]
              rfl
            rw [e0] at this
            exact this
          rw [hC, if_neg (show ¬ (false = true) by decide), if_neg (show ¬ (false = true) by decide)]
          show Sim p u (_, if tCell (vFlW p 2 m t dd) 3 t 0 = 4 then _ else _) _
          rw [k0]
          by_cases hg : u.1 47 t.toNatClampNeg = 4
          · rw [if_pos hg, if_pos hg]
            have ev : vwM (mDone (mTir (wI (mTos0 u t dd) 52 t.toNatClampNeg 1) m t)) = vset (tosV (vwM u) m.toNatClampNeg t.toNatClampNeg (u.1 50 t.toNatClampNeg + dd) (mSeed2 u)) 6 t.toNatClampNeg 1 := by
              rw [← vwM_tos0]
              unfold mDone mTir
              rw [vwM_0, vw8, vw6, vwM_0, vw8]
              rw [wI_q (p := 52) (q := 54) (by omega), wI_q (p := 52) (q := 48) (by omega), wI_q (p := 54) (q := 45) (by omega), wI_q (p := 52) (q := 45) (by omega), wI_q (p := 54) (q := 45) (by omega)]
              rw [vset_cm (c := 6) (by omega), vset_cm (c := 6) (by omega)]
            refine Sim_val h (frb.tr frb_flW (frb_put (by omega) (by omega))) (frm.tr (frm.tr (frm.tr frm_tos0 (frm_c (by omega) (by omega))) frm_tir) frm_done) ?_ ?_ (hsz (fun a => by rw [ev, vset_c (by omega)]))
            · rw [ev]; exact VR_putT hv hh (c := 5) (by omega)
            · rw [ev]; exact Ok_bro hok (Or.inr rfl)
          · rw [if_neg hg, if_neg hg]
            refine Sim_val h frb_flW (frm.tr (frm.tr frm_tos0 frm_tir) frm_done) ?_ ?_ (hsz (fun a => by rw [vwM_tos0]))
            · rw [vwM_tos0]; exact hv
            · rw [vwM_tos0]; exact hok
      · rw [e, if_neg (by decide), if_pos rfl]; exact Sim_no h k6
    · rw [if_neg hth, if_neg hth]; exact Sim_no h k6
  · rw [if_neg hd, if_neg hd]; exact Sim_no h k6
end

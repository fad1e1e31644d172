/-! THE TWO SIDES ALIKE: shelves -/
section
variable {p u p' u' : hW}
theorem R_sh (h : R p u) (hx : ∀ q, q ≠ 24 → q ≠ 25 → p'.1 q = p.1 q) (hm : ∀ q, (q < 58 ∨ 61 < q) → u'.1 q = u.1 q) (hs : ∀ s, s < 8 → RS p' u' s) : R p' u' := by
  obtain ⟨r1, r2, ⟨r3, r4⟩, r5, r6, ⟨r7, r8⟩, r9, ⟨ra, rb, rc⟩, rd⟩ := h
  have hv : eqV (vwM u) (vwM u') := ⟨fun k _ => by unfold vwM; rw [if_pos rfl, if_pos rfl, hm _ (by omega)], fun c i h1 h2 _ => by unfold vwM; rw [if_neg (by omega), if_neg (by omega), hm _ (by omega)], fun c i h1 h2 _ => by unfold vwM; rw [if_neg (by omega), if_neg (by omega), hm _ (by omega)]⟩
  have hk : vwK u' 67 = vwK u 67 := by funext c i; unfold vwK; rw [hm _ (by omega)]
  refine ⟨VR_ext (VR_o r1 (fun q a a' => hx q (by omega) (by omega))) hv, Ok_ext r2 hv, ⟨vI_o r3 (fun q a a' => hx q (by omega) (by omega)), vI_o r4 (fun q a a' => hx q (by omega) (by omega))⟩, hs, fun k a a' => ?_, ⟨?_, fun e => ?_⟩, ?_, ⟨?_, ?_, fun j hj => ?_⟩, fun i hi => ?_⟩
  · rw [hx 1 (by omega) (by omega), hm 46 (by omega)]; exact r6 k a a'
  · rw [hx 0 (by omega) (by omega), hm 45 (by omega)]; exact r7
  · rw [hm 45 (by omega)] at e
    rw [hk]
    exact ⟨VR_o (r8 e).1 (fun q a a' => hx q (by omega) (by omega)), (r8 e).2⟩
  · rw [hx 0 (by omega) (by omega), hm 45 (by omega)]; exact r9
  · rw [hx 43 (by omega) (by omega), hm 45 (by omega)]; exact ra
  · rw [hm 45 (by omega)]; exact rb
  · rw [hx 44 (by omega) (by omega), hm 77 (by omega)]; exact rc j hj
  · rw [hm 64 (by omega)]; exact rd i hi
theorem mThing_p (h : u'.1 45 = u.1 45) {t : Int32} : mThing u' t = mThing u t := by unfold mThing; rw [h]
/-- a shelf's three states, as the class asks of them -/
theorem add100 {o : Int32} (h : 0 ≤ o.toInt ∧ o.toInt ≤ 3) : (100 + o).toInt = 100 + o.toInt := by
  have c : (100 : Int32).toInt = 100 := rfl
  rw [i32_add (by rw [c]; omega) (by rw [c]; omega), c]
theorem sh_0 {s : Int32} (hs : sHas s = true) (e : p.1 24 s.toNatClampNeg = -1) : sCont p s = -1 ∧ sRow p s = false ∧ sThing p s = false := by
  have e1 : sCont p s = -1 := by unfold sCont; rw [if_pos hs, e]
  have e2 : sRow p s = false := by unfold sRow; rw [e1]; decide
  exact ⟨e1, e2, by unfold sThing; rw [e1]; rfl⟩
theorem sh_1 {s o : Int32} (hs : sHas s = true) (ho : 0 ≤ o.toInt ∧ o.toInt ≤ 3) (e : p.1 24 s.toNatClampNeg = 100 + o) : sCont p s = 100 + o ∧ sRow p s = true ∧ sThing p s = false := by
  have e1 : sCont p s = 100 + o := by unfold sCont; rw [if_pos hs, e]
  have c : (100 : Int32).toInt = 100 := rfl
  have e2 : sRow p s = true := by
    unfold sRow
    rw [e1, decide_eq_false (by rw [i32_lt, add100 ho, c]; omega)]
    rfl
  exact ⟨e1, e2, by unfold sThing; rw [e2, Bool.not_true, Bool.and_false]⟩
theorem sh_2 {s t : Int32} (hs : sHas s = true) (ht : 0 ≤ t.toInt ∧ t.toInt ≤ 8) (e : p.1 24 s.toNatClampNeg = t) : sCont p s = t ∧ sRow p s = false ∧ sThing p s = true := by
  have e1 : sCont p s = t := by unfold sCont; rw [if_pos hs, e]
  have c : (100 : Int32).toInt = 100 := rfl
  have m1 : (-1 : Int32).toInt = -1 := rfl
  have e2 : sRow p s = false := by
    unfold sRow
    rw [e1, decide_eq_true (by rw [i32_lt, c]; omega)]
    rfl
  exact ⟨e1, e2, by unfold sThing; rw [e1, e2, decide_eq_false (by rw [i32_eq, m1]; omega)]; rfl⟩
theorem R_thing (h : R p u) {t : Int32} (ht : mThing u t = true) : 0 ≤ t.toInt ∧ t.toInt < 8 := by
  have hr := mT_rng (R_mI h) ht
  have := (R_mI h).1.2
  omega
theorem sNo_m (h : R p u) (s : Int32) : sNo p s = mBars u s := by
  unfold sNo mBars
  by_cases hs : sHas s = true
  · rw [if_pos hs, if_pos hs]
    obtain ⟨-, ⟨e1, e2, e3⟩ | ⟨e1, e2, e3, -⟩ | ⟨e1, e2, e3, -⟩⟩ := h.2.2.2.1 _ (sHas_lt hs)
    · obtain ⟨q1, q2, q3⟩ := sh_0 hs e2
      rw [q2, q3, e1]
      decide
    · obtain ⟨q1, q2, q3⟩ := sh_1 hs e3 e2
      rw [q2, e1, if_pos rfl, if_neg (by decide), if_neg (by decide)]
    · have := R_thing h e3
      obtain ⟨q1, q2, q3⟩ := sh_2 hs (by omega) e2
      rw [q2, q3, e1]
      decide
  · rw [if_neg hs, if_neg hs]
theorem size_m (h : R p u) {s : Int32} (hs : sHas s = true) (h1 : u.1 58 s.toNatClampNeg = 1) : sSize p s = u.1 60 s.toNatClampNeg := by
  unfold sSize
  rw [if_pos hs]
  obtain ⟨-, ⟨e1, -⟩ | ⟨e1, e2, e3, e4, -⟩ | ⟨e1, -⟩⟩ := h.2.2.2.1 _ (sHas_lt hs)
  · rw [e1] at h1; exact absurd h1 (by decide)
  · exact e4
  · rw [e1] at h1; exact absurd h1 (by decide)
theorem bars_row {s : Int32} (h : R p u) (hb : mBars u s = 0) : sHas s = true ∧ u.1 58 s.toNatClampNeg = 1 := by
  unfold mBars at hb
  by_cases hs : sHas s = true
  · refine ⟨hs, ?_⟩
    rw [if_pos hs] at hb
    obtain ⟨-, ⟨e1, -⟩ | ⟨e1, -⟩ | ⟨e1, -⟩⟩ := h.2.2.2.1 _ (sHas_lt hs)
    · rw [e1] at hb; exact absurd hb (by decide)
    · exact e1
    · rw [e1] at hb; exact absurd hb (by decide)
  · rw [if_neg hs] at hb; exact absurd hb (by decide)
theorem span_m (h : R p u) {s i n : Int32} (hs : sHas s = true) (h1 : u.1 58 s.toNatClampNeg = 1) (hn : ¬ n < 0) : sSpan p s i n = (!decide (i < 0) && !decide (u.1 60 s.toNatClampNeg - n < i)) := by
  have z : (0 : Int32).toInt = 0 := rfl
  have hz := (h.2.2.2.1 _ (sHas_lt hs)).1
  unfold sSpan
  rw [size_m h hs h1, decide_eq_false hn, Bool.not_false, Bool.true_and]
  rw [i32_lt, z] at hn
  have e2 := i32_sub (a := u.1 60 s.toNatClampNeg) (b := n) (by have := Int32.toInt_lt n; omega) (by omega)
  congr 2
  rw [decide_eq_decide, i64_lt, i64_addI, toI64, i32_lt, e2]
  omega
theorem span_1 (h : R p u) {s i : Int32} (hs : sHas s = true) (h1 : u.1 58 s.toNatClampNeg = 1) : sSpan p s i 1 = (!decide (i < 0) && decide (i < u.1 60 s.toNatClampNeg)) := by
  have o : (1 : Int32).toInt = 1 := rfl
  have hz := (h.2.2.2.1 _ (sHas_lt hs)).1
  rw [span_m h hs h1 (by decide)]
  congr 1
  rw [← decide_not, decide_eq_decide, i32_lt, i32_lt, i32_sub (by rw [o]; omega) (by rw [o]; omega), o]
  omega
theorem cell_n {s i : Int32} (hs : sHas s = true) (h0 : 0 ≤ i.toInt) (h1 : i.toInt < 160) : (160 * s + i).toNatClampNeg = 160 * s.toNatClampNeg + i.toNatClampNeg := by
  have e := (mCel_at hs h0 h1).1
  have hi := sHas_in hs
  rw [i32_clamp, i32_clamp, i32_clamp, e]
  have := hi.1
  omega
theorem row_cells (h : R p u) {s : Int32} (hs : sHas s = true) (h1 : u.1 58 s.toNatClampNeg = 1) : ∀ j, j < 160 → p.2 (27 + s.toNatClampNeg) j = u.2 62 (160 * s.toNatClampNeg + j) := by
  obtain ⟨-, ⟨e1, -⟩ | ⟨e1, e2, e3, e4, e5⟩ | ⟨e1, -⟩⟩ := h.2.2.2.1 _ (sHas_lt hs)
  · rw [e1] at h1; exact absurd h1 (by decide)
  · exact e5
  · rw [e1] at h1; exact absurd h1 (by decide)
theorem long_m (h : R p u) {s i : Int32} (hs : sHas s = true) (h1 : u.1 58 s.toNatClampNeg = 1) (hi : sSpan p s i 1 = true) : sLong p s i = u.2 62 (160 * s + i).toNatClampNeg := by
  unfold sLong
  rw [if_pos hi]
  rw [span_1 h hs h1] at hi
  have z : (0 : Int32).toInt = 0 := rfl
  simp only [Bool.and_eq_true, Bool.not_eq_true', decide_eq_false_iff_not, decide_eq_true_eq, i32_lt, z] at hi
  have hz := (h.2.2.2.1 _ (sHas_lt hs)).1
  rw [cell_n hs (by omega) (by omega), row_cells h hs h1 _ (by rw [i32_clamp]; omega)]
theorem sim_holds (h : R p u) {s : Int32} : sCont p s = mHolds u s := by
  unfold mHolds
  by_cases hs : sHas s = true
  · rw [if_pos hs]
    obtain ⟨-, ⟨e1, e2, e3⟩ | ⟨e1, e2, e3, -⟩ | ⟨e1, e2, e3, -⟩⟩ := h.2.2.2.1 _ (sHas_lt hs)
    · rw [(sh_0 hs e2).1, if_pos e1]
    · rw [(sh_1 hs e3 e2).1, e1]
      rfl
    · have := R_thing h e3
      rw [(sh_2 hs (by omega) e2).1, e1]
      rfl
  · rw [if_neg hs]
    unfold sCont
    rw [if_neg hs]
theorem span_0 {s i : Int32} (e : sSize p s = 0) : sSpan p s i 1 = false := by
  have z : (0 : Int32).toInt = 0 := rfl
  have o : (1 : Int32).toInt = 1 := rfl
  unfold sSpan
  rw [e]
  by_cases hi : i < 0
  · rw [decide_eq_true hi]; rfl
  · rw [i32_lt, z] at hi
    rw [decide_eq_true (p := (0 : Int32).toInt64 < i.toInt64 + (1 : Int32).toInt64) (by rw [i64_lt, i64_addI, toI64, z, o]; omega)]
    simp
theorem sim_element (h : R p u) {s i : Int32} : sLong p s i = mElem u s i := by
  unfold mElem
  by_cases hs : sHas s = true
  · rw [if_pos hs]
    by_cases h1 : u.1 58 s.toNatClampNeg = 1
    · rw [if_pos h1]
      have e := span_1 h hs h1 (i := i)
      by_cases hi : i < 0
      · rw [if_pos hi]
        unfold sLong
        rw [e, decide_eq_true hi]
        rfl
      · rw [if_neg hi]
        by_cases hz : i < u.1 60 s.toNatClampNeg
        · rw [if_pos hz]
          exact long_m h hs h1 (by rw [e, decide_eq_false hi, decide_eq_true hz]; rfl)
        · rw [if_neg hz]
          unfold sLong
          rw [e, decide_eq_false hi, decide_eq_false hz]
          rfl
    · rw [if_neg h1]
      have e0 : sSize p s = 0 := by
        unfold sSize
        rw [if_pos hs]
        obtain ⟨-, ⟨e1, e2, e3⟩ | ⟨e1, -⟩ | ⟨e1, e2, e3, e4⟩⟩ := h.2.2.2.1 _ (sHas_lt hs)
        · exact e3
        · exact absurd e1 h1
        · exact e4
      unfold sLong
      rw [span_0 e0]
      rfl
  · rw [if_neg hs]
    have e0 : sSize p s = 0 := by unfold sSize; rw [if_neg hs]
    unfold sLong
    rw [span_0 e0]
    rfl
/-! one shelf changed -/
theorem RS_oth {s s' : Nat} (h : RS p u s') (h24 : p'.1 24 s' = p.1 24 s') (h25 : p'.1 25 s' = p.1 25 s') (h58 : u'.1 58 s' = u.1 58 s') (h59 : u'.1 59 s' = u.1 59 s') (h60 : u'.1 60 s' = u.1 60 s') (h61 : u'.1 61 s' = u.1 61 s') (h45 : u'.1 45 = u.1 45) (hc : ∀ j, j < 160 → p'.2 (27 + s') j = p.2 (27 + s') j ∧ u'.2 62 (160 * s' + j) = u.2 62 (160 * s' + j)) : RS p' u' s' := by
  unfold RS at h ⊢
  rw [h24, h25, h58, h59, h60, h61, mThing_p h45]
  obtain ⟨h1, h2 | ⟨h2, h3, h4, h5, h6⟩ | h2⟩ := h
  · exact ⟨h1, Or.inl h2⟩
  · exact ⟨h1, Or.inr (Or.inl ⟨h2, h3, h4, h5, fun j hj => by rw [(hc j hj).1, (hc j hj).2]; exact h6 j hj⟩)⟩
  · exact ⟨h1, Or.inr (Or.inr h2)⟩
theorem mZer_is {s : Int32} (hs : sHas s = true) : ∀ (m i : Nat) (w : hW), i + m ≤ 160 → (mZer s i m w).1 = w.1 ∧ ∀ q j, (mZer s i m w).2 q j = if q = 62 ∧ 160 * s.toNatClampNeg + i ≤ j ∧ j < 160 * s.toNatClampNeg + i + m then 0 else w.2 q j
  | 0, i, w, _ => ⟨rfl, fun q j => by rw [if_neg (by omega)]; rfl⟩
  | m + 1, i, w, h => by
    have ih := mZer_is hs m (i + 1) (wJ w 62 (160 * s + nI i).toNatClampNeg 0) (by omega)
    have e : (160 * s + nI i).toNatClampNeg = 160 * s.toNatClampNeg + i := by
      rw [cell_n hs (by rw [nI_toInt (by omega)]; omega) (by rw [nI_toInt (by omega)]; omega), nI_cl (by omega)]
    unfold mZer
    refine ⟨ih.1, fun q j => ?_⟩
    rw [ih.2 q j, e]
    unfold wJ
    by_cases c : q = 62 ∧ 160 * s.toNatClampNeg + (i + 1) ≤ j ∧ j < 160 * s.toNatClampNeg + (i + 1) + m
    · rw [if_pos c, if_pos (by omega)]
    · rw [if_neg c]
      by_cases c2 : q = 62 ∧ j = 160 * s.toNatClampNeg + i
      · rw [if_pos (by omega)]
        exact if_pos c2
      · rw [if_neg (by omega)]
        exact if_neg c2
theorem sim_row (h : R p u) {s o n : Int32} : Sim p u (xRow p s o n) (mRow u s o n) := by
  unfold xRow mRow
  by_cases hs : sHas s = true
  · rw [if_pos hs, if_pos hs]
    by_cases h1 : n < 0
    · rw [if_pos h1, if_pos h1]; exact Sim_no h k4
    · rw [if_neg h1, if_neg h1]
      by_cases h2 : o < 0
      · rw [if_pos h2, if_pos h2]; exact Sim_no h k6
      · rw [if_neg h2, if_neg h2]
        by_cases h3 : 3 < o
        · rw [if_pos h3, if_pos h3]; exact Sim_no h k6
        · rw [if_neg h3, if_neg h3]
          by_cases h4 : 160 < n
          · rw [if_pos h4, if_pos h4]; exact Sim_no h k7
          · rw [if_neg h4, if_neg h4]
            have hz := mZer_is hs 160 0 (wI (wI (wI u 58 s.toNatClampNeg 1) 59 s.toNatClampNeg o) 60 s.toNatClampNeg n) (by omega)
            have z : (0 : Int32).toInt = 0 := rfl
            have z3 : (3 : Int32).toInt = 3 := rfl
            have z160 : (160 : Int32).toInt = 160 := rfl
            rw [i32_lt, z] at h1 h2
            rw [i32_lt, z3] at h3
            rw [i32_lt, z160] at h4
            refine ⟨rfl, R_sh h ?_ ?_ ?_, ⟨fun q hq => ?_, fun q hq => ?_⟩, ⟨fun q hq => ?_, fun q hq => ?_⟩⟩
            · intro q q1 q2
              show (wI (wI p 24 s.toNatClampNeg (100 + o)) 25 s.toNatClampNeg n).1 q = _
              rw [wI_q q2, wI_q q1]
            · intro q hq
              rw [hz.1, wI_q (by omega), wI_q (by omega), wI_q (by omega)]
            · intro s' h8
              have hS := h.2.2.2.1 s' h8
              by_cases e : s' = s.toNatClampNeg
              · subst e
                unfold RS
                rw [hz.1]
                have a58 : (wI (wI (wI u 58 s.toNatClampNeg 1) 59 s.toNatClampNeg o) 60 s.toNatClampNeg n).1 58 s.toNatClampNeg = 1 := by rw [wI_q (by omega), wI_q (by omega), wI_s]
                have a59 : (wI (wI (wI u 58 s.toNatClampNeg 1) 59 s.toNatClampNeg o) 60 s.toNatClampNeg n).1 59 s.toNatClampNeg = o := by rw [wI_q (by omega), wI_s]
                rw [wI_s, a58, a59]
                refine ⟨⟨by omega, by omega⟩, Or.inr (Or.inl ⟨rfl, ?_, ⟨by omega, by omega⟩, ?_, fun j hj => ?_⟩)⟩
                · show (wI (wI p 24 s.toNatClampNeg (100 + o)) 25 s.toNatClampNeg n).1 24 _ = _
                  rw [wI_q (by omega), wI_s]
                · show (wI (wI p 24 s.toNatClampNeg (100 + o)) 25 s.toNatClampNeg n).1 25 _ = _
                  rw [wI_s]
                · rw [hz.2, if_pos (by omega)]
                  exact if_pos ⟨rfl, hj⟩
              · refine RS_oth (s := 0) hS ?_ ?_ ?_ ?_ ?_ ?_ ?_ (fun j hj => ⟨?_, ?_⟩)
                · show (wI (wI p 24 s.toNatClampNeg (100 + o)) 25 s.toNatClampNeg n).1 24 _ = _
                  rw [wI_q (by omega), wI_o (by omega)]
                · show (wI (wI p 24 s.toNatClampNeg (100 + o)) 25 s.toNatClampNeg n).1 25 _ = _
                  rw [wI_o (by omega), wI_q (by omega)]
                · rw [hz.1, wI_q (by omega), wI_q (by omega), wI_o (by omega)]
                · rw [hz.1, wI_q (by omega), wI_o (by omega), wI_q (by omega)]
                · rw [hz.1, wI_o (by omega), wI_q (by omega), wI_q (by omega)]
                · rw [hz.1, wI_q (by omega), wI_q (by omega), wI_q (by omega)]
                · rw [hz.1, wI_q (by omega), wI_q (by omega), wI_q (by omega)]
                · exact if_neg (by omega)
                · rw [hz.2, if_neg (by omega)]
                  rfl
            · show (wI (wI p 24 s.toNatClampNeg (100 + o)) 25 s.toNatClampNeg n).1 q = _
              rw [wI_q (by omega), wI_q (by omega)]
            · funext j
              exact if_neg (by have := sHas_lt hs; omega)
            · rw [hz.1, wI_q (by omega), wI_q (by omega), wI_q (by omega)]
            · funext j
              rw [hz.2, if_neg (by omega)]
              rfl
  · rw [if_neg hs, if_neg hs]; exact Sim_no h k1
theorem sim_show (h : R p u) {s t : Int32} : Sim p u (xShow p s t) (mShow u s t) := by
  unfold xShow mShow
  by_cases hs : sHas s = true
  · rw [if_pos hs, if_pos hs]
    have h45 : ∀ (a b : Int32) , (wI (wI u 58 s.toNatClampNeg a) 61 s.toNatClampNeg b).1 45 = u.1 45 := fun a b => by rw [wI_q (by omega), wI_q (by omega)]
    have hfr : ∀ (v r : Int32), ((v = 0 ∧ t = -1) ∨ (v = 2 ∧ mThing u t = true)) → Sim p u (r, sHold p s t) (r, wI (wI u 58 s.toNatClampNeg v) 61 s.toNatClampNeg t) := by
      intro v r hv
      unfold sHold
      rw [if_pos hs]
      refine ⟨rfl, R_sh h (fun q a a' => by rw [wI_q a', wI_q a]) (fun q hq => by rw [wI_q (by omega), wI_q (by omega)]) (fun s' h8 => ?_), ⟨fun q hq => by rw [wI_q (by omega), wI_q (by omega)], fun q _ => rfl⟩, ⟨fun q hq => by rw [wI_q (by omega), wI_q (by omega)], fun q _ => rfl⟩⟩
      have hS := h.2.2.2.1 s' h8
      by_cases e : s' = s.toNatClampNeg
      · subst e
        unfold RS
        have hm45 : mThing (wI (wI u 58 s.toNatClampNeg v) 61 s.toNatClampNeg t) t = mThing u t := mThing_p (h45 v t)
        have a61 : (wI (wI u 58 s.toNatClampNeg v) 61 s.toNatClampNeg t).1 61 s.toNatClampNeg = t := wI_s
        show (0 ≤ ((wI (wI u 58 s.toNatClampNeg v) 61 s.toNatClampNeg t).1 60 s.toNatClampNeg).toInt ∧ _) ∧ ((wI (wI u 58 s.toNatClampNeg v) 61 s.toNatClampNeg t).1 58 s.toNatClampNeg = 0 ∧ (wI (wI p 24 s.toNatClampNeg t) 25 s.toNatClampNeg 0).1 24 s.toNatClampNeg = -1 ∧ (wI (wI p 24 s.toNatClampNeg t) 25 s.toNatClampNeg 0).1 25 s.toNatClampNeg = 0 ∨ _ ∨ ((wI (wI u 58 s.toNatClampNeg v) 61 s.toNatClampNeg t).1 58 s.toNatClampNeg = 2 ∧ (wI (wI p 24 s.toNatClampNeg t) 25 s.toNatClampNeg 0).1 24 s.toNatClampNeg = (wI (wI u 58 s.toNatClampNeg v) 61 s.toNatClampNeg t).1 61 s.toNatClampNeg ∧ mThing (wI (wI u 58 s.toNatClampNeg v) 61 s.toNatClampNeg t) ((wI (wI u 58 s.toNatClampNeg v) 61 s.toNatClampNeg t).1 61 s.toNatClampNeg) = true ∧ (wI (wI p 24 s.toNatClampNeg t) 25 s.toNatClampNeg 0).1 25 s.toNatClampNeg = 0))
        rw [a61, hm45]
        have a58 : (wI (wI u 58 s.toNatClampNeg v) 61 s.toNatClampNeg t).1 58 s.toNatClampNeg = v := by rw [wI_q (by omega), wI_s]
        have a60 : (wI (wI u 58 s.toNatClampNeg v) 61 s.toNatClampNeg t).1 60 = u.1 60 := by rw [wI_q (by omega), wI_q (by omega)]
        have a24 : (wI (wI p 24 s.toNatClampNeg t) 25 s.toNatClampNeg 0).1 24 s.toNatClampNeg = t := by rw [wI_q (by omega), wI_s]
        have a25 : (wI (wI p 24 s.toNatClampNeg t) 25 s.toNatClampNeg 0).1 25 s.toNatClampNeg = 0 := wI_s
        rw [a58, a60, a24, a25]
        refine ⟨hS.1, ?_⟩
        rcases hv with hv | hv
        · exact Or.inl ⟨hv.1, hv.2, rfl⟩
        · exact Or.inr (Or.inr ⟨hv.1, rfl, hv.2, rfl⟩)
      · refine RS_oth (s := 0) hS ?_ ?_ ?_ ?_ ?_ ?_ (h45 _ _) (fun j hj => ⟨rfl, rfl⟩)
        · rw [wI_q (by omega), wI_o (by omega)]
        · rw [wI_o (by omega), wI_q (by omega)]
        · rw [wI_q (by omega), wI_o (by omega)]
        · rw [wI_q (by omega), wI_q (by omega)]
        · rw [wI_q (by omega), wI_q (by omega)]
        · rw [wI_o (by omega), wI_q (by omega)]
    by_cases h1 : t = -1
    · rw [if_pos h1, if_pos h1]
      exact hfr 0 0 (Or.inl ⟨rfl, h1⟩)
    · rw [if_neg h1, if_neg h1, hasT h.1]
      by_cases h2 : mThing u t = true
      · rw [if_pos h2, if_pos h2]
        exact hfr 2 1 (Or.inr ⟨rfl, h2⟩)
      · rw [if_neg h2, if_neg h2]; exact Sim_no h k1
  · rw [if_neg hs, if_neg hs]; exact Sim_no h k1
end

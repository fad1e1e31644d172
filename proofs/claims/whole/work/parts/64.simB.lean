/-! THE TWO SIDES ALIKE: set, copy -/
section
variable {p u p' u' : hW}
theorem sort_m {o : Int32} (h : 0 ≤ o.toInt ∧ o.toInt ≤ 3) : 100 + o - 100 = o := by
  have c : (100 : Int32).toInt = 100 := rfl
  rw [i32_eq, i32_sub (by rw [add100 h, c]; omega) (by rw [add100 h, c]; omega), add100 h, c]
  omega
theorem sim_set (h : R p u) {s i : Int32} {v : Int64} : Sim p u (xSet p s i v) (mSetF u s i v) := by
  unfold xSet mSetF
  rw [sNo_m h]
  by_cases hs : sHas s = true
  · rw [if_pos hs]
    have hb : mBars u s = if u.1 58 s.toNatClampNeg = 2 then -2 else if u.1 58 s.toNatClampNeg = 0 then -3 else 0 := by unfold mBars; rw [if_pos hs]
    rw [hb]
    by_cases h2 : u.1 58 s.toNatClampNeg = 2
    · rw [if_pos h2, if_pos h2, if_neg (by decide)]; exact Sim_no h k2
    · rw [if_neg h2, if_neg h2]
      by_cases h0 : u.1 58 s.toNatClampNeg = 0
      · rw [if_pos h0, if_pos h0, if_neg (by decide)]; exact Sim_no h k3
      · rw [if_neg h0, if_neg h0, if_pos rfl]
        obtain ⟨hz, ⟨e1, -⟩ | ⟨e1, e2, e3, e4, e5⟩ | ⟨e1, -⟩⟩ := h.2.2.2.1 _ (sHas_lt hs)
        · exact absurd e1 h0
        · rw [span_1 h hs e1]
          by_cases hi : i < 0
          · rw [if_pos hi, if_neg (by simp [hi])]; exact Sim_no h k5
          · rw [if_neg hi]
            by_cases hn : i < u.1 60 s.toNatClampNeg
            · have hsp : sSpan p s i 1 = true := by rw [span_1 h hs e1, decide_eq_false hi, decide_eq_true hn]; rfl
              rw [if_pos hn, if_pos (by rw [decide_eq_false hi, decide_eq_true hn]; rfl)]
              have z : (0 : Int32).toInt = 0 := rfl
              rw [i32_lt, z] at hi
              rw [i32_lt] at hn
              have ec := cell_n hs (i := i) (by omega) (by omega)
              have ic := i32_clamp i
              have s8 := sHas_lt hs
              unfold sPut mPut
              rw [if_pos hsp, e2, sort_m e3, ec]
              refine ⟨rfl, R_sh h (fun q _ _ => rfl) (fun q _ => rfl) (fun s' h8 => ?_), ⟨fun q hq => rfl, fun q hq => ?_⟩, ⟨fun q hq => rfl, fun q hq => ?_⟩⟩
              · by_cases e : s' = s.toNatClampNeg
                · subst e
                  refine ⟨hz, Or.inr (Or.inl ⟨e1, e2, e3, e4, fun j hj => ?_⟩)⟩
                  show (if 27 + s.toNatClampNeg = 27 + s.toNatClampNeg ∧ j = i.toNatClampNeg then sLow (u.1 59 s.toNatClampNeg) v else p.2 _ j) = (if 62 = 62 ∧ 160 * s.toNatClampNeg + j = 160 * s.toNatClampNeg + i.toNatClampNeg then mNarrow (u.1 59 s.toNatClampNeg) v else u.2 62 _)
                  by_cases ej : j = i.toNatClampNeg
                  · rw [if_pos ⟨rfl, ej⟩, if_pos ⟨rfl, by rw [ej]⟩]
                    rfl
                  · rw [if_neg (by omega), if_neg (by omega)]
                    exact e5 j hj
                · refine RS_oth (s := 0) (h.2.2.2.1 s' h8) rfl rfl rfl rfl rfl rfl rfl (fun j hj => ⟨?_, ?_⟩)
                  · exact if_neg (by omega)
                  · exact if_neg (by omega)
              · funext j
                exact if_neg (by omega)
              · funext j
                exact if_neg (by omega)
            · rw [if_neg hn, if_neg (by rw [decide_eq_false hn, Bool.and_false]; decide)]; exact Sim_no h k5
        · exact absurd e1 h2
  · rw [if_neg hs]
    have hb : mBars u s = -1 := by unfold mBars; rw [if_neg hs]
    rw [hb, if_neg (by decide)]
    exact Sim_no h k1
theorem wJ_o2 {w : hW} {q r i j : Nat} {x : Int64} (h : ¬ (r = q ∧ j = i)) : (wJ w q i x).2 r j = w.2 r j := by
  show (if r = q ∧ j = i then x else w.2 r j) = _
  rw [if_neg h]
theorem wJ_s2 {w : hW} {q i : Nat} {x : Int64} : (wJ w q i x).2 q i = x := by
  show (if q = q ∧ i = i then x else w.2 q i) = _
  rw [if_pos ⟨rfl, rfl⟩]
theorem cell_n2 {s i : Int32} {k : Nat} (hs : sHas s = true) (h0 : 0 ≤ i.toInt) (h1 : i.toInt + k < 160) : (160 * s + i + nI k).toNatClampNeg = 160 * s.toNatClampNeg + i.toNatClampNeg + k := by
  have e := (mCel_at hs (i := i) h0 (by omega)).1
  have hi := sHas_in hs
  have a1 := hi.1
  have a2 := hi.2
  have e2 := i32_add (a := 160 * s + i) (b := nI k) (by rw [nI_toInt (by omega)]; omega) (by rw [nI_toInt (by omega)]; omega)
  rw [i32_clamp, i32_clamp, i32_clamp, e2, e, nI_toInt (by omega)]
  omega
theorem mC1_is {s i : Int32} (hs : sHas s = true) (h0 : 0 ≤ i.toInt) : ∀ (m k : Nat) (w : hW), i.toInt + (k + m : Nat) ≤ 160 → (mC1 s i k m w).1 = w.1 ∧ (∀ q, q ≠ 63 → (mC1 s i k m w).2 q = w.2 q) ∧ (∀ j, k ≤ j → j < k + m → (mC1 s i k m w).2 63 j = w.2 62 (160 * s.toNatClampNeg + i.toNatClampNeg + j)) ∧ (∀ j, j < k → (mC1 s i k m w).2 63 j = w.2 63 j)
  | 0, k, w, _ => ⟨rfl, fun _ _ => rfl, fun j h1 h2 => by omega, fun _ _ => rfl⟩
  | m + 1, k, w, h => by
    obtain ⟨a1, a2, a3, a4⟩ := mC1_is hs h0 m (k + 1) (wJ w 63 k (w.2 62 (160 * s + i + nI k).toNatClampNeg)) (by omega)
    have e := cell_n2 (k := k) hs h0 (by omega)
    unfold mC1
    rw [e] at a1 a2 a3 a4 ⊢
    refine ⟨a1, fun q hq => ?_, fun j h1 h2 => ?_, fun j hj => ?_⟩
    · rw [a2 q hq]
      funext j
      exact wJ_o2 (by omega)
    · by_cases ej : j = k
      · subst ej
        rw [a4 j (by omega)]
        exact wJ_s2
      · rw [a3 j (by omega) (by omega)]
        exact wJ_o2 (by omega)
    · rw [a4 j (by omega)]
      exact wJ_o2 (by omega)
theorem mC2_is {s i : Int32} (hs : sHas s = true) (h0 : 0 ≤ i.toInt) : ∀ (m k : Nat) (w : hW), i.toInt + (k + m : Nat) ≤ 160 → (mC2 s i k m w).1 = w.1 ∧ (∀ q, q ≠ 62 → (mC2 s i k m w).2 q = w.2 q) ∧ (∀ j, (mC2 s i k m w).2 62 j = if 160 * s.toNatClampNeg + i.toNatClampNeg + k ≤ j ∧ j < 160 * s.toNatClampNeg + i.toNatClampNeg + (k + m) then w.2 63 (j - (160 * s.toNatClampNeg + i.toNatClampNeg)) else w.2 62 j)
  | 0, k, w, _ => ⟨rfl, fun _ _ => rfl, fun j => by rw [if_neg (by omega)]; rfl⟩
  | m + 1, k, w, h => by
    obtain ⟨a1, a2, a3⟩ := mC2_is hs h0 m (k + 1) (wJ w 62 (160 * s + i + nI k).toNatClampNeg (w.2 63 k)) (by omega)
    have e := cell_n2 (k := k) hs h0 (by omega)
    unfold mC2
    rw [e] at a1 a2 a3 ⊢
    refine ⟨a1, fun q hq => ?_, fun j => ?_⟩
    · rw [a2 q hq]
      funext j
      exact wJ_o2 (by omega)
    · rw [a3 j]
      have e63 : ∀ x, (wJ w 62 (160 * s.toNatClampNeg + i.toNatClampNeg + k) (w.2 63 k)).2 63 x = w.2 63 x := fun x => wJ_o2 (by omega)
      rw [e63]
      by_cases c : 160 * s.toNatClampNeg + i.toNatClampNeg + (k + 1) ≤ j ∧ j < 160 * s.toNatClampNeg + i.toNatClampNeg + (k + 1 + m)
      · rw [if_pos c, if_pos (by omega)]
      · rw [if_neg c]
        by_cases c2 : j = 160 * s.toNatClampNeg + i.toNatClampNeg + k
        · rw [if_pos (by omega)]
          have e3 : j - (160 * s.toNatClampNeg + i.toNatClampNeg) = k := by omega
          rw [e3]
          rw [c2]; exact wJ_s2
        · rw [if_neg (by omega)]
          exact wJ_o2 (by omega)
theorem copy_row (h : R p u) {a b i j n : Int32} (ha : sHas a = true) (hb : sHas b = true) (h1 : u.1 58 a.toNatClampNeg = 1) (h2 : u.1 58 b.toNatClampNeg = 1) (hn : ¬ n < 0) (sa : sSpan p a i n = true) (sb : sSpan p b j n = true) : Sim p u (1, sBring p a b i j n) (1, mC2 b j 0 n.toNatClampNeg (mC1 a i 0 n.toNatClampNeg u)) := by
  have z : (0 : Int32).toInt = 0 := rfl
  have za := (h.2.2.2.1 _ (sHas_lt ha)).1
  have zb := (h.2.2.2.1 _ (sHas_lt hb)).1
  have xI := (R_xI h).2.2.2
  obtain ⟨a1, a2, a3, a4⟩ := sSpan_le xI sa
  obtain ⟨b1, b2, b3, b4⟩ := sSpan_le xI sb
  have na : n.toNatClampNeg = n.toInt.toNat := rfl
  have ia : i.toNatClampNeg = i.toInt.toNat := rfl
  have ja : j.toNatClampNeg = j.toInt.toNat := rfl
  obtain ⟨c1, c2, c3, -⟩ := mC1_is ha a1 n.toNatClampNeg 0 u (by omega)
  obtain ⟨d1, d2, d3⟩ := mC2_is hb b1 n.toNatClampNeg 0 (mC1 a i 0 n.toNatClampNeg u) (by omega)
  have la := sHas_lt ha
  have lb := sHas_lt hb
  have f62 : ∀ x, (mC2 b j 0 n.toNatClampNeg (mC1 a i 0 n.toNatClampNeg u)).2 62 x = if 160 * b.toNatClampNeg + j.toNatClampNeg ≤ x ∧ x < 160 * b.toNatClampNeg + j.toNatClampNeg + n.toNatClampNeg then u.2 62 (160 * a.toNatClampNeg + i.toNatClampNeg + (x - (160 * b.toNatClampNeg + j.toNatClampNeg))) else u.2 62 x := by
    intro x
    rw [d3 x, c2 62 (by omega)]
    by_cases c : 160 * b.toNatClampNeg + j.toNatClampNeg ≤ x ∧ x < 160 * b.toNatClampNeg + j.toNatClampNeg + n.toNatClampNeg
    · rw [if_pos c, if_pos (by omega), c3 _ (by omega) (by omega)]
    · rw [if_neg c, if_neg (by omega)]
  unfold sBring
  rw [if_pos (by rw [sa, sb]; rfl)]
  refine ⟨rfl, R_sh h (fun q _ _ => rfl) (fun q _ => by rw [d1, c1]) (fun s' h8 => ?_), ⟨fun q hq => rfl, fun q hq => ?_⟩, ⟨fun q hq => by rw [d1, c1], fun q hq => by rw [d2 q (by omega), c2 q (by omega)]⟩⟩
  · by_cases e : s' = b.toNatClampNeg
    · subst e
      obtain ⟨hz, ⟨e1, -⟩ | ⟨e1, e2, e3, e4, e5⟩ | ⟨e1, -⟩⟩ := h.2.2.2.1 _ lb
      · rw [e1] at h2; exact absurd h2 (by decide)
      · unfold RS
        rw [d1, c1]
        refine ⟨hz, Or.inr (Or.inl ⟨e1, e2, e3, e4, fun x hx => ?_⟩)⟩
        rw [f62]
        show (if 27 + b.toNatClampNeg = 27 + b.toNatClampNeg then va_cpy (p.2 (27 + a.toNatClampNeg)) (p.2 (27 + b.toNatClampNeg)) i.toNatClampNeg j.toNatClampNeg n.toNatClampNeg else p.2 _) x = _
        rw [if_pos rfl]
        unfold va_cpy
        by_cases c : j.toNatClampNeg ≤ x ∧ x < j.toNatClampNeg + n.toNatClampNeg
        · rw [if_pos c, if_pos (by omega), row_cells h ha h1 _ (by omega)]
          rw [show 160 * a.toNatClampNeg + (i.toNatClampNeg + (x - j.toNatClampNeg)) = 160 * a.toNatClampNeg + i.toNatClampNeg + (160 * b.toNatClampNeg + x - (160 * b.toNatClampNeg + j.toNatClampNeg)) by omega]
        · rw [if_neg c, if_neg (by omega)]
          exact e5 x hx
      · rw [e1] at h2; exact absurd h2 (by decide)
    · refine RS_oth (s := 0) (h.2.2.2.1 s' h8) rfl rfl (by rw [d1, c1]) (by rw [d1, c1]) (by rw [d1, c1]) (by rw [d1, c1]) (by rw [d1, c1]) (fun x hx => ⟨?_, ?_⟩)
      · show (if 27 + s' = 27 + b.toNatClampNeg then _ else p.2 (27 + s')) x = _
        rw [if_neg (by omega)]
      · rw [f62, if_neg (by omega)]
  · show (if q = 27 + b.toNatClampNeg then _ else p.2 q) = _
    rw [if_neg (by omega)]
theorem sim_copy (h : R p u) {a b i j n : Int32} : Sim p u (xCopy p a b i j n) (mCopy u a b i j n) := by
  unfold xCopy mCopy sNo2
  by_cases ha : sHas a = true
  · by_cases hb : sHas b = true
    · rw [if_pos ha, if_pos hb, ha, hb]
      have hA := h.2.2.2.1 _ (sHas_lt ha)
      have hB := h.2.2.2.1 _ (sHas_lt hb)
      have x02 : ¬ (0 : Int32) = 2 := by decide
      have x01 : ¬ (0 : Int32) = 1 := by decide
      have x12 : ¬ (1 : Int32) = 2 := by decide
      have x10 : ¬ (1 : Int32) = 0 := by decide
      have y1 : ¬ (-2 : Int32) = 0 := by decide
      have y2 : ¬ (-3 : Int32) = 0 := by decide
      rw [if_neg (show ¬ ((true && true) = false) by decide)]
      obtain ⟨za, ⟨e1, e2, e3⟩ | ⟨e1, e2, e3, e4, e5⟩ | ⟨e1, e2, e3, e4⟩⟩ := hA
      · obtain ⟨q1, q2, q3⟩ := sh_0 ha e2
        obtain ⟨zb, ⟨f1, f2, f3⟩ | ⟨f1, f2, f3, f4, f5⟩ | ⟨f1, f2, f3, f4⟩⟩ := hB
        · obtain ⟨r1, r2, r3⟩ := sh_0 hb f2
          simp only [q2, q3, r2, r3, e1, f1, x02, x01, y2, mCopyB, Bool.false_or, Bool.false_and, Bool.false_eq_true, if_false, if_true, ite_false, ite_true]
          exact Sim_no h k3
        · obtain ⟨r1, r2, r3⟩ := sh_1 hb f3 f2
          simp only [q2, q3, r2, r3, e1, f1, x02, x01, x12, y2, mCopyB, Bool.false_or, Bool.false_and, Bool.false_eq_true, if_false, if_true, ite_false, ite_true]
          exact Sim_no h k3
        · have := R_thing h f3
          obtain ⟨r1, r2, r3⟩ := sh_2 hb (by omega) f2
          simp only [q2, q3, r2, r3, e1, f1, x02, x01, y1, Bool.false_or, Bool.true_or, if_false, if_true, ite_false, ite_true]
          exact Sim_no h k2
      · obtain ⟨q1, q2, q3⟩ := sh_1 ha e3 e2
        obtain ⟨zb, ⟨f1, f2, f3⟩ | ⟨f1, f2, f3, f4, f5⟩ | ⟨f1, f2, f3, f4⟩⟩ := hB
        · obtain ⟨r1, r2, r3⟩ := sh_0 hb f2
          simp only [q2, q3, r2, r3, e1, f1, x02, x01, x12, x10, y2, mCopyB, Bool.false_or, Bool.false_and, Bool.and_false, Bool.true_and, Bool.false_eq_true, if_false, if_true, ite_false, ite_true]
          exact Sim_no h k3
        · obtain ⟨r1, r2, r3⟩ := sh_1 hb f3 f2
          have hc : decide (sCont p a = sCont p b) = decide (u.1 59 a.toNatClampNeg = u.1 59 b.toNatClampNeg) := by
            rw [q1, r1, decide_eq_decide, i32_eq, i32_eq, add100 e3, add100 f3]
            omega
          by_cases hso : u.1 59 a.toNatClampNeg = u.1 59 b.toNatClampNeg
          · simp only [q2, q3, r2, r3, e1, f1, hc, hso, decide_true, x02, x01, x12, x10, mCopyB, Bool.not_true, Bool.false_or, Bool.false_and, Bool.and_false, Bool.true_and, Bool.false_eq_true, if_false, if_true, ite_false, ite_true]
            by_cases hn : n < 0
            · rw [if_pos hn, if_pos hn]; exact Sim_no h k4
            · rw [if_neg hn, if_neg hn]
              have sa := span_m h ha e1 hn (i := i)
              have sb := span_m h hb f1 hn (i := j)
              by_cases c1 : i < 0
              · rw [if_pos c1, sa, decide_eq_true c1, if_neg (by simp)]; exact Sim_no h k5
              · rw [if_neg c1]
                by_cases c2 : u.1 60 a.toNatClampNeg - n < i
                · have : sSpan p a i n = false := by rw [sa, decide_eq_true c2]; simp
                  rw [this, if_neg (by decide), if_pos c2]
                  by_cases c3 : j < 0
                  · rw [if_pos c3]; exact Sim_no h k5
                  · rw [if_neg c3]; exact Sim_no h k5
                · have hsa : sSpan p a i n = true := by rw [sa, decide_eq_false c1, decide_eq_false c2]; rfl
                  rw [hsa, if_pos rfl, if_neg c2]
                  by_cases c3 : j < 0
                  · rw [if_pos c3, sb, decide_eq_true c3, if_neg (by simp)]; exact Sim_no h k5
                  · rw [if_neg c3]
                    by_cases c4 : u.1 60 b.toNatClampNeg - n < j
                    · have : sSpan p b j n = false := by rw [sb, decide_eq_true c4]; simp
                      rw [this, if_neg (by decide), if_pos c4]; exact Sim_no h k5
                    · have hsb : sSpan p b j n = true := by rw [sb, decide_eq_false c3, decide_eq_false c4]; rfl
                      rw [hsb, if_pos rfl, if_neg c4]
                      exact copy_row h ha hb e1 f1 hn hsa hsb
          · simp only [q2, q3, r2, r3, e1, f1, hc, hso, decide_false, x02, x01, x12, x10, y1, Bool.not_false, Bool.false_or, Bool.true_and, if_false, if_true, ite_false, ite_true]
            exact Sim_no h k2
        · have := R_thing h f3
          obtain ⟨r1, r2, r3⟩ := sh_2 hb (by omega) f2
          simp only [q2, q3, r2, r3, e1, f1, x12, y1, Bool.false_or, Bool.true_or, if_false, if_true, ite_false, ite_true]
          exact Sim_no h k2
      · have := R_thing h e3
        obtain ⟨q1, q2, q3⟩ := sh_2 ha (by omega) e2
        simp only [q3, e1, y1, Bool.true_or, if_false, if_true, ite_false, ite_true]
        exact Sim_no h k2
    · have hF : (sHas a && sHas b) = false := by rw [Bool.not_eq_true] at hb; rw [hb, Bool.and_false]
      rw [if_pos ha, if_neg hb, if_pos hF, if_neg (show ¬ ((-1 : Int32) = 0) by decide)]
      exact Sim_no h k1
  · have hF : (sHas a && sHas b) = false := by rw [Bool.not_eq_true] at ha; rw [ha, Bool.false_and]
    rw [if_neg ha, if_pos hF, if_neg (show ¬ ((-1 : Int32) = 0) by decide)]
    exact Sim_no h k1
end

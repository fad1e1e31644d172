/-! ONE CALL OF THE TWO: they answer alike, and their places keep to R -/
def bothI (k1 k2 : Nat) (as : List Value) (w : hW) : Prop := ∃ (x : Int32) (w1 w2 : hW), Cl 300 k1 (.ref 0 :: as) w (fun v u => v = some (.int x) ∧ u = w1) ∧ Cl 300 k2 (.ref 45 :: as) w1 (fun v u => v = some (.int x) ∧ u = w2) ∧ R w2 w2
def bothJ (k1 k2 : Nat) (as : List Value) (w : hW) : Prop := ∃ (x : Int64) (w1 w2 : hW), Cl 300 k1 (.ref 0 :: as) w (fun v u => v = some (.long x) ∧ u = w1) ∧ Cl 300 k2 (.ref 45 :: as) w1 (fun v u => v = some (.long x) ∧ u = w2) ∧ R w2 w2
section
variable {p u w : hW}
/-- R speaks of the class's places on its left, of the model's on its right -/
theorem R_u {u' : hW} (h : R p u) (h1 : ∀ q, 45 ≤ q → u'.1 q = u.1 q) (h2 : ∀ q, 45 ≤ q → u'.2 q = u.2 q) : R p u' := by
  have ev : vwM u' = vwM u := by
    funext c i
    unfold vwM
    rw [h1 45 (by omega), h1 (46 + c) (by omega)]
  have ek : vwK u' 67 = vwK u 67 := by
    funext c i
    unfold vwK
    rw [h1 67 (by omega)]
  unfold R RS RK RA mWd mThing at h ⊢
  rw [ev, ek, h1 46 (by omega), h1 58 (by omega), h1 59 (by omega), h1 60 (by omega), h1 61 (by omega), h1 45 (by omega), h1 64 (by omega), h1 77 (by omega), h2 62 (by omega)]
  exact h
theorem R_p {p' : hW} (h : R p u) (h1 : ∀ q, q < 45 → p'.1 q = p.1 q) (h2 : ∀ q, q < 45 → p'.2 q = p.2 q) : R p' u := by
  obtain ⟨r1, r2, ⟨r3, r4⟩, r5, r6, ⟨r7, r8⟩, r9, ⟨ra, rb, rc⟩, rd⟩ := h
  refine ⟨VR_o r1 (fun q _ _ => h1 q (by omega)), r2, ⟨vI_o r3 (fun q _ _ => h1 q (by omega)), vI_o r4 (fun q _ _ => h1 q (by omega))⟩, fun s hs => ?_, fun k a a' => ?_, ⟨?_, fun e => ?_⟩, ?_, ⟨?_, rb, fun j hj => ?_⟩, rd⟩
  · have hS := r5 s hs
    unfold RS at hS ⊢
    rw [h1 24 (by omega), h1 25 (by omega), h2 (27 + s) (by omega)]
    exact hS
  · rw [h1 1 (by omega)]; exact r6 k a a'
  · rw [h1 0 (by omega)]; exact r7
  · exact ⟨VR_o (r8 e).1 (fun q _ _ => h1 q (by omega)), (r8 e).2⟩
  · rw [h1 0 (by omega)]; exact r9
  · rw [h1 43 (by omega)]; exact ra
  · rw [h1 44 (by omega)]; exact rc j hj
theorem R_k (h : R p u) : ∀ t, tHas p 3 t = true → kOk (tCell p 3 t 0) = true := by
  intro t ht
  have e : tCell p 3 t 0 = u.1 47 t.toNatClampNeg := vT0 (b := 2) h.1 ht
  have hT := Ok_T h.2.1 (t := t) (by rw [← hasT (b := 2) h.1]; exact ht)
  have z7 : (7 : Int32).toInt = 7 := rfl
  rw [e]
  simp only [kOk, Bool.and_eq_true, Bool.not_eq_true', decide_eq_false_iff_not, decide_eq_true_eq, i32_lt, i32_0, z7]
  omega
theorem R_58 (h : R p u) : ∀ s : Nat, s < 8 → u.1 58 s = 0 ∨ u.1 58 s = 1 ∨ u.1 58 s = 2 := by
  intro s hs
  rcases (h.2.2.2.1 s hs).2 with e | e | e
  · exact Or.inl e.1
  · exact Or.inr (Or.inl e.1)
  · exact Or.inr (Or.inr e.1)
theorem bothI_of (h : R w w) {k1 k2 : Nat} {as : List Value} {X : Int32 × hW} (hx : Cl 300 k1 (.ref 0 :: as) w (fun v u => v = some (.int X.1) ∧ u = X.2)) (hm : ∀ u, R w u → ∃ m : Int32 × hW, Cl 300 k2 (.ref 45 :: as) u (fun v u' => v = some (.int m.1) ∧ u' = m.2) ∧ Sim w u X m) : bothI k1 k2 as w := by
  obtain ⟨m0, -, -, -, xo, -⟩ := hm w h
  have h1 : R w X.2 := R_u h xo.1 xo.2
  obtain ⟨m, c, e, r, -, mo⟩ := hm X.2 h1
  exact ⟨X.1, X.2, m.2, hx, by rw [e]; exact c, R_p r mo.1 mo.2⟩
theorem bothJ_of (h : R w w) {k1 k2 : Nat} {as : List Value} {X : Int64 × hW} (hx : Cl 300 k1 (.ref 0 :: as) w (fun v u => v = some (.long X.1) ∧ u = X.2)) (hm : ∀ u, R w u → ∃ m : Int64 × hW, Cl 300 k2 (.ref 45 :: as) u (fun v u' => v = some (.long m.1) ∧ u' = m.2) ∧ (X.1 = m.1 ∧ R X.2 m.2 ∧ xO w X.2 ∧ mO u m.2)) : bothJ k1 k2 as w := by
  obtain ⟨m0, -, -, -, xo, -⟩ := hm w h
  have h1 : R w X.2 := R_u h xo.1 xo.2
  obtain ⟨m, c, e, r, -, mo⟩ := hm X.2 h1
  exact ⟨X.1, X.2, m.2, hx, by rw [e]; exact c, R_p r mo.1 mo.2⟩
theorem bo_row (h : R w w) {s : Int32} {o : Int32} {n : Int32} : bothI 98 161 [.int s, .int o, .int n] w := bothI_of h (Eq.mpr (c7_row (d := 288)) ⟨rfl, rfl⟩) (fun u hu => ⟨_, Eq.mpr (c8_row (d := 288)) ⟨rfl, rfl⟩, sim_row hu⟩)
theorem bo_set (h : R w w) {s : Int32} {i : Int32} {v : Int64} : bothI 99 162 [.int s, .int i, .long v] w := bothI_of h (Eq.mpr (c7_set (d := 288) (R_xI h).2.2.2) ⟨rfl, rfl⟩) (fun u hu => ⟨_, Eq.mpr (c8_set (d := 288) (R_mI hu)) ⟨rfl, rfl⟩, sim_set hu⟩)
theorem bo_copy (h : R w w) {pp : Int32} {q : Int32} {i : Int32} {j : Int32} {n : Int32} : bothI 100 163 [.int pp, .int q, .int i, .int j, .int n] w := bothI_of h (Eq.mpr (c7_copy (d := 288) (R_xI h).2.2.2) ⟨rfl, rfl⟩) (fun u hu => ⟨_, Eq.mpr (c8_copy (d := 288) (R_mI hu)) ⟨rfl, rfl⟩, sim_copy hu⟩)
theorem bo_element (h : R w w) {s : Int32} {i : Int32} : bothJ 101 164 [.int s, .int i] w := bothJ_of h (X := (sLong w s i, w)) (Eq.mpr (c7_element (d := 288) (R_xI h).2.2.2) ⟨rfl, rfl⟩) (fun u hu => ⟨(mElem u s i, u), Eq.mpr (c8_element (d := 288) (R_mI hu)) ⟨rfl, rfl⟩, ⟨sim_element hu, hu, xO.rf, mO.rf⟩⟩)
theorem bo_show (h : R w w) {s : Int32} {t : Int32} : bothI 102 165 [.int s, .int t] w := bothI_of h (Eq.mpr (c7_show (d := 288)) ⟨rfl, rfl⟩) (fun u hu => ⟨_, Eq.mpr (c8_show (d := 288)) ⟨rfl, rfl⟩, sim_show hu⟩)
theorem bo_holds (h : R w w) {s : Int32} : bothI 103 166 [.int s] w := bothI_of h (X := (sCont w s, w)) (Eq.mpr (c7_holds (d := 288)) ⟨rfl, rfl⟩) (fun u hu => ⟨(mHolds u s, u), Eq.mpr (c8_holds (d := 288)) ⟨rfl, rfl⟩, ⟨sim_holds hu, hu, xO.rf, mO.rf⟩⟩)
theorem bo_says (h : R w w) {s : Int32} {k : Int32} : bothI 104 167 [.int s, .int k] w := bothI_of h (Eq.mpr (c7_says (d := 288) h.1.1) ⟨rfl, rfl⟩) (fun u hu => ⟨_, Eq.mpr (c8_says (d := 288) (R_mI hu) (R_58 hu)) ⟨rfl, rfl⟩, sim_says hu⟩)
theorem bo_thing (h : R w w) {k : Int32} {wt : Int32} {ex : Int32} {st : Int32} : bothI 105 171 [.int k, .int wt, .int ex, .int st] w := bothI_of h (Eq.mpr (c7_thing (d := 288) h.1.1) ⟨rfl, rfl⟩) (fun u hu => ⟨_, Eq.mpr (c8_thing (d := 288) (R_mI hu)) ⟨rfl, rfl⟩, sim_thing hu⟩)
theorem bo_man (h : R w w) {s : Int32} : bothI 106 173 [.int s] w := bothI_of h (Eq.mpr (c7_man (d := 288) h.1.1) ⟨rfl, rfl⟩) (fun u hu => ⟨_, Eq.mpr (c8_man (d := 288) (R_mI hu)) ⟨rfl, rfl⟩, sim_man hu⟩)
theorem bo_men (h : R w w) {s : Int32} {i : Int32} {n : Int32} : bothI 107 174 [.int s, .int i, .int n] w := bothI_of h (Eq.mpr (c7_men (d := 288) h.1.1 (R_xI h).2.2.2) ⟨rfl, rfl⟩) (fun u hu => ⟨_, Eq.mpr (c8_men (d := 288) (R_mI hu)) ⟨rfl, rfl⟩, sim_men hu⟩)
theorem bo_want (h : R w w) {t : Int32} {st : Int32} {v : Int32} : bothI 108 176 [.int t, .int st, .int v] w := bothI_of h (Eq.mpr (c7_want (d := 288) h.1.1) ⟨rfl, rfl⟩) (fun u hu => ⟨_, Eq.mpr (c8_want (d := 288) (R_mI hu)) ⟨rfl, rfl⟩, sim_want hu⟩)
theorem bo_ask (h : R w w) {a : Int32} {v : Int32} : bothI 109 179 [.int a, .int v] w := bothI_of h (Eq.mpr (c7_ask (d := 288) h.1.1) ⟨rfl, rfl⟩) (fun u hu => ⟨_, Eq.mpr (c8_ask (d := 288) (R_mI hu)) ⟨rfl, rfl⟩, sim_ask hu⟩)
theorem bo_river (h : R w w) {f : Int32} {t : Int32} : bothI 110 180 [.int f, .int t] w := bothI_of h (Eq.mpr (c7_river (d := 288) h.1.1) ⟨rfl, rfl⟩) (fun u hu => ⟨_, Eq.mpr (c8_river (d := 288) (R_mI hu)) ⟨rfl, rfl⟩, sim_river hu⟩)
theorem bo_thingOf (h : R w w) {t : Int32} {k : Int32} : bothI 111 181 [.int t, .int k] w := bothI_of h (Eq.mpr (c7_thingOf (d := 288) h.1.1) ⟨rfl, rfl⟩) (fun u hu => ⟨_, Eq.mpr (c8_thingOf (d := 288) (R_mI hu)) ⟨rfl, rfl⟩, sim_thingOf hu⟩)
theorem bo_manOf (h : R w w) {t : Int32} {k : Int32} : bothI 112 182 [.int t, .int k] w := bothI_of h (Eq.mpr (c7_manOf (d := 288) h.1.1) ⟨rfl, rfl⟩) (fun u hu => ⟨_, Eq.mpr (c8_manOf (d := 288) (R_mI hu)) ⟨rfl, rfl⟩, sim_manOf hu⟩)
theorem bo_wantOf (h : R w w) {t : Int32} {k : Int32} : bothI 113 183 [.int t, .int k] w := bothI_of h (Eq.mpr (c7_wantOf (d := 288) h.1.1) ⟨rfl, rfl⟩) (fun u hu => ⟨_, Eq.mpr (c8_wantOf (d := 288) (R_mI hu)) ⟨rfl, rfl⟩, sim_wantOf hu⟩)
theorem bo_valley (h : R w w) {s : Int32} : bothI 114 194 [.int s] w := bothI_of h (Eq.mpr (c7_valley (d := 288) (R_xI h)) ⟨rfl, rfl⟩) (fun u hu => by
    obtain ⟨m, m1, m2⟩ := sim_valley (s := s) hu
    exact ⟨m, Eq.mpr (m1 288 _) ⟨rfl, rfl⟩, m2⟩)
theorem bo_fault (h : R w w) : bothI 115 195 [] w := bothI_of h (X := (w.1 0 10, w)) (Eq.mpr (c7_fault (d := 288)) ⟨rfl, rfl⟩) (fun u hu => ⟨(u.1 45 9, u), Eq.mpr (c8_fault (d := 288)) ⟨rfl, rfl⟩, ⟨hu.2.2.2.2.2.2.1, hu, xO.rf, mO.rf⟩⟩)
theorem bo_far (h : R w w) {m : Int32} {t : Int32} : bothI 116 199 [.int m, .int t] w := bothI_of h (Eq.mpr (c7_far (d := 288) h.1.1) ⟨rfl, rfl⟩) (fun u hu => ⟨_, Eq.mpr (c8_far (d := 288) (R_mI hu)) ⟨rfl, rfl⟩, sim_far hu⟩)
theorem bo_wrong (h : R w w) {m : Int32} {t : Int32} {dd : Int32} : bothI 117 201 [.int m, .int t, .int dd] w := bothI_of h (Eq.mpr (c7_wrong (d := 288) h.1.1) ⟨rfl, rfl⟩) (fun u hu => ⟨_, Eq.mpr (c8_wrong (d := 288) (R_mI hu)) ⟨rfl, rfl⟩, sim_wrong hu⟩)
theorem bo_carry (h : R w w) {m : Int32} {t : Int32} {dd : Int32} : bothI 118 205 [.int m, .int t, .int dd] w := bothI_of h (Eq.mpr (c7_carry (d := 288) h.1.1) ⟨rfl, rfl⟩) (fun u hu => ⟨_, Eq.mpr (c8_carry (d := 288) (R_mI hu)) ⟨rfl, rfl⟩, sim_carry hu⟩)
theorem bo_judge (h : R w w) {t : Int32} {s : Int32} {n : Int32} : bothI 119 206 [.int t, .int s, .int n] w := bothI_of h (Eq.mpr (c7_judge (d := 287) (R_xI h)) ⟨rfl, rfl⟩) (fun u hu => ⟨_, Eq.mpr (c8_judge (d := 288) (R_mI hu)) ⟨rfl, rfl⟩, sim_judge hu⟩)
theorem bo_end (h : R w w) {t : Int32} {s : Int32} : bothI 121 210 [.int t, .int s] w := bothI_of h (Eq.mpr (c7_end (d := 288) h.1.1) ⟨rfl, rfl⟩) (fun u hu => ⟨_, Eq.mpr (c8_end (d := 288) (R_mI hu)) ⟨rfl, rfl⟩, sim_end hu⟩)
theorem bo_does (h : R w w) {t : Int32} {s : Int32} {pp : Int32} : bothI 122 212 [.int t, .int s, .int pp] w := bothI_of h (Eq.mpr (c7_does (d := 288) h.1.1) ⟨rfl, rfl⟩) (fun u hu => ⟨_, Eq.mpr (c8_does (d := 288) (R_mI hu)) ⟨rfl, rfl⟩, sim_does hu⟩)
theorem bo_fewest (h : R w w) {t : Int32} {pp : Int32} : bothI 123 214 [.int t, .int pp] w := bothI_of h (Eq.mpr (c7_fewest (d := 288) h.1.1) ⟨rfl, rfl⟩) (fun u hu => ⟨_, Eq.mpr (c8_fewest (d := 288) (R_mI hu)) ⟨rfl, rfl⟩, sim_fewest hu⟩)
theorem bo_order (h : R w w) {t : Int32} {s : Int32} {pp : Int32} {i : Int32} : bothI 124 215 [.int t, .int s, .int pp, .int i] w := bothI_of h (Eq.mpr (c7_order (d := 288) h.1.1) ⟨rfl, rfl⟩) (fun u hu => ⟨_, Eq.mpr (c8_order (d := 288) (R_mI hu) (Ok_mV hu.2.1)) ⟨rfl, rfl⟩, sim_order hu⟩)
theorem bo_handovers (h : R w w) {t : Int32} {pp : Int32} : bothI 125 216 [.int t, .int pp] w := bothI_of h (Eq.mpr (c7_handovers (d := 288) h.1.1) ⟨rfl, rfl⟩) (fun u hu => ⟨_, Eq.mpr (c8_handovers (d := 288) (R_mI hu)) ⟨rfl, rfl⟩, sim_handovers hu⟩)
theorem bo_shared (h : R w w) : bothI 126 220 [] w := bothI_of h (Eq.mpr (c7_shared (d := 288) h.1.1) ⟨rfl, rfl⟩) (fun u hu => ⟨_, Eq.mpr (c8_shared (d := 288) (R_mI hu)) ⟨rfl, rfl⟩, sim_shared hu⟩)
theorem bo_given (h : R w w) {m : Int32} : bothI 127 221 [.int m] w := bothI_of h (Eq.mpr (c7_given (d := 288) h.1.1) ⟨rfl, rfl⟩) (fun u hu => ⟨_, Eq.mpr (c8_given (d := 288) (R_mI hu)) ⟨rfl, rfl⟩, sim_given hu⟩)
theorem bo_mill (h : R w w) {t : Int32} {pp : Int32} {s : Int32} : bothI 128 222 [.int t, .int pp, .int s] w := bothI_of h (Eq.mpr (c7_mill (d := 288) h.1.1) ⟨rfl, rfl⟩) (fun u hu => ⟨_, Eq.mpr (c8_mill (d := 288) (R_mI hu) (Ok_mV hu.2.1)) ⟨rfl, rfl⟩, sim_mill hu⟩)
theorem bo_weakest (h : R w w) {t : Int32} {s : Int32} : bothI 129 223 [.int t, .int s] w := bothI_of h (Eq.mpr (c7_weakest (d := 288) h.1.1) ⟨rfl, rfl⟩) (fun u hu => ⟨_, Eq.mpr (c8_weakest (d := 288) (R_mI hu)) ⟨rfl, rfl⟩, sim_weakest hu⟩)
theorem bo_helps (h : R w w) {t : Int32} {s : Int32} {pp : Int32} {m : Int32} : bothI 130 224 [.int t, .int s, .int pp, .int m] w := bothI_of h (Eq.mpr (c7_helps (d := 288) h.1.1) ⟨rfl, rfl⟩) (fun u hu => ⟨_, Eq.mpr (c8_helps (d := 288) (R_mI hu)) ⟨rfl, rfl⟩, sim_helps hu⟩)
theorem bo_caught (h : R w w) {m : Int32} {t : Int32} {dd : Int32} : bothI 131 228 [.int m, .int t, .int dd] w := bothI_of h (Eq.mpr (c7_caught (d := 288) h.1.1) ⟨rfl, rfl⟩) (fun u hu => ⟨_, Eq.mpr (c8_caught (d := 288) (R_mI hu)) ⟨rfl, rfl⟩, sim_caught hu⟩)
theorem bo_mean (h : R w w) {m : Int32} {t : Int32} {dd : Int32} : bothI 132 230 [.int m, .int t, .int dd] w := bothI_of h (Eq.mpr (c7_mean (d := 288) h.1.1) ⟨rfl, rfl⟩) (fun u hu => ⟨_, Eq.mpr (c8_mean (d := 288) (R_mI hu)) ⟨rfl, rfl⟩, sim_mean hu⟩)
theorem bo_cast (h : R w w) {m : Int32} {t : Int32} : bothI 133 231 [.int m, .int t] w := bothI_of h (Eq.mpr (c7_cast (d := 288) h.1.1) ⟨rfl, rfl⟩) (fun u hu => ⟨_, Eq.mpr (c8_cast (d := 288) (R_mI hu)) ⟨rfl, rfl⟩, sim_cast hu⟩)
theorem bo_toss (h : R w w) {m : Int32} {t : Int32} {dd : Int32} : bothI 134 233 [.int m, .int t, .int dd] w := bothI_of h (Eq.mpr (c7_toss (d := 288) h.1.1) ⟨rfl, rfl⟩) (fun u hu => ⟨_, Eq.mpr (c8_toss (d := 288) (R_mI hu)) ⟨rfl, rfl⟩, sim_toss hu⟩)
theorem bo_part (h : R w w) {t : Int32} : bothI 135 234 [.int t] w := bothI_of h (Eq.mpr (c7_part (d := 288) h.1.1) ⟨rfl, rfl⟩) (fun u hu => ⟨_, Eq.mpr (c8_part (d := 288) (R_mI hu)) ⟨rfl, rfl⟩, sim_part hu⟩)
theorem bo_night (h : R w w) : bothI 136 235 [] w := bothI_of h (Eq.mpr (c7_night (d := 288) h.1.1) ⟨rfl, rfl⟩) (fun u hu => ⟨_, Eq.mpr (c8_night (d := 288) (R_mI hu)) ⟨rfl, rfl⟩, sim_night hu⟩)
theorem bo_seed (h : R w w) {v : Int32} : bothI 137 236 [.int v] w := bothI_of h (Eq.mpr (c7_seed (d := 288)) ⟨rfl, rfl⟩) (fun u hu => ⟨_, Eq.mpr (c8_seed (d := 288)) ⟨rfl, rfl⟩, sim_seed hu⟩)
theorem bo_act (h : R w w) {t : Int32} {a : Int32} {x : Int32} : bothI 138 241 [.int t, .int a, .int x] w := bothI_of h (Eq.mpr (c7_act (d := 288) h.1.1 (R_k h)) ⟨rfl, rfl⟩) (fun u hu => ⟨_, Eq.mpr (c8_act (d := 288) (R_mI hu) (Ok_mV hu.2.1)) ⟨rfl, rfl⟩, sim_act hu⟩)
theorem bo_trace (h : R w w) {i : Int32} : bothI 139 242 [.int i] w := bothI_of h (X := (xTrace w i, w)) (Eq.mpr (c7_trace (d := 288)) ⟨rfl, rfl⟩) (fun u hu => ⟨(mTrace u i, u), Eq.mpr (c8_trace (d := 288)) ⟨rfl, rfl⟩, ⟨sim_trace hu, hu, xO.rf, mO.rf⟩⟩)
theorem bo_image (h : R w w) : bothI 140 243 [] w := bothI_of h (Eq.mpr (c7_image (d := 288)) ⟨rfl, rfl⟩) (fun u hu => ⟨_, Eq.mpr (c8_image (d := 288)) ⟨rfl, rfl⟩, sim_image hu⟩)
theorem bo_restore (h : R w w) : bothI 141 244 [] w := bothI_of h (Eq.mpr (c7_restore (d := 288)) ⟨rfl, rfl⟩) (fun u hu => ⟨_, Eq.mpr (c8_restore (d := 288)) ⟨rfl, rfl⟩, sim_restore hu⟩)
theorem bo_status (h : R w w) {k : Int32} : bothI 142 245 [.int k] w := bothI_of h (X := (xStatus w k, w)) (Eq.mpr (c7_status (d := 288)) ⟨rfl, rfl⟩) (fun u hu => ⟨(mStatus u k, u), Eq.mpr (c8_status (d := 288)) ⟨rfl, rfl⟩, ⟨sim_status hu, hu, xO.rf, mO.rf⟩⟩)
end

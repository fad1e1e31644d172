/-! THE TWO SIDES ALIKE: one more of each, what stays as it was, and the whole relation R -/
def addT (V : Nat → Nat → Int32) (k wt ex st : Int32) : Nat → Nat → Int32 := vset (vset (vset (vset (vset (vset (vset V 1 (V 0 0).toNatClampNeg k) 2 (V 0 0).toNatClampNeg wt) 3 (V 0 0).toNatClampNeg ex) 4 (V 0 0).toNatClampNeg st) 5 (V 0 0).toNatClampNeg (-1)) 6 (V 0 0).toNatClampNeg 0) 0 0 (V 0 0 + 1)
def addM (V : Nat → Nat → Int32) (s : Int32) : Nat → Nat → Int32 := vset (vset (vset V 7 (V 0 1).toNatClampNeg s) 8 (V 0 1).toNatClampNeg 0) 0 1 (V 0 1 + 1)
def addW (V : Nat → Nat → Int32) (t st v : Int32) : Nat → Nat → Int32 := vset (vset (vset (vset V 9 (V 0 2).toNatClampNeg t) 10 (V 0 2).toNatClampNeg st) 11 (V 0 2).toNatClampNeg v) 0 2 (V 0 2 + 1)
section
variable {p u : hW} {b : Nat} {V V' : Nat → Nat → Int32}
theorem vwM_c {c i : Nat} {v : Int32} (hc : c ≠ 0) : vwM (wI u (46 + c) i v) = vset (vwM u) c i v := by
  funext a j
  show (if a = 0 then (wI u (46 + c) i v).1 45 j else (wI u (46 + c) i v).1 (46 + a) j) = (if a = c ∧ j = i then v else if a = 0 then u.1 45 j else u.1 (46 + a) j)
  by_cases ha : a = 0
  · rw [if_pos ha, if_pos ha, if_neg (by omega), wI_q (by omega)]
  · rw [if_neg ha, if_neg ha]
    by_cases e : a = c ∧ j = i
    · rw [if_pos e, e.1, e.2, wI_s]
    · rw [if_neg e, wI_o (by omega)]
theorem vwM_0 {i : Nat} {v : Int32} : vwM (wI u 45 i v) = vset (vwM u) 0 i v := by
  funext a j
  show (if a = 0 then (wI u 45 i v).1 45 j else (wI u 45 i v).1 (46 + a) j) = (if a = 0 ∧ j = i then v else if a = 0 then u.1 45 j else u.1 (46 + a) j)
  by_cases ha : a = 0
  · rw [if_pos ha, if_pos ha]
    by_cases e : j = i
    · rw [if_pos ⟨ha, e⟩, e, wI_s]
    · rw [if_neg (by omega), wI_o (by omega)]
  · rw [if_neg ha, if_neg ha, if_neg (by omega), wI_q (by omega)]
theorem vw1 {i : Nat} {v : Int32} : vwM (wI u 47 i v) = vset (vwM u) 1 i v := vwM_c (c := 1) (by decide)
theorem vw2 {i : Nat} {v : Int32} : vwM (wI u 48 i v) = vset (vwM u) 2 i v := vwM_c (c := 2) (by decide)
theorem vw3 {i : Nat} {v : Int32} : vwM (wI u 49 i v) = vset (vwM u) 3 i v := vwM_c (c := 3) (by decide)
theorem vw4 {i : Nat} {v : Int32} : vwM (wI u 50 i v) = vset (vwM u) 4 i v := vwM_c (c := 4) (by decide)
theorem vw5 {i : Nat} {v : Int32} : vwM (wI u 51 i v) = vset (vwM u) 5 i v := vwM_c (c := 5) (by decide)
theorem vw6 {i : Nat} {v : Int32} : vwM (wI u 52 i v) = vset (vwM u) 6 i v := vwM_c (c := 6) (by decide)
theorem vw7 {i : Nat} {v : Int32} : vwM (wI u 53 i v) = vset (vwM u) 7 i v := vwM_c (c := 7) (by decide)
theorem vw8 {i : Nat} {v : Int32} : vwM (wI u 54 i v) = vset (vwM u) 8 i v := vwM_c (c := 8) (by decide)
theorem vw9 {i : Nat} {v : Int32} : vwM (wI u 55 i v) = vset (vwM u) 9 i v := vwM_c (c := 9) (by decide)
theorem vw10 {i : Nat} {v : Int32} : vwM (wI u 56 i v) = vset (vwM u) 10 i v := vwM_c (c := 10) (by decide)
theorem vw11 {i : Nat} {v : Int32} : vwM (wI u 57 i v) = vset (vwM u) 11 i v := vwM_c (c := 11) (by decide)
theorem vwM_addT {k wt ex st : Int32} : vwM (mAddT u k wt ex st) = addT (vwM u) k wt ex st := by
  unfold mAddT addT
  rw [vwM_0, vw6, vw5, vw4, vw3, vw2, vw1]
  rfl
theorem vwM_addM {s : Int32} : vwM (mAddM u s) = addM (vwM u) s := by
  unfold mAddM addM
  rw [vwM_0, vw8, vw7]
  rfl
theorem vwM_addW {t st v : Int32} : vwM (mAddW u t st v) = addW (vwM u) t st v := by
  unfold mAddW addW
  rw [vwM_0, vw11, vw10, vw9]
  rfl
theorem VR_addT (hb : isVal b) (h : VR p b V) (h8 : (V 0 0).toInt < 8) {k wt ex st : Int32} : VR (vAddT p b k wt ex st) b (addT V k wt ex st) := by
  have z : (0 : Int32).toInt = 0 := rfl
  have h0 := h.2.1
  have g0 := h.1.2.2.2.2.2.2.1.1
  rw [h0] at g0
  have ht : tHas (wI p (b + 1) 3 (p.1 (b + 1) 3 + 1)) (b + 1) (V 0 0) = true := by
    unfold tHas
    rw [wI_s, h0]
    simp only [Bool.and_eq_true, Bool.not_eq_true', decide_eq_false_iff_not, decide_eq_true_eq, i32_lt, z, add1 g0 (by omega)]
    omega
  have g := VR_gT h h8
  unfold vAddT vAddT0
  rw [h0] at g ht ⊢
  have t1 := vt1 hb
  have q0 := VR_putT g ht (c := 0) (by omega) (v := k)
  have q1 := VR_putT q0 (by rw [tHas_tPut t1 t1]; exact ht) (c := 1) (by omega) (v := wt)
  have q2 := VR_putT q1 (by rw [tHas_tPut t1 t1, tHas_tPut t1 t1]; exact ht) (c := 2) (by omega) (v := ex)
  have q3 := VR_putT q2 (by rw [tHas_tPut t1 t1, tHas_tPut t1 t1, tHas_tPut t1 t1]; exact ht) (c := 3) (by omega) (v := st)
  have q4 := VR_putT q3 (by rw [tHas_tPut t1 t1, tHas_tPut t1 t1, tHas_tPut t1 t1, tHas_tPut t1 t1]; exact ht) (c := 4) (by omega) (v := -1)
  have q5 := VR_putT q4 (by rw [tHas_tPut t1 t1, tHas_tPut t1 t1, tHas_tPut t1 t1, tHas_tPut t1 t1, tHas_tPut t1 t1]; exact ht) (c := 5) (by omega) (v := 0)
  have e : vset (vset (vset (vset (vset (vset (gro V 0 1 6 (fun c => p.1 (b + 2) (6 * (V 0 0).toNatClampNeg + (c - 1)))) (1 + 0) (V 0 0).toNatClampNeg k) (1 + 1) (V 0 0).toNatClampNeg wt) (1 + 2) (V 0 0).toNatClampNeg ex) (1 + 3) (V 0 0).toNatClampNeg st) (1 + 4) (V 0 0).toNatClampNeg (-1)) (1 + 5) (V 0 0).toNatClampNeg 0 = addT V k wt ex st := by
    funext c i
    unfold addT
    simp only [vset, gro]
    generalize (V 0 0).toNatClampNeg = n
    by_cases hi : i = n
    · rcases (show c = 0 ∨ c = 1 ∨ c = 2 ∨ c = 3 ∨ c = 4 ∨ c = 5 ∨ c = 6 ∨ 7 ≤ c by omega) with rfl | rfl | rfl | rfl | rfl | rfl | rfl | hc
      · simp [hi]
      · simp [hi]
      · simp [hi]
      · simp [hi]
      · simp [hi]
      · simp [hi]
      · simp [hi]
      · simp [hi, show c ≠ 0 by omega, show c ≠ 1 by omega, show c ≠ 2 by omega, show c ≠ 3 by omega, show c ≠ 4 by omega, show c ≠ 5 by omega, show c ≠ 6 by omega, show ¬ c ≤ 6 by omega]
    · simp [hi]
  rw [e] at q5
  exact q5
theorem VR_addM (hb : isVal b) (h : VR p b V) (h8 : (V 0 1).toInt < 8) {s : Int32} : VR (vAddM p b s) b (addM V s) := by
  have z : (0 : Int32).toInt = 0 := rfl
  have h0 := h.2.2.1
  have g0 := h.1.2.2.2.2.2.2.2.1.1
  rw [h0] at g0
  have ht : tHas (wI p (b + 3) 3 (p.1 (b + 3) 3 + 1)) (b + 3) (V 0 1) = true := by
    unfold tHas
    rw [wI_s, h0]
    simp only [Bool.and_eq_true, Bool.not_eq_true', decide_eq_false_iff_not, decide_eq_true_eq, i32_lt, z, add1 g0 (by omega)]
    omega
  have g := VR_gM h h8
  unfold vAddM
  rw [h0] at g ht ⊢
  have t1 := vt3 hb
  have q0 := VR_putM g ht (c := 0) (by omega) (v := s)
  have q1 := VR_putM q0 (by rw [tHas_tPut t1 t1]; exact ht) (c := 1) (by omega) (v := 0)
  have e : vset (vset (gro V 1 7 8 (fun c => p.1 (b + 4) (2 * (V 0 1).toNatClampNeg + (c - 7)))) (7 + 0) (V 0 1).toNatClampNeg s) (7 + 1) (V 0 1).toNatClampNeg 0 = addM V s := by
    funext c i
    unfold addM
    simp only [vset, gro]
    generalize (V 0 1).toNatClampNeg = n
    by_cases hi : i = n
    · rcases (show c = 0 ∨ c = 7 ∨ c = 8 ∨ (c ≠ 0 ∧ c ≠ 7 ∧ c ≠ 8) by omega) with rfl | rfl | rfl | ⟨h1, h2, h3⟩
      · simp [hi]
      · simp [hi]
      · simp [hi]
      · rw [if_neg (by omega), if_neg (by omega), if_neg (by omega), if_neg (by omega), if_neg (by omega), if_neg (by omega), if_neg (by omega)]
    · simp [hi]
  rw [e] at q1
  exact q1
theorem VR_addW (hb : isVal b) (h : VR p b V) (h8 : (V 0 2).toInt < 4) {t st v : Int32} : VR (vAddW p b t st v) b (addW V t st v) := by
  have z : (0 : Int32).toInt = 0 := rfl
  have h0 := h.2.2.2.1
  have g0 := h.1.2.2.2.2.2.2.2.2.1
  rw [h0] at g0
  have ht : tHas (wI p (b + 5) 3 (p.1 (b + 5) 3 + 1)) (b + 5) (V 0 2) = true := by
    unfold tHas
    rw [wI_s, h0]
    simp only [Bool.and_eq_true, Bool.not_eq_true', decide_eq_false_iff_not, decide_eq_true_eq, i32_lt, z, add1 g0 (by omega)]
    omega
  have g := VR_gW h h8
  unfold vAddW
  rw [h0] at g ht ⊢
  have t1 := vt5 hb
  have q0 := VR_putW g ht (c := 0) (by omega) (v := t)
  have q1 := VR_putW q0 (by rw [tHas_tPut t1 t1]; exact ht) (c := 1) (by omega) (v := st)
  have q2 := VR_putW q1 (by rw [tHas_tPut t1 t1, tHas_tPut t1 t1]; exact ht) (c := 2) (by omega) (v := v)
  have e : vset (vset (vset (gro V 2 9 11 (fun c => p.1 (b + 6) (3 * (V 0 2).toNatClampNeg + (c - 9)))) (9 + 0) (V 0 2).toNatClampNeg t) (9 + 1) (V 0 2).toNatClampNeg st) (9 + 2) (V 0 2).toNatClampNeg v = addW V t st v := by
    funext c i
    unfold addW
    simp only [vset, gro]
    generalize (V 0 2).toNatClampNeg = n
    by_cases hi : i = n
    · rcases (show c = 0 ∨ c = 9 ∨ c = 10 ∨ c = 11 ∨ (c ≠ 0 ∧ c ≠ 9 ∧ c ≠ 10 ∧ c ≠ 11) by omega) with rfl | rfl | rfl | rfl | ⟨h1, h2, h3, h4⟩
      · simp [hi]
      · simp [hi]
      · simp [hi]
      · simp [hi]
      · rw [if_neg (by omega), if_neg (by omega), if_neg (by omega), if_neg (by omega), if_neg (by omega), if_neg (by omega), if_neg (by omega), if_neg (by omega), if_neg (by omega)]
    · simp [hi]
  rw [e] at q2
  exact q2
/-! what stays: places -/
def frb (b : Nat) (p p' : hW) : Prop := (∀ q, (q < b ∨ b + 6 < q) → p'.1 q = p.1 q) ∧ p'.2 = p.2
def frm (u u' : hW) : Prop := (∀ q, q ≠ 45 → (q < 47 ∨ 57 < q) → u'.1 q = u.1 q) ∧ (∀ j, 9 ≤ j → u'.1 45 j = u.1 45 j) ∧ u'.2 = u.2
theorem frb.rf : frb b p p := ⟨fun _ _ => rfl, rfl⟩
theorem frb.tr {p' p'' : hW} (h : frb b p p') (h2 : frb b p' p'') : frb b p p'' := ⟨fun q hq => (h2.1 q hq).trans (h.1 q hq), h2.2.trans h.2⟩
theorem frm.rf : frm u u := ⟨fun _ _ _ => rfl, fun _ _ => rfl, rfl⟩
theorem frm.tr {u' u'' : hW} (h : frm u u') (h2 : frm u' u'') : frm u u'' := ⟨fun q hq h' => (h2.1 q hq h').trans (h.1 q hq h'), fun j hj => (h2.2.1 j hj).trans (h.2.1 j hj), h2.2.2.trans h.2.2⟩
theorem frb_wI {q j : Nat} {v : Int32} (h1 : b ≤ q) (h2 : q ≤ b + 6) : frb b p (wI p q j v) := ⟨fun r hr => wI_q (by omega), rfl⟩
theorem frb_put {k : Nat} {i c v : Int32} (h1 : b ≤ k + 1) (h2 : k + 1 ≤ b + 6) : frb b p (tPut p k i c v) := by
  unfold tPut
  split
  · exact frb_wI h1 h2
  · exact frb.rf
theorem frm_c {q j : Nat} {v : Int32} (h1 : 47 ≤ q) (h2 : q ≤ 57) : frm u (wI u q j v) := ⟨fun r hr h' => wI_q (by omega), fun j' hj => by rw [wI_q (by omega)], rfl⟩
theorem frm_0 {j : Nat} {v : Int32} (h1 : j < 9) : frm u (wI u 45 j v) := ⟨fun r hr h' => wI_q (by omega), fun j' hj => wI_o (by omega), rfl⟩
theorem frb_addT {k wt ex st : Int32} : frb b p (vAddT p b k wt ex st) := by
  unfold vAddT vAddT0
  exact frb.tr (frb.tr (frb.tr (frb.tr (frb.tr (frb.tr (frb_wI (by omega) (by omega)) (frb_put (by omega) (by omega))) (frb_put (by omega) (by omega))) (frb_put (by omega) (by omega))) (frb_put (by omega) (by omega))) (frb_put (by omega) (by omega))) (frb_put (by omega) (by omega))
theorem frb_addM {s : Int32} : frb b p (vAddM p b s) := by
  unfold vAddM
  exact frb.tr (frb.tr (frb_wI (by omega) (by omega)) (frb_put (by omega) (by omega))) (frb_put (by omega) (by omega))
theorem frb_addW {t st v : Int32} : frb b p (vAddW p b t st v) := by
  unfold vAddW
  exact frb.tr (frb.tr (frb.tr (frb_wI (by omega) (by omega)) (frb_put (by omega) (by omega))) (frb_put (by omega) (by omega))) (frb_put (by omega) (by omega))
theorem frm_addT {k wt ex st : Int32} : frm u (mAddT u k wt ex st) := by
  unfold mAddT
  exact frm.tr (frm.tr (frm.tr (frm.tr (frm.tr (frm.tr (frm_c (by omega) (by omega)) (frm_c (by omega) (by omega))) (frm_c (by omega) (by omega))) (frm_c (by omega) (by omega))) (frm_c (by omega) (by omega))) (frm_c (by omega) (by omega))) (frm_0 (by omega))
theorem frm_addM {s : Int32} : frm u (mAddM u s) := by
  unfold mAddM
  exact frm.tr (frm.tr (frm_c (by omega) (by omega)) (frm_c (by omega) (by omega))) (frm_0 (by omega))
theorem frm_addW {t st v : Int32} : frm u (mAddW u t st v) := by
  unfold mAddW
  exact frm.tr (frm.tr (frm.tr (frm_c (by omega) (by omega)) (frm_c (by omega) (by omega))) (frm_c (by omega) (by omega))) (frm_0 (by omega))
end
/-! the relation -/
def RS (p u : hW) (s : Nat) : Prop := (0 ≤ (u.1 60 s).toInt ∧ (u.1 60 s).toInt ≤ 160) ∧ ((u.1 58 s = 0 ∧ p.1 24 s = -1 ∧ p.1 25 s = 0) ∨ (u.1 58 s = 1 ∧ p.1 24 s = 100 + u.1 59 s ∧ (0 ≤ (u.1 59 s).toInt ∧ (u.1 59 s).toInt ≤ 3) ∧ p.1 25 s = u.1 60 s ∧ ∀ j, j < 160 → p.2 (27 + s) j = u.2 62 (160 * s + j)) ∨ (u.1 58 s = 2 ∧ p.1 24 s = u.1 61 s ∧ mThing u (u.1 61 s) = true ∧ p.1 25 s = 0))
def RK (p u : hW) : Prop := p.1 0 9 = u.1 45 49 ∧ (u.1 45 49 ≠ 0 → VR p 9 (vwK u 67) ∧ Ok (vwK u 67))
def RA (p u : hW) : Prop := p.1 43 1 = u.1 45 48 ∧ (0 ≤ (u.1 45 48).toInt) ∧ ∀ j, j < 20 → p.1 44 j = u.1 77 j
def R (p u : hW) : Prop := VR p 2 (vwM u) ∧ Ok (vwM u) ∧ (vI p 9 ∧ vI p 16) ∧ (∀ s, s < 8 → RS p u s) ∧ (∀ k, 1 ≤ k → k < 8 → p.1 1 k = u.1 46 k) ∧ RK p u ∧ p.1 0 10 = u.1 45 9 ∧ RA p u ∧ mWd u
/-- what a change of the class's current valley, and of its scratch, leaves -/
def xQ (p p' : hW) : Prop := (∀ q, q ≤ 1 → p'.1 q = p.1 q) ∧ (∀ q, 9 ≤ q → q ≤ 15 → p'.1 q = p.1 q) ∧ (∀ q, 23 ≤ q → q ≤ 34 → p'.1 q = p.1 q) ∧ p'.1 43 1 = p.1 43 1 ∧ p'.1 44 = p.1 44 ∧ (∀ q, q ≤ 34 → p'.2 q = p.2 q) ∧ vI p' 16
def mQ (u u' : hW) : Prop := u'.1 46 = u.1 46 ∧ (∀ q, 58 ≤ q → q ≤ 61 → u'.1 q = u.1 q) ∧ u'.1 64 = u.1 64 ∧ u'.1 67 = u.1 67 ∧ u'.1 77 = u.1 77 ∧ u'.1 45 9 = u.1 45 9 ∧ u'.1 45 48 = u.1 45 48 ∧ u'.1 45 49 = u.1 45 49 ∧ u'.2 62 = u.2 62
def xO (p p' : hW) : Prop := (∀ q, 45 ≤ q → p'.1 q = p.1 q) ∧ (∀ q, 45 ≤ q → p'.2 q = p.2 q)
def mO (u u' : hW) : Prop := (∀ q, q < 45 → u'.1 q = u.1 q) ∧ (∀ q, q < 45 → u'.2 q = u.2 q)
def Sim (p u : hW) (x m : Int32 × hW) : Prop := x.1 = m.1 ∧ R x.2 m.2 ∧ xO p x.2 ∧ mO u m.2
section
variable {p u p' u' : hW} {b : Nat}
theorem xO.rf : xO p p := ⟨fun _ _ => rfl, fun _ _ => rfl⟩
theorem mO.rf : mO u u := ⟨fun _ _ => rfl, fun _ _ => rfl⟩
theorem xO.tr {p'' : hW} (h : xO p p') (h2 : xO p' p'') : xO p p'' := ⟨fun q hq => (h2.1 q hq).trans (h.1 q hq), fun q hq => (h2.2 q hq).trans (h.2 q hq)⟩
theorem mO.tr {u'' : hW} (h : mO u u') (h2 : mO u' u'') : mO u u'' := ⟨fun q hq => (h2.1 q hq).trans (h.1 q hq), fun q hq => (h2.2 q hq).trans (h.2 q hq)⟩
theorem frb_xO (hb : b ≤ 38) (h : frb b p p') : xO p p' := ⟨fun q hq => h.1 q (by omega), fun q _ => by rw [h.2]⟩
theorem frm_mO (h : frm u u') : mO u u' := ⟨fun q hq => h.1 q (by omega) (by omega), fun q _ => by rw [h.2.2]⟩
theorem frm_mQ (h : frm u u') : mQ u u' := ⟨h.1 _ (by omega) (by omega), fun q h1 h2 => h.1 _ (by omega) (by omega), h.1 _ (by omega) (by omega), h.1 _ (by omega) (by omega), h.1 _ (by omega) (by omega), h.2.1 _ (by omega), h.2.1 _ (by omega), h.2.1 _ (by omega), by rw [h.2.2]⟩
theorem frb2_xQ (h : frb 2 p p') (h6 : vI p 16) : xQ p p' := ⟨fun q hq => h.1 q (by omega), fun q h1 h2 => h.1 q (by omega), fun q h1 h2 => h.1 q (by omega), by rw [h.1 43 (by omega)], h.1 44 (by omega), fun q _ => by rw [h.2], vI_o h6 (fun q h1 h2 => h.1 q (by omega))⟩
theorem mThing_le (hs : (u.1 45 0).toInt ≤ (u'.1 45 0).toInt) {t : Int32} (h : mThing u t = true) : mThing u' t = true := by
  unfold mThing at h ⊢
  simp only [Bool.and_eq_true, Bool.not_eq_true', decide_eq_false_iff_not, decide_eq_true_eq, i32_lt] at h ⊢
  omega
theorem RS_keep {s : Nat} (h : RS p u s) (h8 : s < 8) (hx : xQ p p') (hm : mQ u u') (hs : (u.1 45 0).toInt ≤ (u'.1 45 0).toInt) : RS p' u' s := by
  obtain ⟨x1, x2, x3, x4, x5, x6, x7⟩ := hx
  obtain ⟨m1, m2, m3, m4, m5, m6, m7, m8, m9⟩ := hm
  unfold RS at h ⊢
  rw [m2 58 (by omega) (by omega), m2 59 (by omega) (by omega), m2 60 (by omega) (by omega), m2 61 (by omega) (by omega), m9, x3 24 (by omega) (by omega), x3 25 (by omega) (by omega), x6 (27 + s) (by omega)]
  obtain ⟨h1, h2 | h2 | ⟨h2, h3, h4, h5⟩⟩ := h
  · exact ⟨h1, Or.inl h2⟩
  · exact ⟨h1, Or.inr (Or.inl h2)⟩
  · exact ⟨h1, Or.inr (Or.inr ⟨h2, h3, mThing_le hs h4, h5⟩)⟩
theorem R_val (h : R p u) (hv : VR p' 2 (vwM u')) (hok : Ok (vwM u')) (hs : (u.1 45 0).toInt ≤ (u'.1 45 0).toInt) (hx : xQ p p') (hm : mQ u u') : R p' u' := by
  obtain ⟨r1, r2, ⟨r3, r4⟩, r5, r6, ⟨r7, r8⟩, r9, ⟨ra, rb, rc⟩, rd⟩ := h
  have hx' := hx
  have hm' := hm
  obtain ⟨x1, x2, x3, x4, x5, x6, x7⟩ := hx
  obtain ⟨m1, m2, m3, m4, m5, m6, m7, m8, m9⟩ := hm
  refine ⟨hv, hok, ⟨vI_o r3 (fun q a a' => x2 q (by omega) (by omega)), x7⟩, fun s h8 => RS_keep (r5 s h8) h8 hx' hm' hs, fun k a a' => ?_, ⟨?_, fun e => ?_⟩, ?_, ⟨?_, ?_, fun j hj => ?_⟩, fun i hi => ?_⟩
  · rw [x1 1 (by omega), m1]; exact r6 k a a'
  · rw [x1 0 (by omega), m8]; exact r7
  · rw [m8] at e
    have e2 : vwK u' 67 = vwK u 67 := by funext c i; unfold vwK; rw [m4]
    rw [e2]
    exact ⟨VR_o (r8 e).1 (fun q a a' => x2 q (by omega) (by omega)), (r8 e).2⟩
  · rw [x1 0 (by omega), m6]; exact r9
  · rw [x4, m7]; exact ra
  · rw [m7]; exact rb
  · rw [x5, m5]; exact rc j hj
  · rw [m3]; exact rd i hi
theorem vwM_o (h : ∀ q, 45 ≤ q → q ≤ 57 → u'.1 q = u.1 q) : ∀ c i, c ≤ 11 → vwM u' c i = vwM u c i := by
  intro c i hc
  unfold vwM
  rw [h 45 (by omega) (by omega), h (46 + c) (by omega) (by omega)]
/-- nothing but scratch changed -/
theorem R_scr (h : R p u) (hx : xQ p p') (hx2 : ∀ q, 2 ≤ q → q ≤ 8 → p'.1 q = p.1 q) (hm : mQ u u') (hm2 : ∀ q, 47 ≤ q → q ≤ 57 → u'.1 q = u.1 q) (hm3 : ∀ j, j < 9 → u'.1 45 j = u.1 45 j) : R p' u' := by
  have e : eqV (vwM u) (vwM u') := ⟨fun k hk => (hm3 k hk).symm, fun c i h1 h2 _ => by unfold vwM; rw [if_neg (by omega), if_neg (by omega), hm2 _ (by omega) (by omega)], fun c i h1 h2 _ => by unfold vwM; rw [if_neg (by omega), if_neg (by omega), hm2 _ (by omega) (by omega)]⟩
  exact R_val h (VR_ext (VR_o h.1 (fun q a a' => hx2 q (by omega) (by omega))) e) (Ok_ext h.2.1 e) (by rw [hm3 0 (by omega)]; exact Int.le_refl _) hx hm
theorem xQ.rf (h : R p u) : xQ p p := ⟨fun _ _ => rfl, fun _ _ _ => rfl, fun _ _ _ => rfl, rfl, rfl, fun _ _ => rfl, h.2.2.1.2⟩
theorem mQ.rf : mQ u u := ⟨rfl, fun _ _ _ => rfl, rfl, rfl, rfl, rfl, rfl, rfl, rfl⟩
/-- refusals -/
theorem rf_o {n : Int32} {q : Nat} (h : q ≠ 1) : (rfA p n).1 q = p.1 q := by
  unfold rfA
  repeat' split
  all_goals first | rfl | exact wI_q h
theorem rf_2 {n : Int32} : (rfA p n).2 = p.2 := by
  unfold rfA
  repeat' split
  all_goals rfl
theorem no_o {n : Int32} {q : Nat} (h : q ≠ 46) : (mNo u n).1 q = u.1 q := wI_q h
theorem rf_is {n : Int32} (h1 : 0 < (-n).toInt) (h8 : (-n).toInt < 8) : rfA p n = wI p 1 (-n).toNatClampNeg (p.1 1 (-n).toNatClampNeg + 1) := by
  have e8 : (8 : Int32).toInt = 8 := rfl
  have z : (0 : Int32).toInt = 0 := rfl
  unfold rfA
  rw [if_pos (by rw [i32_lt, z]; exact h1), if_pos (by rw [i32_lt, e8]; exact h8)]
theorem R_no (h : R p u) {n : Int32} (h1 : 0 < (-n).toInt) (h8 : (-n).toInt < 8) : R (rfA p n) (mNo u n) := by
  obtain ⟨r1, r2, ⟨r3, r4⟩, r5, r6, ⟨r7, r8⟩, r9, ⟨ra, rb, rc⟩, rd⟩ := h
  have hv : vwM (mNo u n) = vwM u := by
    funext c i
    unfold vwM
    by_cases hc : c = 0
    · rw [if_pos hc, if_pos hc, no_o (by omega)]
    · rw [if_neg hc, if_neg hc, no_o (by omega)]
  have hk : vwK (mNo u n) 67 = vwK u 67 := by funext c i; unfold vwK; rw [no_o (by omega)]
  refine ⟨?_, ?_, ⟨vI_o r3 (fun q a a' => rf_o (by omega)), vI_o r4 (fun q a a' => rf_o (by omega))⟩, fun s hs => ?_, fun k a a' => ?_, ⟨?_, fun e => ?_⟩, ?_, ⟨?_, ?_, fun j hj => ?_⟩, fun i hi => ?_⟩
  · rw [hv]; exact VR_o r1 (fun q a a' => rf_o (by omega))
  · rw [hv]; exact r2
  · have hS := r5 s hs
    unfold RS mThing at hS ⊢
    rw [no_o (by omega), no_o (by omega), no_o (by omega), no_o (by omega), no_o (by omega), rf_o (by omega), rf_o (by omega), rf_2]
    exact hS
  · rw [rf_is h1 h8]
    unfold mNo
    by_cases e : k = (-n).toNatClampNeg
    · rw [e, wI_s, wI_s, r6 _ (by rw [i32_clamp]; omega) (by rw [i32_clamp]; omega)]
    · rw [wI_o (by omega), wI_o (by omega)]; exact r6 k a a'
  · rw [rf_o (by omega), no_o (by omega)]; exact r7
  · rw [no_o (by omega)] at e
    rw [hk]
    exact ⟨VR_o (r8 e).1 (fun q a a' => rf_o (by omega)), (r8 e).2⟩
  · rw [rf_o (by omega), no_o (by omega)]; exact r9
  · rw [rf_o (by omega), no_o (by omega)]; exact ra
  · rw [no_o (by omega)]; exact rb
  · rw [rf_o (by omega), no_o (by omega)]; exact rc j hj
  · rw [no_o (by omega)]; exact rd i hi
theorem Sim_no (h : R p u) {n r : Int32} (h1 : 0 < (-n).toInt ∧ (-n).toInt < 8) : Sim p u (r, rfA p n) (r, mNo u n) := ⟨rfl, R_no h h1.1 h1.2, ⟨fun q hq => rf_o (by omega), fun q _ => by rw [rf_2]⟩, ⟨fun q hq => no_o (by omega), fun q _ => rfl⟩⟩
theorem Sim_rf (h : R p u) {r : Int32} : Sim p u (r, p) (r, u) := ⟨rfl, h, xO.rf, mO.rf⟩
theorem k1 : 0 < (-(-1 : Int32)).toInt ∧ (-(-1 : Int32)).toInt < 8 := by decide
theorem k2 : 0 < (-(-2 : Int32)).toInt ∧ (-(-2 : Int32)).toInt < 8 := by decide
theorem k3 : 0 < (-(-3 : Int32)).toInt ∧ (-(-3 : Int32)).toInt < 8 := by decide
theorem k4 : 0 < (-(-4 : Int32)).toInt ∧ (-(-4 : Int32)).toInt < 8 := by decide
theorem k5 : 0 < (-(-5 : Int32)).toInt ∧ (-(-5 : Int32)).toInt < 8 := by decide
theorem k6 : 0 < (-(-6 : Int32)).toInt ∧ (-(-6 : Int32)).toInt < 8 := by decide
theorem k7 : 0 < (-(-7 : Int32)).toInt ∧ (-(-7 : Int32)).toInt < 8 := by decide
theorem R_mI (h : R p u) : mI u := by
  obtain ⟨-, ⟨⟨o0, o1, o2, o3, o4, o5⟩, oT, oM, oW⟩, -, rS, -⟩ := h
  have z : (0 : Int32).toInt = 0 := rfl
  refine ⟨o0, o1, o2, fun t ht => ⟨(oT t ht).2.1, (oT t ht).2.2.1⟩, fun s hs => (rS s hs).1, fun s hs e => ?_, fun i hi => ?_, fun t ht => ?_⟩
  · rcases (rS s hs).2 with h | h | h
    · rw [h.1] at e; exact absurd e (by decide)
    · rw [h.1] at e; exact absurd e (by decide)
    · exact h.2.2.1
  · have h2 := (oW i hi).1
    unfold mThing
    simp only [Bool.and_eq_true, Bool.not_eq_true', decide_eq_false_iff_not, decide_eq_true_eq, i32_lt, z]
    exact ⟨Int.not_lt.mpr h2.1, h2.2⟩
  · rcases (oT t ht).2.2.2.2.1 with h2 | h2
    · exact Or.inl h2
    · right
      unfold mMan
      simp only [Bool.and_eq_true, Bool.not_eq_true', decide_eq_false_iff_not, decide_eq_true_eq, i32_lt, z]
      exact ⟨Int.not_lt.mpr h2.1, h2.2⟩
theorem Ok_mV (h : Ok (vwM u)) : mV u := by
  obtain ⟨⟨o0, o1, o2, o3, o4, o5⟩, oT, oM, oW⟩ := h
  exact ⟨o3, o4, o5, fun t ht => ⟨(oT t ht).1, (oT t ht).2.2.2.1, (oT t ht).2.2.2.2.2⟩, oM, fun i hi => (oW i hi).2⟩
theorem R_xI (h : R p u) : xI p := by
  refine ⟨h.1.1, h.2.2.1.1, h.2.2.1.2, fun s hs => ?_⟩
  have z : (0 : Int32).toInt = 0 := rfl
  have hS := h.2.2.2.1 s hs
  rcases hS.2 with e | e | e
  · rw [e.2.2, z]; omega
  · rw [e.2.2.2.1]; exact hS.1
  · rw [e.2.2.2, z]; omega
end

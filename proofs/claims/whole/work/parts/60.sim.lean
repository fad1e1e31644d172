/-! THE TWO SIDES ALIKE: a valley as numbers: column 0 what it is (0 things, 1 people, 2 wants, 3 along, 4 5 the river, 6 wind, 7 seed, 8 done), 1..6 the things, 7 8 the people, 9..11 the wants -/
def vwM (u : hW) : Nat → Nat → Int32 := fun c i => if c = 0 then u.1 45 i else u.1 (46 + c) i
def vwK (u : hW) (q : Nat) : Nat → Nat → Int32 := fun c i => if c = 0 then u.1 q (76 + i) else if c ≤ 8 then u.1 q (8 * (c - 1) + i) else u.1 q (64 + 4 * (c - 9) + i)
def vset (V : Nat → Nat → Int32) (c i : Nat) (v : Int32) : Nat → Nat → Int32 := fun a j => if a = c ∧ j = i then v else V a j
def Std (V : Nat → Nat → Int32) (p : Int32) : Prop := 0 ≤ p.toInt ∧ p.toInt ≤ (V 0 3).toInt ∧ (p.toInt ≤ (V 0 4).toInt ∨ (V 0 5).toInt ≤ p.toInt)
/-- what a valley keeps to -/
def Ok (V : Nat → Nat → Int32) : Prop := ((0 ≤ (V 0 0).toInt ∧ (V 0 0).toInt ≤ 8) ∧ (0 ≤ (V 0 1).toInt ∧ (V 0 1).toInt ≤ 8) ∧ (0 ≤ (V 0 2).toInt ∧ (V 0 2).toInt ≤ 4) ∧ (1 ≤ (V 0 3).toInt ∧ (V 0 3).toInt ≤ 99) ∧ (0 ≤ (V 0 4).toInt ∧ (V 0 4).toInt ≤ (V 0 5).toInt ∧ (V 0 5).toInt ≤ (V 0 3).toInt) ∧ (0 ≤ (V 0 6).toInt ∧ (V 0 6).toInt ≤ 9)) ∧
  (∀ t : Nat, (t : Int) < (V 0 0).toInt → (0 ≤ (V 1 t).toInt ∧ (V 1 t).toInt ≤ 6) ∧ (1 ≤ (V 2 t).toInt ∧ (V 2 t).toInt ≤ 99) ∧ (1 ≤ (V 3 t).toInt ∧ (V 3 t).toInt ≤ 9) ∧ Std V (V 4 t) ∧ (V 5 t = -1 ∨ (0 ≤ (V 5 t).toInt ∧ (V 5 t).toInt < (V 0 1).toInt)) ∧ (V 6 t = 0 ∨ V 6 t = 1)) ∧
  (∀ m : Nat, (m : Int) < (V 0 1).toInt → (1 ≤ (V 7 m).toInt ∧ (V 7 m).toInt ≤ 99) ∧ (0 ≤ (V 8 m).toInt ∧ (V 8 m).toInt ≤ 99)) ∧
  (∀ i : Nat, (i : Int) < (V 0 2).toInt → (0 ≤ (V 9 i).toInt ∧ (V 9 i).toInt < (V 0 0).toInt) ∧ Std V (V 10 i) ∧ (0 ≤ (V 11 i).toInt ∧ (V 11 i).toInt ≤ 99))
/-- the class's valley at b holds the numbers V -/
def VR (p : hW) (b : Nat) (V : Nat → Nat → Int32) : Prop := vI p b ∧ p.1 (b + 1) 3 = V 0 0 ∧ p.1 (b + 3) 3 = V 0 1 ∧ p.1 (b + 5) 3 = V 0 2 ∧ (∀ k, 3 ≤ k → k ≤ 8 → p.1 b k = V 0 k) ∧ (∀ t c : Nat, (t : Int) < (V 0 0).toInt → c < 6 → p.1 (b + 2) (6 * t + c) = V (1 + c) t) ∧ (∀ t c : Nat, (t : Int) < (V 0 1).toInt → c < 2 → p.1 (b + 4) (2 * t + c) = V (7 + c) t) ∧ (∀ t c : Nat, (t : Int) < (V 0 2).toInt → c < 3 → p.1 (b + 6) (3 * t + c) = V (9 + c) t)
section
variable {p u : hW} {b : Nat} {V : Nat → Nat → Int32}
theorem nI_lit {n : Nat} (h : n < 2 ^ 31) : (nI n).toInt = n := nI_toInt h
theorem VR_has {k : Nat} {n t : Int32} (h : p.1 k 3 = n) : tHas p k t = (!decide (t < 0) && decide (t < n)) := by unfold tHas; rw [h]
theorem tHas_rng {k : Nat} {t : Int32} (h : tHas p k t = true) : 0 ≤ t.toInt ∧ t.toInt < (p.1 k 3).toInt := by
  have z : (0 : Int32).toInt = 0 := rfl
  simp only [tHas, Bool.and_eq_true, Bool.not_eq_true', decide_eq_false_iff_not, decide_eq_true_eq, i32_lt, z] at h
  omega
theorem cell_at {k : Nat} {n c : Nat} {t : Int32} (h2 : p.1 k 2 = nI n) (hn : n < 48) (h : tHas p k t = true) (hc : c < n) : tCell p k t (nI c) = p.1 (k + 1) (n * t.toNatClampNeg + c) := by
  have z : (0 : Int32).toInt = 0 := rfl
  have e1 := nI_toInt (show c < 2 ^ 31 by omega)
  have e2 := nI_toInt (show n < 2 ^ 31 by omega)
  have hC : tHasC p k t (nI c) = true := by
    unfold tHasC
    rw [h, h2]
    simp only [Bool.true_and, Bool.and_eq_true, Bool.not_eq_true', decide_eq_false_iff_not, decide_eq_true_eq, i32_lt, z, e1, e2]
    omega
  unfold tCell tAt
  rw [if_pos hC, h2, e1, e2, i32_clamp]
  have e3 : (n : Int).toNat = n := by omega
  have e4 : (c : Int).toNat = c := by omega
  rw [e3, e4, Nat.mul_comm]
theorem VR_T (h : VR p b V) {t : Int32} (ht : tHas p (b + 1) t = true) {c : Nat} (hc : c < 6) : tCell p (b + 1) t (nI c) = V (1 + c) t.toNatClampNeg := by
  obtain ⟨hI, h0, h1, h2, -, hT, -, -⟩ := h
  rw [cell_at (n := 6) (by rw [hI.2.1]; rfl) (by omega) ht hc]
  have hr := tHas_rng ht
  rw [h0] at hr
  exact hT _ _ (by rw [i32_clamp]; omega) hc
theorem VR_M (h : VR p b V) {t : Int32} (ht : tHas p (b + 3) t = true) {c : Nat} (hc : c < 2) : tCell p (b + 3) t (nI c) = V (7 + c) t.toNatClampNeg := by
  obtain ⟨hI, h0, h1, h2, -, -, hM, -⟩ := h
  rw [cell_at (n := 2) (by rw [hI.2.2.2.1]; rfl) (by omega) ht hc]
  have hr := tHas_rng ht
  rw [h1] at hr
  exact hM _ _ (by rw [i32_clamp]; omega) hc
theorem VR_W (h : VR p b V) {t : Int32} (ht : tHas p (b + 5) t = true) {c : Nat} (hc : c < 3) : tCell p (b + 5) t (nI c) = V (9 + c) t.toNatClampNeg := by
  obtain ⟨hI, h0, h1, h2, -, -, -, hW⟩ := h
  rw [cell_at (n := 3) (by rw [hI.2.2.2.2.2.1]; rfl) (by omega) ht hc]
  have hr := tHas_rng ht
  rw [h2] at hr
  exact hW _ _ (by rw [i32_clamp]; omega) hc
theorem VR_s (h : VR p b V) {k : Nat} (h3 : 3 ≤ k) (h8 : k ≤ 8) : p.1 b k = V 0 k := h.2.2.2.2.1 k h3 h8
theorem vT0 (h : VR p b V) {t : Int32} (ht : tHas p (b + 1) t = true) : tCell p (b + 1) t 0 = V 1 t.toNatClampNeg := VR_T h ht (c := 0) (by omega)
theorem vT1 (h : VR p b V) {t : Int32} (ht : tHas p (b + 1) t = true) : tCell p (b + 1) t 1 = V 2 t.toNatClampNeg := VR_T h ht (c := 1) (by omega)
theorem vT2 (h : VR p b V) {t : Int32} (ht : tHas p (b + 1) t = true) : tCell p (b + 1) t 2 = V 3 t.toNatClampNeg := VR_T h ht (c := 2) (by omega)
theorem vT3 (h : VR p b V) {t : Int32} (ht : tHas p (b + 1) t = true) : tCell p (b + 1) t 3 = V 4 t.toNatClampNeg := VR_T h ht (c := 3) (by omega)
theorem vT4 (h : VR p b V) {t : Int32} (ht : tHas p (b + 1) t = true) : tCell p (b + 1) t 4 = V 5 t.toNatClampNeg := VR_T h ht (c := 4) (by omega)
theorem vT5 (h : VR p b V) {t : Int32} (ht : tHas p (b + 1) t = true) : tCell p (b + 1) t 5 = V 6 t.toNatClampNeg := VR_T h ht (c := 5) (by omega)
theorem vM0 (h : VR p b V) {t : Int32} (ht : tHas p (b + 3) t = true) : tCell p (b + 3) t 0 = V 7 t.toNatClampNeg := VR_M h ht (c := 0) (by omega)
theorem vM1 (h : VR p b V) {t : Int32} (ht : tHas p (b + 3) t = true) : tCell p (b + 3) t 1 = V 8 t.toNatClampNeg := VR_M h ht (c := 1) (by omega)
theorem vW0 (h : VR p b V) {t : Int32} (ht : tHas p (b + 5) t = true) : tCell p (b + 5) t 0 = V 9 t.toNatClampNeg := VR_W h ht (c := 0) (by omega)
theorem vW1 (h : VR p b V) {t : Int32} (ht : tHas p (b + 5) t = true) : tCell p (b + 5) t 1 = V 10 t.toNatClampNeg := VR_W h ht (c := 1) (by omega)
theorem vW2 (h : VR p b V) {t : Int32} (ht : tHas p (b + 5) t = true) : tCell p (b + 5) t 2 = V 11 t.toNatClampNeg := VR_W h ht (c := 2) (by omega)
/-! the model's own questions are of its numbers -/
theorem hasT (h : VR p b (vwM u)) {t : Int32} : tHas p (b + 1) t = mThing u t := VR_has h.2.1
theorem hasM (h : VR p b (vwM u)) {t : Int32} : tHas p (b + 3) t = mMan u t := VR_has h.2.2.1
theorem both_m (h : VR p b (vwM u)) {m t : Int32} : vBoth p b m t = (mMan u m && mThing u t) := by unfold vBoth; rw [hasT h, hasM h]
theorem wet_m (h : VR p b (vwM u)) {s : Int32} : vWet p b s = mWet u s := by
  unfold vWet mWet
  rw [VR_s h (k := 4) (by omega) (by omega), VR_s h (k := 5) (by omega) (by omega)]
  rfl
theorem stand_m (h : VR p b (vwM u)) {s : Int32} : vStand p b s = mStep u s := by
  unfold vStand mStep
  rw [VR_s h (k := 3) (by omega) (by omega), wet_m h]
  rfl
theorem step_m (h : VR p b (vwM u)) {t : Int32} (ht : mThing u t = true) : vStep p b t = u.1 50 t.toNatClampNeg := by
  rw [← hasT h] at ht
  exact vT3 h ht
theorem on_m (h : VR p b (vwM u)) {t s : Int32} (ht : mThing u t = true) : vOn p b t s = mOn u t s := by
  unfold vOn mOn
  rw [stand_m h, step_m h ht]
theorem full_m (h : VR p b V) (h8 : 0 ≤ (V 0 0).toInt ∧ (V 0 0).toInt ≤ 8) : tFull p (b + 1) = decide (V 0 0 = 8) := by
  unfold tFull
  rw [h.1.1, h.2.1]
  have e8 : (8 : Int32).toInt = 8 := rfl
  by_cases h1 : V 0 0 = 8
  · rw [h1]; rfl
  · rw [decide_eq_true (by rw [i32_lt, e8]; rw [i32_eq, e8] at h1; omega), decide_eq_false h1]; rfl
theorem full_m3 (h : VR p b V) (h8 : 0 ≤ (V 0 1).toInt ∧ (V 0 1).toInt ≤ 8) : tFull p (b + 3) = decide (V 0 1 = 8) := by
  unfold tFull
  rw [h.1.2.2.1, h.2.2.1]
  have e8 : (8 : Int32).toInt = 8 := rfl
  by_cases h1 : V 0 1 = 8
  · rw [h1]; rfl
  · rw [decide_eq_true (by rw [i32_lt, e8]; rw [i32_eq, e8] at h1; omega), decide_eq_false h1]; rfl
theorem full_m5 (h : VR p b V) (h8 : 0 ≤ (V 0 2).toInt ∧ (V 0 2).toInt ≤ 4) : tFull p (b + 5) = decide (V 0 2 = 4) := by
  unfold tFull
  rw [h.1.2.2.2.2.1, h.2.2.2.1]
  have e8 : (4 : Int32).toInt = 4 := rfl
  by_cases h1 : V 0 2 = 4
  · rw [h1]; rfl
  · rw [decide_eq_true (by rw [i32_lt, e8]; rw [i32_eq, e8] at h1; omega), decide_eq_false h1]; rfl
end

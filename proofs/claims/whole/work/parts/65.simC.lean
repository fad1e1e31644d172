/-! THE TWO SIDES ALIKE: how far; what is told of; what keeps a valley whole -/
section
variable {p u p' u' : hW} {b : Nat} {V : Nat → Nat → Int32}
def pos (s : Int32) : Int32 := if 0 < s then s else 0
theorem i32_0 : (0 : Int32).toInt = 0 := rfl
theorem can_m {s wt : Int32} (hw : 0 < wt.toInt) : fCan (pos s) wt = mCan s wt := by
  unfold fCan mCan pos
  rw [if_pos (by rw [i32_lt, i32_0]; exact hw)]
  by_cases h1 : 0 < s
  · have h2 : ¬ s < 0 := by rw [i32_lt, i32_0] at h1 ⊢; omega
    rw [if_pos h1, if_neg h2]
  · have e : (0 : Int32) * 10 / wt = 0 := by
      have z : (0 : Int32) * 10 = 0 := by decide
      rw [z, i32_eq, i32_div (by rw [i32_0]; omega) hw, i32_0, Int.zero_ediv]
    rw [if_neg h1, e]
    by_cases h2 : s < 0
    · rw [if_pos h2]
    · have e0 : s = 0 := by rw [i32_lt, i32_0] at h1 h2; rw [i32_eq, i32_0]; omega
      rw [if_neg h2, e0, e]
theorem cap_m {x : Int32} : fCap x = iLow x 40 := by
  unfold fCap iLow
  have e : (40 : Int32).toInt = 40 := rfl
  by_cases h1 : 40 < x
  · rw [if_pos h1, if_neg (by rw [i32_lt] at h1 ⊢; omega)]
  · rw [if_neg h1]
    by_cases h2 : x < 40
    · rw [if_pos h2]
    · rw [if_neg h2, i32_eq]; rw [i32_lt] at h1 h2; omega
theorem cap5_m {x : Int32} : (if 5 < fCap x then 5 else fCap x) = iLow x 5 := by
  have e : (40 : Int32).toInt = 40 := rfl
  have e5 : (5 : Int32).toInt = 5 := rfl
  have c := iLow_z (a := x) (b := 40)
  have d := iLow_z (a := x) (b := 5)
  rw [cap_m]
  by_cases h1 : 5 < iLow x 40
  · rw [if_pos h1, i32_eq, d]; rw [i32_lt, c] at h1; omega
  · rw [if_neg h1, i32_eq, c, d]; rw [i32_lt, c] at h1; omega
theorem reach_m {s k wt ex wd : Int32} (hw : 1 ≤ wt.toInt ∧ wt.toInt ≤ 99) (he : 1 ≤ ex.toInt ∧ ex.toInt ≤ 9) : fReach (pos s) k wt ex wd = mFB s k wt ex wd := by
  have o : (1 : Int32).toInt = 1 := rfl
  have eu : fUp wt ex = (wt + ex - 1) / ex := by unfold fUp; rw [if_pos (by rw [i32_lt, i32_0]; omega)]
  have u1 := i32_add (a := wt) (b := ex) (by omega) (by omega)
  have u2 := i32_sub (a := wt + ex) (b := 1) (by rw [u1, o]; omega) (by rw [u1, o]; omega)
  have u3 : ((wt + ex - 1) / ex).toInt = (wt.toInt + ex.toInt - 1) / ex.toInt := by
    rw [i32_div (by rw [u2, u1, o]; omega) (by omega), u2, u1, o]
  have u4 := up_pos hw.1 he.1
  unfold fReach mFB
  rw [cap5_m, eu, can_m (by omega), can_m (wt := (wt + ex - 1) / ex) (by rw [u3]; omega)]
  simp only [cap_m]
theorem Ok_T (h : Ok (vwM u)) {t : Int32} (ht : mThing u t = true) : (0 ≤ (u.1 47 t.toNatClampNeg).toInt ∧ (u.1 47 t.toNatClampNeg).toInt ≤ 6) ∧ (1 ≤ (u.1 48 t.toNatClampNeg).toInt ∧ (u.1 48 t.toNatClampNeg).toInt ≤ 99) ∧ (1 ≤ (u.1 49 t.toNatClampNeg).toInt ∧ (u.1 49 t.toNatClampNeg).toInt ≤ 9) ∧ Std (vwM u) (u.1 50 t.toNatClampNeg) ∧ (u.1 51 t.toNatClampNeg = -1 ∨ (0 ≤ (u.1 51 t.toNatClampNeg).toInt ∧ (u.1 51 t.toNatClampNeg).toInt < (u.1 45 1).toInt)) ∧ (u.1 52 t.toNatClampNeg = 0 ∨ u.1 52 t.toNatClampNeg = 1) := by
  simp only [mThing, Bool.and_eq_true, Bool.not_eq_true', decide_eq_false_iff_not, decide_eq_true_eq, i32_lt, i32_0] at ht
  exact h.2.1 t.toNatClampNeg (by rw [i32_clamp]; show _ < (u.1 45 0).toInt; omega)
theorem Ok_M (h : Ok (vwM u)) {t : Int32} (ht : mMan u t = true) : (1 ≤ (u.1 53 t.toNatClampNeg).toInt ∧ (u.1 53 t.toNatClampNeg).toInt ≤ 99) ∧ (0 ≤ (u.1 54 t.toNatClampNeg).toInt ∧ (u.1 54 t.toNatClampNeg).toInt ≤ 99) := by
  simp only [mMan, Bool.and_eq_true, Bool.not_eq_true', decide_eq_false_iff_not, decide_eq_true_eq, i32_lt, i32_0] at ht
  exact h.2.2.1 t.toNatClampNeg (by rw [i32_clamp]; show _ < (u.1 45 1).toInt; omega)
theorem fb_m (h : VR p b (vwM u)) (hk : Ok (vwM u)) {s t : Int32} (ht : mThing u t = true) : vReach p b (pos s) t = mFarBy u s t := by
  have hT := Ok_T hk ht
  have h2 := ht
  rw [← hasT h] at h2
  unfold vReach mFarBy
  rw [vT0 h h2, vT1 h h2, vT2 h h2, VR_s h (k := 6) (by omega) (by omega)]
  exact reach_m hT.2.1 hT.2.2.1
theorem str_m (h : VR p b (vwM u)) {m x : Int32} (hm : mMan u m = true) : vStr p b m x = pos (u.1 53 m.toNatClampNeg + x - u.1 54 m.toNatClampNeg) := by
  rw [← hasM h] at hm
  unfold vStr pos
  rw [vM0 h hm, vM1 h hm]
  rfl
theorem add_0 {x : Int32} : x + 0 = x := by
  rw [i32_eq, i32_add (by rw [i32_0]; have := Int32.le_toInt x; omega) (by rw [i32_0]; have := Int32.toInt_lt x; omega), i32_0]
  omega
theorem far_m (h : VR p b (vwM u)) (hk : Ok (vwM u)) {m t : Int32} (hm : mMan u m = true) (ht : mThing u t = true) : vFar p b m t = mFar u m t := by
  unfold vFar mFar
  rw [str_m h hm, add_0]
  exact fb_m h hk ht
theorem pos9 : pos 9 = 9 := by decide
theorem word_m (h : VR p b (vwM u)) (hk : Ok (vwM u)) {t k : Int32} (ht : mThing u t = true) (h7 : kOk k = true) : vWord p b t k = mSaysW u t k := by
  have h2 := ht
  rw [← hasT h] at h2
  have e9 := fb_m h hk (s := 9) ht
  rw [pos9] at e9
  unfold vWord mSaysW
  rw [vT1 h h2, vT2 h h2, vT5 h h2, e9]
  have z : (0 : Int32).toInt = 0 := rfl
  have z7 : (7 : Int32).toInt = 7 := rfl
  have z6 : (6 : Int32).toInt = 6 := rfl
  simp only [kOk, Bool.and_eq_true, Bool.not_eq_true', decide_eq_false_iff_not, decide_eq_true_eq] at h7
  rcases k_7 h7.1 (by have := h7.2; rw [i32_lt, z7] at this; rw [i32_lt, z6]; omega) with rfl | rfl | rfl | rfl | rfl | rfl | rfl <;> rfl
theorem und_like : ∀ a : Nat, a < 7 → ∀ c : Nat, c < 7 → und (nI a) (nI c) = mLike (nI c) (nI a) := by decide +kernel
theorem und_m {k x : Int32} (h7 : kOk k = true) (hx : 0 ≤ x.toInt ∧ x.toInt ≤ 6) : und x k = mLike k x := by
  have z7 : (7 : Int32).toInt = 7 := rfl
  simp only [kOk, Bool.and_eq_true, Bool.not_eq_true', decide_eq_false_iff_not, decide_eq_true_eq, i32_lt, i32_0, z7] at h7
  have e := und_like x.toInt.toNat (by omega) k.toInt.toNat (by omega)
  rw [nIof hx.1, nIof (by omega)] at e
  exact e
/-! what is told of -/
theorem anyF_c {f g : Nat → Bool} : ∀ (m i : Nat), (∀ k, i ≤ k → k < i + m → f k = g k) → anyF f i m = anyF g i m
  | 0, _, _ => rfl
  | m + 1, i, h => by
    unfold anyF
    rw [h i (by omega) (by omega), anyF_c m (i + 1) (fun k h1 h2 => h k (by omega) (by omega))]
theorem anyF_no {f : Nat → Bool} : ∀ (m i : Nat), anyF f i m = false → ∀ k, i ≤ k → k < i + m → f k = false
  | 0, _, _ => fun k h1 h2 => by omega
  | m + 1, i, h => fun k h1 h2 => by
    unfold anyF at h
    rw [Bool.or_eq_false_iff] at h
    by_cases e : k = i
    · rw [e]; exact h.1
    · exact anyF_no m (i + 1) h.2 k (by omega) (by omega)
theorem mT_nI {t : Nat} (h : (t : Int) < (u.1 45 0).toInt) : mThing u (nI t) = true := by
  have := Int32.toInt_lt (u.1 45 0)
  unfold mThing
  simp only [Bool.and_eq_true, Bool.not_eq_true', decide_eq_false_iff_not, decide_eq_true_eq, i32_lt, i32_0, nI_toInt (show t < 2 ^ 31 by omega)]
  omega
theorem mM_nI {t : Nat} (h : (t : Int) < (u.1 45 1).toInt) : mMan u (nI t) = true := by
  have := Int32.toInt_lt (u.1 45 1)
  unfold mMan
  simp only [Bool.and_eq_true, Bool.not_eq_true', decide_eq_false_iff_not, decide_eq_true_eq, i32_lt, i32_0, nI_toInt (show t < 2 ^ 31 by omega)]
  omega
theorem hW_nI (h : VR p b (vwM u)) {i : Nat} (hi : (i : Int) < (u.1 45 2).toInt) : tHas p (b + 5) (nI i) = true := by
  have := Int32.toInt_lt (u.1 45 2)
  rw [VR_has h.2.2.2.1]
  show (!decide (nI i < 0) && decide (nI i < u.1 45 2)) = true
  simp only [Bool.and_eq_true, Bool.not_eq_true', decide_eq_false_iff_not, decide_eq_true_eq, i32_lt, i32_0, nI_toInt (show i < 2 ^ 31 by omega)]
  omega
theorem told_m (h : VR p b (vwM u)) {x y : Int32} : vTold p b x y = (anyF (fun i => decide (x < u.1 50 i) && decide (u.1 50 i < y)) 0 (u.1 45 0).toInt.toNat || anyF (fun i => decide (x < u.1 56 i) && decide (u.1 56 i < y)) 0 (u.1 45 2).toInt.toNat) := by
  have e0 : p.1 (b + 1) 3 = u.1 45 0 := h.2.1
  have e2 : p.1 (b + 5) 3 = u.1 45 2 := h.2.2.2.1
  have l0 := Int32.toInt_lt (u.1 45 0)
  have l2 := Int32.toInt_lt (u.1 45 2)
  unfold vTold
  rw [e0, e2]
  congr 1
  · refine anyF_c _ _ (fun k _ hk => ?_)
    unfold vToldT
    rw [step_m h (mT_nI (by omega)), nI_cl (by omega)]
  · refine anyF_c _ _ (fun k _ hk => ?_)
    unfold vToldW
    rw [vW1 h (hW_nI h (by omega)), nI_cl (by omega)]
    rfl
theorem riv_m (h : VR p b (vwM u)) {f t : Int32} : vRivOk p b f t = mRivOk u f t := by
  unfold vRivOk mRivOk
  rw [told_m h, VR_s h (k := 3) (by omega) (by omega)]
  rfl
theorem i100 : (100 : Int32).toInt = 100 := rfl
theorem long_ok (h : VR p b (vwM u)) (hk : Ok (vwM u)) {n : Int32} : vLongOk p b n = mLongOk u n := by
  unfold vLongOk mLongOk
  rw [told_m h, VR_s h (k := 5) (by omega) (by omega)]
  have l3 := hk.1.2.2.2.1.2
  have e : anyF (fun i => decide (n < u.1 50 i) && decide (u.1 50 i < 100)) 0 (u.1 45 0).toInt.toNat = anyF (fun i => decide (n < u.1 50 i)) 0 (u.1 45 0).toInt.toNat := by
    refine anyF_c _ _ (fun k _ hk' => ?_)
    have hs := (hk.2.1 k (by show _ < (u.1 45 0).toInt; omega)).2.2.2.1
    have hs2 : (u.1 50 k).toInt ≤ (vwM u 0 3).toInt := hs.2.1
    show (decide (n < u.1 50 k) && decide (u.1 50 k < 100)) = decide (n < u.1 50 k)
    rw [decide_eq_true (p := u.1 50 k < 100) (by rw [i32_lt, i100]; omega), Bool.and_true]
  have e2 : anyF (fun i => decide (n < u.1 56 i) && decide (u.1 56 i < 100)) 0 (u.1 45 2).toInt.toNat = anyF (fun i => decide (n < u.1 56 i)) 0 (u.1 45 2).toInt.toNat := by
    refine anyF_c _ _ (fun k _ hk' => ?_)
    have hs := (hk.2.2.2 k (by show _ < (u.1 45 2).toInt; omega)).2.1
    have hs2 : (u.1 56 k).toInt ≤ (vwM u 0 3).toInt := hs.2.1
    show (decide (n < u.1 56 k) && decide (u.1 56 k < 100)) = decide (n < u.1 56 k)
    rw [decide_eq_true (p := u.1 56 k < 100) (by rw [i32_lt, i100]; omega), Bool.and_true]
  rw [e, e2]
  rfl
/-! what keeps a valley whole -/
theorem Std_V {V' : Nat → Nat → Int32} (e3 : V' 0 3 = V 0 3) (e4 : V' 0 4 = V 0 4) (e5 : V' 0 5 = V 0 5) {x : Int32} (h : Std V x) : Std V' x := by
  unfold Std at h ⊢
  rw [e3, e4, e5]
  exact h
theorem Ok_addT (h : Ok V) (h8 : (V 0 0).toInt < 8) {k wt ex st : Int32} (hk : 0 ≤ k.toInt ∧ k.toInt ≤ 6) (hw : 1 ≤ wt.toInt ∧ wt.toInt ≤ 99) (he : 1 ≤ ex.toInt ∧ ex.toInt ≤ 9) (hs : Std V st) : Ok (addT V k wt ex st) := by
  obtain ⟨⟨o0, o1, o2, o3, o4, o5⟩, oT, oM, oW⟩ := h
  have e00 : addT V k wt ex st 0 0 = V 0 0 + 1 := by unfold addT; rw [vset_s]
  have e0 : ∀ j, j ≠ 0 → addT V k wt ex st 0 j = V 0 j := fun j hj => by
    unfold addT
    rw [vset_o (by omega), vset_c (by omega), vset_c (by omega), vset_c (by omega), vset_c (by omega), vset_c (by omega), vset_c (by omega)]
  have ec : ∀ c j, c ≠ 0 → j ≠ (V 0 0).toNatClampNeg → addT V k wt ex st c j = V c j := fun c j hc hj => by
    unfold addT
    rw [vset_o (by omega), vset_o (by omega), vset_o (by omega), vset_o (by omega), vset_o (by omega), vset_o (by omega), vset_o (by omega)]
  have ed : ∀ c j, 7 ≤ c → addT V k wt ex st c j = V c j := fun c j hc => by
    unfold addT
    rw [vset_c (by omega), vset_c (by omega), vset_c (by omega), vset_c (by omega), vset_c (by omega), vset_c (by omega), vset_c (by omega)]
  have a1 := add1 o0.1 (by omega)
  have S : ∀ {x}, Std V x → Std (addT V k wt ex st) x := fun hx => Std_V (e0 3 (by omega)) (e0 4 (by omega)) (e0 5 (by omega)) hx
  refine ⟨⟨?_, ?_, ?_, ?_, ?_, ?_⟩, fun t ht => ?_, fun m hm => ?_, fun i hi => ?_⟩
  · rw [e00, a1]; omega
  · rw [e0 1 (by omega)]; exact o1
  · rw [e0 2 (by omega)]; exact o2
  · rw [e0 3 (by omega)]; exact o3
  · rw [e0 3 (by omega), e0 4 (by omega), e0 5 (by omega)]; exact o4
  · rw [e0 6 (by omega)]; exact o5
  · rw [e00] at ht
    by_cases e : t = (V 0 0).toNatClampNeg
    · subst e
      have f1 : addT V k wt ex st 1 (V 0 0).toNatClampNeg = k := by unfold addT; simp [vset]
      have f2 : addT V k wt ex st 2 (V 0 0).toNatClampNeg = wt := by unfold addT; simp [vset]
      have f3 : addT V k wt ex st 3 (V 0 0).toNatClampNeg = ex := by unfold addT; simp [vset]
      have f4 : addT V k wt ex st 4 (V 0 0).toNatClampNeg = st := by unfold addT; simp [vset]
      have f5 : addT V k wt ex st 5 (V 0 0).toNatClampNeg = -1 := by unfold addT; simp [vset]
      have f6 : addT V k wt ex st 6 (V 0 0).toNatClampNeg = 0 := by unfold addT; simp [vset]
      rw [f1, f2, f3, f4, f5, f6]
      exact ⟨hk, hw, he, S hs, Or.inl rfl, Or.inl rfl⟩
    · obtain ⟨b1, b2, b3, b4, b5, b6⟩ := oT t (one_more o0.1 (by omega) ht e)
      rw [ec 1 t (by omega) e, ec 2 t (by omega) e, ec 3 t (by omega) e, ec 4 t (by omega) e, ec 5 t (by omega) e, ec 6 t (by omega) e, e0 1 (by omega)]
      exact ⟨b1, b2, b3, S b4, b5, b6⟩
  · rw [e0 1 (by omega)] at hm
    rw [ed 7 m (by omega), ed 8 m (by omega)]
    exact oM m hm
  · rw [e0 2 (by omega)] at hi
    obtain ⟨b1, b2, b3⟩ := oW i hi
    rw [ed 9 i (by omega), ed 10 i (by omega), ed 11 i (by omega), e00, a1]
    exact ⟨⟨b1.1, by omega⟩, S b2, b3⟩
theorem Ok_addM (h : Ok V) (h8 : (V 0 1).toInt < 8) {s : Int32} (hw : 1 ≤ s.toInt ∧ s.toInt ≤ 99) : Ok (addM V s) := by
  obtain ⟨⟨o0, o1, o2, o3, o4, o5⟩, oT, oM, oW⟩ := h
  have e01 : addM V s 0 1 = V 0 1 + 1 := by unfold addM; rw [vset_s]
  have e0 : ∀ j, j ≠ 1 → addM V s 0 j = V 0 j := fun j hj => by
    unfold addM
    rw [vset_o (by omega), vset_c (by omega), vset_c (by omega)]
  have ec : ∀ c j, c ≠ 0 → (j ≠ (V 0 1).toNatClampNeg ∨ (c ≠ 7 ∧ c ≠ 8)) → addM V s c j = V c j := fun c j hc hj => by
    unfold addM
    rw [vset_o (by omega), vset_o (by omega), vset_o (by omega)]
  have a1 := add1 o1.1 (by omega)
  have S : ∀ {x}, Std V x → Std (addM V s) x := fun hx => Std_V (e0 3 (by omega)) (e0 4 (by omega)) (e0 5 (by omega)) hx
  refine ⟨⟨?_, ?_, ?_, ?_, ?_, ?_⟩, fun t ht => ?_, fun m hm => ?_, fun i hi => ?_⟩
  · rw [e0 0 (by omega)]; exact o0
  · rw [e01, a1]; omega
  · rw [e0 2 (by omega)]; exact o2
  · rw [e0 3 (by omega)]; exact o3
  · rw [e0 3 (by omega), e0 4 (by omega), e0 5 (by omega)]; exact o4
  · rw [e0 6 (by omega)]; exact o5
  · rw [e0 0 (by omega)] at ht
    obtain ⟨b1, b2, b3, b4, b5, b6⟩ := oT t ht
    rw [ec 1 t (by omega) (by omega), ec 2 t (by omega) (by omega), ec 3 t (by omega) (by omega), ec 4 t (by omega) (by omega), ec 5 t (by omega) (by omega), ec 6 t (by omega) (by omega), e01, a1]
    exact ⟨b1, b2, b3, S b4, by rcases b5 with b5 | b5
                                · exact Or.inl b5
                                · exact Or.inr ⟨b5.1, by omega⟩, b6⟩
  · rw [e01] at hm
    by_cases e : m = (V 0 1).toNatClampNeg
    · subst e
      have f7 : addM V s 7 (V 0 1).toNatClampNeg = s := by unfold addM; simp [vset]
      have f8 : addM V s 8 (V 0 1).toNatClampNeg = 0 := by unfold addM; simp [vset]
      rw [f7, f8, i32_0]
      exact ⟨hw, by omega⟩
    · rw [ec 7 m (by omega) (Or.inl e), ec 8 m (by omega) (Or.inl e)]
      exact oM m (one_more o1.1 (by omega) hm e)
  · rw [e0 2 (by omega)] at hi
    obtain ⟨b1, b2, b3⟩ := oW i hi
    rw [ec 9 i (by omega) (by omega), ec 10 i (by omega) (by omega), ec 11 i (by omega) (by omega), e0 0 (by omega)]
    exact ⟨b1, S b2, b3⟩
theorem Ok_addW (h : Ok V) (h8 : (V 0 2).toInt < 4) {t st v : Int32} (ht : 0 ≤ t.toInt ∧ t.toInt < (V 0 0).toInt) (hs : Std V st) (hw : 0 ≤ v.toInt ∧ v.toInt ≤ 99) : Ok (addW V t st v) := by
  obtain ⟨⟨o0, o1, o2, o3, o4, o5⟩, oT, oM, oW⟩ := h
  have e02 : addW V t st v 0 2 = V 0 2 + 1 := by unfold addW; rw [vset_s]
  have e0 : ∀ j, j ≠ 2 → addW V t st v 0 j = V 0 j := fun j hj => by
    unfold addW
    rw [vset_o (by omega), vset_c (by omega), vset_c (by omega), vset_c (by omega)]
  have ec : ∀ c j, c ≠ 0 → (j ≠ (V 0 2).toNatClampNeg ∨ c < 9) → addW V t st v c j = V c j := fun c j hc hj => by
    unfold addW
    rw [vset_o (by omega), vset_o (by omega), vset_o (by omega), vset_o (by omega)]
  have a1 := add1 o2.1 (by omega)
  have S : ∀ {x}, Std V x → Std (addW V t st v) x := fun hx => Std_V (e0 3 (by omega)) (e0 4 (by omega)) (e0 5 (by omega)) hx
  refine ⟨⟨?_, ?_, ?_, ?_, ?_, ?_⟩, fun t' ht' => ?_, fun m hm => ?_, fun i hi => ?_⟩
  · rw [e0 0 (by omega)]; exact o0
  · rw [e0 1 (by omega)]; exact o1
  · rw [e02, a1]; omega
  · rw [e0 3 (by omega)]; exact o3
  · rw [e0 3 (by omega), e0 4 (by omega), e0 5 (by omega)]; exact o4
  · rw [e0 6 (by omega)]; exact o5
  · rw [e0 0 (by omega)] at ht'
    obtain ⟨b1, b2, b3, b4, b5, b6⟩ := oT t' ht'
    rw [ec 1 t' (by omega) (by omega), ec 2 t' (by omega) (by omega), ec 3 t' (by omega) (by omega), ec 4 t' (by omega) (by omega), ec 5 t' (by omega) (by omega), ec 6 t' (by omega) (by omega), e0 1 (by omega)]
    exact ⟨b1, b2, b3, S b4, b5, b6⟩
  · rw [e0 1 (by omega)] at hm
    rw [ec 7 m (by omega) (by omega), ec 8 m (by omega) (by omega)]
    exact oM m hm
  · rw [e02] at hi
    rw [e0 0 (by omega)]
    by_cases e : i = (V 0 2).toNatClampNeg
    · subst e
      have f9 : addW V t st v 9 (V 0 2).toNatClampNeg = t := by unfold addW; simp [vset]
      have f10 : addW V t st v 10 (V 0 2).toNatClampNeg = st := by unfold addW; simp [vset]
      have f11 : addW V t st v 11 (V 0 2).toNatClampNeg = v := by unfold addW; simp [vset]
      rw [f9, f10, f11]
      exact ⟨ht, S hs, hw⟩
    · obtain ⟨b1, b2, b3⟩ := oW i (one_more o2.1 (by omega) hi e)
      rw [ec 9 i (by omega) (Or.inl e), ec 10 i (by omega) (Or.inl e), ec 11 i (by omega) (Or.inl e)]
      exact ⟨b1, S b2, b3⟩
/-- the numbers of the valley itself changed -/
theorem Ok_sc (h : Ok V) {V' : Nat → Nat → Int32} (h0 : V' 0 0 = V 0 0) (h1 : V' 0 1 = V 0 1) (h2 : V' 0 2 = V 0 2) (h3 : 1 ≤ (V' 0 3).toInt ∧ (V' 0 3).toInt ≤ 99) (h4 : 0 ≤ (V' 0 4).toInt ∧ (V' 0 4).toInt ≤ (V' 0 5).toInt ∧ (V' 0 5).toInt ≤ (V' 0 3).toInt) (h6 : 0 ≤ (V' 0 6).toInt ∧ (V' 0 6).toInt ≤ 9) (hc : ∀ c j, c ≠ 0 → V' c j = V c j) (hT : ∀ t : Nat, (t : Int) < (V 0 0).toInt → Std V' (V 4 t)) (hW : ∀ t : Nat, (t : Int) < (V 0 2).toInt → Std V' (V 10 t)) : Ok V' := by
  obtain ⟨⟨o0, o1, o2, o3, o4, o5⟩, oT, oM, oW⟩ := h
  refine ⟨⟨?_, ?_, ?_, h3, h4, h6⟩, fun t ht => ?_, fun m hm => ?_, fun i hi => ?_⟩
  · rw [h0]; exact o0
  · rw [h1]; exact o1
  · rw [h2]; exact o2
  · rw [h0] at ht
    obtain ⟨b1, b2, b3, b4, b5, b6⟩ := oT t ht
    rw [hc 1 t (by omega), hc 2 t (by omega), hc 3 t (by omega), hc 4 t (by omega), hc 5 t (by omega), hc 6 t (by omega), h1]
    exact ⟨b1, b2, b3, hT t ht, b5, b6⟩
  · rw [h1] at hm
    rw [hc 7 m (by omega), hc 8 m (by omega)]
    exact oM m hm
  · rw [h2] at hi
    obtain ⟨b1, b2, b3⟩ := oW i hi
    rw [hc 9 i (by omega), hc 10 i (by omega), hc 11 i (by omega), h0]
    exact ⟨b1, hW i hi, b3⟩
theorem wt_rng {x : Int32} (h : wtOk x = true) : 1 ≤ x.toInt ∧ x.toInt ≤ 99 := by
  have e1 : (1 : Int32).toInt = 1 := rfl
  have e2 : (99 : Int32).toInt = 99 := rfl
  simp only [wtOk, Bool.and_eq_true, Bool.not_eq_true', decide_eq_false_iff_not, i32_lt, e1, e2] at h
  omega
theorem ex_rng {x : Int32} (h : exOk x = true) : 1 ≤ x.toInt ∧ x.toInt ≤ 9 := by
  have e1 : (1 : Int32).toInt = 1 := rfl
  have e2 : (9 : Int32).toInt = 9 := rfl
  simp only [exOk, Bool.and_eq_true, Bool.not_eq_true', decide_eq_false_iff_not, i32_lt, e1, e2] at h
  omega
theorem wo_rng {x : Int32} (h : woOk x = true) : 0 ≤ x.toInt ∧ x.toInt ≤ 99 := by
  have e2 : (99 : Int32).toInt = 99 := rfl
  simp only [woOk, Bool.and_eq_true, Bool.not_eq_true', decide_eq_false_iff_not, i32_lt, i32_0, e2] at h
  omega
theorem wi_rng {x : Int32} (h : wiOk x = true) : 0 ≤ x.toInt ∧ x.toInt ≤ 9 := by
  have e2 : (9 : Int32).toInt = 9 := rfl
  simp only [wiOk, Bool.and_eq_true, Bool.not_eq_true', decide_eq_false_iff_not, i32_lt, i32_0, e2] at h
  omega
theorem k_rng {x : Int32} (h : kOk x = true) : 0 ≤ x.toInt ∧ x.toInt ≤ 6 := by
  have e2 : (7 : Int32).toInt = 7 := rfl
  simp only [kOk, Bool.and_eq_true, Bool.not_eq_true', decide_eq_false_iff_not, decide_eq_true_eq, i32_lt, i32_0, e2] at h
  omega
theorem step_Std {x : Int32} (h : mStep u x = true) : Std (vwM u) x := mStd_step h
theorem Ok_seed (h : Ok V) {k : Nat} (hk : k = 7 ∨ k = 8) {v : Int32} : Ok (vset V 0 k v) := by
  have e : ∀ j, j ≤ 6 → vset V 0 k v 0 j = V 0 j := fun j hj => vset_o (by omega)
  refine Ok_sc h (e 0 (by omega)) (e 1 (by omega)) (e 2 (by omega)) ?_ ?_ ?_ (fun c j hc => vset_c hc) (fun t ht => ?_) (fun t ht => ?_)
  · rw [e 3 (by omega)]; exact h.1.2.2.2.1
  · rw [e 3 (by omega), e 4 (by omega), e 5 (by omega)]; exact h.1.2.2.2.2.1
  · rw [e 6 (by omega)]; exact h.1.2.2.2.2.2
  · exact Std_V (e 3 (by omega)) (e 4 (by omega)) (e 5 (by omega)) (h.2.1 t ht).2.2.2.1
  · exact Std_V (e 3 (by omega)) (e 4 (by omega)) (e 5 (by omega)) (h.2.2.2 t ht).2.1
theorem Ok_wind (h : Ok V) {v : Int32} (hv : 0 ≤ v.toInt ∧ v.toInt ≤ 9) : Ok (vset V 0 6 v) := by
  have e : ∀ j, j ≤ 5 → vset V 0 6 v 0 j = V 0 j := fun j hj => vset_o (by omega)
  refine Ok_sc h (e 0 (by omega)) (e 1 (by omega)) (e 2 (by omega)) ?_ ?_ ?_ (fun c j hc => vset_c hc) (fun t ht => ?_) (fun t ht => ?_)
  · rw [e 3 (by omega)]; exact h.1.2.2.2.1
  · rw [e 3 (by omega), e 4 (by omega), e 5 (by omega)]; exact h.1.2.2.2.2.1
  · rw [vset_s]; exact hv
  · exact Std_V (e 3 (by omega)) (e 4 (by omega)) (e 5 (by omega)) (h.2.1 t ht).2.2.2.1
  · exact Std_V (e 3 (by omega)) (e 4 (by omega)) (e 5 (by omega)) (h.2.2.2 t ht).2.1
theorem Ok_long (h : Ok (vwM u)) {v : Int32} (hv : mLongOk u v = true) : Ok (vset (vwM u) 0 3 v) := by
  have e1 : (1 : Int32).toInt = 1 := rfl
  have e99 : (99 : Int32).toInt = 99 := rfl
  have e : ∀ j, j ≠ 3 → vset (vwM u) 0 3 v 0 j = vwM u 0 j := fun j hj => vset_o (by omega)
  simp only [mLongOk, Bool.and_eq_true, Bool.not_eq_true', decide_eq_false_iff_not, i32_lt, e1, e99, Bool.or_eq_false_iff] at hv
  obtain ⟨v1, v2, v3, v4, v5⟩ := hv
  have r := h.1.2.2.2.2.1
  have r5 : vwM u 0 5 = u.1 45 5 := rfl
  have r4 : vwM u 0 4 = u.1 45 4 := rfl
  have S : ∀ {x : Int32}, Std (vwM u) x → x.toInt ≤ v.toInt → Std (vset (vwM u) 0 3 v) x := fun {x} hx hv => by
    refine ⟨hx.1, ?_, ?_⟩
    · rw [vset_s]; exact hv
    · rw [e 4 (by omega), e 5 (by omega)]; exact hx.2.2
  refine Ok_sc h (e 0 (by omega)) (e 1 (by omega)) (e 2 (by omega)) ?_ ?_ ?_ (fun c j hc => vset_c hc) (fun t ht => ?_) (fun t ht => ?_)
  · rw [vset_s]; omega
  · rw [vset_s, e 4 (by omega), e 5 (by omega)]
    exact ⟨r.1, r.2.1, by rw [r5]; omega⟩
  · rw [e 6 (by omega)]; exact h.1.2.2.2.2.2
  · have f := anyF_no _ _ v4 t (by omega) (by have : (vwM u 0 0) = u.1 45 0 := rfl; rw [this] at ht; omega)
    rw [decide_eq_false_iff_not] at f
    exact S (h.2.1 t ht).2.2.2.1 (by show (u.1 50 t).toInt ≤ _; omega)
  · have f := anyF_no _ _ v5 t (by omega) (by have : (vwM u 0 2) = u.1 45 2 := rfl; rw [this] at ht; omega)
    rw [decide_eq_false_iff_not] at f
    exact S (h.2.2.2 t ht).2.1 (by show (u.1 56 t).toInt ≤ _; omega)
theorem Ok_riv (h : Ok (vwM u)) {f t : Int32} (hv : mRivOk u f t = true) : Ok (vset (vset (vwM u) 0 4 f) 0 5 t) := by
  have e : ∀ j, j ≠ 4 → j ≠ 5 → vset (vset (vwM u) 0 4 f) 0 5 t 0 j = vwM u 0 j := fun j h4 h5 => by rw [vset_o (by omega), vset_o (by omega)]
  have f4 : vset (vset (vwM u) 0 4 f) 0 5 t 0 4 = f := by rw [vset_o (by omega), vset_s]
  simp only [mRivOk, Bool.and_eq_true, Bool.not_eq_true', decide_eq_false_iff_not, i32_lt, i32_0, Bool.or_eq_false_iff] at hv
  obtain ⟨v1, v2, v3, v4, v5⟩ := hv
  have r3 : vwM u 0 3 = u.1 45 3 := rfl
  have S : ∀ {x : Int32}, Std (vwM u) x → ¬ (f.toInt < x.toInt ∧ x.toInt < t.toInt) → Std (vset (vset (vwM u) 0 4 f) 0 5 t) x := fun {x} hx hv => by
    refine ⟨hx.1, ?_, ?_⟩
    · rw [e 3 (by omega) (by omega)]; exact hx.2.1
    · rw [f4, vset_s]; omega
  refine Ok_sc h (e 0 (by omega) (by omega)) (e 1 (by omega) (by omega)) (e 2 (by omega) (by omega)) ?_ ?_ ?_ (fun c j hc => by rw [vset_c hc, vset_c hc]) (fun t' ht => ?_) (fun t' ht => ?_)
  · rw [e 3 (by omega) (by omega)]; exact h.1.2.2.2.1
  · rw [e 3 (by omega) (by omega), f4, vset_s, r3]; omega
  · rw [e 6 (by omega) (by omega)]; exact h.1.2.2.2.2.2
  · have g := anyF_no _ _ v4 t' (by omega) (by have : (vwM u 0 0) = u.1 45 0 := rfl; rw [this] at ht; omega)
    rw [Bool.and_eq_false_iff, decide_eq_false_iff_not, decide_eq_false_iff_not] at g
    exact S (h.2.1 t' ht).2.2.2.1 (by show ¬ (f.toInt < (u.1 50 t').toInt ∧ (u.1 50 t').toInt < t.toInt); omega)
  · have g := anyF_no _ _ v5 t' (by omega) (by have : (vwM u 0 2) = u.1 45 2 := rfl; rw [this] at ht; omega)
    rw [Bool.and_eq_false_iff, decide_eq_false_iff_not, decide_eq_false_iff_not] at g
    exact S (h.2.2.2 t' ht).2.1 (by show ¬ (f.toInt < (u.1 56 t').toInt ∧ (u.1 56 t').toInt < t.toInt); omega)
end

/-! CONTRACTS of the model: an item whole; valley -/
theorem mtF_all {L : Nat → Int32} {tx : List Int32} {a : Nat} : ∀ (r i : Nat), mtF L tx a r i = i + r ↔ ∀ k, i ≤ k → k < i + r → L (a + k) = tx.getD k 0
  | 0, i => ⟨fun _ k h1 h2 => by omega, fun _ => rfl⟩
  | r + 1, i => by
    have ih := mtF_all (L := L) (tx := tx) (a := a) r (i + 1)
    have hb := mtF_b (L := L) (tx := tx) (a := a) r (i + 1)
    constructor
    · intro h k h1 h2
      rw [mtF] at h
      by_cases c : L (a + i) = tx.getD i 0
      · rw [if_pos c] at h
        by_cases e : k = i
        · subst e; exact c
        · exact ih.mp (by omega) k (by omega) (by omega)
      · rw [if_neg c] at h
        omega
    · intro h
      rw [mtF, if_pos (h i (by omega) (by omega)), ih.mpr (fun k h1 h2 => h k (by omega) (by omega))]
      omega
theorem wB_in : ∀ f : Nat, f < 6 → ∀ k : Nat, k < wLen f → (wBl f).getD k 0 = (gTxs.getD f []).getD k 0 := by decide +kernel
theorem mtF_word {L : Nat → Int32} {a f : Nat} (hf : f < 6) (h : mtF L (wBl f) a (wLen f + 1) 0 = wLen f + 1) : mtF L (gTxs.getD f []) a (wLen f) 0 = wLen f ∧ L (a + wLen f) = 32 := by
  have h2 := (mtF_all (L := L) (tx := wBl f) (a := a) (wLen f + 1) 0).mp (by omega)
  constructor
  · have := (mtF_all (L := L) (tx := gTxs.getD f []) (a := a) (wLen f) 0).mpr (fun k k1 k2 => by rw [h2 k (by omega) (by omega), wB_in f hf k (by omega)])
    omega
  · rw [h2 (wLen f) (by omega) (by omega), (wW_3 f hf).1]
theorem wdF_ok {L : Nat → Int32} {a : Nat} : ∀ (r f far g : Nat), wdF L a f r far = .inl g → f ≤ g ∧ g < f + r ∧ mtF L (wBl g) a (wLen g + 1) 0 = wLen g + 1
  | 0, f, far, g, h => by unfold wdF at h; cases h
  | r + 1, f, far, g, h => by
    unfold wdF at h
    split at h
    · rename_i c
      cases h
      exact ⟨by omega, by omega, c⟩
    · obtain ⟨h1, h2, h3⟩ := wdF_ok r (f + 1) _ g h
      exact ⟨by omega, by omega, h3⟩
theorem mItF_no {w : hW} : ∀ (r f : Nat), mItF w f r = false → ∀ g, f ≤ g → g < f + r → mWA w g = true → mFul w g = false
  | 0, f, _, g, h1, h2 => by omega
  | r + 1, f, h, g, h1, h2 => by
    intro h3
    unfold mItF at h
    split at h
    · cases h
    · rename_i c
      by_cases e : g = f
      · subst e
        cases h4 : mFul w g
        · rfl
        · rw [h3, h4] at c
          exact absurd rfl c
      · exact mItF_no r (f + 1) h g (by omega) (by omega) h3
theorem pNs_ok {L : Nat → Int32} {ft : Nat → Int32 → Int32 → Bool} : ∀ (r i a : Nat) (v0 : Int32) (x : List Int32 × Nat), pNs L ft r i a v0 = .inr x → x.1.length = r ∧ (∀ k, k < r → 0 ≤ (x.1.getD k 0).toInt ∧ (x.1.getD k 0).toInt ≤ 99) ∧ (∀ k, k < r → ft (i + k) (if i = 0 then x.1.getD 0 0 else v0) (x.1.getD k 0) = true) ∧ a ≤ x.2 ∧ (0 < r → a < x.2)
  | 0, i, a, v0, x, h => by
    unfold pNs at h
    cases h
    exact ⟨rfl, fun k hk => by omega, fun k hk => by omega, Nat.le_refl _, fun h => by omega⟩
  | r + 1, i, a, v0, x, h => by
    unfold pNs at h
    have hp1 : a ≤ (if i = 0 then a else a + 1) := by split <;> omega
    generalize hv : (if i = 0 then numV L (if i = 0 then a else a + 1) else v0) = v at h
    generalize hp : (if i = 0 then a else a + 1) = p at h hp1 hv
    by_cases hb : i ≠ 0 ∧ L a ≠ 32
    · rw [if_pos hb] at h
      cases h
    · rw [if_neg hb] at h
      by_cases hd : rDig (L p) = true
      · rw [if_pos hd] at h
        have nb := numV_b hd
        have ne : p < numE L p := by unfold numE; split <;> omega
        by_cases hft : ft i v (numV L p) = true
        · rw [if_pos hft] at h
          cases hm : pNs L ft r (i + 1) (numE L p) v with
          | inl q => rw [hm] at h; cases h
          | inr y =>
            rw [hm] at h
            cases h
            obtain ⟨h1, h2, h3, h4, h5⟩ := pNs_ok r (i + 1) _ _ y hm
            refine ⟨by simp [h1], fun k hk => ?_, fun k hk => ?_, by simp only; omega, fun _ => by simp only; omega⟩
            · cases k with
              | zero => exact nb
              | succ k => exact h2 k (by omega)
            · have hv2 : (if i = 0 then (numV L p :: y.1).getD 0 0 else v0) = v := hv
              rw [hv2]
              cases k with
              | zero =>
                rw [Nat.add_zero]
                exact hft
              | succ k =>
                have := h3 k (by omega)
                rw [show i + (k + 1) = i + 1 + k by omega]
                rw [if_neg (by omega)] at this
                exact this
        · rw [if_neg hft] at h
          cases h
      · rw [if_neg hd] at h
        cases h
theorem itA_45 {w : hW} {f : Nat} {l : List Int32} {j : Nat} (h : 7 ≤ j) : (itA w f l).1 45 j = w.1 45 j := by
  unfold itA
  split
  · unfold mAddT
    rw [wI_at (by omega), wI_q (by decide), wI_q (by decide), wI_q (by decide), wI_q (by decide), wI_q (by decide), wI_q (by decide)]
  · unfold mAddM
    rw [wI_at (by omega), wI_q (by decide), wI_q (by decide)]
  · unfold mAddW
    rw [wI_at (by omega), wI_q (by decide), wI_q (by decide), wI_q (by decide)]
  · rw [wI_at (by omega)]
  · rw [wI_at (by omega), wI_at (by omega)]
  · rw [wI_at (by omega)]
theorem itA_o {w : hW} {f : Nat} {l : List Int32} {q : Nat} (h : q ≠ 45) (h2 : ¬ (47 ≤ q ∧ q ≤ 57)) : (itA w f l).1 q = w.1 q := by
  unfold itA
  split
  · unfold mAddT
    rw [wI_q (by omega), wI_q (by omega), wI_q (by omega), wI_q (by omega), wI_q (by omega), wI_q (by omega), wI_q (by omega)]
  · unfold mAddM
    rw [wI_q (by omega), wI_q (by omega), wI_q (by omega)]
  · unfold mAddW
    rw [wI_q (by omega), wI_q (by omega), wI_q (by omega), wI_q (by omega)]
  · rw [wI_q (by omega)]
  · rw [wI_q (by omega), wI_q (by omega)]
  · rw [wI_q (by omega)]
theorem itA_2 {w : hW} {f : Nat} {l : List Int32} : (itA w f l).2 = w.2 := by
  unfold itA
  split <;> rfl
/-- what is known of an item that is read -/
theorem pItem_ok {w : hW} {x : Nat × List Int32 × Nat} (h : pItem w = .inr x) : x.1 < 6 ∧ mFul w x.1 = false ∧ mAt w + 2 ≤ x.2.2 ∧ (∀ k, k < mCnt x.1 → 0 ≤ (x.2.1.getD k 0).toInt ∧ (x.2.1.getD k 0).toInt ≤ 99) ∧ (∀ k, k < mCnt x.1 → pFit w x.1 k (x.2.1.getD 0 0) (x.2.1.getD k 0) = true) := by
  unfold pItem at h
  split at h
  · cases h
  · rename_i hno
    split at h
    · cases h
    · rename_i f hw
      obtain ⟨f1, f2, f3⟩ := wdF_ok 6 0 _ f hw
      have hf : f < 6 := by omega
      have hA : mWA w f = true := decide_eq_true (mtF_word hf f3).1
      cases hm : pNs (mLt w) (pFit w f) (mCnt f) 0 (mAt w + (wLen f + 1)) 0 with
      | inl q => rw [hm] at h; cases h
      | inr y =>
        rw [hm] at h
        cases h
        obtain ⟨h1, h2, h3, h4, h5⟩ := pNs_ok _ _ _ _ y hm
        refine ⟨hf, mItF_no 6 0 (by simpa using hno) f (by omega) (by omega) hA, ?_, h2, fun k hk => ?_⟩
        · have hc : 0 < mCnt f := by
            unfold mCnt
            repeat' split
            all_goals omega
          have := h5 hc
          simp only
          omega
        · have := h3 k hk
          rw [Nat.zero_add, if_pos rfl] at this
          exact this
theorem mFul_f {w : hW} (hI : mI w) : (mFul w 0 = false → (w.1 45 0).toInt < 8) ∧ (mFul w 1 = false → (w.1 45 1).toInt < 8) ∧ (mFul w 2 = false → (w.1 45 2).toInt < 4) := by
  have e8 : (8 : Int32).toInt = 8 := rfl
  have e4 : (4 : Int32).toInt = 4 := rfl
  refine ⟨fun h => ?_, fun h => ?_, fun h => ?_⟩
  · have h2 : ¬ w.1 45 0 = 8 := fun e => by unfold mFul at h; simp [e] at h
    rw [i32_eq, e8] at h2
    have := hI.1
    omega
  · have h2 : ¬ w.1 45 1 = 8 := fun e => by unfold mFul at h; simp [e] at h
    rw [i32_eq, e8] at h2
    have := hI.2.1
    omega
  · have h2 : ¬ w.1 45 2 = 4 := fun e => by unfold mFul at h; simp [e] at h
    rw [i32_eq, e4] at h2
    have := hI.2.2.1
    omega
/-- one more of anything keeps to mI -/
theorem inc_z {x : Int32} (h : 0 ≤ x.toInt) (h2 : x.toInt < 100) : (x + 1).toInt = x.toInt + 1 := by
  have o : (1 : Int32).toInt = 1 := rfl
  rw [i32_add (by rw [o]; omega) (by rw [o]; omega), o]
theorem mI_addT {w : hW} (hI : mI w) {k wt ex st : Int32} (h8 : (w.1 45 0).toInt < 8) (hw : 1 ≤ wt.toInt ∧ wt.toInt ≤ 99) (he : 1 ≤ ex.toInt ∧ ex.toInt ≤ 9) : mI (mAddT w k wt ex st) := by
  obtain ⟨a1, a2, a3, a4, a5, a6, a7, a8⟩ := hI
  have e0 : (mAddT w k wt ex st).1 45 0 = w.1 45 0 + 1 := mAddT_0
  have e0z : ((mAddT w k wt ex st).1 45 0).toInt = (w.1 45 0).toInt + 1 := by rw [e0, inc_z a1.1 (by omega)]
  have eo : ∀ q, q ≠ 45 → ¬ (47 ≤ q ∧ q ≤ 52) → (mAddT w k wt ex st).1 q = w.1 q := by
    intro q h1 h2
    unfold mAddT
    rw [wI_q (by omega), wI_q (by omega), wI_q (by omega), wI_q (by omega), wI_q (by omega), wI_q (by omega), wI_q (by omega)]
  have ej : ∀ j, j ≠ 0 → (mAddT w k wt ex st).1 45 j = w.1 45 j := by
    intro j h
    unfold mAddT
    rw [wI_at h, wI_q (by decide), wI_q (by decide), wI_q (by decide), wI_q (by decide), wI_q (by decide), wI_q (by decide)]
  have hT : ∀ t, mThing w t = true → mThing (mAddT w k wt ex st) t = true := by
    intro t ht
    have z : (0 : Int32).toInt = 0 := rfl
    simp only [mThing, Bool.and_eq_true, Bool.not_eq_true', decide_eq_false_iff_not, decide_eq_true_eq, i32_lt, z] at ht ⊢
    rw [e0z]
    omega
  have hM : ∀ t, mMan (mAddT w k wt ex st) t = mMan w t := fun t => mMan_o (ej 1 (by decide))
  have c : (w.1 45 0).toNatClampNeg = (w.1 45 0).toInt.toNat := rfl
  have e48 : ∀ t : Nat, (mAddT w k wt ex st).1 48 t = if t = (w.1 45 0).toNatClampNeg then wt else w.1 48 t := by
    intro t
    unfold mAddT
    rw [wI_q (by decide), wI_q (by decide), wI_q (by decide), wI_q (by decide), wI_q (by decide)]
    by_cases h : t = (w.1 45 0).toNatClampNeg
    · rw [if_pos h, h, wI_is]
    · rw [if_neg h, wI_at h, wI_q (by decide)]
  have e49 : ∀ t : Nat, (mAddT w k wt ex st).1 49 t = if t = (w.1 45 0).toNatClampNeg then ex else w.1 49 t := by
    intro t
    unfold mAddT
    rw [wI_q (by decide), wI_q (by decide), wI_q (by decide), wI_q (by decide)]
    by_cases h : t = (w.1 45 0).toNatClampNeg
    · rw [if_pos h, h, wI_is]
    · rw [if_neg h, wI_at h, wI_q (by decide), wI_q (by decide)]
  have e51 : ∀ t : Nat, (mAddT w k wt ex st).1 51 t = if t = (w.1 45 0).toNatClampNeg then -1 else w.1 51 t := by
    intro t
    unfold mAddT
    rw [wI_q (by decide), wI_q (by decide)]
    by_cases h : t = (w.1 45 0).toNatClampNeg
    · rw [if_pos h, h, wI_is]
    · rw [if_neg h, wI_at h, wI_q (by decide), wI_q (by decide), wI_q (by decide), wI_q (by decide)]
  refine ⟨by rw [e0z]; omega, by rw [ej 1 (by decide)]; exact a2, by rw [ej 2 (by decide)]; exact a3, ?_, ?_, ?_, ?_, ?_⟩
  · intro t ht
    rw [e0z] at ht
    rw [e48, e49]
    by_cases h : t = (w.1 45 0).toNatClampNeg
    · rw [if_pos h, if_pos h]; exact ⟨hw, he⟩
    · rw [if_neg h, if_neg h]; exact a4 t (by omega)
  · intro s hs
    rw [eo 60 (by decide) (by decide)]
    exact a5 s hs
  · intro s hs h2
    rw [eo 58 (by decide) (by decide)] at h2
    rw [eo 61 (by decide) (by decide)]
    exact hT _ (a6 s hs h2)
  · intro i hi
    rw [ej 2 (by decide)] at hi
    rw [eo 55 (by decide) (by decide)]
    exact hT _ (a7 i hi)
  · intro t ht
    rw [e0z] at ht
    rw [e51, hM]
    by_cases h : t = (w.1 45 0).toNatClampNeg
    · rw [if_pos h]; exact Or.inl rfl
    · rw [if_neg h]; exact a8 t (by omega)
theorem mI_addM {w : hW} (hI : mI w) {s : Int32} (h8 : (w.1 45 1).toInt < 8) : mI (mAddM w s) := by
  obtain ⟨a1, a2, a3, a4, a5, a6, a7, a8⟩ := hI
  have e1z : ((mAddM w s).1 45 1).toInt = (w.1 45 1).toInt + 1 := by rw [mAddM_1, inc_z a2.1 (by omega)]
  have eo : ∀ q, q ≠ 45 → q ≠ 53 → q ≠ 54 → (mAddM w s).1 q = w.1 q := by
    intro q h1 h2 h3
    unfold mAddM
    rw [wI_q h1, wI_q h3, wI_q h2]
  have ej : ∀ j, j ≠ 1 → (mAddM w s).1 45 j = w.1 45 j := by
    intro j h
    unfold mAddM
    rw [wI_at h, wI_q (by decide), wI_q (by decide)]
  have hT : ∀ t, mThing (mAddM w s) t = mThing w t := fun t => mThing_o (ej 0 (by decide))
  have hM : ∀ t, mMan w t = true → mMan (mAddM w s) t = true := by
    intro t ht
    have z : (0 : Int32).toInt = 0 := rfl
    simp only [mMan, Bool.and_eq_true, Bool.not_eq_true', decide_eq_false_iff_not, decide_eq_true_eq, i32_lt, z] at ht ⊢
    rw [e1z]
    omega
  refine ⟨by rw [ej 0 (by decide)]; exact a1, by rw [e1z]; omega, by rw [ej 2 (by decide)]; exact a3, ?_, ?_, ?_, ?_, ?_⟩
  · rw [ej 0 (by decide), eo 48 (by decide) (by decide) (by decide), eo 49 (by decide) (by decide) (by decide)]; exact a4
  · rw [eo 60 (by decide) (by decide) (by decide)]; exact a5
  · intro t ht
    rw [eo 58 (by decide) (by decide) (by decide), eo 61 (by decide) (by decide) (by decide), hT]
    exact a6 t ht
  · intro i
    rw [ej 2 (by decide), eo 55 (by decide) (by decide) (by decide), hT]
    exact a7 i
  · intro t ht
    rw [ej 0 (by decide)] at ht
    rw [eo 51 (by decide) (by decide) (by decide)]
    rcases a8 t ht with e | e
    · exact Or.inl e
    · exact Or.inr (hM _ e)
theorem mI_addW {w : hW} (hI : mI w) {t p v : Int32} (h4 : (w.1 45 2).toInt < 4) (ht : mThing w t = true) : mI (mAddW w t p v) := by
  obtain ⟨a1, a2, a3, a4, a5, a6, a7, a8⟩ := hI
  have e2 : (mAddW w t p v).1 45 2 = w.1 45 2 + 1 := by unfold mAddW; rw [wI_is]
  have e2z : ((mAddW w t p v).1 45 2).toInt = (w.1 45 2).toInt + 1 := by rw [e2, inc_z a3.1 (by omega)]
  have eo : ∀ q, q ≠ 45 → q ≠ 55 → q ≠ 56 → q ≠ 57 → (mAddW w t p v).1 q = w.1 q := by
    intro q h1 h2 h3 h4
    unfold mAddW
    rw [wI_q h1, wI_q h4, wI_q h3, wI_q h2]
  have ej : ∀ j, j ≠ 2 → (mAddW w t p v).1 45 j = w.1 45 j := by
    intro j h
    unfold mAddW
    rw [wI_at h, wI_q (by decide), wI_q (by decide), wI_q (by decide)]
  have hT : ∀ u, mThing (mAddW w t p v) u = mThing w u := fun u => mThing_o (ej 0 (by decide))
  have hM : ∀ u, mMan (mAddW w t p v) u = mMan w u := fun u => mMan_o (ej 1 (by decide))
  have c : (w.1 45 2).toNatClampNeg = (w.1 45 2).toInt.toNat := rfl
  have e55 : ∀ i : Nat, (mAddW w t p v).1 55 i = if i = (w.1 45 2).toNatClampNeg then t else w.1 55 i := by
    intro i
    unfold mAddW
    rw [wI_q (by decide), wI_q (by decide), wI_q (by decide)]
    by_cases h : i = (w.1 45 2).toNatClampNeg
    · rw [if_pos h, h, wI_is]
    · rw [if_neg h, wI_at h]
  refine ⟨by rw [ej 0 (by decide)]; exact a1, by rw [ej 1 (by decide)]; exact a2, by rw [e2z]; omega, ?_, ?_, ?_, ?_, ?_⟩
  · rw [ej 0 (by decide), eo 48 (by decide) (by decide) (by decide) (by decide), eo 49 (by decide) (by decide) (by decide) (by decide)]; exact a4
  · rw [eo 60 (by decide) (by decide) (by decide) (by decide)]; exact a5
  · intro s hs
    rw [eo 58 (by decide) (by decide) (by decide) (by decide), eo 61 (by decide) (by decide) (by decide) (by decide), hT]
    exact a6 s hs
  · intro i hi
    rw [e2z] at hi
    rw [e55, hT]
    by_cases h : i = (w.1 45 2).toNatClampNeg
    · rw [if_pos h]; exact ht
    · rw [if_neg h]; exact a7 i (by omega)
  · intro u hu
    rw [ej 0 (by decide)] at hu
    rw [eo 51 (by decide) (by decide) (by decide) (by decide), hM]
    exact a8 u hu
theorem mI_slot {w : hW} (hI : mI w) {j : Nat} {x : Int32} (h0 : j ≠ 0) (h1 : j ≠ 1) (h2 : j ≠ 2) : mI (wI w 45 j x) := mI_had hI (fun q hq => wI_q (by omega)) (wI_at (by omega)) (wI_at (by omega)) (wI_at (by omega)) (fun t => Or.inl (by rw [wI_q (by decide)]))
theorem mI_itA {w : hW} (hI : mI w) {x : Nat × List Int32 × Nat} (h : pItem w = .inr x) : mI (itA w x.1 x.2.1) := by
  obtain ⟨h1, h2, -, h3, h4⟩ := pItem_ok h
  obtain ⟨f, l, e⟩ := x
  simp only at h1 h2 h3 h4 ⊢
  have z0' : (0 : Int32).toInt = 0 := rfl
  have z10 : (10 : Int32).toInt = 10 := rfl
  obtain ⟨g1, g2, g3⟩ := mFul_f hI
  rcases nI6 h1 with rfl | rfl | rfl | rfl | rfl | rfl
  · have b1 := h3 1 (by decide)
    have b2 := h3 2 (by decide)
    have c1 : decide (0 < l.getD 1 0) = true := h4 1 (by decide)
    have c2 : (decide (0 < l.getD 2 0) && decide (l.getD 2 0 < 10)) = true := h4 2 (by decide)
    simp only [decide_eq_true_eq, Bool.and_eq_true, i32_lt, z0', z10] at c1 c2
    exact mI_addT hI (g1 h2) (by omega) (by omega)
  · exact mI_addM hI (g2 h2)
  · have b0 := h3 0 (by decide)
    have c0 : decide (l.getD 0 0 < w.1 45 0) = true := h4 0 (by decide)
    simp only [decide_eq_true_eq, i32_lt] at c0
    refine mI_addW hI (g3 h2) ?_
    simp only [mThing, Bool.and_eq_true, Bool.not_eq_true', decide_eq_false_iff_not, decide_eq_true_eq, i32_lt, z0']
    omega
  · exact mI_slot hI (by decide) (by decide) (by decide)
  · exact mI_slot (mI_slot hI (by decide) (by decide) (by decide)) (by decide) (by decide) (by decide)
  · exact mI_slot hI (by decide) (by decide) (by decide)

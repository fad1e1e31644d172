/-! THE TWO SIDES ALIKE: how far sets come -/
def xS (p p' : hW) : Prop := (∀ q, (q < 35 ∨ 42 < q) → p'.1 q = p.1 q) ∧ p'.2 = p.2
def mS (u u' : hW) : Prop := (∀ q, q ≠ 45 → (q < 63 ∨ q = 64 ∨ q = 67 ∨ q = 77) → u'.1 q = u.1 q) ∧ (∀ j, (j < 30 ∨ 46 < j) → u'.1 45 j = u.1 45 j) ∧ u'.2 = u.2
section
variable {p u p' u' : hW} {b : Nat} {V : Nat → Nat → Int32}
theorem xS.rf : xS p p := ⟨fun _ _ => rfl, rfl⟩
theorem xS.tr {p'' : hW} (h : xS p p') (h2 : xS p' p'') : xS p p'' := ⟨fun q hq => (h2.1 q hq).trans (h.1 q hq), h2.2.trans h.2⟩
theorem mS.rf : mS u u := ⟨fun _ _ _ => rfl, fun _ _ => rfl, rfl⟩
theorem mS.tr {u'' : hW} (h : mS u u') (h2 : mS u' u'') : mS u u'' := ⟨fun q h1 hq => (h2.1 q h1 hq).trans (h.1 q h1 hq), fun j hj => (h2.2.1 j hj).trans (h.2.1 j hj), h2.2.2.trans h.2.2⟩
theorem xS_A {q : Nat} {f : Nat → Int32} (h1 : 35 ≤ q) (h2 : q ≤ 42) : xS p (wA p q f) := ⟨fun r hr => wA_o (by omega), rfl⟩
theorem xS_I {q j : Nat} {v : Int32} (h1 : 35 ≤ q) (h2 : q ≤ 42) : xS p (wI p q j v) := ⟨fun r hr => wI_q (by omega), rfl⟩
theorem mS_A {q : Nat} {f : Nat → Int32} (h1 : 68 ≤ q) (h2 : q ≤ 76) : mS u (wA u q f) := ⟨fun r _ hr => wA_o (by omega), fun j _ => by rw [wA_o (by omega)], rfl⟩
theorem Sim_scr (h : R p u) {r : Int32} (hx : xS p p') (hm : mS u u') : Sim p u (r, p') (r, u') := by
  refine ⟨rfl, R_scr h ⟨fun q hq => hx.1 q (by omega), fun q a a' => hx.1 q (by omega), fun q a a' => hx.1 q (by omega), by rw [hx.1 43 (by omega)], hx.1 44 (by omega), fun q _ => by rw [hx.2], vI_o h.2.2.1.2 (fun q a a' => hx.1 q (by omega))⟩ (fun q a a' => hx.1 q (by omega)) ⟨hm.1 _ (by omega) (by omega), fun q a a' => hm.1 _ (by omega) (by omega), hm.1 _ (by omega) (by omega), hm.1 _ (by omega) (by omega), hm.1 _ (by omega) (by omega), hm.2.1 _ (by omega), hm.2.1 _ (by omega), hm.2.1 _ (by omega), by rw [hm.2.2]⟩ (fun q a a' => hm.1 q (by omega) (by omega)) (fun j hj => hm.2.1 j (by omega)), ⟨fun q hq => hx.1 q (by omega), fun q _ => by rw [hx.2]⟩, ⟨fun q hq => hm.1 q (by omega) (by omega), fun q _ => by rw [hm.2.2]⟩⟩
theorem Sim_tr {r : Int32} {x m : Int32 × hW} (h : Sim p u (r, p') (r, u')) (h2 : Sim p' u' x m) : Sim p u x m := ⟨h2.1, h2.2.1, xO.tr h.2.2.1 h2.2.2.1, mO.tr h.2.2.2 h2.2.2.2⟩
theorem xS_eo {t to : Int32} {S : Nat} : xS p (eoW p t to S) := by
  unfold eoW rMeas
  exact xS.tr (xS_A (by omega) (by omega)) (xS_A (by omega) (by omega))
theorem mS_RF {t to : Int32} : mS u (mRF u t to) := by
  unfold mRF mRows mMeas
  exact mS.tr (mS_A (by omega) (by omega)) (mS_A (by omega) (by omega))
theorem sub_bit {P n i : Nat} (h : subN P (2 ^ n - 1) = true) (hb : P.testBit i = true) : i < n := by
  rw [subN_iff] at h
  have := h i hb
  exact bit_lt (by have := Nat.pos_of_neZero (2 ^ n); omega) this
theorem isE_cg {g g' : Nat → Int32 → Int32} {st : Int32} {T n : Nat} {E : Nat → Int32} (h : isE g st T E) (hT : subN T (2 ^ n - 1) = true) (hg : ∀ i, i < n → ∀ x, g i x = g' i x) : isE g' st T E := by
  refine ⟨h.1, fun S h0 hS => ?_⟩
  obtain ⟨a1, i, a2, a3⟩ := h.2 S h0 hS
  have hSn := subN_tr hS hT
  exact ⟨fun j hj => by rw [← hg j (sub_bit hSn hj)]; exact a1 j hj, i, a2, by rw [← hg i (sub_bit hSn a2)]; exact a3⟩
theorem tab_g {fr tt to st : Int32} {F F' E0 E1 : Nat → Int32} {n S P : Nat} (h8 : n ≤ 8) (hfr : 0 ≤ fr.toInt) (hto : to.toInt ≤ 99) (hw : to.toInt ≤ fr.toInt ∨ tt.toInt ≤ to.toInt) (hF : ∀ i, i < 8 → 0 ≤ (F i).toInt ∧ (F i).toInt ≤ 99) (hFF : ∀ i, i < n → F i = F' i) (hp : okD fr tt to st) (hS : subN S (2 ^ n - 1) = true) (hP : subN P S = true) : fiE fr tt F to st S E0 P = grE fr tt F' to st n E1 P := by
  have hS2 : S < 256 := by have := sub_lt hS; have := pw_lt h8; omega
  have a := fiE_isE (E0 := E0) (T := S) hS2 (goe_G (n := 8) hfr hto hw hF) (fun i hi x hx => onw_goe hfr hto hw (hF i hi) hx) hp
  have c := grE_isE (E0 := E1) h8 (goe_G (n := n) (F := F') hfr hto hw (fun i hi => by rw [← hFF i hi]; exact hF i (by omega))) hp
  have a2 := isE_cg (g' := fun i x => goe fr tt x (F' i) to) a hS (fun i hi x => by rw [hFF i hi])
  exact isE_u hS2 a2 c P P (Nat.le_refl _) hP (subN_tr hP hS)
theorem mN_8 (h : R p u) : mN u ≤ 8 ∧ ((mN u : Nat) : Int) = (u.1 45 1).toInt := by
  have o := h.2.1.1.2.1
  have o' : 0 ≤ (u.1 45 1).toInt ∧ (u.1 45 1).toInt ≤ 8 := o
  unfold mN
  omega
theorem vN_m (h : R p u) : vN p 2 = mN u := by
  have e1 : p.1 (2 + 3) 3 = u.1 45 1 := h.1.2.2.1
  unfold vN mN
  rw [e1]
theorem F_at (h : R p u) {t : Int32} {j : Nat} (hj : j < 8) : (rMeas p t).1 38 j = if nI j < u.1 45 1 then vFar p 2 (nI j) t else 0 := by
  have e1 : p.1 5 3 = u.1 45 1 := h.1.2.2.1
  unfold rMeas
  rw [wA_s, if_pos hj, e1]
theorem F_m (h : R p u) {t : Int32} (ht : mThing u t = true) {f : Nat → Int32} : ∀ j, j < mN u → (rMeas p t).1 38 j = mMeasF u t f j := by
  intro j hj
  have n8 := mN_8 h
  have hm := mM_nI (u := u) (t := j) (by omega)
  rw [F_at h (by omega), if_pos (by rw [nIlt (by omega)]; omega), far_m h.1 h.2.1 hm ht]
  unfold mMeasF
  rw [if_pos hj]
theorem F_b (h : R p u) {t : Int32} (ht : mThing u t = true) : ∀ j, j < 8 → 0 ≤ ((rMeas p t).1 38 j).toInt ∧ ((rMeas p t).1 38 j).toInt ≤ 99 := by
  intro j hj
  rw [F_at h hj]
  by_cases c : nI j < u.1 45 1
  · rw [if_pos c]
    rw [nIlt (by omega)] at c
    have hm := mM_nI (u := u) c
    have := mFar_b (R_mI h) (Ok_mV h.2.1) hm ht
    rw [far_m h.1 h.2.1 hm ht]
    omega
  · rw [if_neg c, i32_0]; omega
theorem Std_D (hk : Ok (vwM u)) {x to : Int32} (hx : Std (vwM u) x) (h : x.toInt ≤ to.toInt) : okD (u.1 45 4) (u.1 45 5) to x := ⟨hx.1, h, hx.2.2⟩
theorem tab_m (h : R p u) {t to : Int32} (ht : mThing u t = true) (hto : Std (vwM u) to) (hle : (u.1 50 t.toNatClampNeg).toInt ≤ to.toInt) {S P : Nat} (hS : subN S (2 ^ mN u - 1) = true) (hP : subN P S = true) {E0 : Nat → Int32} : fiE (p.1 2 4) (p.1 2 5) ((rMeas p t).1 38) to (vStep p 2 t) S E0 P = (mRF u t to).1 69 P := by
  have l3 := h.2.1.1.2.2.2.1.2
  have q1 := hto.2.1
  rw [VR_s h.1 (k := 4) (by omega) (by omega), VR_s h.1 (k := 5) (by omega) (by omega), step_m h.1 ht, mRF_69]
  exact tab_g (mN_8 h).1 h.2.1.1.2.2.2.2.1.1 (by omega) hto.2.2 (F_b h ht) (F_m h ht) (Std_D h.2.1 (Ok_T h.2.1 ht).2.2.2.1 hle) hS hP
theorem sh_n : ∀ k : Nat, k < 9 → (1 : Int32) <<< (nI k &&& 31) = nI (2 ^ k) := by decide
theorem set_m (h : R p u) {s : Int32} : vIsSet p 2 s = mSet u s := by
  obtain ⟨a1, a2⟩ := vAll_n h.1.1
  rw [vN_m h] at a1 a2
  have n8 := mN_8 h
  have e : u.1 45 1 = nI (mN u) := (nIof (by omega)).symm
  have p0 := Nat.pos_of_neZero (2 ^ mN u)
  have p1 : 2 ^ mN u ≤ 2 ^ 8 := Nat.pow_le_pow_right (by decide) a2
  unfold vIsSet mSet
  rw [a1, e, sh_n _ (by omega)]
  congr 1
  rw [← decide_not, decide_eq_decide, i32_lt, i32_lt, nI_toInt (by omega), nI_toInt (by omega)]
  omega
theorem set_nn (h : R p u) {s : Int32} (hs : mSet u s = true) : subN s.toNatClampNeg (2 ^ mN u - 1) = true ∧ s.toNatClampNeg < 256 ∧ s = nI s.toNatClampNeg := by
  obtain ⟨S, e, h1, h2⟩ := mSet_n (R_mI h) hs
  have ec : s.toNatClampNeg = S := by rw [e]; exact nI_cl (by omega)
  rw [ec]
  exact ⟨sub_pw h1, h2, e⟩
theorem step_le (h : R p u) {t : Int32} (ht : mThing u t = true) : (u.1 50 t.toNatClampNeg).toInt ≤ (u.1 45 3).toInt := (Ok_T h.2.1 ht).2.2.2.1.2.1
theorem len_Std (h : R p u) : Std (vwM u) (u.1 45 3) := by
  have o3 := h.2.1.1.2.2.2.1
  have o4 := h.2.1.1.2.2.2.2.1
  have e3 : vwM u 0 3 = u.1 45 3 := rfl
  rw [e3] at o3 o4
  exact ⟨by omega, by rw [e3]; omega, Or.inr o4.2.2⟩
theorem sim_end (h : R p u) {t s : Int32} : Sim p u (xEnd p t s) (mEnd u t s) := by
  unfold xEnd mEnd xNo
  rw [hasT h.1, set_m h]
  by_cases ht : mThing u t = true
  · rw [if_pos ht, if_pos ht]
    by_cases hs : mSet u s = true
    · rw [if_pos hs, if_pos hs]
      have e : eoV p t (p.1 2 3) s.toNatClampNeg = (mRF u t (u.1 45 3)).1 69 s.toNatClampNeg := by
        unfold eoV
        rw [VR_s h.1 (k := 3) (by omega) (by omega)]
        exact tab_m h ht (len_Std h) (step_le h ht) (set_nn h hs).1 subN_rf
      rw [e]
      exact Sim_scr h xS_eo mS_RF
    · rw [if_neg hs, if_neg hs]; exact Sim_no h k1
  · rw [if_neg ht, if_neg ht]; exact Sim_no h k1
theorem eo_m (h : R p u) {t s to : Int32} (ht : mThing u t = true) (hs : mSet u s = true) (ho : mOn u t to = true) : eoV p t to s.toNatClampNeg = (mRF u t to).1 69 s.toNatClampNeg := by
  obtain ⟨d1, d2, d3⟩ := mOn_D (R_mI h) (Ok_mV h.2.1) ht ho
  unfold eoV
  exact tab_m h ht d1 (by omega) (set_nn h hs).1 subN_rf
theorem sim_does (h : R p u) {t s to : Int32} : Sim p u (xDoes p t s to) (mDoes u t s to) := by
  unfold xDoes mDoes xNo
  rw [hasT h.1, set_m h]
  by_cases ht : mThing u t = true
  · rw [if_pos ht, if_pos ht]
    by_cases hs : mSet u s = true
    · rw [if_pos hs, if_pos hs, show vOn p 2 t to = mOn u t to from on_m h.1 ht]
      by_cases ho : mOn u t to = true
      · rw [if_pos ho, if_pos ho, eo_m h ht hs ho]
        have e : bI (decide ((mRF u t to).1 69 s.toNatClampNeg = to)) = (if (mRF u t to).1 69 s.toNatClampNeg = to then 1 else 0) := by
          by_cases c : (mRF u t to).1 69 s.toNatClampNeg = to
          · rw [if_pos c, decide_eq_true c]; rfl
          · rw [if_neg c, decide_eq_false c]; rfl
        rw [e]
        exact Sim_scr h xS_eo mS_RF
      · rw [if_neg ho, if_neg ho]; exact Sim_no h k6
    · rw [if_neg hs, if_neg hs]; exact Sim_no h k1
  · rw [if_neg ht, if_neg ht]; exact Sim_no h k1
/-! the fewest -/
theorem few_l {E E' : Nat → Int32} {to : Int32} : ∀ (m i a : Nat), 1 ≤ i → (∀ k, i ≤ k → k < i + m → E k = E' k) → mfL E' to i m (if a = 0 then none else some a) = (if lsL E to i m a = 0 then none else some (lsL E to i m a))
  | 0, _, _, _, _ => rfl
  | m + 1, i, a, hi, he => by
    have hl : lsL E to i (m + 1) a = lsL E to (i + 1) m (if (a = 0 ∨ cnt8 i < cnt8 a) ∧ E i = to then i else a) := by
      rw [lsL]
      split <;> rfl
    have hm : ∀ b, mfL E' to i (m + 1) b = mfL E' to (i + 1) m (if E' i = to then (match b with
      | none => some i
      | some B => if cnt8 i < cnt8 B then some i else some B) else b) := fun b => rfl
    rw [hl, ← few_l (E' := E') m (i + 1) _ (by omega) (fun k h1 h2 => he k (by omega) (by omega)), hm, he i (by omega) (by omega)]
    congr 1
    by_cases c : E' i = to
    · rw [if_pos c]
      by_cases c0 : a = 0
      · rw [if_pos c0, if_pos (show (a = 0 ∨ cnt8 i < cnt8 a) ∧ E' i = to from ⟨Or.inl c0, c⟩), if_neg (by omega)]
      · rw [if_neg c0]
        show (if cnt8 i < cnt8 a then some i else some a) = _
        by_cases c1 : cnt8 i < cnt8 a
        · rw [if_pos c1, if_pos (show (a = 0 ∨ cnt8 i < cnt8 a) ∧ E' i = to from ⟨Or.inr c1, c⟩), if_neg (by omega)]
        · have nc : ¬ ((a = 0 ∨ cnt8 i < cnt8 a) ∧ E' i = to) := by omega
          rw [if_neg c1, if_neg nc, if_neg c0]
    · rw [if_neg c, if_neg (show ¬ ((a = 0 ∨ cnt8 i < cnt8 a) ∧ E' i = to) from fun e => c e.2)]
theorem lsL_lt {E : Nat → Int32} {to : Int32} {n : Nat} : ∀ (m i a : Nat), a < n → i + m ≤ n → lsL E to i m a < n
  | 0, _, _, h, _ => h
  | m + 1, i, a, h, hi => by
    unfold lsL
    split
    · exact lsL_lt m (i + 1) i (by omega) (by omega)
    · exact lsL_lt m (i + 1) a h (by omega)
theorem sim_fewest (h : R p u) {t to : Int32} : Sim p u (xFewest p t to) (mFewest u t to) := by
  unfold xFewest mFewest xNo
  rw [hasT h.1]
  by_cases ht : mThing u t = true
  · rw [if_pos ht, if_pos ht, show vOn p 2 t to = mOn u t to from on_m h.1 ht]
    by_cases ho : mOn u t to = true
    · rw [if_pos ho, if_pos ho]
      obtain ⟨d1, d2, d3⟩ := mOn_D (R_mI h) (Ok_mV h.2.1) ht ho
      have n8 := mN_8 h
      have p0 := Nat.pos_of_neZero (2 ^ mN u)
      have p1 : 2 ^ mN u ≤ 2 ^ 8 := Nat.pow_le_pow_right (by decide) n8.1
      have el : lsV p t to = lsL (fiE (p.1 2 4) (p.1 2 5) ((rMeas p t).1 38) to (vStep p 2 t) (2 ^ mN u - 1) (p.1 39)) to 1 (2 ^ mN u - 1) 0 := by
        unfold lsV
        rw [vN_m h]
      have em : mfL ((mRF u t to).1 69) to 0 (2 ^ mN u) none = (if lsV p t to = 0 then none else some (lsV p t to)) := by
        rw [el]
        have e0 : (mRF u t to).1 69 0 ≠ to := by
          have a := tab_m h ht d1 (S := 0) (P := 0) (by omega) (sub_pw p0) rfl (E0 := p.1 39)
          have g0 : fiE (p.1 2 4) (p.1 2 5) ((rMeas p t).1 38) to (vStep p 2 t) 0 (p.1 39) 0 = vStep p 2 t := by
            unfold fiE fiL
            exact upd_s
          rw [← a, g0, step_m h.1 ht, Ne, i32_eq]
          omega
        obtain ⟨k, hk⟩ : ∃ k, 2 ^ mN u = k + 1 := ⟨2 ^ mN u - 1, by omega⟩
        rw [hk]
        unfold mfL
        rw [if_neg e0]
        have f := few_l (E := fiE (p.1 2 4) (p.1 2 5) ((rMeas p t).1 38) to (vStep p 2 t) (2 ^ mN u - 1) (p.1 39)) (E' := (mRF u t to).1 69) (to := to) k 1 0 (by omega) (fun j h1 h2 => tab_m h ht d1 (by omega) subN_rf (sub_pw (by omega)))
        rw [hk] at f
        exact f
      rw [em, vN_m h]
      have lt : lsV p t to < 256 := by
        rw [el]
        exact lsL_lt _ _ _ (by omega) (by omega)
      by_cases c0 : lsV p t to = 0
      · rw [if_pos c0, c0, if_pos (by decide)]
        exact Sim_tr (Sim_scr h (r := 0) xS_eo mS_RF) (Sim_no (Sim_scr h (r := 0) xS_eo mS_RF).2.1 k5)
      · rw [if_neg c0, if_neg (by rw [nI_z lt]; exact c0)]
        exact Sim_scr h xS_eo mS_RF
    · rw [if_neg ho, if_neg ho]; exact Sim_no h k6
  · rw [if_neg ht, if_neg ht]; exact Sim_no h k1
/-! who is missed most -/
theorem weak_l {E E' : Nat → Int32} {S n : Nat} (hn8 : n ≤ 8) (hS : ∀ i, S.testBit i = true → i < n) : ∀ (r i : Nat) (x y z : Int32), i + r = n → (∀ k, S.testBit k = true → E (clr S k) = E' (clr S k) ∧ 0 ≤ (E (clr S k)).toInt) → ((x = -1 ∧ y = -1) ∨ (x ≠ -1 ∧ y = z)) → ∀ k, lmL E S i (r + k) x y = wkL E' S i r x z
  | 0, i, x, y, z, hi, he, hx, k => by
    have nb : ∀ (k i : Nat) (x y : Int32), n ≤ i → lmL E S i k x y = x := by
      intro k
      induction k with
      | zero => intro i x y _; rfl
      | succ k ih =>
        intro i x y hi
        unfold lmL
        have : ¬ S.testBit i = true := fun e => by have := hS i e; omega
        rw [if_neg this]
        exact ih (i + 1) x y (by omega)
    rw [Nat.zero_add, nb k i x y (by omega)]
    rfl
  | r + 1, i, x, y, z, hi, he, hx, k => by
    have e1 : r + 1 + k = (r + k) + 1 := by omega
    rw [e1]
    unfold lmL wkL
    by_cases c : S.testBit i = true
    · rw [if_pos c, if_pos c]
      obtain ⟨f1, f2⟩ := he i c
      have ni : nI i ≠ -1 ∨ True := Or.inr trivial
      rw [← f1]
      by_cases hi31 : i < 2 ^ 31
      · have nn : nI i ≠ -1 := by rw [Ne, i32_eq, nI_toInt hi31, i32_m1]; omega
        rcases hx with ⟨h1, h2⟩ | ⟨h1, h2⟩
        · rw [if_pos h1, if_pos (by rw [h2, i32_lt, i32_m1]; omega)]
          exact weak_l hn8 hS r (i + 1) _ _ _ (by omega) he (Or.inr ⟨nn, rfl⟩) k
        · rw [if_neg h1, h2]
          by_cases c2 : z < E (clr S i)
          · rw [if_pos c2, if_pos c2]
            exact weak_l hn8 hS r (i + 1) _ _ _ (by omega) he (Or.inr ⟨nn, rfl⟩) k
          · rw [if_neg c2, if_neg c2]
            exact weak_l hn8 hS r (i + 1) _ _ _ (by omega) he (Or.inr ⟨h1, rfl⟩) k
      · omega
    · rw [if_neg c, if_neg c]
      exact weak_l hn8 hS r (i + 1) _ _ _ (by omega) he hx k
theorem sim_weakest (h : R p u) {t s : Int32} : Sim p u (xWeakest p t s) (mWeak u t s) := by
  unfold xWeakest mWeak xNo
  rw [hasT h.1, set_m h]
  by_cases ht : mThing u t = true
  · rw [if_pos ht, if_pos ht]
    by_cases hs : mSet u s = true
    · rw [if_pos hs, if_pos hs]
      by_cases c0 : s = 0
      · rw [if_pos c0, if_pos c0]; exact Sim_no h k5
      · rw [if_neg c0, if_neg c0]
        obtain ⟨s1, s2, s3⟩ := set_nn h hs
        have n8 := mN_8 h
        have hbit : ∀ i, s.toNatClampNeg.testBit i = true → i < mN u := fun i hi => sub_bit s1 hi
        have hE : ∀ k, s.toNatClampNeg.testBit k = true → fiE (p.1 2 4) (p.1 2 5) ((rMeas p t).1 38) (p.1 2 3) (vStep p 2 t) s.toNatClampNeg (p.1 39) (clr s.toNatClampNeg k) = (mRF u t (u.1 45 3)).1 69 (clr s.toNatClampNeg k) ∧ 0 ≤ (fiE (p.1 2 4) (p.1 2 5) ((rMeas p t).1 38) (p.1 2 3) (vStep p 2 t) s.toNatClampNeg (p.1 39) (clr s.toNatClampNeg k)).toInt := by
          intro k hk
          have hk8 : k < 8 := by have := hbit k hk; omega
          have hsub := clr_sub s2 hk8
          rw [VR_s h.1 (k := 3) (by omega) (by omega)]
          have e := tab_m h ht (len_Std h) (step_le h ht) s1 hsub (E0 := p.1 39)
          have e' : fiE (p.1 2 4) (p.1 2 5) ((rMeas p t).1 38) (vwM u 0 3) (vStep p 2 t) s.toNatClampNeg (p.1 39) (clr s.toNatClampNeg k) = (mRF u t (u.1 45 3)).1 69 (clr s.toNatClampNeg k) := e
          rw [e']
          refine ⟨rfl, ?_⟩
          have l3 := h.2.1.1.2.2.2.1.2
          have l3' : (u.1 45 3).toInt ≤ 99 := l3
          have hp := Std_D h.2.1 (Ok_T h.2.1 ht).2.2.2.1 (step_le h ht)
          have hG := goe_G (n := mN u) (fr := u.1 45 4) (tt := u.1 45 5) (to := u.1 45 3) (F := mMeasF u t (u.1 70)) h.2.1.1.2.2.2.2.1.1 l3' (len_Std h).2.2 (fun i hi => by rw [← F_m h ht i hi]; exact F_b h ht i (by omega))
          have hD := isE_D (n := mN u) (pw_lt n8.1) (by have := Nat.pos_of_neZero (2 ^ mN u); omega) hG hp (grE_isE (E0 := u.1 69) n8.1 hG hp) _ _ (Nat.le_refl _) (subN_tr hsub s1)
          rw [mRF_69]
          exact hD.1
        have e8 : (8 : Nat) = mN u + (8 - mN u) := by omega
        have el : lmL (fiE (p.1 2 4) (p.1 2 5) ((rMeas p t).1 38) (p.1 2 3) (vStep p 2 t) s.toNatClampNeg (p.1 39)) s.toNatClampNeg 0 8 (-1) (-1) = wkL ((mRF u t (u.1 45 3)).1 69) s.toNatClampNeg 0 (mN u) (-1) 0 := by
          have := weak_l (E := fiE (p.1 2 4) (p.1 2 5) ((rMeas p t).1 38) (p.1 2 3) (vStep p 2 t) s.toNatClampNeg (p.1 39)) (E' := (mRF u t (u.1 45 3)).1 69) (S := s.toNatClampNeg) (n := mN u) n8.1 hbit (mN u) 0 (-1) (-1) 0 (by omega) hE (Or.inl ⟨rfl, rfl⟩) (8 - mN u)
          rw [← e8] at this
          exact this
        rw [el]
        exact Sim_scr h xS_eo mS_RF
    · rw [if_neg hs, if_neg hs]; exact Sim_no h k1
  · rw [if_neg ht, if_neg ht]; exact Sim_no h k1
end

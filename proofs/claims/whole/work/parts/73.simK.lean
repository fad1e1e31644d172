/-! THE TWO SIDES ALIKE: helps -/
section
variable {p u p' u' : hW} {b : Nat} {V : Nat → Nat → Int32}
theorem goe_z {fr tt to x f : Int32} (hx : 0 ≤ x.toInt ∧ x.toInt ≤ 99) (hf : 0 ≤ f.toInt ∧ f.toInt ≤ 99) : (goe fr tt x f to).toInt = (if fr.toInt < min (x.toInt + f.toInt) to.toInt ∧ min (x.toInt + f.toInt) to.toInt < tt.toInt then fr.toInt else min (x.toInt + f.toInt) to.toInt) := by
  have ha := i32_add (a := x) (b := f) (by omega) (by omega)
  have hlow : (iLow (x + f) to).toInt = min (x.toInt + f.toInt) to.toInt := by rw [iLow_z, ha]
  unfold goe
  simp only [i32_lt, hlow]
  split
  · rfl
  · exact hlow
theorem goe_le {fr tt to x y f f' : Int32} (hto : to.toInt ≤ 99) (hx : okD fr tt to x) (hy : okD fr tt to y) (hf : 0 ≤ f.toInt ∧ f.toInt ≤ 99) (hf' : 0 ≤ f'.toInt ∧ f'.toInt ≤ 99) (h : x.toInt ≤ y.toInt) (h' : f.toInt ≤ f'.toInt) : (goe fr tt x f to).toInt ≤ (goe fr tt y f' to).toInt := by
  have x1 := hx.1
  have x2 := hx.2.1
  have y1 := hy.1
  have y2 := hy.2.1
  rw [goe_z ⟨x1, by omega⟩ hf, goe_z ⟨y1, by omega⟩ hf']
  split <;> split <;> omega
theorem isE_le {n : Nat} {D : Int32 → Prop} {g g' : Nat → Int32 → Int32} {st : Int32} {T : Nat} {E E' : Nat → Int32} (hT : T < 256) (hTn : T < 2 ^ n) (hg : isG n D g) (hg' : isG n D g') (hle : ∀ i, i < n → ∀ x y, D x → D y → x.toInt ≤ y.toInt → (g i x).toInt ≤ (g' i y).toInt) (hp : D st) (h : isE g st T E) (h' : isE g' st T E') : ∀ (m S : Nat), S ≤ m → subN S T = true → (E S).toInt ≤ (E' S).toInt
  | 0, S, hm, hS => by
    have : S = 0 := by omega
    rw [this, h.1, h'.1]
    exact Int.le_refl _
  | m + 1, S, hm, hS => by
    by_cases h0 : S = 0
    · rw [h0, h.1, h'.1]; exact Int.le_refl _
    · obtain ⟨-, i, hi, e⟩ := h.2 S h0 hS
      obtain ⟨a1, -⟩ := h'.2 S h0 hS
      have S256 : S < 256 := Nat.lt_of_le_of_lt (sub_lt hS) hT
      have i8 := bit_8 S256 hi
      have ilt : i < n := bit_lt (Nat.lt_of_le_of_lt (sub_lt hS) hTn) hi
      have hsub := subN_tr (clr_sub S256 i8) hS
      have ih := isE_le hT hTn hg hg' hle hp h h' m (clr S i) (by have := clr_ltS S S256 i i8 hi; omega) hsub
      have d1 := isE_D hT hTn hg hp h _ _ (Nat.le_refl _) hsub
      have d2 := isE_D hT hTn hg' hp h' _ _ (Nat.le_refl _) hsub
      rw [e]
      exact Int.le_trans (hle i ilt _ _ d1 d2 ih) (a1 i hi)
theorem grE_cg {fr tt to st : Int32} {F F' E E' : Nat → Int32} {n S : Nat} (h8 : n ≤ 8) (hfr : 0 ≤ fr.toInt) (hto : to.toInt ≤ 99) (hw : to.toInt ≤ fr.toInt ∨ tt.toInt ≤ to.toInt) (hF : ∀ i, i < n → 0 ≤ (F i).toInt ∧ (F i).toInt ≤ 99) (hFF : ∀ i, i < n → F i = F' i) (hp : okD fr tt to st) (hS : subN S (2 ^ n - 1) = true) : grE fr tt F to st n E S = grE fr tt F' to st n E' S := by
  have a := grE_isE (E0 := E) h8 (goe_G (n := n) (F := F) hfr hto hw hF) hp
  have c := grE_isE (E0 := E') h8 (goe_G (n := n) (F := F') hfr hto hw (fun i hi => by rw [← hFF i hi]; exact hF i hi)) hp
  have a2 := isE_cg (g' := fun i x => goe fr tt x (F' i) to) a (n := n) subN_rf (fun i hi x => by rw [hFF i hi])
  exact isE_u (pw_lt h8) a2 c S S (Nat.le_refl _) hS hS
/-- the reaches when M has k more -/
def gFar (u : hW) (t : Int32) (M k : Nat) : Nat → Int32 := fun j => if j = M then mFarBy u (u.1 53 M + nI k - u.1 54 M) t else mFar u (nI j) t
def dK (u : hW) (t to : Int32) (S M k : Nat) : Prop := grE (u.1 45 4) (u.1 45 5) (gFar u t M k) to (u.1 50 t.toNatClampNeg) (mN u) (fun _ => 0) S = to
theorem own_z (h : R p u) {M k : Nat} (hM : M < mN u) (hk : k ≤ 99) : (u.1 53 M + nI k - u.1 54 M).toInt = (u.1 53 M).toInt + k - (u.1 54 M).toInt ∧ (u.1 53 M + nI k - u.1 54 M).toInt ≤ 300 := by
  have n8 := mN_8 h
  have hm := mM_nI (u := u) (t := M) (by omega)
  have o := Ok_M h.2.1 hm
  rw [nI_cl (by omega)] at o
  have nk := nI_toInt (show k < 2 ^ 31 by omega)
  have a := i32_add (a := u.1 53 M) (b := nI k) (by omega) (by omega)
  have c := i32_sub (a := u.1 53 M + nI k) (b := u.1 54 M) (by omega) (by omega)
  rw [c, a, nk]
  omega
theorem gFar_b (h : R p u) {t : Int32} (ht : mThing u t = true) {M k : Nat} (hM : M < mN u) (hk : k ≤ 99) : ∀ i, i < mN u → 0 ≤ (gFar u t M k i).toInt ∧ (gFar u t M k i).toInt ≤ 99 := by
  intro i hi
  have n8 := mN_8 h
  unfold gFar
  split
  · have := (mV_far (R_mI h) (Ok_mV h.2.1) ht (own_z h hM hk).2).2
    omega
  · have := mFar_b (R_mI h) (Ok_mV h.2.1) (mM_nI (u := u) (t := i) (by omega)) ht
    omega
theorem dK_mono (h : R p u) {t to : Int32} (ht : mThing u t = true) (ho : mOn u t to = true) {S M : Nat} (hS : subN S (2 ^ mN u - 1) = true) (hM : M < mN u) {k k' : Nat} (hkk : k ≤ k') (hk : k' ≤ 99) (hd : dK u t to S M k) : dK u t to S M k' := by
  obtain ⟨d1, d2, d3⟩ := mOn_D (R_mI h) (Ok_mV h.2.1) ht ho
  have n8 := mN_8 h
  have l3 := h.2.1.1.2.2.2.1.2
  have q1 := d1.2.1
  have l3' : (u.1 45 3).toInt ≤ 99 := l3
  have hfr := h.2.1.1.2.2.2.2.1.1
  have b1 := gFar_b h ht hM (k := k) (by omega)
  have b2 := gFar_b h ht hM hk
  have G1 := goe_G (n := mN u) (fr := u.1 45 4) (tt := u.1 45 5) (to := to) hfr (by omega) d1.2.2 b1
  have G2 := goe_G (n := mN u) (fr := u.1 45 4) (tt := u.1 45 5) (to := to) hfr (by omega) d1.2.2 b2
  have E1 := grE_isE (E0 := fun _ => 0) n8.1 G1 d2
  have E2 := grE_isE (E0 := fun _ => 0) n8.1 G2 d2
  have p0 := Nat.pos_of_neZero (2 ^ mN u)
  have le := isE_le (pw_lt n8.1) (by omega) G1 G2 (fun i hi x y hx hy hxy => by
    refine goe_le (by omega) hx hy (b1 i hi) (b2 i hi) hxy ?_
    unfold gFar
    by_cases e : i = M
    · rw [if_pos e, if_pos e]
      obtain ⟨z1, z2⟩ := own_z h hM (k := k) (by omega)
      obtain ⟨z3, z4⟩ := own_z h hM hk
      have f1 := (mV_far (R_mI h) (Ok_mV h.2.1) ht z2).1
      have f2 := (mV_far (R_mI h) (Ok_mV h.2.1) ht z4).1
      have hT := Ok_T h.2.1 ht
      rw [f1, f2]
      exact fbz_mono (by rw [z1, z3]; omega) hT.2.1.1 hT.2.2.1.1
    · rw [if_neg e, if_neg e]
      exact Int.le_refl _) d2 E1 E2 S S (Nat.le_refl _) hS
  have D2 := isE_D (pw_lt n8.1) (by omega) G2 d2 E2 S S (Nat.le_refl _) hS
  have D21 := D2.2.1
  unfold dK at hd ⊢
  rw [hd] at le
  rw [i32_eq]
  omega
theorem dK_x (h : R p u) {t to : Int32} (ht : mThing u t = true) (ho : mOn u t to = true) {S M k : Nat} (hS : subN S (2 ^ mN u - 1) = true) (hM : M < mN u) (hk : k ≤ 99) {F E : Nat → Int32} (hF : ∀ i, i < 8 → 0 ≤ (F i).toInt ∧ (F i).toInt ≤ 99) (hFF : ∀ i, i < mN u → i ≠ M → F i = mFar u (nI i) t) : fiE (u.1 45 4) (u.1 45 5) (upd F M (mFarBy u (u.1 53 M + nI k - u.1 54 M) t)) to (u.1 50 t.toNatClampNeg) S E S = to ↔ dK u t to S M k := by
  obtain ⟨d1, d2, d3⟩ := mOn_D (R_mI h) (Ok_mV h.2.1) ht ho
  have n8 := mN_8 h
  have l3 := h.2.1.1.2.2.2.1.2
  have q1 := d1.2.1
  have l3' : (u.1 45 3).toInt ≤ 99 := l3
  have gM := gFar_b h ht hM hk M hM
  have eM : gFar u t M k M = mFarBy u (u.1 53 M + nI k - u.1 54 M) t := by unfold gFar; rw [if_pos rfl]
  rw [eM] at gM
  have e := tab_g (E0 := E) (E1 := fun _ => 0) (F' := gFar u t M k) n8.1 h.2.1.1.2.2.2.2.1.1 (by omega) d1.2.2 (F := upd F M (mFarBy u (u.1 53 M + nI k - u.1 54 M) t)) (fun i hi => by
    by_cases ei : i = M
    · rw [ei, upd_s]; exact gM
    · rw [upd_o ei]; exact hF i hi) (fun i hi => by
    by_cases ei : i = M
    · rw [ei, upd_s, eM]
    · rw [upd_o ei, hFF i hi ei]; unfold gFar; rw [if_neg ei]) d2 hS subN_rf
  have e' : fiE (u.1 45 4) (u.1 45 5) (upd F M (mFarBy u (u.1 53 M + nI k - u.1 54 M) t)) to (u.1 50 t.toNatClampNeg) S E S = grE (u.1 45 4) (u.1 45 5) (gFar u t M k) to (u.1 50 t.toNatClampNeg) (mN u) (fun _ => 0) S := e
  rw [e']
  exact Iff.rfl
theorem sn_l (h : R p u) {t to : Int32} (ht : mThing u t = true) (ho : mOn u t to = true) {S M : Nat} (hS : subN S (2 ^ mN u - 1) = true) (hM : M < mN u) {g : Nat → Int32} (hg : ∀ k, k ≤ 99 → g k = mFarBy u (u.1 53 M + nI k - u.1 54 M) t) : ∀ (m lo hi : Nat) (F E : Nat → Int32), ¬ dK u t to S M lo → dK u t to S M hi → lo < hi → hi ≤ 99 → hi ≤ lo + m + 1 → (∀ i, i < 8 → 0 ≤ (F i).toInt ∧ (F i).toInt ≤ 99) → (∀ i, i < mN u → i ≠ M → F i = mFar u (nI i) t) → (dK u t to S M (snL (u.1 45 4) (u.1 45 5) g (u.1 50 t.toNatClampNeg) to S M m lo hi F E).1 ∧ 1 ≤ (snL (u.1 45 4) (u.1 45 5) g (u.1 50 t.toNatClampNeg) to S M m lo hi F E).1 ∧ (snL (u.1 45 4) (u.1 45 5) g (u.1 50 t.toNatClampNeg) to S M m lo hi F E).1 ≤ 99 ∧ ¬ dK u t to S M ((snL (u.1 45 4) (u.1 45 5) g (u.1 50 t.toNatClampNeg) to S M m lo hi F E).1 - 1))
  | 0, lo, hi, F, E, h1, h2, h3, h4, h5, _, _ => by
    unfold snL
    have e : hi - 1 = lo := by omega
    exact ⟨h2, by omega, h4, by show ¬ dK u t to S M (hi - 1); rw [e]; exact h1⟩
  | m + 1, lo, hi, F, E, h1, h2, h3, h4, h5, hF, hFF => by
    unfold snL
    by_cases c : lo + 1 < hi
    · rw [if_pos c]
      have hmid : (lo + hi) / 2 ≤ 99 := by omega
      have e := dK_x h ht ho hS hM hmid (E := E) hF hFF
      rw [← hg _ hmid] at e
      have gM := gFar_b h ht hM hmid M hM
      have eM : gFar u t M ((lo + hi) / 2) M = g ((lo + hi) / 2) := by unfold gFar; rw [if_pos rfl, hg _ hmid]
      rw [eM] at gM
      have hF' : ∀ i, i < 8 → 0 ≤ (upd F M (g ((lo + hi) / 2)) i).toInt ∧ (upd F M (g ((lo + hi) / 2)) i).toInt ≤ 99 := fun i hi => by
        by_cases ei : i = M
        · rw [ei, upd_s]; exact gM
        · rw [upd_o ei]; exact hF i hi
      have hFF' : ∀ i, i < mN u → i ≠ M → upd F M (g ((lo + hi) / 2)) i = mFar u (nI i) t := fun i hi ei => by rw [upd_o ei]; exact hFF i hi ei
      by_cases c2 : fiE (u.1 45 4) (u.1 45 5) (upd F M (g ((lo + hi) / 2))) to (u.1 50 t.toNatClampNeg) S E S = to
      · rw [if_pos c2]
        exact sn_l h ht ho hS hM hg m lo ((lo + hi) / 2) _ _ h1 (e.mp c2) (by omega) (by omega) (by omega) hF' hFF'
      · rw [if_neg c2]
        exact sn_l h ht ho hS hM hg m ((lo + hi) / 2) hi _ _ (fun d => c2 (e.mpr d)) h2 (by omega) h4 (by omega) hF' hFF'
    · rw [if_neg c]
      have e : hi - 1 = lo := by omega
      exact ⟨h2, by omega, h4, by show ¬ dK u t to S M (hi - 1); rw [e]; exact h1⟩
/-- the model's worlds while it tries -/
def heS (u w : hW) (M : Nat) : Prop := (∀ q, q ≠ 53 → q ≠ 69 → q ≠ 70 → w.1 q = u.1 q) ∧ (∀ j, j ≠ M → w.1 53 j = u.1 53 j) ∧ w.2 = u.2
theorem heS_W {w : hW} {M more : Nat} {t to own : Int32} (h : heS u w M) : heS u (heW w t to M own more) M := by
  obtain ⟨h1, h2, h3⟩ := h
  unfold heW
  refine ⟨fun q a a' a'' => ?_, fun j hj => ?_, ?_⟩
  · rw [mRF_o a' a'', wI_q a]; exact h1 q a a' a''
  · rw [mRF_o (by omega) (by omega), wI_o (by omega)]; exact h2 j hj
  · rw [← h3]; rfl
theorem dK_m (h : R p u) {t to : Int32} (ht : mThing u t = true) (ho : mOn u t to = true) {S M k : Nat} (hS : subN S (2 ^ mN u - 1) = true) (hM : M < mN u) (hk : k ≤ 99) {w : hW} (hw : heS u w M) : (heW w t to M (u.1 53 M) k).1 69 S = to ↔ dK u t to S M k := by
  obtain ⟨d1, d2, d3⟩ := mOn_D (R_mI h) (Ok_mV h.2.1) ht ho
  have n8 := mN_8 h
  have l3 := h.2.1.1.2.2.2.1.2
  have q1 := d1.2.1
  have l3' : (u.1 45 3).toInt ≤ 99 := l3
  obtain ⟨h1, h2, h3⟩ := hw
  have o : ∀ q, q ≠ 53 → q ≠ 69 → q ≠ 70 → (wI w 53 M (u.1 53 M + nI k)).1 q = u.1 q := fun q a a' a'' => by rw [wI_q a]; exact h1 q a a' a''
  unfold heW
  rw [mRF_69]
  have en : mN (wI w 53 M (u.1 53 M + nI k)) = mN u := by unfold mN; rw [o 45 (by omega) (by omega) (by omega)]
  rw [en, o 45 (by omega) (by omega) (by omega), o 50 (by omega) (by omega) (by omega)]
  have e : grE (u.1 45 4) (u.1 45 5) (gFar u t M k) to (u.1 50 t.toNatClampNeg) (mN u) (fun _ => 0) S = grE (u.1 45 4) (u.1 45 5) (mMeasF (wI w 53 M (u.1 53 M + nI k)) t ((wI w 53 M (u.1 53 M + nI k)).1 70)) to (u.1 50 t.toNatClampNeg) (mN u) ((wI w 53 M (u.1 53 M + nI k)).1 69) S := by
    refine grE_cg n8.1 h.2.1.1.2.2.2.2.1.1 (by omega) d1.2.2 (gFar_b h ht hM hk) (fun i hi => ?_) d2 hS
    unfold mMeasF gFar
    rw [en, if_pos hi]
    unfold mFar mFarBy
    rw [o 45 (by omega) (by omega) (by omega), o 47 (by omega) (by omega) (by omega), o 48 (by omega) (by omega) (by omega), o 49 (by omega) (by omega) (by omega), o 54 (by omega) (by omega) (by omega), nI_cl (by omega)]
    by_cases ei : i = M
    · rw [if_pos ei, ei, wI_s]
    · rw [if_neg ei, wI_o (by omega), h2 i ei]
  rw [← e]
  exact Iff.rfl
theorem he_no (h : R p u) {t to : Int32} (ht : mThing u t = true) (ho : mOn u t to = true) {S M : Nat} (hS : subN S (2 ^ mN u - 1) = true) (hM : M < mN u) : ∀ (r more : Nat) (w : hW), more + r = 100 → heS u w M → heS u (heL t to S M (u.1 53 M) r more w).2 M ∧ ((∀ k, more ≤ k → k ≤ 99 → ¬ dK u t to S M k) → (heL t to S M (u.1 53 M) r more w).1 = -1) ∧ (∀ k, more ≤ k → k ≤ 99 → dK u t to S M k → (∀ j, more ≤ j → j < k → ¬ dK u t to S M j) → (heL t to S M (u.1 53 M) r more w).1 = nI k)
  | 0, more, w, hm, hw => ⟨hw, fun _ => rfl, fun k h1 h2 => by omega⟩
  | r + 1, more, w, hm, hw => by
    have e := dK_m h ht ho hS hM (k := more) (by omega) hw
    obtain ⟨a1, a2, a3⟩ := he_no h ht ho hS hM r (more + 1) (heW w t to M (u.1 53 M) more) (by omega) (heS_W hw)
    unfold heL
    by_cases c : (heW w t to M (u.1 53 M) more).1 69 S = to
    · rw [if_pos c]
      refine ⟨heS_W hw, fun hn => absurd (e.mp c) (hn more (by omega) (by omega)), fun k h1 h2 h3 h4 => ?_⟩
      have : k = more := by
        rcases Nat.lt_or_ge more k with hlt | hge
        · exact absurd (e.mp c) (h4 more (by omega) hlt)
        · omega
      rw [this]
    · rw [if_neg c]
      refine ⟨a1, fun hn => a2 (fun k h1 h2 => hn k (by omega) h2), fun k h1 h2 h3 h4 => ?_⟩
      have hne : k ≠ more := fun ek => c (e.mpr (by rw [← ek]; exact h3))
      exact a3 k (by omega) h2 h3 (fun j h5 h6 => h4 j (by omega) h6)
theorem sim_helps (h : R p u) {t s to m : Int32} : Sim p u (xHelps p t s to m) (mHelps u t s to m) := by
  unfold xHelps mHelps xNoT
  rw [hasT h.1, set_m h, show tHas p 5 m = mMan u m from hasM h.1]
  by_cases ht : mThing u t = true
  · rw [if_pos ht, if_pos ht]
    by_cases hs : mSet u s = true
    · rw [if_pos hs, if_pos hs]
      by_cases hm : mMan u m = true
      · rw [if_pos hm, if_pos hm]
        by_cases hb : (s >>> (m &&& 31)) &&& 1 = 0
        · rw [if_pos hb, if_pos hb]; exact Sim_no h k1
        · rw [if_neg hb, if_neg hb, show vOn p 2 t to = mOn u t to from on_m h.1 ht]
          by_cases ho : mOn u t to = true
          · rw [if_pos ho, if_pos ho, eo_m h ht hs ho]
            by_cases hd : (mRF u t to).1 69 s.toNatClampNeg = to
            · rw [if_pos hd, if_pos hd]; exact Sim_sn h xS_eo mS_RF k6
            · rw [if_neg hd, if_neg hd]
              obtain ⟨s1, s2, s3⟩ := set_nn h hs
              obtain ⟨d1, d2, d3⟩ := mOn_D (R_mI h) (Ok_mV h.2.1) ht ho
              have n8 := mN_8 h
              have rm := mM_rng (R_mI h) hm
              have l3 := h.2.1.1.2.2.2.1.2
              have q1 := d1.2.1
              have l3' : (u.1 45 3).toInt ≤ 99 := l3
              have hM : m.toNatClampNeg < mN u := by rw [i32_clamp]; omega
              have eM : nI m.toNatClampNeg = m := by rw [i32_clamp]; exact nIof rm.1
              have hx := xS_28 (xS_eo (p := p) (t := t) (to := to) (S := s.toNatClampNeg))
              have xe := xS_eo (p := p) (t := t) (to := to) (S := s.toNatClampNeg)
              generalize eoW p t to s.toNatClampNeg = w at hx xe ⊢
              generalize s.toNatClampNeg = S at s1 s2 hd ⊢
              have e4 : w.1 2 4 = u.1 45 4 := by rw [hx 2 (by omega) (by omega)]; exact VR_s h.1 (by omega) (by omega)
              have e5 : w.1 2 5 = u.1 45 5 := by rw [hx 2 (by omega) (by omega)]; exact VR_s h.1 (by omega) (by omega)
              have es : vStep w 2 t = u.1 50 t.toNatClampNeg := by
                unfold vStep
                rw [tCell_o (p := p) (k := 2 + 1) (hx _ (by omega) (by omega)) (hx _ (by omega) (by omega))]
                exact step_m h.1 ht
              have hg : ∀ x : Int32, vReach w 2 (vStr w 2 (nI m.toNatClampNeg) x) t = mFarBy u (u.1 53 m.toNatClampNeg + x - u.1 54 m.toNatClampNeg) t := fun x => by
                rw [eM, vReach_o hx, vStr_o hx, str_m h.1 hm]
                exact fb_m h.1 h.2.1 ht
              have h0 : ¬ dK u t to S m.toNatClampNeg 0 := by
                have e2 : grE (u.1 45 4) (u.1 45 5) (mMeasF u t (u.1 70)) to (u.1 50 t.toNatClampNeg) (mN u) (u.1 69) S = grE (u.1 45 4) (u.1 45 5) (gFar u t m.toNatClampNeg 0) to (u.1 50 t.toNatClampNeg) (mN u) (fun _ => 0) S := by
                  refine grE_cg (fr := u.1 45 4) n8.1 h.2.1.1.2.2.2.2.1.1 (by omega) d1.2.2 (fun i hi => by rw [← F_m h ht i hi]; exact F_b h ht i (by omega)) (fun i hi => ?_) d2 s1
                  unfold mMeasF gFar
                  rw [if_pos hi]
                  by_cases ei : i = m.toNatClampNeg
                  · rw [if_pos ei, ei]
                    unfold mFar
                    rw [eM, show nI 0 = 0 from rfl, add_0]
                  · rw [if_neg ei]
                intro e
                apply hd
                rw [mRF_69, e2]
                exact e
              unfold xHelps0 heR
              rw [e4, e5, es]
              have F8 : ∀ j, j < 8 → (rMeas w t).1 38 j = (rMeas p t).1 38 j := rMeas_o hx
              have hF : ∀ i, i < 8 → 0 ≤ ((rMeas w t).1 38 i).toInt ∧ ((rMeas w t).1 38 i).toInt ≤ 99 := fun i hi => by rw [F8 i hi]; exact F_b h ht i hi
              have hFF : ∀ i, i < mN u → i ≠ m.toNatClampNeg → (rMeas w t).1 38 i = mFar u (nI i) t := fun i hi _ => by
                rw [F8 i (by omega), F_m h ht (f := fun _ => 0) i hi]
                unfold mMeasF
                rw [if_pos hi]
              have ed : dwF w t m.toNatClampNeg 99 ((rMeas w t).1 38) = upd ((rMeas w t).1 38) m.toNatClampNeg (mFarBy u (u.1 53 m.toNatClampNeg + nI 99 - u.1 54 m.toNatClampNeg) t) := by
                unfold dwF
                rw [hg]
                rfl
              have x99 := dK_x h ht ho s1 hM (k := 99) (by omega) (E := w.1 39) hF hFF
              rw [ed]
              have hw0 : heS u (mRF u t to) m.toNatClampNeg := ⟨fun q a a' a'' => mRF_o a' a'', fun j _ => by rw [mRF_o (by omega) (by omega)], rfl⟩
              obtain ⟨he1, he2, he3⟩ := he_no h ht ho s1 hM 99 1 (mRF u t to) (by omega) hw0
              have gM9 := gFar_b h ht hM (k := 99) (by omega) m.toNatClampNeg hM
              have eM9 : gFar u t m.toNatClampNeg 99 m.toNatClampNeg = mFarBy u (u.1 53 m.toNatClampNeg + nI 99 - u.1 54 m.toNatClampNeg) t := by unfold gFar; rw [if_pos rfl]
              rw [eM9] at gM9
              have hF9 : ∀ i, i < 8 → 0 ≤ (upd ((rMeas w t).1 38) m.toNatClampNeg (mFarBy u (u.1 53 m.toNatClampNeg + nI 99 - u.1 54 m.toNatClampNeg) t) i).toInt ∧ (upd ((rMeas w t).1 38) m.toNatClampNeg (mFarBy u (u.1 53 m.toNatClampNeg + nI 99 - u.1 54 m.toNatClampNeg) t) i).toInt ≤ 99 := fun i hi => by
                by_cases ei : i = m.toNatClampNeg
                · rw [ei, upd_s]; exact gM9
                · rw [upd_o ei]; exact hF i hi
              have hFF9 : ∀ i, i < mN u → i ≠ m.toNatClampNeg → upd ((rMeas w t).1 38) m.toNatClampNeg (mFarBy u (u.1 53 m.toNatClampNeg + nI 99 - u.1 54 m.toNatClampNeg) t) i = mFar u (nI i) t := fun i hi ei => by rw [upd_o ei]; exact hFF i hi ei
              generalize upd ((rMeas w t).1 38) m.toNatClampNeg (mFarBy u (u.1 53 m.toNatClampNeg + nI 99 - u.1 54 m.toNatClampNeg) t) = F9 at x99 hF9 hFF9 ⊢
              have hms : ∀ (v : hW), heS u v m.toNatClampNeg → mS u (wI v 53 m.toNatClampNeg (u.1 53 m.toNatClampNeg)) := by
                intro v hv
                refine ⟨fun q q1 q2 => ?_, fun j _ => ?_, ?_⟩
                · by_cases e : q = 53
                  · subst e
                    funext j
                    by_cases ej : j = m.toNatClampNeg
                    · rw [ej, wI_s]
                    · rw [wI_o (by omega)]; exact hv.2.1 j ej
                  · rw [wI_q e]; exact hv.1 q e (by omega) (by omega)
                · rw [wI_q (by omega), hv.1 45 (by omega) (by omega) (by omega)]
                · exact hv.2.2
              by_cases c : fiE (u.1 45 4) (u.1 45 5) F9 to (u.1 50 t.toNatClampNeg) S (w.1 39) S = to
              · rw [if_pos c]
                obtain ⟨r1, r2, r3, r4⟩ := sn_l h ht ho s1 hM (g := fun k => vReach w 2 (vStr w 2 (nI m.toNatClampNeg) (nI k)) t) (fun k _ => hg _) 99 0 99 F9 (fiE (u.1 45 4) (u.1 45 5) F9 to (u.1 50 t.toNatClampNeg) S (w.1 39)) h0 (x99.mp c) (by omega) (by omega) (by omega) hF9 hFF9
                generalize snL (u.1 45 4) (u.1 45 5) (fun k => vReach w 2 (vStr w 2 (nI m.toNatClampNeg) (nI k)) t) (u.1 50 t.toNatClampNeg) to S m.toNatClampNeg 99 0 99 F9 (fiE (u.1 45 4) (u.1 45 5) F9 to (u.1 50 t.toNatClampNeg) S (w.1 39)) = r at r1 r2 r3 r4 ⊢
                have ev := he3 r.1 r2 r3 r1 (fun j hj hj2 hdj => r4 (dK_mono h ht ho s1 hM (k := j) (k' := r.1 - 1) (by omega) (by omega) hdj))
                rw [ev]
                exact Sim_scr h (xS.tr xe (xS.tr (xS_A (by omega) (by omega)) (xS_A (by omega) (by omega)))) (hms _ he1)
              · rw [if_neg c]
                have ev := he2 (fun k hk1 hk2 hdk => c (x99.mpr (dK_mono h ht ho s1 hM hk2 (by omega) hdk)))
                rw [ev]
                exact Sim_scr h (xS.tr xe (xS.tr (xS_A (by omega) (by omega)) (xS_A (by omega) (by omega)))) (hms _ he1)
          · rw [if_neg ho, if_neg ho]; exact Sim_no h k6
      · rw [if_neg hm, if_neg hm]; exact Sim_no h k1
    · rw [if_neg hs, if_neg hs]; exact Sim_no h k1
  · rw [if_neg ht, if_neg ht]; exact Sim_no h k1
end

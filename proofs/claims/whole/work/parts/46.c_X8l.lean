/-! CONTRACTS of the model: order; what is asked of its numbers there -/
def mStd (w : hW) (p : Int32) : Prop := 0 ≤ p.toInt ∧ p.toInt ≤ (w.1 45 3).toInt ∧ (p.toInt ≤ (w.1 45 4).toInt ∨ (w.1 45 5).toInt ≤ p.toInt)
/-- what the model's valley keeps to beside mI -/
def mV (w : hW) : Prop := (1 ≤ (w.1 45 3).toInt ∧ (w.1 45 3).toInt ≤ 99) ∧ (0 ≤ (w.1 45 4).toInt ∧ (w.1 45 4).toInt ≤ (w.1 45 5).toInt ∧ (w.1 45 5).toInt ≤ (w.1 45 3).toInt) ∧ (0 ≤ (w.1 45 6).toInt ∧ (w.1 45 6).toInt ≤ 9) ∧ (∀ t : Nat, (t : Int) < (w.1 45 0).toInt → (0 ≤ (w.1 47 t).toInt ∧ (w.1 47 t).toInt ≤ 6) ∧ mStd w (w.1 50 t) ∧ (w.1 52 t = 0 ∨ w.1 52 t = 1)) ∧ (∀ m : Nat, (m : Int) < (w.1 45 1).toInt → (1 ≤ (w.1 53 m).toInt ∧ (w.1 53 m).toInt ≤ 99) ∧ (0 ≤ (w.1 54 m).toInt ∧ (w.1 54 m).toInt ≤ 99)) ∧ (∀ i : Nat, (i : Int) < (w.1 45 2).toInt → mStd w (w.1 56 i) ∧ (0 ≤ (w.1 57 i).toInt ∧ (w.1 57 i).toInt ≤ 99))
theorem mV_o {w w' : hW} (hV : mV w) (h : ∀ q, 45 ≤ q → q ≤ 61 → w'.1 q = w.1 q) : mV w' := by
  unfold mV mStd at hV ⊢
  rw [h 45 (by omega) (by omega), h 47 (by omega) (by omega), h 50 (by omega) (by omega), h 52 (by omega) (by omega), h 53 (by omega) (by omega), h 54 (by omega) (by omega), h 56 (by omega) (by omega), h 57 (by omega) (by omega)]
  exact hV
theorem iLow_z {a b : Int32} : (iLow a b).toInt = min a.toInt b.toInt := by
  unfold iLow
  split <;> rename_i h <;> rw [i32_lt] at h <;> omega
def cz (s wt : Int) : Int := if s < 0 then 0 else s * 10 / wt
def fbz (s : Int) (k : Int32) (wt ex wd : Int) : Int := if k = 1 then min (cz s wt / 2) 40 else if k = 2 then min (cz s wt) 40 + wd else if k = 3 then (min (cz s wt) 40 + wd) / 2 else if k = 4 then min (cz s wt) 5 else if k = 5 then min (cz s ((wt + ex - 1) / ex) / 2) 40 else if k = 6 then min (cz s wt / 2) 40 + ex else min (cz s wt) 40
theorem cz_nn {s wt : Int} (hw : 1 ≤ wt) : 0 ≤ cz s wt := by
  unfold cz
  split
  · omega
  · exact Int.ediv_nonneg (by omega) (by omega)
theorem cz_le {s wt : Int} (hs : s ≤ 300) (hw : 1 ≤ wt) : cz s wt ≤ 3000 := by
  unfold cz
  split
  · omega
  · exact Int.le_trans (Int.ediv_le_self _ (by omega)) (by omega)
theorem cz_mono {s s' wt : Int} (h : s ≤ s') (hw : 1 ≤ wt) : cz s wt ≤ cz s' wt := by
  by_cases h1 : s < 0
  · have e : cz s wt = 0 := by unfold cz; rw [if_pos h1]
    rw [e]
    exact cz_nn hw
  · unfold cz
    rw [if_neg h1, if_neg (by omega)]
    exact Int.ediv_le_ediv (by omega) (by omega)
theorem mCan_z {s wt : Int32} (hs : s.toInt ≤ 300) (hw : 1 ≤ wt.toInt) : (mCan s wt).toInt = cz s.toInt wt.toInt := by
  have z : (0 : Int32).toInt = 0 := rfl
  have t : (10 : Int32).toInt = 10 := rfl
  unfold mCan cz
  by_cases h1 : s < 0
  · rw [if_pos h1]
    rw [i32_lt, z] at h1
    rw [if_pos h1]
    rfl
  · rw [if_neg h1]
    rw [i32_lt, z] at h1
    have m := i32_mul (a := s) (b := 10) (by rw [t]; omega) (by rw [t]; omega)
    rw [if_neg h1, i32_div (by rw [m, t]; omega) (by omega), m, t]
theorem up_pos {wt ex : Int} (hw : 1 ≤ wt) (he : 1 ≤ ex) : 1 ≤ (wt + ex - 1) / ex := (Int.le_ediv_iff_mul_le (by omega)).mpr (by omega)
theorem mFB_z {s k wt ex wd : Int32} (hs : s.toInt ≤ 300) (hw : 1 ≤ wt.toInt ∧ wt.toInt ≤ 99) (he : 1 ≤ ex.toInt ∧ ex.toInt ≤ 9) (hd : 0 ≤ wd.toInt ∧ wd.toInt ≤ 9) : (mFB s k wt ex wd).toInt = fbz s.toInt k wt.toInt ex.toInt wd.toInt := by
  have t2 : (2 : Int32).toInt = 2 := rfl
  have t1 : (1 : Int32).toInt = 1 := rfl
  have t40 : (40 : Int32).toInt = 40 := rfl
  have t5 : (5 : Int32).toInt = 5 := rfl
  have c1 := mCan_z (s := s) (wt := wt) hs hw.1
  have c2 := cz_nn (s := s.toInt) hw.1
  have c3 := cz_le hs hw.1
  have u1 := i32_add (a := wt) (b := ex) (by omega) (by omega)
  have u2 := i32_sub (a := wt + ex) (b := 1) (by rw [u1, t1]; omega) (by rw [u1, t1]; omega)
  have u3 : ((wt + ex - 1) / ex).toInt = (wt.toInt + ex.toInt - 1) / ex.toInt := by
    rw [i32_div (by rw [u2, u1, t1]; omega) (by omega), u2, u1, t1]
  have u4 := up_pos hw.1 he.1
  have d1 := mCan_z (s := s) (wt := (wt + ex - 1) / ex) hs (by rw [u3]; exact u4)
  rw [u3] at d1
  have d2 := cz_nn (s := s.toInt) u4
  have d3 := cz_le hs u4
  have q1 : (mCan s wt / 2).toInt = cz s.toInt wt.toInt / 2 := by rw [i32_div (by omega) (by rw [t2]; omega), c1, t2]
  have q2 : (mCan s ((wt + ex - 1) / ex) / 2).toInt = cz s.toInt ((wt.toInt + ex.toInt - 1) / ex.toInt) / 2 := by rw [i32_div (by omega) (by rw [t2]; omega), d1, t2]
  have l1 : (iLow (mCan s wt) 40).toInt = min (cz s.toInt wt.toInt) 40 := by rw [iLow_z, c1, t40]
  have l2 : (iLow (mCan s wt / 2) 40).toInt = min (cz s.toInt wt.toInt / 2) 40 := by rw [iLow_z, q1, t40]
  unfold mFB fbz
  repeat' split
  · exact l2
  · rw [i32_add (by omega) (by omega), l1]
  · have a := i32_add (a := iLow (mCan s wt) 40) (b := wd) (by omega) (by omega)
    rw [i32_div (by omega) (by rw [t2]; omega), a, l1, t2]
  · rw [iLow_z, c1, t5]
  · rw [iLow_z, q2, t40]
  · rw [i32_add (by omega) (by omega), l2]
  · exact l1
theorem fbz_b {s : Int} {k : Int32} {wt ex wd : Int} (hw : 1 ≤ wt) (he : 1 ≤ ex ∧ ex ≤ 9) (hd : 0 ≤ wd ∧ wd ≤ 9) : 0 ≤ fbz s k wt ex wd ∧ fbz s k wt ex wd ≤ 49 := by
  have c2 := cz_nn (s := s) hw
  have d2 := cz_nn (s := s) (up_pos hw he.1)
  unfold fbz
  repeat' split
  all_goals omega
theorem fbz_mono {s s' : Int} {k : Int32} {wt ex wd : Int} (h : s ≤ s') (hw : 1 ≤ wt) (he : 1 ≤ ex) : fbz s k wt ex wd ≤ fbz s' k wt ex wd := by
  have c2 := cz_mono h hw
  have d2 := cz_mono h (up_pos hw he)
  unfold fbz
  repeat' split
  all_goals omega
theorem mV_far {w : hW} (hI : mI w) (hV : mV w) {t : Int32} (ht : mThing w t = true) {s : Int32} (hs : s.toInt ≤ 300) : (mFarBy w s t).toInt = fbz s.toInt (w.1 47 t.toNatClampNeg) (w.1 48 t.toNatClampNeg).toInt (w.1 49 t.toNatClampNeg).toInt (w.1 45 6).toInt ∧ 0 ≤ (mFarBy w s t).toInt ∧ (mFarBy w s t).toInt ≤ 49 := by
  obtain ⟨h1, h2, h3⟩ := mT_rng hI ht
  have hc : t.toNatClampNeg = t.toInt.toNat := rfl
  obtain ⟨a1, a2⟩ := hI.2.2.2.1 t.toNatClampNeg (by omega)
  have e := mFB_z (s := s) (k := w.1 47 t.toNatClampNeg) hs a1 a2 hV.2.2.1
  have b := fbz_b (s := s.toInt) (k := w.1 47 t.toNatClampNeg) a1.1 a2 hV.2.2.1
  unfold mFarBy
  rw [e]
  exact ⟨rfl, b.1, b.2⟩
theorem mV_str {w : hW} (hI : mI w) (hV : mV w) {m : Int32} (hm : mMan w m = true) : (w.1 53 m.toNatClampNeg - w.1 54 m.toNatClampNeg).toInt = (w.1 53 m.toNatClampNeg).toInt - (w.1 54 m.toNatClampNeg).toInt ∧ (w.1 53 m.toNatClampNeg - w.1 54 m.toNatClampNeg).toInt ≤ 99 := by
  obtain ⟨h1, h2, h3⟩ := mM_rng hI hm
  have hc : m.toNatClampNeg = m.toInt.toNat := rfl
  obtain ⟨a1, a2⟩ := hV.2.2.2.2.1 m.toNatClampNeg (by omega)
  have e := i32_sub (a := w.1 53 m.toNatClampNeg) (b := w.1 54 m.toNatClampNeg) (by omega) (by omega)
  exact ⟨e, by omega⟩
theorem mFar_b {w : hW} (hI : mI w) (hV : mV w) {m t : Int32} (hm : mMan w m = true) (ht : mThing w t = true) : 0 ≤ (mFar w m t).toInt ∧ (mFar w m t).toInt ≤ 49 := (mV_far hI hV ht (by have := (mV_str hI hV hm).2; omega)).2
theorem mV_G {w : hW} (hI : mI w) (hV : mV w) {t p : Int32} (ht : mThing w t = true) (hp : mStd w p) {f : Nat → Int32} : isG (mN w) (okD (w.1 45 4) (w.1 45 5) p) (fun i x => goe (w.1 45 4) (w.1 45 5) x (mMeasF w t f i) p) := by
  refine goe_G hV.2.1.1 (by have := hp.2.1; have := hV.1.2; omega) hp.2.2 (fun i hi => ?_)
  unfold mMeasF
  rw [if_pos hi]
  have := mFar_b hI hV (mMan_lt hI hi) ht
  omega
theorem mStd_step {w : hW} {p : Int32} (h : mStep w p = true) : mStd w p := by
  have z : (0 : Int32).toInt = 0 := rfl
  unfold mStep mWet at h
  simp only [Bool.and_eq_true, Bool.not_eq_true', decide_eq_false_iff_not, decide_eq_true_eq, i32_lt, z, Bool.and_eq_false_iff] at h
  unfold mStd
  omega
theorem mOn_D {w : hW} (hI : mI w) (hV : mV w) {t p : Int32} (ht : mThing w t = true) (h : mOn w t p = true) : mStd w p ∧ okD (w.1 45 4) (w.1 45 5) p (w.1 50 t.toNatClampNeg) ∧ (w.1 50 t.toNatClampNeg).toInt < p.toInt := by
  unfold mOn at h
  simp only [Bool.and_eq_true, decide_eq_true_eq, i32_lt] at h
  obtain ⟨h1, h2, h3⟩ := mT_rng hI ht
  have hc : t.toNatClampNeg = t.toInt.toNat := rfl
  obtain ⟨-, ⟨b1, b2, b3⟩, -⟩ := hV.2.2.2.1 t.toNatClampNeg (by omega)
  refine ⟨mStd_step h.1, ⟨b1, by omega, b3⟩, h.2⟩
/-! order -/
def orI (fr tt : Int32) (F : Nat → Int32) (p : Int32) (n : Nat) (fm : Int32) (L : Nat) : Nat → Nat → (Nat → Int32) → Nat × (Nat → Int32)
  | 0, m, E => (m, E)
  | r + 1, m, E => if L.testBit m then (if grE fr tt F p (goe fr tt fm (F m) p) n E (clr L m) = p then (m, grE fr tt F p (goe fr tt fm (F m) p) n E) else orI fr tt F p n fm L r (m + 1) (grE fr tt F p (goe fr tt fm (F m) p) n E)) else orI fr tt F p n fm L r (m + 1) E
def orO (fr tt : Int32) (F : Nat → Int32) (p : Int32) (n : Nat) : Nat → Int32 → Nat → (Nat → Int32) → Nat × (Nat → Int32)
  | 0, fm, L, E => orI fr tt F p n fm L 8 0 E
  | r + 1, fm, L, E => orO fr tt F p n r (goe fr tt fm (F (orI fr tt F p n fm L 8 0 E).1) p) (clr L (orI fr tt F p n fm L 8 0 E).1) (orI fr tt F p n fm L 8 0 E).2
def orX (fr tt : Int32) (F : Nat → Int32) (p : Int32) (n : Nat) (fm : Int32) (L j : Nat) : Prop := L.testBit j = true ∧ ∀ E, grE fr tt F p (goe fr tt fm (F j) p) n E (clr L j) = p
theorem grE_u {fr tt : Int32} {F : Nat → Int32} {to p : Int32} {n : Nat} (h8 : n ≤ 8) (hg : isG n (okD fr tt to) (fun i x => goe fr tt x (F i) to)) (hp : okD fr tt to p) {E E' : Nat → Int32} {S : Nat} (hS : subN S (2 ^ n - 1) = true) : grE fr tt F to p n E S = grE fr tt F to p n E' S := isE_u (pw_lt h8) (grE_isE h8 hg hp) (grE_isE h8 hg hp) S S (Nat.le_refl _) hS hS
theorem or_ex {fr tt : Int32} {F : Nat → Int32} {p fm : Int32} {n L : Nat} (h8 : n ≤ 8) (hg : isG n (okD fr tt p) (fun i x => goe fr tt x (F i) p)) (hp : okD fr tt p fm) (hL : subN L (2 ^ n - 1) = true) (h0 : L ≠ 0) (h : grE fr tt F p fm n (fun _ => 0) L = p) : ∃ j, 0 ≤ j ∧ j < 8 ∧ orX fr tt F p n fm L j := by
  have hT := pw_lt h8
  have hpos : 0 < 2 ^ n := Nat.two_pow_pos _
  obtain ⟨i, h1, h2⟩ := isE_first (n := n) (E := fun q => grE fr tt F p q n (fun _ => 0)) hT (by omega) hg hp (fun q hq => grE_isE h8 hg hq) L L (Nat.le_refl _) h0 hL
  have hl := sub_lt hL
  have hin := bit_lt (n := n) (by omega) h1
  have hq := hg.1 i hin fm hp
  have hs := subN_tr (clr_sub (S := L) (i := i) (by omega) (by omega)) hL
  refine ⟨i, by omega, by omega, h1, fun E => ?_⟩
  rw [grE_u h8 hg hq (E' := fun _ => 0) hs]
  have hD := isE_D (n := n) hT (by omega) hg hq (grE_isE h8 hg hq) (clr L i) (clr L i) (Nat.le_refl _) hs (E := grE fr tt F p (goe fr tt fm (F i) p) n (fun _ => 0))
  have h2 : (grE fr tt F p fm n (fun _ => 0) L).toInt ≤ (grE fr tt F p (goe fr tt fm (F i) p) n (fun _ => 0) (clr L i)).toInt := h2
  have h4 := congrArg Int32.toInt h
  have h5 : (grE fr tt F p (goe fr tt fm (F i) p) n (fun _ => 0) (clr L i)).toInt ≤ p.toInt := hD.2.1
  rw [i32_eq]
  show (grE fr tt F p (goe fr tt fm (F i) p) n (fun _ => 0) (clr L i)).toInt = p.toInt
  omega
theorem orI_s {fr tt : Int32} {F : Nat → Int32} {p fm : Int32} {n L : Nat} (h8 : n ≤ 8) (hg : isG n (okD fr tt p) (fun i x => goe fr tt x (F i) p)) (hp : okD fr tt p fm) (hL : subN L (2 ^ n - 1) = true) : ∀ (r m : Nat) (E : Nat → Int32), m + r = 8 → (∃ j, m ≤ j ∧ j < 8 ∧ orX fr tt F p n fm L j) → (orI fr tt F p n fm L r m E).1 < 8 ∧ orX fr tt F p n fm L (orI fr tt F p n fm L r m E).1
  | 0, m, E, hm, h => by
    obtain ⟨j, h1, h2, _⟩ := h
    omega
  | r + 1, m, E, hm, h => by
    obtain ⟨j, h1, h2, h3⟩ := h
    have hl := sub_lt hL
    have hpw := pw_le h8
    have hpos : 0 < 2 ^ n := Nat.two_pow_pos _
    unfold orI
    by_cases c1 : L.testBit m = true
    · rw [if_pos c1]
      have hin := bit_lt (n := n) (by omega) c1
      have hq := hg.1 m hin fm hp
      have hs := subN_tr (clr_sub (S := L) (i := m) (by omega) (by omega)) hL
      by_cases c2 : grE fr tt F p (goe fr tt fm (F m) p) n E (clr L m) = p
      · rw [if_pos c2]
        exact ⟨by omega, c1, fun E' => by rw [grE_u h8 hg hq (E' := E) hs]; exact c2⟩
      · rw [if_neg c2]
        refine orI_s h8 hg hp hL r (m + 1) _ (by omega) ⟨j, ?_, h2, h3⟩
        rcases Nat.lt_or_ge m j with e | e
        · omega
        · have : m = j := by omega
          subst this
          exact absurd (h3.2 E) c2
    · rw [if_neg c1]
      refine orI_s h8 hg hp hL r (m + 1) _ (by omega) ⟨j, ?_, h2, h3⟩
      rcases Nat.lt_or_ge m j with e | e
      · omega
      · have : m = j := by omega
        subst this
        exact absurd h3.1 c1
theorem cnt_clr : ∀ S : Nat, S < 256 → ∀ i : Nat, i < 8 → S.testBit i = true → cnt8 (clr S i) + 1 = cnt8 S := by decide +kernel
theorem sb_bit1 : ∀ S : Nat, S < 256 → ∀ i : Nat, i < 8 → ((nI S >>> (nI i &&& 31)) &&& 1 = 1 ↔ S.testBit i = true) := by decide +kernel
theorem mRows_w {w : hW} {E : Nat → Int32} {p to : Int32} : mRows (wA w 69 E) p to = wA w 69 (grE (w.1 45 4) (w.1 45 5) (w.1 70) to p (mN w) E) := by
  have e : mN (wA w 69 E) = mN w := mN_o (by rw [wA_o (by decide)])
  unfold mRows
  rw [wA_wA, wA_o (by decide), wA_o (by decide), wA_s, e]
theorem wA_45 {w : hW} {E : Nat → Int32} : (wA w 69 E).1 45 = w.1 45 := wA_o (by decide)
theorem wA_70 {w : hW} {E : Nat → Int32} : (wA w 69 E).1 70 = w.1 70 := wA_o (by decide)
section
variable {d : Nat} {w : hW} {Q : aPost}
theorem ordI (hI : mI w) {t s p i fm : Int32} {L k : Nat} (hL : L < 256) (R : Nat → (Nat → Int32) → Prop) (H : ∀ (m : Nat) (E : Nat → Int32), m < 8 → Go (d + 3) 215 166 [some (.ref 45), some (.int t), some (.int s), some (.int p), some (.int i), some (.int (goe (w.1 45 4) (w.1 45 5) fm (w.1 70 m) p)), some (.int (nI L)), some (.int (nI k)), some (.int (nI m)), some (.int (goe (w.1 45 4) (w.1 45 5) fm (w.1 70 m) p))] [] (wA w 69 E) Q = R m E) : ∀ (r m : Nat) (E : Nat → Int32) (a9 : Option Value), m + r = 8 → (∃ j, m ≤ j ∧ j < 8 ∧ orX (w.1 45 4) (w.1 45 5) (w.1 70) p (mN w) fm L j) → Tr (d + 3) 215 100 [some (.ref 45), some (.int t), some (.int s), some (.int p), some (.int i), some (.int fm), some (.int (nI L)), some (.int (nI k)), some (.int (nI m)), a9] [] (wA w 69 E) Q = R (orI (w.1 45 4) (w.1 45 5) (w.1 70) p (mN w) fm L r m E).1 (orI (w.1 45 4) (w.1 45 5) (w.1 70) p (mN w) fm L r m E).2 := by
  intro r
  induction r with
  | zero =>
    intro m E a9 hm h
    obtain ⟨j, h1, h2, _⟩ := h
    omega
  | succ r ih =>
    intro m E a9 hm h
    obtain ⟨j, h1, h2, h3⟩ := h
    have hb := sb_bit1 L hL m (by omega)
    have hc := sb_clr L hL m (by omega)
    have hcl := clr_lt L hL m (by omega)
    have hI2 : ∀ E, mI (wA w 69 E) := fun E => mI_o hI (fun q _ _ => wA_o (by omega))
    show Go (d + 3) 215 100 _ _ _ _ = _
    unfold orI
    by_cases c1 : L.testBit m = true
    · have e1 := hb.mpr c1
      rw [if_pos c1]
      by_cases c2 : grE (w.1 45 4) (w.1 45 5) (w.1 70) p (goe (w.1 45 4) (w.1 45 5) fm (w.1 70 m) p) (mN w) E (clr L m) = p
      · rw [if_pos c2, ← H m _ (by omega)]
        simp only [s215_100, s215_102, s215_104, s215_105, s215_106, s215_107, s215_108, s215_111, s215_112, s215_114, s215_115, s215_118, s215_120, s215_121, s215_122, s215_125, s215_127, s215_128, s215_129, s215_131, s215_132, s215_135, s215_136, s215_139, s215_141, s215_142, s215_144, s215_145, s215_146, s215_147, s215_148, s215_149, s215_150, s215_153, s215_155, s215_157, s215_160, s215_163, gF_i, gF_r, gP_f, gP_t, aRd_1, aRd_4, aKd_e, oo_s, z0, z1, okP_n, okP_i, okP_r, vtl, vtn, true_and, and_true, bI_ite, bI_01, F8_7, F8_13, F8_16, F8_19, F8_23, F8_26, F8_29, F8_32, F8_35, F8_38, F8_41, F8_44, F8_47, F8_50, F8_53, F8_56, F8_59, F8_62, F8_65, F8_68, F8_72, F8_75, F8_78, F8_81, F8_84, F8_87, F8_90, F8_93, F8_96, F8_99, F8_102, F8_105, F8_108, F8_111, F8_114, F8_117, F8_171, F8_123, F8_126, F8_120, F8_162, F8_190, F8_184, F8_187, F8_181, F8_223, F8_200, F8_277, F8_304, F8_319, P8_7, P8_13, P8_16, P8_117, P8_171, P8_123, P8_126, P8_120, P8_162, P8_190, P8_184, P8_187, P8_181, P8_223, P8_200, P8_277, P8_304, P8_319, A_46, A_47, A_48, A_49, A_50, A_51, A_52, A_53, A_54, A_55, A_56, A_57, A_58, A_59, A_60, A_61, A_62, A_63, A_64, A_65, A_66, A_67, A_68, A_69, A_70, A_71, A_72, A_73, A_74, A_75, A_76, A_77, cs_n, Nat.zero_le, cs_i, cs_r, cs_l, Nat.reduceAdd, Nat.reduceLeDiff, R_8, c8_goes, c8_rows (hI2 E), mRows_w, wA_45, wA_70, wA_s, if_pos e1, if_pos c2, hc, nI_cl (show clr L m < 2 ^ 31 by omega), nI_inb (show clr L m < 2 ^ 31 by omega) hcl, nI_cl (show m < 2 ^ 31 by omega), nI_inb (show m < 2 ^ 31 by omega) (show m < 8 by omega), decide_true, decide_false, not_true_eq_false, not_false_eq_true, Bool.and_true, Bool.true_and, Bool.and_false, Bool.false_and, Bool.or_true, Bool.true_or, Bool.or_false, Bool.false_or, Bool.not_true, Bool.not_false, ite_true, ite_false, if_true, if_false, Bool.false_eq_true, reduceIte, decide_not, and_true, true_and, and_false, false_and, or_true, true_or, or_false, false_or, not_false, not_true]
      · rw [if_neg c2]
        have hx : ∃ j, m + 1 ≤ j ∧ j < 8 ∧ orX (w.1 45 4) (w.1 45 5) (w.1 70) p (mN w) fm L j := by
          refine ⟨j, ?_, h2, h3⟩
          rcases Nat.lt_or_ge m j with e | e
          · omega
          · have : m = j := by omega
            subst this
            exact absurd (h3.2 E) c2
        rw [← ih (m + 1) (grE (w.1 45 4) (w.1 45 5) (w.1 70) p (goe (w.1 45 4) (w.1 45 5) fm (w.1 70 m) p) (mN w) E) (some (.int (goe (w.1 45 4) (w.1 45 5) fm (w.1 70 m) p))) (by omega) hx]
        simp only [s215_100, s215_102, s215_104, s215_105, s215_106, s215_107, s215_108, s215_111, s215_112, s215_114, s215_115, s215_118, s215_120, s215_121, s215_122, s215_125, s215_127, s215_128, s215_129, s215_131, s215_132, s215_135, s215_136, s215_139, s215_141, s215_142, s215_144, s215_145, s215_146, s215_147, s215_148, s215_149, s215_150, s215_153, s215_155, s215_157, s215_160, s215_163, gF_i, gF_r, gP_f, gP_t, aRd_1, aRd_4, aKd_e, oo_s, z0, z1, okP_n, okP_i, okP_r, vtl, vtn, true_and, and_true, bI_ite, bI_01, F8_7, F8_13, F8_16, F8_19, F8_23, F8_26, F8_29, F8_32, F8_35, F8_38, F8_41, F8_44, F8_47, F8_50, F8_53, F8_56, F8_59, F8_62, F8_65, F8_68, F8_72, F8_75, F8_78, F8_81, F8_84, F8_87, F8_90, F8_93, F8_96, F8_99, F8_102, F8_105, F8_108, F8_111, F8_114, F8_117, F8_171, F8_123, F8_126, F8_120, F8_162, F8_190, F8_184, F8_187, F8_181, F8_223, F8_200, F8_277, F8_304, F8_319, P8_7, P8_13, P8_16, P8_117, P8_171, P8_123, P8_126, P8_120, P8_162, P8_190, P8_184, P8_187, P8_181, P8_223, P8_200, P8_277, P8_304, P8_319, A_46, A_47, A_48, A_49, A_50, A_51, A_52, A_53, A_54, A_55, A_56, A_57, A_58, A_59, A_60, A_61, A_62, A_63, A_64, A_65, A_66, A_67, A_68, A_69, A_70, A_71, A_72, A_73, A_74, A_75, A_76, A_77, cs_n, Nat.zero_le, cs_i, cs_r, cs_l, Nat.reduceAdd, Nat.reduceLeDiff, R_8, c8_goes, c8_rows (hI2 E), mRows_w, wA_45, wA_70, wA_s, if_pos e1, if_neg c2, hc, nI_1, nI_cl (show clr L m < 2 ^ 31 by omega), nI_inb (show clr L m < 2 ^ 31 by omega) hcl, nI_cl (show m < 2 ^ 31 by omega), nI_inb (show m < 2 ^ 31 by omega) (show m < 8 by omega), decide_true, decide_false, not_true_eq_false, not_false_eq_true, Bool.and_true, Bool.true_and, Bool.and_false, Bool.false_and, Bool.or_true, Bool.true_or, Bool.or_false, Bool.false_or, Bool.not_true, Bool.not_false, ite_true, ite_false, if_true, if_false, Bool.false_eq_true, reduceIte, decide_not, and_true, true_and, and_false, false_and, or_true, true_or, or_false, false_or, not_false, not_true]
    · have e1 : ¬ ((nI L >>> (nI m &&& 31)) &&& 1 = 1) := fun e => c1 (hb.mp e)
      rw [if_neg c1]
      have hx : ∃ j, m + 1 ≤ j ∧ j < 8 ∧ orX (w.1 45 4) (w.1 45 5) (w.1 70) p (mN w) fm L j := by
        refine ⟨j, ?_, h2, h3⟩
        rcases Nat.lt_or_ge m j with e | e
        · omega
        · have : m = j := by omega
          subst this
          exact absurd h3.1 c1
      rw [← ih (m + 1) E a9 (by omega) hx]
      simp only [s215_100, s215_102, s215_104, s215_105, s215_106, s215_107, s215_108, s215_111, s215_112, s215_114, s215_115, s215_118, s215_120, s215_121, s215_122, s215_125, s215_127, s215_128, s215_129, s215_131, s215_132, s215_135, s215_136, s215_139, s215_141, s215_142, s215_144, s215_145, s215_146, s215_147, s215_148, s215_149, s215_150, s215_153, s215_155, s215_157, s215_160, s215_163, gF_i, gF_r, gP_f, gP_t, aRd_1, aRd_4, aKd_e, oo_s, z0, z1, okP_n, okP_i, okP_r, vtl, vtn, true_and, and_true, bI_ite, bI_01, cs_n, Nat.zero_le, cs_i, cs_r, cs_l, Nat.reduceAdd, Nat.reduceLeDiff, R_8, if_neg e1, nI_1, decide_true, decide_false, not_true_eq_false, not_false_eq_true, Bool.and_true, Bool.true_and, Bool.and_false, Bool.false_and, Bool.or_true, Bool.true_or, Bool.or_false, Bool.false_or, Bool.not_true, Bool.not_false, ite_true, ite_false, if_true, if_false, Bool.false_eq_true, reduceIte, decide_not, and_true, true_and, and_false, false_and, or_true, true_or, or_false, false_or, not_false, not_true]
theorem ordO (hI : mI w) {t s p : Int32} {I : Nat} (hI8 : I < 8) (h8 : mN w ≤ 8) (hg : isG (mN w) (okD (w.1 45 4) (w.1 45 5) p) (fun i x => goe (w.1 45 4) (w.1 45 5) x (w.1 70 i) p)) : ∀ (r k : Nat) (fm : Int32) (L : Nat) (E : Nat → Int32) (a8 a9 : Option Value), k + r = I → okD (w.1 45 4) (w.1 45 5) p fm → subN L (2 ^ mN w - 1) = true → grE (w.1 45 4) (w.1 45 5) (w.1 70) p fm (mN w) (fun _ => 0) L = p → r < cnt8 L → Tr (d + 3) 215 90 [some (.ref 45), some (.int t), some (.int s), some (.int p), some (.int (nI I)), some (.int fm), some (.int (nI L)), some (.int (nI k)), a8, a9] [] (wA w 69 E) Q = Q (some (.int (nI (orO (w.1 45 4) (w.1 45 5) (w.1 70) p (mN w) r fm L E).1))) (wA w 69 (orO (w.1 45 4) (w.1 45 5) (w.1 70) p (mN w) r fm L E).2) := by
  have hpw := pw_lt h8
  have hcnt0 : cnt8 0 = 0 := by decide +kernel
  intro r
  induction r with
  | zero =>
    intro k fm L E a8 a9 hk hp hL hE hc
    have hl := sub_lt hL
    have hk2 : k = I := by omega
    subst hk2
    have h0 : L ≠ 0 := by intro e; subst e; omega
    have h1 : ¬ nI k < nI k := by rw [i32_lt]; omega
    have hh := ordI (d := d) (Q := Q) (t := t) (s := s) (p := p) (i := nI k) (fm := fm) (k := k) hI (show L < 256 by omega) (fun m E => Q (some (.int (nI m))) (wA w 69 E)) (fun m E hm => by
      simp only [s215_166, s215_168, s215_169, s215_171, s215_172, s215_173, s215_174, s215_175, s215_177, s215_179, s215_181, s215_184, s215_186, s215_187, s215_190, s215_193, s215_194, gF_i, gF_r, gP_f, gP_t, aRd_1, aRd_4, aKd_e, oo_s, z0, z1, okP_n, okP_i, okP_r, vtl, vtn, true_and, and_true, bI_ite, bI_01, cs_n, Nat.zero_le, cs_i, cs_r, cs_l, Nat.reduceAdd, Nat.reduceLeDiff, decide_true, decide_false, not_true_eq_false, not_false_eq_true, Bool.and_true, Bool.true_and, Bool.and_false, Bool.false_and, Bool.or_true, Bool.true_or, Bool.or_false, Bool.false_or, Bool.not_true, Bool.not_false, ite_true, ite_false, if_true, if_false, Bool.false_eq_true, reduceIte, decide_not, and_true, true_and, and_false, false_and, or_true, true_or, or_false, false_or, not_false, not_true]) 8 0 E a9 (by omega) (or_ex h8 hg hp hL h0 hE)
    rw [nI_0] at hh
    show Go (d + 3) 215 90 _ _ _ _ = _
    unfold orO
    simp only [s215_90, s215_92, s215_94, s215_97, s215_98, gF_i, gF_r, gP_f, gP_t, aRd_1, aRd_4, aKd_e, oo_s, z0, z1, okP_n, okP_i, okP_r, vtl, vtn, true_and, and_true, bI_ite, bI_01, cs_n, Nat.zero_le, cs_i, cs_r, cs_l, Nat.reduceAdd, Nat.reduceLeDiff, h1, hh, decide_true, decide_false, not_true_eq_false, not_false_eq_true, Bool.and_true, Bool.true_and, Bool.and_false, Bool.false_and, Bool.or_true, Bool.true_or, Bool.or_false, Bool.false_or, Bool.not_true, Bool.not_false, ite_true, ite_false, if_true, if_false, Bool.false_eq_true, reduceIte, decide_not, and_true, true_and, and_false, false_and, or_true, true_or, or_false, false_or, not_false, not_true]
  | succ r ih =>
    intro k fm L E a8 a9 hk hp hL hE hc
    have hl := sub_lt hL
    have h0 : L ≠ 0 := by intro e; subst e; omega
    have h1 : ¬ nI I < nI k := by rw [nIlt (by omega), nI_toInt (by omega)]; omega
    have h2 : ¬ nI k = nI I := by rw [i32_eq, nI_toInt (by omega), nI_toInt (by omega)]; omega
    have hex := or_ex h8 hg hp hL h0 hE
    obtain ⟨hm8, hx1, hx2⟩ := orI_s h8 hg hp hL 8 0 E rfl hex
    have hin := bit_lt (n := mN w) (by have := Nat.two_pow_pos (mN w); omega) hx1
    have hcc := cnt_clr L (by omega) _ hm8 hx1
    have hh := ordI (d := d) (Q := Q) (t := t) (s := s) (p := p) (i := nI I) (fm := fm) (k := k) hI (show L < 256 by omega) (fun m E => Tr (d + 3) 215 90 [some (.ref 45), some (.int t), some (.int s), some (.int p), some (.int (nI I)), some (.int (goe (w.1 45 4) (w.1 45 5) fm (w.1 70 m) p)), some (.int (nI (clr L m))), some (.int (nI (k + 1))), some (.int (nI m)), some (.int (goe (w.1 45 4) (w.1 45 5) fm (w.1 70 m) p))] [] (wA w 69 E) Q) (fun m E hm => by
      have hcl := sb_clr L (by omega) m hm
      simp only [s215_166, s215_168, s215_169, s215_171, s215_172, s215_173, s215_174, s215_175, s215_177, s215_179, s215_181, s215_184, s215_186, s215_187, s215_190, s215_193, s215_194, gF_i, gF_r, gP_f, gP_t, aRd_1, aRd_4, aKd_e, oo_s, z0, z1, okP_n, okP_i, okP_r, vtl, vtn, true_and, and_true, bI_ite, bI_01, cs_n, Nat.zero_le, cs_i, cs_r, cs_l, Nat.reduceAdd, Nat.reduceLeDiff, hcl, if_neg h2, nI_1, decide_true, decide_false, not_true_eq_false, not_false_eq_true, Bool.and_true, Bool.true_and, Bool.and_false, Bool.false_and, Bool.or_true, Bool.true_or, Bool.or_false, Bool.false_or, Bool.not_true, Bool.not_false, ite_true, ite_false, if_true, if_false, Bool.false_eq_true, reduceIte, decide_not, and_true, true_and, and_false, false_and, or_true, true_or, or_false, false_or, not_false, not_true]) 8 0 E a9 (by omega) hex
    rw [nI_0, ih (k + 1) _ _ _ _ _ (by omega) (hg.1 _ hin fm hp) (subN_tr (clr_sub (by omega) hm8) hL) (hx2 _) (by omega)] at hh
    show Go (d + 3) 215 90 _ _ _ _ = _
    unfold orO
    simp only [s215_90, s215_92, s215_94, s215_97, s215_98, gF_i, gF_r, gP_f, gP_t, aRd_1, aRd_4, aKd_e, oo_s, z0, z1, okP_n, okP_i, okP_r, vtl, vtn, true_and, and_true, bI_ite, bI_01, cs_n, Nat.zero_le, cs_i, cs_r, cs_l, Nat.reduceAdd, Nat.reduceLeDiff, h1, hh, decide_true, decide_false, not_true_eq_false, not_false_eq_true, Bool.and_true, Bool.true_and, Bool.and_false, Bool.false_and, Bool.or_true, Bool.true_or, Bool.or_false, Bool.false_or, Bool.not_true, Bool.not_false, ite_true, ite_false, if_true, if_false, Bool.false_eq_true, reduceIte, decide_not, and_true, true_and, and_false, false_and, or_true, true_or, or_false, false_or, not_false, not_true]
end
def mOrder (w : hW) (t s p i : Int32) : Int32 × hW := if mThing w t then (if mSet w s then (if mOn w t p then (if (mRF w t p).1 69 s.toNatClampNeg = p then (if i < 0 then (-5, mNo (mRF w t p) (-5)) else if i < nI (cnt8 s.toNatClampNeg) then (nI (orO (w.1 45 4) (w.1 45 5) ((mRF w t p).1 70) p (mN w) i.toNatClampNeg (w.1 50 t.toNatClampNeg) s.toNatClampNeg ((mRF w t p).1 69)).1, wA (mRF w t p) 69 (orO (w.1 45 4) (w.1 45 5) ((mRF w t p).1 70) p (mN w) i.toNatClampNeg (w.1 50 t.toNatClampNeg) s.toNatClampNeg ((mRF w t p).1 69)).2) else (-5, mNo (mRF w t p) (-5))) else (-5, mNo (mRF w t p) (-5))) else (-6, mNo w (-6))) else (-1, mNo w (-1))) else (-1, mNo w (-1))
theorem mRF_70 {w : hW} {t to : Int32} : (mRF w t to).1 70 = mMeasF w t (w.1 70) := by
  unfold mRF mRows mMeas
  rw [wA_o (by decide), wA_s]
theorem mRF_69 {w : hW} {t to : Int32} : (mRF w t to).1 69 = grE (w.1 45 4) (w.1 45 5) (mMeasF w t (w.1 70)) to (w.1 50 t.toNatClampNeg) (mN w) (w.1 69) := by
  have e45 : (mMeas w t).1 45 = w.1 45 := wA_o (by decide)
  have e69 : (mMeas w t).1 69 = w.1 69 := wA_o (by decide)
  have e70 : (mMeas w t).1 70 = mMeasF w t (w.1 70) := wA_s
  have eN : mN (mMeas w t) = mN w := mN_o (by rw [e45])
  unfold mRF mRows
  rw [wA_s, e45, e69, e70, eN]
theorem sub_pw {S n : Nat} (h : S < 2 ^ n) : subN S (2 ^ n - 1) = true := by
  rw [subN_iff]
  intro j hj
  rw [Nat.testBit_two_pow_sub_one]
  exact decide_eq_true (bit_lt h hj)
theorem c8_order {d : Nat} {w : hW} {Q : aPost} (hI : mI w) (hV : mV w) {t s p i : Int32} : Cl (d + 12) 215 [.ref 45, .int t, .int s, .int p, .int i] w Q = Q (some (.int (mOrder w t s p i).1)) (mOrder w t s p i).2 := by
  rw [Cl_go (L := [some (.ref 45), some (.int t), some (.int s), some (.int p), some (.int i), none, none, none, none, none]) rfl]
  unfold mOrder
  by_cases h1 : mThing w t = true
  · by_cases h2 : mSet w s = true
    · obtain ⟨S, rfl, hS, hS2⟩ := mSet_n hI h2
      by_cases h3 : mOn w t p = true
      · have hin := nI_inb (show S < 2 ^ 31 by omega) hS2
        have hcl := nI_cl (show S < 2 ^ 31 by omega)
        have hT := (mT_rng hI h1).2.2
        rw [hcl]
        by_cases h4 : (mRF w t p).1 69 S = p
        · by_cases h5 : i < 0
          · simp only [s215_0, s215_1, s215_2, s215_5, s215_8, s215_9, s215_10, s215_13, s215_16, s215_17, s215_18, s215_21, s215_22, s215_23, s215_24, s215_25, s215_28, s215_31, s215_32, s215_34, s215_37, s215_38, s215_39, s215_40, s215_41, s215_44, s215_45, s215_48, s215_49, s215_50, s215_51, s215_54, s215_56, s215_59, s215_61, s215_62, s215_63, s215_66, s215_69, s215_70, s215_72, s215_75, s215_76, s215_77, s215_80, s215_81, s215_82, s215_84, s215_85, s215_87, s215_88, gF_i, gF_r, gP_f, gP_t, aRd_1, aRd_4, aKd_e, oo_s, z0, z1, okP_n, okP_i, okP_r, vtl, vtn, true_and, and_true, bI_ite, bI_01, F8_7, F8_13, F8_16, F8_19, F8_23, F8_26, F8_29, F8_32, F8_35, F8_38, F8_41, F8_44, F8_47, F8_50, F8_53, F8_56, F8_59, F8_62, F8_65, F8_68, F8_72, F8_75, F8_78, F8_81, F8_84, F8_87, F8_90, F8_93, F8_96, F8_99, F8_102, F8_105, F8_108, F8_111, F8_114, F8_117, F8_171, F8_123, F8_126, F8_120, F8_162, F8_190, F8_184, F8_187, F8_181, F8_223, F8_200, F8_277, F8_304, F8_319, P8_7, P8_13, P8_16, P8_117, P8_171, P8_123, P8_126, P8_120, P8_162, P8_190, P8_184, P8_187, P8_181, P8_223, P8_200, P8_277, P8_304, P8_319, A_46, A_47, A_48, A_49, A_50, A_51, A_52, A_53, A_54, A_55, A_56, A_57, A_58, A_59, A_60, A_61, A_62, A_63, A_64, A_65, A_66, A_67, A_68, A_69, A_70, A_71, A_72, A_73, A_74, A_75, A_76, A_77, cs_n, Nat.zero_le, cs_i, cs_r, cs_l, Nat.reduceAdd, Nat.reduceLeDiff, R_8, c8_isThing, c8_isSet, c8_isOnward hI h1, c8_rowsFor hI h1, c8_no ib5, hin, hcl, h1, h2, h3, if_pos h4, h5, decide_true, decide_false, not_true_eq_false, not_false_eq_true, Bool.and_true, Bool.true_and, Bool.and_false, Bool.false_and, Bool.or_true, Bool.true_or, Bool.or_false, Bool.false_or, Bool.not_true, Bool.not_false, ite_true, ite_false, if_true, if_false, Bool.false_eq_true, reduceIte, decide_not, and_true, true_and, and_false, false_and, or_true, true_or, or_false, false_or, not_false, not_true]
          · by_cases h6 : i < nI (cnt8 S)
            · obtain ⟨e, h8⟩ := mN_nI hI
              obtain ⟨g1, g2, g3⟩ := mOn_D hI hV h1 h3
              have hI2 := mI_RF (t := t) (to := p) hI
              have hg := mV_G hI hV h1 g1 (f := w.1 70)
              have k4 : (mRF w t p).1 45 = w.1 45 := mRF_o (by decide) (by decide)
              have kN : mN (mRF w t p) = mN w := mN_o (by rw [k4])
              have k5 : (mRF w t p).1 50 = w.1 50 := mRF_o (by decide) (by decide)
              have z : (0 : Int32).toInt = 0 := rfl
              have g5 := h5
              have g6 := h6
              rw [i32_lt, z] at g5
              have hcle := cnt_le S hS2
              rw [i32_lt, nI_toInt (by omega)] at g6
              have hi : i = nI i.toNatClampNeg := (nIof (by omega)).symm
              have hic : i.toNatClampNeg = i.toInt.toNat := rfl
              have hE : grE (w.1 45 4) (w.1 45 5) (mMeasF w t (w.1 70)) p (w.1 50 t.toNatClampNeg) (mN w) (fun _ => 0) S = p := by
                rw [grE_u h8 hg g2 (E' := w.1 69) (sub_pw hS), ← mRF_69]
                exact h4
              have hh := ordO (d := d + 9) (w := mRF w t p) (Q := Q) (t := t) (s := nI S) (p := p) (I := i.toNatClampNeg) hI2 (by omega) (by rw [kN]; exact h8) (by rw [k4, kN, mRF_70]; exact hg) i.toNatClampNeg 0 (w.1 50 t.toNatClampNeg) S ((mRF w t p).1 69) none none (by omega) (by rw [k4]; exact g2) (by rw [kN]; exact sub_pw hS) (by rw [k4, kN, mRF_70]; exact hE) (by omega)
              rw [wA_id, nI_0, ← hi, k4, kN] at hh
              simp only [s215_0, s215_1, s215_2, s215_5, s215_8, s215_9, s215_10, s215_13, s215_16, s215_17, s215_18, s215_21, s215_22, s215_23, s215_24, s215_25, s215_28, s215_31, s215_32, s215_34, s215_37, s215_38, s215_39, s215_40, s215_41, s215_44, s215_45, s215_48, s215_49, s215_50, s215_51, s215_54, s215_56, s215_59, s215_61, s215_62, s215_63, s215_66, s215_69, s215_70, s215_72, s215_75, s215_76, s215_77, s215_80, s215_81, s215_82, s215_84, s215_85, s215_87, s215_88, gF_i, gF_r, gP_f, gP_t, aRd_1, aRd_4, aKd_e, oo_s, z0, z1, okP_n, okP_i, okP_r, vtl, vtn, true_and, and_true, bI_ite, bI_01, F8_7, F8_13, F8_16, F8_19, F8_23, F8_26, F8_29, F8_32, F8_35, F8_38, F8_41, F8_44, F8_47, F8_50, F8_53, F8_56, F8_59, F8_62, F8_65, F8_68, F8_72, F8_75, F8_78, F8_81, F8_84, F8_87, F8_90, F8_93, F8_96, F8_99, F8_102, F8_105, F8_108, F8_111, F8_114, F8_117, F8_171, F8_123, F8_126, F8_120, F8_162, F8_190, F8_184, F8_187, F8_181, F8_223, F8_200, F8_277, F8_304, F8_319, P8_7, P8_13, P8_16, P8_117, P8_171, P8_123, P8_126, P8_120, P8_162, P8_190, P8_184, P8_187, P8_181, P8_223, P8_200, P8_277, P8_304, P8_319, A_46, A_47, A_48, A_49, A_50, A_51, A_52, A_53, A_54, A_55, A_56, A_57, A_58, A_59, A_60, A_61, A_62, A_63, A_64, A_65, A_66, A_67, A_68, A_69, A_70, A_71, A_72, A_73, A_74, A_75, A_76, A_77, cs_n, Nat.zero_le, cs_i, cs_r, cs_l, Nat.reduceAdd, Nat.reduceLeDiff, R_8, c8_isThing, c8_isSet, c8_isOnward hI h1, c8_rowsFor hI h1, c8_count hS2, k5, hT, hin, hcl, h1, h2, h3, if_pos h4, h5, h6, hh, decide_true, decide_false, not_true_eq_false, not_false_eq_true, Bool.and_true, Bool.true_and, Bool.and_false, Bool.false_and, Bool.or_true, Bool.true_or, Bool.or_false, Bool.false_or, Bool.not_true, Bool.not_false, ite_true, ite_false, if_true, if_false, Bool.false_eq_true, reduceIte, decide_not, and_true, true_and, and_false, false_and, or_true, true_or, or_false, false_or, not_false, not_true]
            · simp only [s215_0, s215_1, s215_2, s215_5, s215_8, s215_9, s215_10, s215_13, s215_16, s215_17, s215_18, s215_21, s215_22, s215_23, s215_24, s215_25, s215_28, s215_31, s215_32, s215_34, s215_37, s215_38, s215_39, s215_40, s215_41, s215_44, s215_45, s215_48, s215_49, s215_50, s215_51, s215_54, s215_56, s215_59, s215_61, s215_62, s215_63, s215_66, s215_69, s215_70, s215_72, s215_75, s215_76, s215_77, s215_80, s215_81, s215_82, s215_84, s215_85, s215_87, s215_88, gF_i, gF_r, gP_f, gP_t, aRd_1, aRd_4, aKd_e, oo_s, z0, z1, okP_n, okP_i, okP_r, vtl, vtn, true_and, and_true, bI_ite, bI_01, F8_7, F8_13, F8_16, F8_19, F8_23, F8_26, F8_29, F8_32, F8_35, F8_38, F8_41, F8_44, F8_47, F8_50, F8_53, F8_56, F8_59, F8_62, F8_65, F8_68, F8_72, F8_75, F8_78, F8_81, F8_84, F8_87, F8_90, F8_93, F8_96, F8_99, F8_102, F8_105, F8_108, F8_111, F8_114, F8_117, F8_171, F8_123, F8_126, F8_120, F8_162, F8_190, F8_184, F8_187, F8_181, F8_223, F8_200, F8_277, F8_304, F8_319, P8_7, P8_13, P8_16, P8_117, P8_171, P8_123, P8_126, P8_120, P8_162, P8_190, P8_184, P8_187, P8_181, P8_223, P8_200, P8_277, P8_304, P8_319, A_46, A_47, A_48, A_49, A_50, A_51, A_52, A_53, A_54, A_55, A_56, A_57, A_58, A_59, A_60, A_61, A_62, A_63, A_64, A_65, A_66, A_67, A_68, A_69, A_70, A_71, A_72, A_73, A_74, A_75, A_76, A_77, cs_n, Nat.zero_le, cs_i, cs_r, cs_l, Nat.reduceAdd, Nat.reduceLeDiff, R_8, c8_isThing, c8_isSet, c8_isOnward hI h1, c8_rowsFor hI h1, c8_count hS2, c8_no ib5, hin, hcl, h1, h2, h3, if_pos h4, h5, h6, decide_true, decide_false, not_true_eq_false, not_false_eq_true, Bool.and_true, Bool.true_and, Bool.and_false, Bool.false_and, Bool.or_true, Bool.true_or, Bool.or_false, Bool.false_or, Bool.not_true, Bool.not_false, ite_true, ite_false, if_true, if_false, Bool.false_eq_true, reduceIte, decide_not, and_true, true_and, and_false, false_and, or_true, true_or, or_false, false_or, not_false, not_true]
        · simp only [s215_0, s215_1, s215_2, s215_5, s215_8, s215_9, s215_10, s215_13, s215_16, s215_17, s215_18, s215_21, s215_22, s215_23, s215_24, s215_25, s215_28, s215_31, s215_32, s215_34, s215_37, s215_38, s215_39, s215_40, s215_41, s215_44, s215_45, s215_48, s215_49, s215_50, s215_51, s215_54, s215_56, s215_59, s215_61, s215_62, s215_63, s215_66, s215_69, s215_70, s215_72, s215_75, s215_76, s215_77, s215_80, s215_81, s215_82, s215_84, s215_85, s215_87, s215_88, gF_i, gF_r, gP_f, gP_t, aRd_1, aRd_4, aKd_e, oo_s, z0, z1, okP_n, okP_i, okP_r, vtl, vtn, true_and, and_true, bI_ite, bI_01, F8_7, F8_13, F8_16, F8_19, F8_23, F8_26, F8_29, F8_32, F8_35, F8_38, F8_41, F8_44, F8_47, F8_50, F8_53, F8_56, F8_59, F8_62, F8_65, F8_68, F8_72, F8_75, F8_78, F8_81, F8_84, F8_87, F8_90, F8_93, F8_96, F8_99, F8_102, F8_105, F8_108, F8_111, F8_114, F8_117, F8_171, F8_123, F8_126, F8_120, F8_162, F8_190, F8_184, F8_187, F8_181, F8_223, F8_200, F8_277, F8_304, F8_319, P8_7, P8_13, P8_16, P8_117, P8_171, P8_123, P8_126, P8_120, P8_162, P8_190, P8_184, P8_187, P8_181, P8_223, P8_200, P8_277, P8_304, P8_319, A_46, A_47, A_48, A_49, A_50, A_51, A_52, A_53, A_54, A_55, A_56, A_57, A_58, A_59, A_60, A_61, A_62, A_63, A_64, A_65, A_66, A_67, A_68, A_69, A_70, A_71, A_72, A_73, A_74, A_75, A_76, A_77, cs_n, Nat.zero_le, cs_i, cs_r, cs_l, Nat.reduceAdd, Nat.reduceLeDiff, R_8, c8_isThing, c8_isSet, c8_isOnward hI h1, c8_rowsFor hI h1, c8_no ib5, hin, hcl, h1, h2, h3, if_neg h4, decide_true, decide_false, not_true_eq_false, not_false_eq_true, Bool.and_true, Bool.true_and, Bool.and_false, Bool.false_and, Bool.or_true, Bool.true_or, Bool.or_false, Bool.false_or, Bool.not_true, Bool.not_false, ite_true, ite_false, if_true, if_false, Bool.false_eq_true, reduceIte, decide_not, and_true, true_and, and_false, false_and, or_true, true_or, or_false, false_or, not_false, not_true]
      · simp only [s215_0, s215_1, s215_2, s215_5, s215_8, s215_9, s215_10, s215_13, s215_16, s215_17, s215_18, s215_21, s215_22, s215_23, s215_24, s215_25, s215_28, s215_31, s215_32, s215_34, s215_37, s215_38, s215_39, s215_40, s215_41, s215_44, s215_45, s215_48, s215_49, s215_50, s215_51, s215_54, s215_56, s215_59, s215_61, s215_62, s215_63, s215_66, s215_69, s215_70, s215_72, s215_75, s215_76, s215_77, s215_80, s215_81, s215_82, s215_84, s215_85, s215_87, s215_88, gF_i, gF_r, gP_f, gP_t, aRd_1, aRd_4, aKd_e, oo_s, z0, z1, okP_n, okP_i, okP_r, vtl, vtn, true_and, and_true, bI_ite, bI_01, F8_7, F8_13, F8_16, F8_19, F8_23, F8_26, F8_29, F8_32, F8_35, F8_38, F8_41, F8_44, F8_47, F8_50, F8_53, F8_56, F8_59, F8_62, F8_65, F8_68, F8_72, F8_75, F8_78, F8_81, F8_84, F8_87, F8_90, F8_93, F8_96, F8_99, F8_102, F8_105, F8_108, F8_111, F8_114, F8_117, F8_171, F8_123, F8_126, F8_120, F8_162, F8_190, F8_184, F8_187, F8_181, F8_223, F8_200, F8_277, F8_304, F8_319, P8_7, P8_13, P8_16, P8_117, P8_171, P8_123, P8_126, P8_120, P8_162, P8_190, P8_184, P8_187, P8_181, P8_223, P8_200, P8_277, P8_304, P8_319, A_46, A_47, A_48, A_49, A_50, A_51, A_52, A_53, A_54, A_55, A_56, A_57, A_58, A_59, A_60, A_61, A_62, A_63, A_64, A_65, A_66, A_67, A_68, A_69, A_70, A_71, A_72, A_73, A_74, A_75, A_76, A_77, cs_n, Nat.zero_le, cs_i, cs_r, cs_l, Nat.reduceAdd, Nat.reduceLeDiff, R_8, c8_isThing, c8_isSet, c8_isOnward hI h1, c8_no ib6, h1, h2, h3, decide_true, decide_false, not_true_eq_false, not_false_eq_true, Bool.and_true, Bool.true_and, Bool.and_false, Bool.false_and, Bool.or_true, Bool.true_or, Bool.or_false, Bool.false_or, Bool.not_true, Bool.not_false, ite_true, ite_false, if_true, if_false, Bool.false_eq_true, reduceIte, decide_not, and_true, true_and, and_false, false_and, or_true, true_or, or_false, false_or, not_false, not_true]
    · simp only [s215_0, s215_1, s215_2, s215_5, s215_8, s215_9, s215_10, s215_13, s215_16, s215_17, s215_18, s215_21, s215_22, s215_23, s215_24, s215_25, s215_28, s215_31, s215_32, s215_34, s215_37, s215_38, s215_39, s215_40, s215_41, s215_44, s215_45, s215_48, s215_49, s215_50, s215_51, s215_54, s215_56, s215_59, s215_61, s215_62, s215_63, s215_66, s215_69, s215_70, s215_72, s215_75, s215_76, s215_77, s215_80, s215_81, s215_82, s215_84, s215_85, s215_87, s215_88, gF_i, gF_r, gP_f, gP_t, aRd_1, aRd_4, aKd_e, oo_s, z0, z1, okP_n, okP_i, okP_r, vtl, vtn, true_and, and_true, bI_ite, bI_01, F8_7, F8_13, F8_16, F8_19, F8_23, F8_26, F8_29, F8_32, F8_35, F8_38, F8_41, F8_44, F8_47, F8_50, F8_53, F8_56, F8_59, F8_62, F8_65, F8_68, F8_72, F8_75, F8_78, F8_81, F8_84, F8_87, F8_90, F8_93, F8_96, F8_99, F8_102, F8_105, F8_108, F8_111, F8_114, F8_117, F8_171, F8_123, F8_126, F8_120, F8_162, F8_190, F8_184, F8_187, F8_181, F8_223, F8_200, F8_277, F8_304, F8_319, P8_7, P8_13, P8_16, P8_117, P8_171, P8_123, P8_126, P8_120, P8_162, P8_190, P8_184, P8_187, P8_181, P8_223, P8_200, P8_277, P8_304, P8_319, A_46, A_47, A_48, A_49, A_50, A_51, A_52, A_53, A_54, A_55, A_56, A_57, A_58, A_59, A_60, A_61, A_62, A_63, A_64, A_65, A_66, A_67, A_68, A_69, A_70, A_71, A_72, A_73, A_74, A_75, A_76, A_77, cs_n, Nat.zero_le, cs_i, cs_r, cs_l, Nat.reduceAdd, Nat.reduceLeDiff, R_8, c8_isThing, c8_isSet, c8_no ib1, h1, h2, decide_true, decide_false, not_true_eq_false, not_false_eq_true, Bool.and_true, Bool.true_and, Bool.and_false, Bool.false_and, Bool.or_true, Bool.true_or, Bool.or_false, Bool.false_or, Bool.not_true, Bool.not_false, ite_true, ite_false, if_true, if_false, Bool.false_eq_true, reduceIte, decide_not, and_true, true_and, and_false, false_and, or_true, true_or, or_false, false_or, not_false, not_true]
  · simp only [s215_0, s215_1, s215_2, s215_5, s215_8, s215_9, s215_10, s215_13, s215_16, s215_17, s215_18, s215_21, s215_22, s215_23, s215_24, s215_25, s215_28, s215_31, s215_32, s215_34, s215_37, s215_38, s215_39, s215_40, s215_41, s215_44, s215_45, s215_48, s215_49, s215_50, s215_51, s215_54, s215_56, s215_59, s215_61, s215_62, s215_63, s215_66, s215_69, s215_70, s215_72, s215_75, s215_76, s215_77, s215_80, s215_81, s215_82, s215_84, s215_85, s215_87, s215_88, gF_i, gF_r, gP_f, gP_t, aRd_1, aRd_4, aKd_e, oo_s, z0, z1, okP_n, okP_i, okP_r, vtl, vtn, true_and, and_true, bI_ite, bI_01, F8_7, F8_13, F8_16, F8_19, F8_23, F8_26, F8_29, F8_32, F8_35, F8_38, F8_41, F8_44, F8_47, F8_50, F8_53, F8_56, F8_59, F8_62, F8_65, F8_68, F8_72, F8_75, F8_78, F8_81, F8_84, F8_87, F8_90, F8_93, F8_96, F8_99, F8_102, F8_105, F8_108, F8_111, F8_114, F8_117, F8_171, F8_123, F8_126, F8_120, F8_162, F8_190, F8_184, F8_187, F8_181, F8_223, F8_200, F8_277, F8_304, F8_319, P8_7, P8_13, P8_16, P8_117, P8_171, P8_123, P8_126, P8_120, P8_162, P8_190, P8_184, P8_187, P8_181, P8_223, P8_200, P8_277, P8_304, P8_319, A_46, A_47, A_48, A_49, A_50, A_51, A_52, A_53, A_54, A_55, A_56, A_57, A_58, A_59, A_60, A_61, A_62, A_63, A_64, A_65, A_66, A_67, A_68, A_69, A_70, A_71, A_72, A_73, A_74, A_75, A_76, A_77, cs_n, Nat.zero_le, cs_i, cs_r, cs_l, Nat.reduceAdd, Nat.reduceLeDiff, R_8, c8_isThing, c8_no ib1, h1, decide_true, decide_false, not_true_eq_false, not_false_eq_true, Bool.and_true, Bool.true_and, Bool.and_false, Bool.false_and, Bool.or_true, Bool.true_or, Bool.or_false, Bool.false_or, Bool.not_true, Bool.not_false, ite_true, ite_false, if_true, if_false, Bool.false_eq_true, reduceIte, decide_not, and_true, true_and, and_false, false_and, or_true, true_or, or_false, false_or, not_false, not_true]

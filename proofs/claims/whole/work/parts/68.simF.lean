/-! THE TWO SIDES ALIKE: status, trace, acts, night, parts, mill -/
section
variable {p u p' u' : hW} {b : Nat} {V : Nat → Nat → Int32}
theorem sim_status (h : R p u) {k : Int32} : xStatus p k = mStatus u k := by
  have e0 : p.1 3 3 = u.1 45 0 := h.1.2.1
  have e1 : p.1 5 3 = u.1 45 1 := h.1.2.2.1
  have e2 : p.1 7 3 = u.1 45 2 := h.1.2.2.2.1
  have es : ∀ j, 3 ≤ j → j ≤ 8 → p.1 2 j = u.1 45 j := fun j a a' => h.1.2.2.2.2.1 j a a'
  have ea : p.1 43 1 = u.1 45 48 := h.2.2.2.2.2.2.2.1.1
  have e11 : (11 : Int32).toInt = 11 := rfl
  have e17 : (17 : Int32).toInt = 17 := rfl
  unfold xStatus mStatus mStat2
  rw [e0, e1, e2, es 3 (by omega) (by omega), es 4 (by omega) (by omega), es 5 (by omega) (by omega), es 6 (by omega) (by omega), es 7 (by omega) (by omega), es 8 (by omega) (by omega), ea]
  by_cases c1 : k < 11
  · rw [if_pos c1, if_pos c1]
  · have hn : ∀ j : Int32, j < 11 → ¬ k = j := fun j hj e => c1 (by rw [e]; exact hj)
    rw [if_neg c1, if_neg (hn 0 (by decide)), if_neg (hn 1 (by decide)), if_neg (hn 2 (by decide)), if_neg (hn 3 (by decide)), if_neg (hn 4 (by decide)), if_neg (hn 5 (by decide)), if_neg (hn 6 (by decide)), if_neg (hn 7 (by decide)), if_neg (hn 8 (by decide)), if_neg (hn 9 (by decide)), if_neg c1, if_neg (hn 0 (by decide)), if_neg (hn 1 (by decide)), if_neg (hn 2 (by decide)), if_neg (hn 3 (by decide)), if_neg (hn 4 (by decide)), if_neg (hn 5 (by decide)), if_neg (hn 6 (by decide)), if_neg (hn 7 (by decide)), if_neg (hn 8 (by decide)), if_neg (hn 9 (by decide))]
    by_cases c2 : 17 < k
    · rw [if_pos c2, if_pos c2]
    · rw [if_neg c2, if_neg c2]
      rw [i32_lt, e11] at c1
      rw [i32_lt, e17] at c2
      have e10 : (10 : Int32).toInt = 10 := rfl
      have es := i32_sub (a := k) (b := 10) (by rw [e10]; omega) (by rw [e10]; omega)
      rw [e10] at es
      exact h.2.2.2.2.1 _ (by rw [i32_clamp, es]; omega) (by rw [i32_clamp, es]; omega)
theorem sim_trace (h : R p u) {i : Int32} : xTrace p i = mTrace u i := by
  have ea : p.1 43 1 = u.1 45 48 := h.2.2.2.2.2.2.2.1.1
  have e20 : (20 : Int32).toInt = 20 := rfl
  unfold xTrace mTrace
  rw [ea]
  by_cases c0 : i < 0
  · rw [if_pos c0, if_pos c0]
  · rw [if_neg c0, if_neg c0]
    by_cases c1 : i < u.1 45 48
    · by_cases c2 : i < 20
      · rw [if_pos c1, if_pos c2, if_pos c2, if_pos c1]
        rw [i32_lt, i32_0] at c0
        rw [i32_lt, e20] at c2
        exact h.2.2.2.2.2.2.2.1.2.2 _ (by rw [i32_clamp]; omega)
      · rw [if_pos c1, if_neg c2, if_neg c2]
    · by_cases c2 : i < 20
      · rw [if_neg c1, if_pos c2, if_neg c1]
      · rw [if_neg c1, if_neg c2]
theorem R_act (h : R p u) (hx : ∀ q, q ≠ 43 → q ≠ 44 → p'.1 q = p.1 q) (hx2 : p'.2 = p.2) (hm : ∀ q, q ≠ 45 → q ≠ 77 → u'.1 q = u.1 q) (hm1 : ∀ j, j ≠ 48 → u'.1 45 j = u.1 45 j) (hm2 : u'.2 = u.2) (hra : RA p' u') : R p' u' := by
  obtain ⟨r1, r2, ⟨r3, r4⟩, r5, r6, ⟨r7, r8⟩, r9, -, rd⟩ := h
  have hv : eqV (vwM u) (vwM u') := ⟨fun k hk => by unfold vwM; rw [if_pos rfl, if_pos rfl, hm1 _ (by omega)], fun c i h1 h2 _ => by unfold vwM; rw [if_neg (by omega), if_neg (by omega), hm _ (by omega) (by omega)], fun c i h1 h2 _ => by unfold vwM; rw [if_neg (by omega), if_neg (by omega), hm _ (by omega) (by omega)]⟩
  have hk : vwK u' 67 = vwK u 67 := by funext c i; unfold vwK; rw [hm _ (by omega) (by omega)]
  refine ⟨VR_ext (VR_o r1 (fun q a a' => hx q (by omega) (by omega))) hv, Ok_ext r2 hv, ⟨vI_o r3 (fun q a a' => hx q (by omega) (by omega)), vI_o r4 (fun q a a' => hx q (by omega) (by omega))⟩, fun s hs => ?_, fun k a a' => ?_, ⟨?_, fun e => ?_⟩, ?_, hra, fun i hi => ?_⟩
  · have hS := r5 s hs
    unfold RS mThing at hS ⊢
    rw [hm 58 (by omega) (by omega), hm 59 (by omega) (by omega), hm 60 (by omega) (by omega), hm 61 (by omega) (by omega), hm1 0 (by omega), hm2, hx 24 (by omega) (by omega), hx 25 (by omega) (by omega), hx2]
    exact hS
  · rw [hx 1 (by omega) (by omega), hm 46 (by omega) (by omega)]; exact r6 k a a'
  · rw [hx 0 (by omega) (by omega), hm1 49 (by omega)]; exact r7
  · rw [hm1 49 (by omega)] at e
    rw [hk]
    exact ⟨VR_o (r8 e).1 (fun q a a' => hx q (by omega) (by omega)), (r8 e).2⟩
  · rw [hx 0 (by omega) (by omega), hm1 9 (by omega)]; exact r9
  · rw [hm 64 (by omega) (by omega)]; exact rd i hi
theorem ra_1 (h : RA p u) {c : Int32} (hl : (u.1 45 48).toInt < 1000) : RA (bgW p c) (mbW u c) ∧ ((mbW u c).1 45 48).toInt = (u.1 45 48).toInt + 1 ∧ (∀ q, q ≠ 43 → q ≠ 44 → (bgW p c).1 q = p.1 q) ∧ (bgW p c).2 = p.2 ∧ (∀ q, q ≠ 45 → q ≠ 77 → (mbW u c).1 q = u.1 q) ∧ (∀ j, j ≠ 48 → (mbW u c).1 45 j = u.1 45 j) ∧ (mbW u c).2 = u.2 := by
  obtain ⟨a1, a2, a3⟩ := h
  have e1 : (1 : Int32).toInt = 1 := rfl
  have ad := i32_add (a := u.1 45 48) (b := 1) (by rw [e1]; omega) (by rw [e1]; omega)
  rw [e1] at ad
  unfold bgW mbW
  rw [a1]
  refine ⟨⟨?_, ?_, fun j hj => ?_⟩, ?_, fun q q1 q2 => ?_, ?_, fun q q1 q2 => ?_, fun j hj => ?_, ?_⟩
  · rw [wI_s, wI_s]
  · rw [wI_s, ad]; omega
  · rw [wI_q (by omega), wI_q (by omega)]
    by_cases c1 : u.1 45 48 < 20
    · rw [if_pos c1, if_pos c1]
      by_cases e : j = (u.1 45 48).toNatClampNeg
      · rw [e, wI_s, wI_s]
      · rw [wI_o (by omega), wI_o (by omega)]; exact a3 j hj
    · rw [if_neg c1, if_neg c1]; exact a3 j hj
  · rw [wI_s, ad]
  · rw [wI_q q1]
    split
    · rw [wI_q q2]
    · rfl
  · show (if u.1 45 48 < 20 then wI p 44 (u.1 45 48).toNatClampNeg c else p).2 = p.2
    split <;> rfl
  · rw [wI_q q1]
    split
    · rw [wI_q q2]
    · rfl
  · rw [wI_o (by omega)]
    split
    · rw [wI_q (by omega)]
    · rfl
  · show (if u.1 45 48 < 20 then wI u 77 (u.1 45 48).toNatClampNeg c else u).2 = u.2
    split <;> rfl
theorem ra_l : ∀ (l : List Int32) (p u : hW), RA p u → (u.1 45 48).toInt + l.length < 1000 → RA (bgs p l) (mbs u l) ∧ (∀ q, q ≠ 43 → q ≠ 44 → (bgs p l).1 q = p.1 q) ∧ (bgs p l).2 = p.2 ∧ (∀ q, q ≠ 45 → q ≠ 77 → (mbs u l).1 q = u.1 q) ∧ (∀ j, j ≠ 48 → (mbs u l).1 45 j = u.1 45 j) ∧ (mbs u l).2 = u.2
  | [], p, u, h, _ => ⟨h, fun _ _ _ => rfl, rfl, fun _ _ _ => rfl, fun _ _ => rfl, rfl⟩
  | c :: l, p, u, h, hl => by
    rw [List.length_cons] at hl
    obtain ⟨a1, a2, a3, a4, a5, a6, a7⟩ := ra_1 h (c := c) (by omega)
    obtain ⟨b1, b2, b3, b4, b5, b6⟩ := ra_l l (bgW p c) (mbW u c) a1 (by rw [a2]; omega)
    unfold bgs mbs
    exact ⟨b1, fun q q1 q2 => (b2 q q1 q2).trans (a3 q q1 q2), b3.trans a4, fun q q1 q2 => (b4 q q1 q2).trans (a5 q q1 q2), fun j hj => (b5 j hj).trans (a6 j hj), b6.trans a7⟩
theorem aBs_m {k a : Nat} : aBs k a = maB k a := rfl
theorem aV_m {k a : Nat} {n wt x : Int32} : aV k a n wt x = maV k a n wt x := rfl
theorem maB_len : ∀ k : Nat, k < 7 → ∀ a : Nat, a < 3 → (maB k a).length ≤ 20 := by decide +kernel
theorem act_base (h : R p u) : RA (wI p 43 1 0) (wI u 45 48 0) := by
  obtain ⟨a1, a2, a3⟩ := h.2.2.2.2.2.2.2.1
  refine ⟨by rw [wI_s, wI_s], by rw [wI_s, i32_0]; omega, fun j hj => ?_⟩
  rw [wI_q (by omega), wI_q (by omega)]
  exact a3 j hj
theorem act_no (h : R p u) {r : Int32} : Sim p u (r, wI p 43 1 0) (r, wI u 45 48 0) :=
  ⟨rfl, R_act h (fun q q1 q2 => wI_q q1) rfl (fun q q1 q2 => wI_q q1) (fun j hj => wI_o (by omega)) rfl (act_base h), ⟨fun q hq => wI_q (by omega), fun _ _ => rfl⟩, ⟨fun q hq => wI_q (by omega), fun _ _ => rfl⟩⟩
theorem sim_act (h : R p u) {t a x : Int32} : Sim p u (xAct p t a x) (mAct u t a x) := by
  unfold xAct mAct
  rw [hasT h.1]
  by_cases ht : mThing u t = true
  · rw [if_pos ht, if_pos ht]
    by_cases c1 : a < 0
    · rw [if_pos c1, if_pos c1]; exact act_no h
    · rw [if_neg c1, if_neg c1]
      by_cases c2 : 2 < a
      · rw [if_pos c2, if_pos c2]; exact act_no h
      · rw [if_neg c2, if_neg c2]
        have ht2 := ht
        rw [← hasT h.1] at ht2
        have k0 : tCell p 3 t 0 = u.1 47 t.toNatClampNeg := vT0 h.1 ht2
        have k1 : tCell p 3 t 1 = u.1 48 t.toNatClampNeg := vT1 h.1 ht2
        have e2 : (2 : Int32).toInt = 2 := rfl
        have hT := (Ok_T h.2.1 ht).1
        rw [i32_lt, i32_0] at c1
        rw [i32_lt, e2] at c2
        rw [k0, k1, aBs_m, aV_m]
        have hlen := maB_len (u.1 47 t.toNatClampNeg).toNatClampNeg (by rw [i32_clamp]; omega) a.toNatClampNeg (by rw [i32_clamp]; omega)
        have hb := act_base h
        have hb2 : RA (acW p t (u.1 47 t.toNatClampNeg) (u.1 48 t.toNatClampNeg)) (wI u 45 48 0) := by
          obtain ⟨a1, a2, a3⟩ := hb
          unfold acW
          refine ⟨?_, a2, fun j hj => ?_⟩
          · rw [wI_o (by omega), wI_o (by omega), wI_o (by omega)]; exact a1
          · rw [wI_q (by omega), wI_q (by omega), wI_q (by omega)]; exact a3 j hj
        obtain ⟨b1, b2, b3, b4, b5, b6⟩ := ra_l (maB (u.1 47 t.toNatClampNeg).toNatClampNeg a.toNatClampNeg) _ _ hb2 (by rw [wI_s, i32_0]; omega)
        have o1 : ∀ q, q ≠ 43 → (acW p t (u.1 47 t.toNatClampNeg) (u.1 48 t.toNatClampNeg)).1 q = p.1 q := fun q hq => by
          unfold acW
          rw [wI_q hq, wI_q hq, wI_q hq, wI_q hq]
        refine ⟨rfl, R_act h (fun q q1 q2 => (b2 q q1 q2).trans (o1 q q1)) (b3.trans rfl) (fun q q1 q2 => (b4 q q1 q2).trans (wI_q q1)) (fun j hj => (b5 j hj).trans (wI_o (by omega))) (b6.trans rfl) b1, ⟨fun q hq => (b2 q (by omega) (by omega)).trans (o1 q (by omega)), fun q _ => by rw [b3]; rfl⟩, ⟨fun q hq => (b4 q (by omega) (by omega)).trans (wI_q (by omega)), fun q _ => by rw [b6]; rfl⟩⟩
  · rw [if_neg ht, if_neg ht]; exact act_no h
/-! night -/
def halfV (V : Nat → Nat → Int32) (i m : Nat) : Nat → Nat → Int32 := fun c j => if c = 8 ∧ i ≤ j ∧ j < i + m then V 8 j / 2 else V c j
def restV (V : Nat → Nat → Int32) (i m : Nat) : Nat → Nat → Int32 := fun c j => if c = 5 ∧ i ≤ j ∧ j < i + m then -1 else V c j
theorem hasM_nI (h : VR p b V) {i : Nat} (hi : (i : Int) < (V 0 1).toInt) : tHas p (b + 3) (nI i) = true := by
  have := Int32.toInt_lt (V 0 1)
  rw [VR_has h.2.2.1]
  simp only [Bool.and_eq_true, Bool.not_eq_true', decide_eq_false_iff_not, decide_eq_true_eq, i32_lt, i32_0, nI_toInt (show i < 2 ^ 31 by omega)]
  omega
theorem hasT_nI (h : VR p b V) {i : Nat} (hi : (i : Int) < (V 0 0).toInt) : tHas p (b + 1) (nI i) = true := by
  have := Int32.toInt_lt (V 0 0)
  rw [VR_has h.2.1]
  simp only [Bool.and_eq_true, Bool.not_eq_true', decide_eq_false_iff_not, decide_eq_true_eq, i32_lt, i32_0, nI_toInt (show i < 2 ^ 31 by omega)]
  omega
theorem slM_m (b : Nat) : ∀ (m i : Nat) (p : hW) (V : Nat → Nat → Int32) (s : Int32), VR p b V → i + m = (V 0 1).toInt.toNat → VR (vSlM b i m p) b (halfV V i m) ∧ frb b p (vSlM b i m p) ∧ vSlS b i m p s = mNs (V 8) i m s
  | 0, i, p, V, s, h, _ => by
    have e : halfV V i 0 = V := by
      funext c j
      show (if c = 8 ∧ i ≤ j ∧ j < i + 0 then V 8 j / 2 else V c j) = V c j
      rw [if_neg (by omega)]
    rw [e]
    exact ⟨h, frb.rf, rfl⟩
  | m + 1, i, p, V, s, h, hi => by
    have hm := hasM_nI h (i := i) (by omega)
    have l := Int32.toInt_lt (V 0 1)
    have c8 := vM1 h hm
    rw [nI_cl (by omega)] at c8
    have q := VR_putM h hm (c := 1) (by omega) (v := V 8 i / 2)
    rw [nI_cl (by omega)] at q
    have e0 : vset V (7 + 1) i (V 8 i / 2) 0 1 = V 0 1 := vset_c (by omega)
    unfold vSlM vSlS
    rw [c8]
    obtain ⟨a1, a2, a3⟩ := slM_m b m (i + 1) _ _ (s + V 8 i / 2) q (by rw [e0]; omega)
    refine ⟨?_, frb.tr (frb_put (by omega) (by omega)) a2, ?_⟩
    · have e : halfV (vset V (7 + 1) i (V 8 i / 2)) (i + 1) m = halfV V i (m + 1) := by
        funext c j
        show (if c = 8 ∧ i + 1 ≤ j ∧ j < i + 1 + m then (if 8 = 8 ∧ j = i then V 8 i / 2 else V 8 j) / 2 else (if c = 8 ∧ j = i then V 8 i / 2 else V c j)) = (if c = 8 ∧ i ≤ j ∧ j < i + (m + 1) then V 8 j / 2 else V c j)
        by_cases c1 : c = 8 ∧ i + 1 ≤ j ∧ j < i + 1 + m
        · rw [if_pos c1, if_neg (by omega), if_pos (by omega)]
        · rw [if_neg c1]
          by_cases c2 : c = 8 ∧ j = i
          · rw [if_pos c2, if_pos (by omega), c2.2]
          · rw [if_neg c2, if_neg (by omega)]
      rw [← e]
      exact a1
    · show vSlS b (i + 1) m _ (s + V 8 i / 2) = _
      have a3' : vSlS b (i + 1) m (tPut p (b + 3) (nI i) 1 (V 8 i / 2)) (s + V 8 i / 2) = mNs (vset V (7 + 1) i (V 8 i / 2) 8) (i + 1) m (s + V 8 i / 2) := a3
      rw [a3', mNs]
      have c : ∀ (r k : Nat) (f g : Nat → Int32) (a : Int32), (∀ j, k ≤ j → f j = g j) → mNs f k r a = mNs g k r a := by
        intro r
        induction r with
        | zero => intro k f g a _; rfl
        | succ r ih =>
          intro k f g a hf
          unfold mNs
          rw [hf k (Nat.le_refl _), ih (k + 1) f g _ (fun j hj => hf j (by omega))]
      exact c m (i + 1) _ _ _ (fun j hj => vset_o (by omega))
theorem slT_m (b : Nat) : ∀ (m i : Nat) (p : hW) (V : Nat → Nat → Int32), VR p b V → i + m = (V 0 0).toInt.toNat → VR (vSlT b i m p) b (restV V i m) ∧ frb b p (vSlT b i m p)
  | 0, i, p, V, h, _ => by
    have e : restV V i 0 = V := by
      funext c j
      show (if c = 5 ∧ i ≤ j ∧ j < i + 0 then -1 else V c j) = V c j
      rw [if_neg (by omega)]
    rw [e]
    exact ⟨h, frb.rf⟩
  | m + 1, i, p, V, h, hi => by
    have hm := hasT_nI h (i := i) (by omega)
    have l := Int32.toInt_lt (V 0 0)
    have q := VR_putT h hm (c := 4) (by omega) (v := -1)
    rw [nI_cl (by omega)] at q
    have e0 : vset V (1 + 4) i (-1) 0 0 = V 0 0 := vset_c (by omega)
    unfold vSlT
    obtain ⟨a1, a2⟩ := slT_m b m (i + 1) _ _ q (by rw [e0]; omega)
    refine ⟨?_, frb.tr (frb_put (by omega) (by omega)) a2⟩
    have e : restV (vset V (1 + 4) i (-1)) (i + 1) m = restV V i (m + 1) := by
      funext c j
      show (if c = 5 ∧ i + 1 ≤ j ∧ j < i + 1 + m then -1 else (if c = 5 ∧ j = i then -1 else V c j)) = (if c = 5 ∧ i ≤ j ∧ j < i + (m + 1) then -1 else V c j)
      by_cases c1 : c = 5 ∧ i + 1 ≤ j ∧ j < i + 1 + m
      · rw [if_pos c1, if_pos (by omega)]
      · rw [if_neg c1]
        by_cases c2 : c = 5 ∧ j = i
        · rw [if_pos c2, if_pos (by omega)]
        · rw [if_neg c2, if_neg (by omega)]
    rw [← e]
    exact a1
theorem Ok_night (h : Ok V) : Ok (restV (halfV V 0 (V 0 1).toInt.toNat) 0 (V 0 0).toInt.toNat) := by
  obtain ⟨⟨o0, o1, o2, o3, o4, o5⟩, oT, oM, oW⟩ := h
  have e : ∀ c j, c ≠ 5 → c ≠ 8 → restV (halfV V 0 (V 0 1).toInt.toNat) 0 (V 0 0).toInt.toNat c j = V c j := fun c j h5 h8 => by
    show (if c = 5 ∧ _ then -1 else (if c = 8 ∧ _ then _ else V c j)) = _
    rw [if_neg (fun e => h5 e.1), if_neg (fun e => h8 e.1)]
  have e5 : ∀ j : Nat, (j : Int) < (V 0 0).toInt → restV (halfV V 0 (V 0 1).toInt.toNat) 0 (V 0 0).toInt.toNat 5 j = -1 := fun j hj => by
    show (if 5 = 5 ∧ 0 ≤ j ∧ j < 0 + (V 0 0).toInt.toNat then -1 else _) = _
    rw [if_pos (by omega)]
  have e8 : ∀ j : Nat, (j : Int) < (V 0 1).toInt → restV (halfV V 0 (V 0 1).toInt.toNat) 0 (V 0 0).toInt.toNat 8 j = V 8 j / 2 := fun j hj => by
    show (if 8 = 5 ∧ _ then -1 else (if 8 = 8 ∧ 0 ≤ j ∧ j < 0 + (V 0 1).toInt.toNat then V 8 j / 2 else V 8 j)) = _
    rw [if_neg (by omega), if_pos (by omega)]
  have S : ∀ {x}, Std V x → Std (restV (halfV V 0 (V 0 1).toInt.toNat) 0 (V 0 0).toInt.toNat) x := fun hx => Std_V (e 0 3 (by omega) (by omega)) (e 0 4 (by omega) (by omega)) (e 0 5 (by omega) (by omega)) hx
  refine ⟨⟨?_, ?_, ?_, ?_, ?_, ?_⟩, fun t' ht' => ?_, fun m' hm' => ?_, fun i hi => ?_⟩
  · rw [e 0 0 (by omega) (by omega)]; exact o0
  · rw [e 0 1 (by omega) (by omega)]; exact o1
  · rw [e 0 2 (by omega) (by omega)]; exact o2
  · rw [e 0 3 (by omega) (by omega)]; exact o3
  · rw [e 0 3 (by omega) (by omega), e 0 4 (by omega) (by omega), e 0 5 (by omega) (by omega)]; exact o4
  · rw [e 0 6 (by omega) (by omega)]; exact o5
  · rw [e 0 0 (by omega) (by omega)] at ht'
    obtain ⟨b1, b2, b3, b4, b5, b6⟩ := oT t' ht'
    rw [e 1 t' (by omega) (by omega), e 2 t' (by omega) (by omega), e 3 t' (by omega) (by omega), e 4 t' (by omega) (by omega), e 6 t' (by omega) (by omega), e5 t' ht']
    exact ⟨b1, b2, b3, S b4, Or.inl rfl, b6⟩
  · rw [e 0 1 (by omega) (by omega)] at hm'
    obtain ⟨b1, b2⟩ := oM m' hm'
    rw [e 7 m' (by omega) (by omega), e8 m' hm']
    have e2 : (2 : Int32).toInt = 2 := rfl
    have dv := i32_div (a := V 8 m') (b := 2) b2.1 (by rw [e2]; omega)
    rw [e2] at dv
    exact ⟨b1, by rw [dv]; omega⟩
  · rw [e 0 2 (by omega) (by omega)] at hi
    obtain ⟨b1, b2, b3⟩ := oW i hi
    rw [e 9 i (by omega) (by omega), e 10 i (by omega) (by omega), e 11 i (by omega) (by omega), e 0 0 (by omega) (by omega)]
    exact ⟨b1, S b2, b3⟩
theorem vwM_night : vwM (mNight u) = restV (halfV (vwM u) 0 (u.1 45 1).toInt.toNat) 0 (u.1 45 0).toInt.toNat := by
  funext c j
  show (if c = 0 then (mNight u).1 45 j else (mNight u).1 (46 + c) j) = (if c = 5 ∧ 0 ≤ j ∧ j < 0 + (u.1 45 0).toInt.toNat then -1 else (if c = 8 ∧ 0 ≤ j ∧ j < 0 + (u.1 45 1).toInt.toNat then u.1 54 j / 2 else (if c = 0 then u.1 45 j else u.1 (46 + c) j)))
  unfold mNight
  by_cases h0 : c = 0
  · subst h0
    rw [if_pos rfl, wA_o (by omega), wA_o (by omega), if_neg (by omega), if_neg (by omega), if_pos rfl]
  · rw [if_neg h0, if_neg h0]
    by_cases h5 : c = 5
    · subst h5
      rw [wA_s]
      show (if j < (u.1 45 0).toInt.toNat then -1 else u.1 51 j) = _
      by_cases c1 : j < (u.1 45 0).toInt.toNat
      · rw [if_pos c1, if_pos (by omega)]
      · rw [if_neg c1, if_neg (by omega), if_neg (by omega)]
    · rw [wA_o (by omega)]
      by_cases h8 : c = 8
      · subst h8
        rw [wA_s]
        show (if j < mN u then u.1 54 j / 2 else u.1 54 j) = _
        have em : mN u = (u.1 45 1).toInt.toNat := rfl
        rw [em]
        by_cases c1 : j < (u.1 45 1).toInt.toNat
        · rw [if_pos c1, if_neg (by omega), if_pos (by omega)]
        · rw [if_neg c1, if_neg (by omega), if_neg (by omega)]
      · rw [wA_o (by omega), if_neg (by omega), if_neg (by omega)]
theorem sim_night (h : R p u) : Sim p u (vNightS p 2, vNight p 2) (mNs (u.1 54) 0 (mN u) 0, mNight u) := by
  have e0 : p.1 (2 + 1) 3 = u.1 45 0 := h.1.2.1
  have e1 : p.1 (2 + 3) 3 = u.1 45 1 := h.1.2.2.1
  have em : mN u = (u.1 45 1).toInt.toNat := rfl
  obtain ⟨a1, a2, a3⟩ := slM_m 2 (u.1 45 1).toInt.toNat 0 p (vwM u) 0 h.1 (Nat.zero_add _)
  have f0 : halfV (vwM u) 0 (u.1 45 1).toInt.toNat 0 0 = u.1 45 0 := by
    show (if 0 = 8 ∧ _ then _ else u.1 45 0) = _
    rw [if_neg (by omega)]
  obtain ⟨b1, b2⟩ := slT_m 2 (u.1 45 0).toInt.toNat 0 _ _ a1 (by rw [f0]; omega)
  have en : vNight p 2 = vSlT 2 0 (u.1 45 0).toInt.toNat (vSlM 2 0 (u.1 45 1).toInt.toNat p) := by unfold vNight; rw [e0, e1]
  have es : vNightS p 2 = mNs (u.1 54) 0 (mN u) 0 := by
    unfold vNightS
    rw [e1, em]
    exact a3
  rw [en, es]
  refine Sim_val h (frb.tr a2 b2) ?_ ?_ ?_ ?_
  · unfold mNight
    refine ⟨fun q q1 q2 => ?_, fun j hj => ?_, rfl⟩
    · rw [wA_o (by omega), wA_o (by omega)]
    · rw [wA_o (by omega), wA_o (by omega)]
  · rw [vwM_night]; exact b1
  · rw [vwM_night]; exact Ok_night h.2.1
  · unfold mNight
    rw [wA_o (by omega), wA_o (by omega)]
    exact Int.le_refl _
/-! mill -/
theorem mill_l {fr tt far to : Int32} (hfr : 0 ≤ fr.toInt) (hto : to.toInt ≤ 99) (hw : to.toInt ≤ fr.toInt ∨ tt.toInt ≤ to.toInt) (hF : 0 ≤ far.toInt ∧ far.toInt ≤ 99) : ∀ (m c r : Nat) (x : Int32), okD fr tt to x → x.toInt < to.toInt → to.toInt - x.toInt ≤ m → m ≤ r → eqL fr tt far to (c + 1) m x = miL fr tt far to (r + 1) c x
  | 0, c, r, x, hx, h1, h2, _ => by omega
  | m + 1, c, r, x, hx, h1, h2, h3 => by
    have G := goe_G (n := 1) (F := fun _ => far) hfr hto hw (fun _ _ => hF)
    have y1 := G.1 0 (by omega) x hx
    have y2 := G.2.1 0 (by omega) x hx
    have y1' : okD fr tt to (goe fr tt x far to) := y1
    have y2' : x.toInt ≤ (goe fr tt x far to).toInt := y2
    unfold eqL miL
    rw [onw_goe hfr hto hw hF hx, if_pos (show x < to from by rw [i32_lt]; exact h1)]
    generalize goe fr tt x far to = y at y1' y2'
    obtain ⟨r, rfl⟩ : ∃ r', r = r' + 1 := ⟨r - 1, by omega⟩
    by_cases c1 : y = to
    · have n1 : ¬ y = x := fun e => by rw [← e, c1] at h1; omega
      rw [if_pos c1, if_neg n1]
      unfold miL
      rw [if_neg (by rw [c1, i32_lt]; omega)]
    · rw [if_neg c1]
      by_cases c2 : y = x
      · rw [if_pos c2, if_pos c2]
      · rw [if_neg c2, if_neg c2]
        have c1' : ¬ y.toInt = to.toInt := fun e => c1 (i32_eq.mpr e)
        have c2' : ¬ y.toInt = x.toInt := fun e => c2 (i32_eq.mpr e)
        have yl := y1'.2.1
        exact mill_l hfr hto hw hF m (c + 1) r y y1' (by omega) (by omega) (by omega)
theorem sim_mill (h : R p u) {t to s : Int32} : Sim p u (xMill p t to s) (mMill u t to s) := by
  unfold xMill mMill xNoT
  rw [hasT h.1]
  by_cases ht : mThing u t = true
  · rw [if_pos ht, if_pos ht]
    have e2 := on_m h.1 (s := to) ht
    rw [e2]
    by_cases ho : mOn u t to = true
    · rw [if_pos ho, if_pos ho]
      by_cases hs : wtOk s = true
      · have hw := wt_rng hs
        have e1 : (1 : Int32).toInt = 1 := rfl
        have e99 : (99 : Int32).toInt = 99 := rfl
        rw [if_pos hs, if_neg (by rw [i32_lt, e1]; omega), if_neg (by rw [i32_lt, e99]; omega)]
        obtain ⟨d1, d2, d3⟩ := mOn_D (R_mI h) (Ok_mV h.2.1) ht ho
        have ep : pos s = s := by unfold pos; rw [if_pos (by rw [i32_lt, i32_0]; omega)]
        have er := fb_m h.1 h.2.1 (s := s) ht
        rw [ep] at er
        have fb := (mV_far (R_mI h) (Ok_mV h.2.1) ht (s := s) (by omega)).2
        have es : vStep p 2 t = u.1 50 t.toNatClampNeg := step_m h.1 ht
        rw [er, es, VR_s h.1 (k := 4) (by omega) (by omega), VR_s h.1 (k := 5) (by omega) (by omega)]
        have l3 := h.2.1.1.2.2.2.1.2
        have l3' : (u.1 45 3).toInt ≤ 99 := l3
        have q1 := d1.2.1
        have em : eqL (vwM u 0 4) (vwM u 0 5) (mFarBy u s t) to 1 99 (u.1 50 t.toNatClampNeg) = miL (u.1 45 4) (u.1 45 5) (mFarBy u s t) to 101 0 (u.1 50 t.toNatClampNeg) := mill_l (h.2.1.1.2.2.2.2.1.1) (by omega) d1.2.2 ⟨fb.1, by omega⟩ 99 0 100 _ d2 d3 (by have := d2.1; omega) (by omega)
        rw [em]
        exact Sim_rf h
      · rw [if_neg hs]
        rw [Bool.not_eq_true, wt_ch] at hs
        by_cases c1 : s < 1
        · rw [if_pos c1]; exact Sim_no h k6
        · rw [if_neg c1, if_pos (by rcases hs with hs | hs
                                    · exact absurd hs c1
                                    · exact hs)]; exact Sim_no h k6
    · rw [if_neg ho, if_neg ho]; exact Sim_no h k6
  · rw [if_neg ht, if_neg ht]; exact Sim_no h k1
end

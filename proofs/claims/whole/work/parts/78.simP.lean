/-! THE TWO SIDES ALIKE: shared, given -/
section
variable {p u p' u' : hW} {b : Nat}
theorem saR_2 {w : hW} {i : Nat} : (saR w i).2 = w.2 := by
  unfold saR
  split <;> rfl
theorem saL_2 : ∀ (r i : Nat) (w : hW), (saL i r w).2 = w.2
  | 0, _, _ => rfl
  | r + 1, i, w => by
    rw [saL, saL_2 r]
    show (saR w i).2 = w.2
    exact saR_2
theorem sa1_73 {w : hW} {i j : Nat} : (sa1 w i).1 73 j = if 256 * i ≤ j ∧ j < 256 * i + 2 ^ mN w then saB w i ((saR w i).1 69) (j - 256 * i) else w.1 73 j := by
  unfold sa1
  rw [wI_q (by omega), wA_s]
theorem sa_lo {n : Nat} (h8 : n ≤ 8) : ∀ (r i : Nat) (w : hW) (j : Nat), mN w = n → j < 256 * i → (saL i r w).1 73 j = w.1 73 j
  | 0, _, _, _, _, _ => rfl
  | r + 1, i, w, j, hn, hj => by
    have e : mN (sa1 w i) = n := by
      unfold mN at hn ⊢
      rw [sa1_o (by omega) (by omega) (by omega) (by omega)]
      exact hn
    rw [saL, sa_lo h8 r (i + 1) _ j e (by omega), sa1_73, if_neg (by omega)]
theorem sa_v (h : R p u) : ∀ (r i : Nat) (w : hW), i + r = mNW u → (∀ q, q ≠ 69 → q ≠ 70 → q ≠ 73 → q ≠ 74 → w.1 q = u.1 q) → ∀ k S, i ≤ k → k < mNW u → S < 2 ^ mN u → (saL i r w).1 73 (256 * k + S) = if bz u k S = true then 1 else 0
  | 0, i, w, hi, _, k, S, h1, h2, _ => by omega
  | r + 1, i, w, hi, hw, k, S, h1, h2, hS => by
    have n8 := mN_8 h
    have p1 : 2 ^ mN u ≤ 2 ^ 8 := Nat.pow_le_pow_right (by decide) n8.1
    have en : mN w = mN u := by unfold mN; rw [hw 45 (by omega) (by omega) (by omega) (by omega)]
    have w1 : ∀ q, q ≠ 69 → q ≠ 70 → q ≠ 73 → q ≠ 74 → (sa1 w i).1 q = u.1 q := fun q a a' a'' a3 => (sa1_o a a' a'' a3).trans (hw q a a' a'' a3)
    rw [saL]
    by_cases e : k = i
    · subst e
      have en1 : mN (sa1 w k) = mN u := by unfold mN; rw [w1 45 (by omega) (by omega) (by omega) (by omega)]
      rw [sa_lo n8.1 r (k + 1) _ _ en1 (by omega), sa1_73, en, if_pos (by omega), show 256 * k + S - 256 * k = S by omega]
      have o2 : ((mNW u : Nat) : Int) = (u.1 45 2).toInt := by
        have o := h.2.1.1.2.2.1.1
        have o' : 0 ≤ (u.1 45 2).toInt := o
        unfold mNW
        omega
      obtain ⟨t1, t2, t3⟩ := wOk h (i := k) (by omega)
      unfold saB
      rw [hw 50 (by omega) (by omega) (by omega) (by omega), hw 55 (by omega) (by omega) (by omega) (by omega), hw 56 (by omega) (by omega) (by omega) (by omega)]
      unfold bz
      by_cases c1 : u.1 50 (u.1 55 k).toNatClampNeg = u.1 56 k
      · rw [if_pos c1, decide_eq_true c1]; rfl
      · rw [if_neg c1, decide_eq_false c1]
        by_cases c2 : u.1 50 (u.1 55 k).toNatClampNeg < u.1 56 k
        · rw [if_pos c2, decide_eq_true c2]
          have e69 : (saR w k).1 69 S = eW u k S := by
            unfold saR
            rw [hw 50 (by omega) (by omega) (by omega) (by omega), hw 55 (by omega) (by omega) (by omega) (by omega), hw 56 (by omega) (by omega) (by omega) (by omega), if_pos c2, mRF_69, en]
            rw [hw 45 (by omega) (by omega) (by omega) (by omega), hw 50 (by omega) (by omega) (by omega) (by omega)]
            unfold eW
            rw [i32_lt] at c2
            have l3 := h.2.1.1.2.2.2.1.2
            have q1 := t2.2.1
            refine (grE_cg n8.1 h.2.1.1.2.2.2.2.1.1 (by omega) t2.2.2 (fun j hj => by
              have e := F_m h t1 (f := fun _ => 0) j hj
              rw [← e]
              exact F_b h t1 j (by omega)) (fun j hj => ?_) (Std_D h.2.1 (Ok_T h.2.1 t1).2.2.2.1 (by omega)) (sub_pw hS)).symm
            unfold mMeasF
            rw [en, if_pos hj, if_pos hj]
            unfold mFar mFarBy
            rw [hw 45 (by omega) (by omega) (by omega) (by omega), hw 47 (by omega) (by omega) (by omega) (by omega), hw 48 (by omega) (by omega) (by omega) (by omega), hw 49 (by omega) (by omega) (by omega) (by omega), hw 53 (by omega) (by omega) (by omega) (by omega), hw 54 (by omega) (by omega) (by omega) (by omega)]
          rw [e69]
          by_cases c3 : eW u k S = u.1 56 k
          · rw [if_pos c3, decide_eq_true c3]; rfl
          · rw [if_neg c3, decide_eq_false c3]; rfl
        · rw [if_neg c2, decide_eq_false c2]; rfl
    · exact sa_v h r (i + 1) _ (by omega) w1 k S (by omega) h2 hS
theorem woL_z {B v : Nat → Int32} {s : Nat → Nat} (hv : ∀ i : Nat, (i : Int) < (u.1 45 2).toInt → v i = u.1 57 i ∧ 0 ≤ (u.1 57 i).toInt ∧ (u.1 57 i).toInt ≤ 99) (hB : ∀ i : Nat, (i : Int) < (u.1 45 2).toInt → B (256 * i + s i) = if bz u i (s i) = true then 1 else 0) (h4 : (u.1 45 2).toInt ≤ 4) : ∀ (r i : Nat) (a : Int32), ((i + r : Nat) : Int) = (u.1 45 2).toInt → a.toInt = qw u s i → (0 ≤ a.toInt ∧ a.toInt ≤ 99 * (i : Int)) → (woL B s v i r a).toInt = qw u s (i + r) ∧ 0 ≤ qw u s (i + r)
  | 0, i, a, hi, ha, hb => by
    show a.toInt = qw u s i ∧ 0 ≤ qw u s i
    omega
  | r + 1, i, a, hi, ha, hb => by
    obtain ⟨v1, v2, v3⟩ := hv i (by omega)
    have e : i + (r + 1) = i + 1 + r := by omega
    unfold woL
    rw [hB i (by omega), v1, e]
    by_cases c : bz u i (s i) = true
    · have ad := i32_add (a := a) (b := u.1 57 i) (by omega) (by omega)
      rw [if_pos c, if_pos rfl]
      refine woL_z hv hB h4 r (i + 1) _ (by omega) ?_ (by rw [ad]; omega)
      rw [ad, ha]
      show _ = qw u s i + (if bz u i (s i) = true then _ else 0)
      rw [if_pos c]
    · rw [if_neg c, if_neg (by decide)]
      refine woL_z hv hB h4 r (i + 1) _ (by omega) ?_ (by omega)
      rw [ha]
      show _ = qw u s i + (if bz u i (s i) = true then _ else 0)
      rw [if_neg c]
      omega
theorem sFam_of {s : Nat → Nat} : ∀ (i S : Nat), (∀ j, j < i → subN (s j) S = true) → qD s i → sFam i S s
  | 0, _, _, _ => trivial
  | i + 1, S, h, hd => by
    refine ⟨h i (by omega), sFam_of i _ (fun j hj => ?_) (fun c a a' ha ha' => hd c a a' (by omega) (by omega))⟩
    rw [subN_iff]
    intro c hc
    rw [dif_bit, (subN_iff.mp (h j (by omega))) c hc]
    cases hx : (s i).testBit c
    · rfl
    · have := hd c j i (by omega) (by omega) hc hx
      omega
theorem sFam_to {s : Nat → Nat} : ∀ (i S : Nat), sFam i S s → (∀ j, j < i → subN (s j) S = true) ∧ qD s i
  | 0, _, _ => ⟨fun j hj => by omega, fun c a a' ha => by omega⟩
  | i + 1, S, h => by
    obtain ⟨a1, a2⟩ := sFam_to i _ h.2
    have no : ∀ j c, j < i → (s j).testBit c = true → (s i).testBit c = false := fun j c hj hc => by
      have := (subN_iff.mp (a1 j hj)) c hc
      rw [dif_bit] at this
      simp at this
      exact this.2
    refine ⟨fun j hj => ?_, fun c a a' ha ha' t1 t2 => ?_⟩
    · by_cases e : j = i
      · rw [e]; exact h.1
      · exact subN_tr (a1 j (by omega)) dif_sub
    · by_cases e : a = i
      · by_cases e' : a' = i
        · omega
        · have := no a' c (by omega) t2
          rw [e, this] at t1
          cases t1
      · by_cases e' : a' = i
        · have := no a c (by omega) t1
          rw [e', this] at t2
          cases t2
        · exact a2 c a a' (by omega) (by omega) t1 t2
theorem qd_0 : ∀ i, qd (fun _ => 0) i = 0
  | 0 => rfl
  | i + 1 => by
    unfold qd
    rw [qd_0 i, dig_0]
    omega
/-- both find the same: the class's number is the model's best, less its way -/
theorem best_m (h : R p u) : xS p (shW p) ∧ mS u (mShW u) ∧ (shZ u).2.2 ≠ -1 ∧ (∀ j, j < mN u → -1 ≤ ((shZ u).2.1 j).toInt ∧ ((shZ u).2.1 j).toInt ≤ 3) ∧ (0 ≤ (shZ u).2.2.toInt ∧ (shZ u).2.2.toInt ≤ 396) ∧ ((shW p).1 40 4).toInt = (shZ u).2.2.toInt * 390625 - qp (shZ u).2.1 (mN u) ∧ 0 ≤ ((shW p).1 40 4).toInt := by
  have n8 := mN_8 h
  have o2 := h.2.1.1.2.2.1
  have o2' : 0 ≤ (u.1 45 2).toInt ∧ (u.1 45 2).toInt ≤ 4 := o2
  have eW2 : ((mNW u : Nat) : Int) = (u.1 45 2).toInt := by unfold mNW; omega
  have p0 := Nat.pos_of_neZero (2 ^ mN u)
  have p1 : 2 ^ mN u ≤ 2 ^ 8 := Nat.pow_le_pow_right (by decide) n8.1
  -- the class
  have e41 : ∀ S, S < 256 → (shW0 p).1 41 S = 0 := fun S hS => by
    unfold shW0
    rw [wA_s, if_pos hS]
  have x0 : xS p (shW0 p) := by unfold shW0; exact xS_A (by omega) (by omega)
  obtain ⟨x1, x2, x3, x4⟩ := sh_l h (mNW u) 0 (shW0 p) 0 (by omega) x0 (by rw [i32_0]; omega) (fun S hS => by rw [e41 S (by have := sub_lt hS; omega), i32_0]; omega) (fun S hS => by
    rw [e41 S (by have := sub_lt hS; omega), i32_0]
    exact ⟨fun fam _ => by unfold sv; omega, fun _ => 0, trivial, by unfold sv; omega⟩)
  have eR : shR p = shL (2 ^ mN u - 1) 0 (mNW u) (shW0 p) 0 := by
    have e7 : p.1 7 3 = u.1 45 2 := h.1.2.2.2.1
    unfold shR
    rw [vN_m h, e7]
    rfl
  rw [← eR] at x1 x2 x3 x4
  have eS : (shW p).1 40 4 = (shR p).2 * 390625 + (shR p).1.1 41 (2 ^ mN u - 1) := by
    unfold shW
    rw [wI_s, vN_m h]
  have x3A := x3 (2 ^ mN u - 1) subN_rf
  have k5 : (390625 : Int32).toInt = 390625 := rfl
  have a1 := i32_mul (a := (shR p).2) (b := 390625) (by rw [k5]; omega) (by rw [k5]; omega)
  rw [k5] at a1
  have a2 := i32_add (a := (shR p).2 * 390625) (b := (shR p).1.1 41 (2 ^ mN u - 1)) (by rw [a1]; omega) (by rw [a1]; omega)
  rw [a1] at a2
  have eSI : ((shW p).1 40 4).toInt = (shR p).2.toInt * 390625 + ((shR p).1.1 41 (2 ^ mN u - 1)).toInt := by rw [eS, a2]
  obtain ⟨x5, fam, f1, f2⟩ := x4 (2 ^ mN u - 1) subN_rf
  rw [Nat.zero_add] at x5 f1 f2
  -- the model
  have so : ∀ q, q ≠ 69 → q ≠ 70 → q ≠ 73 → q ≠ 74 → (saA u).1 q = u.1 q := fun q a a' a'' a3 => saL_o a a' a'' a3 _ _ _
  have hwo : ∀ s : Nat → Nat, (∀ i, i < mNW u → s i < 2 ^ mN u) → (woW (saA u) s).toInt = qw u s (mNW u) ∧ 0 ≤ qw u s (mNW u) := fun s hs => by
    have eN : mNW (saA u) = mNW u := by unfold mNW; rw [so 45 (by omega) (by omega) (by omega) (by omega)]
    unfold woW
    rw [eN, so 57 (by omega) (by omega) (by omega) (by omega)]
    have := woL_z (u := u) (B := (saA u).1 73) (v := u.1 57) (s := s) (fun i hi => ⟨rfl, (wOk h hi).2.2⟩) (fun i hi => sa_v h (mNW u) 0 u (by omega) (fun _ _ _ _ _ => rfl) i (s i) (by omega) (by omega) (hs i (by omega))) o2'.2 (mNW u) 0 0 (by omega) rfl (by rw [i32_0]; omega)
    rw [Nat.zero_add] at this
    exact this
  obtain ⟨b1, b2, b3, b4, b5⟩ := shT_m (u := u) (nw := mNW u) n8.1 (by omega) hwo (mN u) 0 (fun _ => 0) ((saA u).1 75) ((saA u).1 76, -1) (by omega) (fun i _ => by omega) (fun c a a' _ _ t1 => by rw [Nat.zero_testBit] at t1; cases t1) (qd_0 _) (fun j hj => by omega) (Or.inl rfl)
  have eZ : shT (mN u) (mNW u) (woW (saA u)) (mN u) 0 (fun _ => 0) ((saA u).1 75) ((saA u).1 76, -1) = shZ u := rfl
  rw [eZ] at b2 b3 b5
  rcases b2 with e | ⟨c1, c2, c3, s, d1, d2, d3, d4⟩
  · exact absurd e b3
  · have qb := qw_b (u := u) (fun i hi => (wOk h hi).2.2) (s := s) (mNW u) (by omega)
    have up := x5 s (sFam_of _ _ (fun j hj => sub_pw (d2 j hj)) d1)
    rw [sv_wd, d3, d4] at up
    obtain ⟨g1, g2⟩ := sFam_to _ _ f1
    have dn := b5 fam ⟨g2, fun i hi => ⟨by have := sub_lt (g1 i hi); omega, fun c hc => by omega⟩⟩
    rw [f2] at dn
    unfold qv at dn
    refine ⟨?_, ?_, b3, c2, ⟨c1, by omega⟩, by rw [eSI]; omega, by rw [eSI]; omega⟩
    · unfold shW
      exact xS.tr x1 (xS_I (by omega) (by omega))
    · unfold mShW shU
      have m0 : mS u (saA u) := ⟨fun q a a' => so q (by omega) (by omega) (by omega) (by omega), fun j _ => by rw [so 45 (by omega) (by omega) (by omega) (by omega)], saL_2 _ _ _⟩
      refine mS.tr m0 (mS.tr (mS.tr (mS.tr (mS_A (by omega) (by omega)) (mS_A (by omega) (by omega))) (mS_A (by omega) (by omega))) ⟨fun q a a' => wI_q a, fun j hj => wI_o (by omega), rfl⟩)
theorem sim_shared (h : R p u) : Sim p u (xShared p) ((shZ u).2.2, mShW u) := by
  obtain ⟨x1, m1, b3, c2, c1, e, e0⟩ := best_m h
  have n8 := mN_8 h
  have pb := qp_b (g := (shZ u).2.1) (mN u) n8.1 c2
  have p8 := q8_p (m := mN u)
  unfold xShared
  have k5 : (390625 : Int32).toInt = 390625 := rfl
  have o1 : (1 : Int32).toInt = 1 := rfl
  have a1 := i32_add (a := (shW p).1 40 4) (b := 390625) (by rw [k5]; omega) (by rw [k5]; omega)
  rw [k5] at a1
  have a2 := i32_sub (a := (shW p).1 40 4 + 390625) (b := 1) (by rw [a1, o1]; omega) (by rw [a1, o1]; omega)
  rw [a1, o1] at a2
  have a3 := i32_div (a := (shW p).1 40 4 + 390625 - 1) (b := 390625) (by rw [a2]; omega) (by rw [k5]; omega)
  rw [a2, k5] at a3
  have er : ((shW p).1 40 4 + 390625 - 1) / 390625 = (shZ u).2.2 := by
    rw [i32_eq, a3]
    omega
  rw [er]
  exact Sim_scr h x1 m1
theorem dg_z : ∀ M : Nat, M < 8 → (dg M).toInt = ((5 ^ (7 - M) : Nat) : Int) := by decide +kernel
theorem dgt {d0 d1 d2 d3 d4 d5 d6 d7 : Int} (h0 : 0 ≤ d0 ∧ d0 ≤ 4) (h1 : 0 ≤ d1 ∧ d1 ≤ 4) (h2 : 0 ≤ d2 ∧ d2 ≤ 4) (h3 : 0 ≤ d3 ∧ d3 ≤ 4) (h4 : 0 ≤ d4 ∧ d4 ≤ 4) (h5 : 0 ≤ d5 ∧ d5 ≤ 4) (h6 : 0 ≤ d6 ∧ d6 ≤ 4) (h7 : 0 ≤ d7 ∧ d7 ≤ 4) : (d0 * 78125 + d1 * 15625 + d2 * 3125 + d3 * 625 + d4 * 125 + d5 * 25 + d6 * 5 + d7) / 78125 % 5 = d0 ∧ (d0 * 78125 + d1 * 15625 + d2 * 3125 + d3 * 625 + d4 * 125 + d5 * 25 + d6 * 5 + d7) / 15625 % 5 = d1 ∧ (d0 * 78125 + d1 * 15625 + d2 * 3125 + d3 * 625 + d4 * 125 + d5 * 25 + d6 * 5 + d7) / 3125 % 5 = d2 ∧ (d0 * 78125 + d1 * 15625 + d2 * 3125 + d3 * 625 + d4 * 125 + d5 * 25 + d6 * 5 + d7) / 625 % 5 = d3 ∧ (d0 * 78125 + d1 * 15625 + d2 * 3125 + d3 * 625 + d4 * 125 + d5 * 25 + d6 * 5 + d7) / 125 % 5 = d4 ∧ (d0 * 78125 + d1 * 15625 + d2 * 3125 + d3 * 625 + d4 * 125 + d5 * 25 + d6 * 5 + d7) / 25 % 5 = d5 ∧ (d0 * 78125 + d1 * 15625 + d2 * 3125 + d3 * 625 + d4 * 125 + d5 * 25 + d6 * 5 + d7) / 5 % 5 = d6 ∧ (d0 * 78125 + d1 * 15625 + d2 * 3125 + d3 * 625 + d4 * 125 + d5 * 25 + d6 * 5 + d7) % 5 = d7 := by
  refine ⟨by omega, by omega, by omega, by omega, by omega, by omega, by omega, by omega⟩
def dj (g : Nat → Int32) (n j : Nat) : Int := if j < n then (g j).toInt + 1 else 0
theorem qp_dj {g : Nat → Int32} : ∀ n, n ≤ 8 → qp g n = dj g n 0 * 78125 + dj g n 1 * 15625 + dj g n 2 * 3125 + dj g n 3 * 625 + dj g n 4 * 125 + dj g n 5 * 25 + dj g n 6 * 5 + dj g n 7 := by
  intro n hn
  have q0 : q7 0 = 78125 := by decide
  have q1 : q7 1 = 15625 := by decide
  have q2 : q7 2 = 3125 := by decide
  have q3 : q7 3 = 625 := by decide
  have q4 : q7 4 = 125 := by decide
  have q5 : q7 5 = 25 := by decide
  have q6 : q7 6 = 5 := by decide
  have q77 : q7 7 = 1 := by decide
  rcases (show n = 0 ∨ n = 1 ∨ n = 2 ∨ n = 3 ∨ n = 4 ∨ n = 5 ∨ n = 6 ∨ n = 7 ∨ n = 8 by omega) with rfl | rfl | rfl | rfl | rfl | rfl | rfl | rfl | rfl <;> simp only [qp, dj, q0, q1, q2, q3, q4, q5, q6, q77] <;> simp <;> omega
theorem digit_m {g : Nat → Int32} {n M : Nat} (hn : n ≤ 8) (hM : M < n) (hg : ∀ j, j < n → -1 ≤ (g j).toInt ∧ (g j).toInt ≤ 3) : qp g n / ((5 ^ (7 - M) : Nat) : Int) % 5 = (g M).toInt + 1 := by
  have hd : ∀ j, 0 ≤ dj g n j ∧ dj g n j ≤ 4 := fun j => by
    unfold dj
    split
    · have := hg j (by assumption)
      omega
    · omega
  obtain ⟨r0, r1, r2, r3, r4, r5, r6, r7⟩ := dgt (hd 0) (hd 1) (hd 2) (hd 3) (hd 4) (hd 5) (hd 6) (hd 7)
  have eM : dj g n M = (g M).toInt + 1 := if_pos hM
  rw [← eM, qp_dj n hn]
  rcases (show M = 0 ∨ M = 1 ∨ M = 2 ∨ M = 3 ∨ M = 4 ∨ M = 5 ∨ M = 6 ∨ M = 7 by omega) with rfl | rfl | rfl | rfl | rfl | rfl | rfl | rfl
  · exact r0
  · exact r1
  · exact r2
  · exact r3
  · exact r4
  · exact r5
  · exact r6
  · show _ / ((1 : Nat) : Int) % 5 = _
    rw [show ((1 : Nat) : Int) = 1 from rfl, Int.ediv_one]
    exact r7
theorem mod_w {z W D : Int} (h : z = W * 390625 - D) (hD : 0 ≤ D ∧ D ≤ 390624) : (390625 - z % 390625) % 390625 = D := by omega
theorem mod_b {z : Int} : 0 ≤ 390625 - z % 390625 ∧ 390625 - z % 390625 ≤ 390625 := by omega
theorem mod_s {z : Int} : z - z / 390625 * 390625 = z % 390625 := by omega
theorem mod_l {z : Int} (h : 0 ≤ z) (h2 : z < 2147483648) : 0 ≤ z / 390625 * 390625 ∧ z / 390625 * 390625 ≤ z ∧ 0 ≤ z / 390625 ∧ 0 ≤ z % 390625 ∧ z % 390625 ≤ 390624 := by omega
theorem md_m {x : Int32} (hx : 0 ≤ x.toInt) : (x - x / 390625 * 390625).toInt = x.toInt % 390625 := by
  have k5 : (390625 : Int32).toInt = 390625 := rfl
  have l := Int32.toInt_lt x
  have ml := mod_l hx (by omega)
  have d := i32_div (a := x) (b := 390625) hx (by rw [k5]; decide)
  rw [k5] at d
  have m := i32_mul (a := x / 390625) (b := 390625) (by rw [d, k5]; exact Int.le_trans (by decide) ml.1) (by rw [d, k5]; exact Int.lt_of_le_of_lt ml.2.1 l)
  rw [d, k5] at m
  rw [i32_sub (by rw [m, mod_s]; exact Int.le_trans (by decide) ml.2.2.2.1) (by rw [m, mod_s]; exact Int.lt_of_le_of_lt ml.2.2.2.2 (by decide)), m, mod_s]
theorem mod_5 {z : Int} (h : 0 ≤ z) : z - z / 5 * 5 - 1 = z % 5 - 1 ∧ 0 ≤ z / 5 * 5 ∧ z / 5 * 5 ≤ z ∧ 0 ≤ z / 5 := by omega
theorem md_5 {q : Int32} (hq : 0 ≤ q.toInt) : (q - q / 5 * 5 - 1).toInt = q.toInt % 5 - 1 := by
  have f5 : (5 : Int32).toInt = 5 := rfl
  have o1 : (1 : Int32).toInt = 1 := rfl
  have l := Int32.toInt_lt q
  obtain ⟨m1, m2, m3, m4⟩ := mod_5 hq
  have y1 := i32_div (a := q) (b := 5) hq (by rw [f5]; decide)
  rw [f5] at y1
  have y2 := i32_mul (a := q / 5) (b := 5) (by rw [y1, f5]; omega) (by rw [y1, f5]; omega)
  rw [y1, f5] at y2
  have y3 := i32_sub (a := q) (b := q / 5 * 5) (by rw [y2]; omega) (by rw [y2]; omega)
  rw [y2] at y3
  have y4 := i32_sub (a := q - q / 5 * 5) (b := 1) (by rw [y3, o1]; omega) (by rw [y3, o1]; omega)
  rw [y4, y3, o1, m1]
theorem wantN_m {sc : Int32} {W D : Int} {M : Nat} (hM : M < 8) (h : sc.toInt = W * 390625 - D) (hD : 0 ≤ D ∧ D ≤ 390624) (h0 : 0 ≤ sc.toInt) : (wantN sc M).toInt = D / ((5 ^ (7 - M) : Nat) : Int) % 5 - 1 := by
  have key : ∀ x way q : Int32, x = 390625 - (sc - sc / 390625 * 390625) → way = x - x / 390625 * 390625 → q = way / dg M → (q - q / 5 * 5 - 1).toInt = D / ((5 ^ (7 - M) : Nat) : Int) % 5 - 1 := by
    intro x way q hx hw hq
    have x1 := md_m h0
    have mb := mod_b (z := sc.toInt)
    have x2 : x.toInt = 390625 - sc.toInt % 390625 := by
      have k5 : (390625 : Int32).toInt = 390625 := rfl
      have ml := mod_l h0 (Int32.toInt_lt sc)
      rw [hx, i32_sub (by rw [k5, x1]; exact Int.le_trans (by decide) mb.1) (by rw [k5, x1]; exact Int.lt_of_le_of_lt mb.2 (by decide)), k5, x1]
    have x3 : way.toInt = D := by
      rw [hw, md_m (by rw [x2]; exact mb.1), x2]
      exact mod_w h hD
    have dM := dg_z M hM
    have pM : (0 : Int) < ((5 ^ (7 - M) : Nat) : Int) := by
      have := Nat.pos_of_neZero (5 ^ (7 - M))
      exact Int.natCast_pos.mpr this
    have x4 := i32_div (a := way) (b := dg M) (by rw [x3]; exact hD.1) (by rw [dM]; exact pM)
    rw [x3, dM, ← hq] at x4
    rw [md_5 (by rw [x4]; exact Int.ediv_nonneg hD.1 (Int.le_of_lt pM)), x4]
  exact key _ _ _ rfl rfl rfl
theorem sim_given (h : R p u) {m : Int32} : Sim p u (xGiven p m) (mGiven u m) := by
  unfold xGiven mGiven xNoT
  rw [show tHas p 5 m = mMan u m from hasM h.1]
  by_cases hm : mMan u m = true
  · rw [if_pos hm, if_pos hm]
    obtain ⟨x1, m1, b3, c2, c1, e, e0⟩ := best_m h
    have n8 := mN_8 h
    have rm := mM_rng (R_mI h) hm
    have mc : m.toNatClampNeg = m.toInt.toNat := rfl
    have pb := qp_b (g := (shZ u).2.1) (mN u) n8.1 c2
    have p8 := q8_p (m := mN u)
    have hw := wantN_m (M := m.toNatClampNeg) (by omega) e (by omega) e0
    rw [digit_m n8.1 (by omega) c2] at hw
    have er : wantN ((shW p).1 40 4) m.toNatClampNeg = (shZ u).2.1 m.toNatClampNeg := by
      rw [i32_eq, hw]
      omega
    rw [er]
    exact Sim_scr h x1 m1
  · rw [if_neg hm, if_neg hm]; exact Sim_no h k1
end

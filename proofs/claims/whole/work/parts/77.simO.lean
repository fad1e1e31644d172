/-! THE TWO SIDES ALIKE: the model's best share: all ways, the first of the best -/
def qD (s : Nat → Nat) (nw : Nat) : Prop := ∀ b i j, i < nw → j < nw → (s i).testBit b = true → (s j).testBit b = true → i = j
def qd (s : Nat → Nat) : Nat → Int
  | 0 => 0
  | i + 1 => qd s i + ((i : Int) + 1) * (digS (s i) : Int)
def qw (u : hW) (s : Nat → Nat) : Nat → Int
  | 0 => 0
  | i + 1 => qw u s i + (if bz u i (s i) = true then (u.1 57 i).toInt else 0)
def q7 (m : Nat) : Int := ((5 ^ (7 - m) : Nat) : Int)
def q8 (m : Nat) : Int := ((5 ^ (8 - m) : Nat) : Int)
def qp (g : Nat → Int32) : Nat → Int
  | 0 => 0
  | m + 1 => qp g m + ((g m).toInt + 1) * q7 m
def qS (u : hW) (n nw : Nat) (σ : (Nat → Int32) × Int32) (d : Int) : Prop := σ.2 = -1 ∨ (0 ≤ σ.2.toInt ∧ (∀ j, j < n → -1 ≤ (σ.1 j).toInt ∧ (σ.1 j).toInt ≤ 3) ∧ qp σ.1 n ≤ d ∧ ∃ s, qD s nw ∧ (∀ i, i < nw → s i < 2 ^ n) ∧ qd s nw = qp σ.1 n ∧ qw u s nw = σ.2.toInt)
def qv (n : Nat) (σ : (Nat → Int32) × Int32) : Int := σ.2.toInt * 390625 - qp σ.1 n
def qE (n nw : Nat) (s : Nat → Nat) (m : Nat) (s' : Nat → Nat) : Prop := qD s' nw ∧ ∀ i, i < nw → s' i < 2 ^ n ∧ ∀ b, b < m → (s' i).testBit b = (s i).testBit b
section
variable {p u p' u' : hW} {b : Nat}
theorem sv_wd {s : Nat → Nat} : ∀ i, sv u s i = qw u s i * 390625 - qd s i
  | 0 => by unfold sv qw qd; omega
  | i + 1 => by
    unfold sv qw qd hz
    rw [sv_wd i]
    by_cases c : bz u i (s i) = true
    · rw [if_pos c, if_pos c]; omega
    · rw [if_neg c, if_neg c]; omega
theorem q8_7 {m : Nat} (h : m ≤ 7) : q8 m = 5 * q7 m := by
  unfold q8 q7
  rw [show 8 - m = (7 - m) + 1 by omega, Nat.pow_succ]
  omega
theorem q8_s {m : Nat} : q8 (m + 1) = q7 m := by
  unfold q8 q7
  rw [show 8 - (m + 1) = 7 - m by omega]
theorem q7_p {m : Nat} : 1 ≤ q7 m := by
  unfold q7
  have := Nat.pos_of_neZero (5 ^ (7 - m))
  omega
theorem q8_p {m : Nat} : 1 ≤ q8 m := by
  unfold q8
  have := Nat.pos_of_neZero (5 ^ (8 - m))
  omega
theorem qp_c {g g' : Nat → Int32} : ∀ m, (∀ j, j < m → g j = g' j) → qp g m = qp g' m
  | 0, _ => rfl
  | m + 1, h => by
    unfold qp
    rw [qp_c m (fun j hj => h j (by omega)), h m (by omega)]
theorem qp_b {g : Nat → Int32} : ∀ m, m ≤ 8 → (∀ j, j < m → -1 ≤ (g j).toInt ∧ (g j).toInt ≤ 3) → 0 ≤ qp g m ∧ qp g m ≤ 390625 - q8 m
  | 0, _, _ => by
    have e : q8 0 = 390625 := by unfold q8; decide
    unfold qp
    omega
  | m + 1, hm, h => by
    have ih := qp_b m (by omega) (fun j hj => h j (by omega))
    have d := h m (by omega)
    have e := q8_7 (m := m) (by omega)
    have pp := q7_p (m := m)
    have l1 : 0 ≤ ((g m).toInt + 1) * q7 m := Int.mul_nonneg (by omega) (by omega)
    have l2 : ((g m).toInt + 1) * q7 m ≤ 4 * q7 m := Int.mul_le_mul_of_nonneg_right (by omega) (by omega)
    unfold qp
    rw [q8_s]
    omega
theorem qd_c {s s' : Nat → Nat} : ∀ i, (∀ j, j < i → s j = s' j) → qd s i = qd s' i
  | 0, _ => rfl
  | i + 1, h => by
    unfold qd
    rw [qd_c i (fun j hj => h j (by omega)), h i (by omega)]
theorem qw_c {s s' : Nat → Nat} : ∀ i, (∀ j, j < i → s j = s' j) → qw u s i = qw u s' i
  | 0, _ => rfl
  | i + 1, h => by
    unfold qw
    rw [qw_c i (fun j hj => h j (by omega)), h i (by omega)]
theorem qd_u {s : Nat → Nat} {i x : Nat} : ∀ nw, i < nw → qd (updN s i x) nw = qd s nw + ((i : Int) + 1) * ((digS x : Int) - (digS (s i) : Int))
  | 0, h => by omega
  | k + 1, h => by
    unfold qd
    by_cases e : k = i
    · subst e
      rw [updN_s, qd_c k (s' := s) (fun j hj => updN_o (by omega)), Int.mul_sub]
      omega
    · rw [updN_o e, qd_u k (by omega)]
      omega
theorem dig_or : ∀ m : Nat, m < 8 → ∀ S : Nat, S < 256 → S < 2 ^ m → digS (S ||| 2 ^ m) = digS S + 5 ^ (7 - m) := by decide +kernel
theorem qS_w {n nw : Nat} {σ : (Nat → Int32) × Int32} {d d' : Int} (h : qS u n nw σ d) (hd : d ≤ d') : qS u n nw σ d' := by
  rcases h with h | ⟨h1, h2, h3, h4⟩
  · exact Or.inl h
  · exact Or.inr ⟨h1, h2, by omega, h4⟩
theorem qw_b (hw : ∀ i : Nat, (i : Int) < (u.1 45 2).toInt → 0 ≤ (u.1 57 i).toInt ∧ (u.1 57 i).toInt ≤ 99) {s : Nat → Nat} : ∀ i : Nat, (i : Int) ≤ (u.1 45 2).toInt → 0 ≤ qw u s i ∧ qw u s i ≤ 99 * (i : Int)
  | 0, _ => by unfold qw; omega
  | i + 1, h => by
    have ih := qw_b hw (s := s) i (by omega)
    have := hw i (by omega)
    unfold qw
    split <;> omega
theorem bit_top {S m : Nat} (h : S < 2 ^ m) : S.testBit m = false := Nat.testBit_lt_two_pow h
theorem or_bit {S m b : Nat} : (S ||| 2 ^ m).testBit b = (S.testBit b || decide (m = b)) := by
  rw [Nat.testBit_or, Nat.testBit_two_pow]
theorem shT_m {n nw : Nat} {wo : (Nat → Nat) → Int32} (hn : n ≤ 8) (hnw : nw ≤ 4) (hwo : ∀ s : Nat → Nat, (∀ i, i < nw → s i < 2 ^ n) → (wo s).toInt = qw u s nw ∧ 0 ≤ qw u s nw) : ∀ (r m : Nat) (s : Nat → Nat) (g : Nat → Int32) (σ : (Nat → Int32) × Int32), m + r = n → (∀ i, i < nw → s i < 2 ^ m) → qD s nw → qd s nw = qp g m → (∀ j, j < m → -1 ≤ (g j).toInt ∧ (g j).toInt ≤ 3) → qS u n nw σ (qp g m) → (∀ j, j < m → (shT n nw wo r m s g σ).1 j = g j) ∧ qS u n nw (shT n nw wo r m s g σ).2 (qp g m + q8 m - q8 n) ∧ (shT n nw wo r m s g σ).2.2 ≠ -1 ∧ (σ.2 ≠ -1 → qv n σ ≤ qv n (shT n nw wo r m s g σ).2) ∧ (∀ s', qE n nw s m s' → sv u s' nw ≤ qv n (shT n nw wo r m s g σ).2)
  | 0, m, s, g, σ, hm, hs, hD, hd, hg, hσ => by
    have mn : m = n := by omega
    subst mn
    obtain ⟨w1, w2⟩ := hwo s hs
    have pg := qp_b m hn hg
    have p8 := q8_p (m := m)
    have same : ∀ s', qE m nw s m s' → sv u s' nw = qw u s nw * 390625 - qp g m := fun s' he => by
      have es : ∀ j, j < nw → s' j = s j := fun j hj => by
        apply Nat.eq_of_testBit_eq
        intro c
        rcases Nat.lt_or_ge c m with hc | hc
        · exact (he.2 j hj).2 c hc
        · rw [Nat.testBit_lt_two_pow (Nat.lt_of_lt_of_le (he.2 j hj).1 (Nat.pow_le_pow_right (by decide) hc)), Nat.testBit_lt_two_pow (Nat.lt_of_lt_of_le (hs j hj) (Nat.pow_le_pow_right (by decide) hc))]
      rw [sv_wd, qw_c nw es, qd_c nw es, hd]
    unfold shT
    by_cases c : σ.2 < wo s
    · rw [if_pos c]
      rw [i32_lt, w1] at c
      have en : qp (fun j => if j < m then g j else σ.1 j) m = qp g m := qp_c m (fun j hj => if_pos hj)
      refine ⟨fun j hj => rfl, Or.inr ⟨?_, fun j hj => ?_, ?_, s, hD, hs, ?_, ?_⟩, ?_, fun h1 => ?_, fun s' he => ?_⟩
      · show 0 ≤ (wo s).toInt
        omega
      · show -1 ≤ (if j < m then g j else σ.1 j).toInt ∧ (if j < m then g j else σ.1 j).toInt ≤ 3
        rw [if_pos hj]
        exact hg j hj
      · show qp (fun j => if j < m then g j else σ.1 j) m ≤ _
        rw [en]
        omega
      · show qd s nw = qp (fun j => if j < m then g j else σ.1 j) m
        rw [en]
        exact hd
      · exact w1.symm
      · show wo s ≠ -1
        rw [Ne, i32_eq, i32_m1]
        omega
      · show σ.2.toInt * 390625 - qp σ.1 m ≤ (wo s).toInt * 390625 - qp (fun j => if j < m then g j else σ.1 j) m
        rw [en]
        rcases hσ with e | ⟨e1, e2, e3, -⟩
        · exact absurd e h1
        · have := qp_b m hn e2
          omega
      · rw [same s' he]
        show _ ≤ (wo s).toInt * 390625 - qp (fun j => if j < m then g j else σ.1 j) m
        rw [en]
        omega
    · rw [if_neg c]
      rw [i32_lt, w1] at c
      have h1 : σ.2 ≠ -1 := fun e => by rw [e, i32_m1] at c; omega
      rcases hσ with e | hσ
      · exact absurd e h1
      · refine ⟨fun j hj => rfl, qS_w (Or.inr hσ) (by omega), h1, fun _ => Int.le_refl _, fun s' he => ?_⟩
        rw [same s' he]
        show _ ≤ σ.2.toInt * 390625 - qp σ.1 m
        have := hσ.2.2.1
        omega
  | r + 1, m, s, g, σ, hm, hs, hD, hd, hg, hσ => by
    have m7 : m ≤ 7 := by omega
    have p7 := q7_p (m := m)
    have e87 := q8_7 m7
    have p8n := q8_p (m := n)
    -- the call with man m in set i
    have loop : ∀ (k i : Nat) (x : (Nat → Int32) × ((Nat → Int32) × Int32)), i + k = nw → (∀ j, j < m → x.1 j = g j) → qS u n nw x.2 (qp g m + ((i : Int) * q7 m + q7 m) - q8 n) → x.2.2 ≠ -1 → (∀ j, j < m → (shP (shT n nw wo r (m + 1)) m s i k x).1 j = g j) ∧ qS u n nw (shP (shT n nw wo r (m + 1)) m s i k x).2 (qp g m + ((nw : Int) * q7 m + q7 m) - q8 n) ∧ (shP (shT n nw wo r (m + 1)) m s i k x).2.2 ≠ -1 ∧ qv n x.2 ≤ qv n (shP (shT n nw wo r (m + 1)) m s i k x).2 ∧ (∀ i', i ≤ i' → i' < nw → ∀ s', qE n nw (updN s i' (s i' ||| 2 ^ m)) (m + 1) s' → sv u s' nw ≤ qv n (shP (shT n nw wo r (m + 1)) m s i k x).2) := by
      intro k
      induction k with
      | zero =>
        intro i x hi hx hS h1
        have e : i = nw := by omega
        subst e
        exact ⟨hx, hS, h1, Int.le_refl _, fun i' a a' => by omega⟩
      | succ k ihk =>
        intro i x hi hx hS h1
        have il : i < nw := by omega
        have nIi : (nI i).toInt = (i : Int) := nI_toInt (by omega)
        have s1 : ∀ j, j < nw → updN s i (s i ||| 2 ^ m) j < 2 ^ (m + 1) := fun j hj => by
          have p2 : 2 ^ m < 2 ^ (m + 1) := Nat.pow_lt_pow_right (by decide) (by omega)
          by_cases e : j = i
          · rw [e, updN_s]
            exact Nat.or_lt_two_pow (Nat.lt_trans (hs i il) p2) p2
          · rw [updN_o e]
            exact Nat.lt_trans (hs j hj) p2
        have D1 : qD (updN s i (s i ||| 2 ^ m)) nw := by
          intro c a a' ha ha' t1 t2
          by_cases cm : m = c
          · subst cm
            have only : ∀ j, j < nw → (updN s i (s i ||| 2 ^ m) j).testBit m = true → j = i := fun j hj t => by
              by_cases e : j = i
              · exact e
              · rw [updN_o e, bit_top (hs j hj)] at t
                cases t
            rw [only a ha t1, only a' ha' t2]
          · have old : ∀ j, (updN s i (s i ||| 2 ^ m) j).testBit c = (s j).testBit c := fun j => by
              by_cases e : j = i
              · rw [e, updN_s, or_bit, decide_eq_false cm, Bool.or_false]
              · rw [updN_o e]
            rw [old] at t1 t2
            exact hD c a a' ha ha' t1 t2
        have gq : qp x.1 m = qp g m := qp_c m hx
        have g1 : qp (upd x.1 m (nI i)) (m + 1) = qp g m + ((i : Int) * q7 m + q7 m) := by
          rw [qp, upd_s, nIi, qp_c m (g' := g) (fun j hj => by rw [upd_o (by omega)]; exact hx j hj), Int.add_mul, Int.one_mul]
        have d1 : qd (updN s i (s i ||| 2 ^ m)) nw = qp (upd x.1 m (nI i)) (m + 1) := by
          have s256 : s i < 256 := Nat.lt_of_lt_of_le (hs i il) (Nat.pow_le_pow_right (n := 2) (by decide) (show m ≤ 8 by omega))
          rw [qd_u nw il, dig_or m (by omega) (s i) s256 (hs i il), g1, hd]
          have e : ((digS (s i) + 5 ^ (7 - m) : Nat) : Int) - (digS (s i) : Int) = q7 m := by unfold q7; omega
          rw [e, Int.add_mul, Int.one_mul]
        have gg1 : ∀ j, j < m + 1 → -1 ≤ (upd x.1 m (nI i) j).toInt ∧ (upd x.1 m (nI i) j).toInt ≤ 3 := fun j hj => by
          by_cases e : j = m
          · rw [e, upd_s, nIi]; omega
          · rw [upd_o e, hx j (by omega)]; exact hg j (by omega)
        obtain ⟨a1, a2, a3, a4, a5⟩ := shT_m hn hnw hwo r (m + 1) (updN s i (s i ||| 2 ^ m)) (upd x.1 m (nI i)) x.2 (by omega) s1 D1 d1 gg1 (qS_w hS (by rw [g1]; omega))
        unfold shP
        generalize shT n nw wo r (m + 1) (updN s i (s i ||| 2 ^ m)) (upd x.1 m (nI i)) x.2 = y at a1 a2 a3 a4 a5 ⊢
        have ec : ((i + 1 : Nat) : Int) * q7 m = (i : Int) * q7 m + q7 m := by
          have : ((i + 1 : Nat) : Int) = (i : Int) + 1 := by omega
          rw [this, Int.add_mul, Int.one_mul]
        obtain ⟨b1, b2, b3, b4, b5⟩ := ihk (i + 1) y (by omega) (fun j hj => by rw [a1 j (by omega), upd_o (by omega)]; exact hx j hj) (qS_w a2 (by rw [g1, q8_s, ec]; omega)) a3
        have a4' := a4 h1
        refine ⟨b1, b2, b3, by omega, fun i' h2 h3 s' he => ?_⟩
        by_cases e : i' = i
        · subst e
          have := a5 s' he
          omega
        · exact b5 i' (by omega) h3 s' he
    -- the call with man m in no set
    have g0 : qp (upd g m (-1)) (m + 1) = qp g m := by
      rw [qp, upd_s, qp_c m (g' := g) (fun j hj => upd_o (by omega)), i32_m1]
      omega
    have gg0 : ∀ j, j < m + 1 → -1 ≤ (upd g m (-1) j).toInt ∧ (upd g m (-1) j).toInt ≤ 3 := fun j hj => by
      by_cases e : j = m
      · rw [e, upd_s, i32_m1]; omega
      · rw [upd_o e]; exact hg j (by omega)
    have s0 : ∀ i, i < nw → s i < 2 ^ (m + 1) := fun i hi => Nat.lt_trans (hs i hi) (Nat.pow_lt_pow_right (by decide) (by omega))
    obtain ⟨a1, a2, a3, a4, a5⟩ := shT_m hn hnw hwo r (m + 1) s (upd g m (-1)) σ (by omega) s0 hD (by rw [g0]; exact hd) gg0 (by rw [g0]; exact hσ)
    unfold shT
    generalize shT n nw wo r (m + 1) s (upd g m (-1)) σ = y at a1 a2 a3 a4 a5 ⊢
    rw [g0, q8_s] at a2
    obtain ⟨b1, b2, b3, b4, b5⟩ := loop nw 0 y (by omega) (fun j hj => by rw [a1 j (by omega), upd_o (by omega)]) (qS_w a2 (by have : ((0 : Nat) : Int) * q7 m = 0 := by rw [Int.natCast_zero, Int.zero_mul]
                                                                                                                               omega)) a3
    refine ⟨b1, qS_w b2 ?_, b3, fun h1 => by have := a4 h1; omega, fun s' he => ?_⟩
    · have : (nw : Int) * q7 m ≤ 4 * q7 m := Int.mul_le_mul_of_nonneg_right (by omega) (by omega)
      omega
    · by_cases c : ∃ i, i < nw ∧ (s' i).testBit m = true
      · obtain ⟨i, hi, hb⟩ := c
        refine b5 i (by omega) hi s' ⟨he.1, fun j hj => ⟨(he.2 j hj).1, fun c hc => ?_⟩⟩
        by_cases cm : c = m
        · subst cm
          by_cases e : j = i
          · rw [e, updN_s, hb, or_bit]; simp
          · rw [updN_o e, bit_top (hs j hj)]
            cases hx : (s' j).testBit c
            · rfl
            · exact absurd (he.1 c j i hj hi hx hb) e
        · have cl : c < m := by omega
          rw [(he.2 j hj).2 c cl]
          by_cases e : j = i
          · rw [e, updN_s, or_bit, decide_eq_false (by omega), Bool.or_false]
          · rw [updN_o e]
      · have a := a5 s' ⟨he.1, fun j hj => ⟨(he.2 j hj).1, fun c' hc => ?_⟩⟩
        · omega
        · by_cases cm : c' = m
          · subst cm
            rw [bit_top (hs j hj)]
            cases hx : (s' j).testBit c'
            · rfl
            · exact absurd ⟨j, hj, hx⟩ c
          · exact (he.2 j hj).2 c' (by omega)
end

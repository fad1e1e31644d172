/-! CONTRACTS: Acts (class 0) -/
def bgW (w : hW) (b : Int32) : hW := wI (if w.1 43 1 < 20 then wI w 44 (w.1 43 1).toNatClampNeg b else w) 43 1 (w.1 43 1 + 1)
def bgs : hW → List Int32 → hW
  | w, [] => w
  | w, b :: l => bgs (bgW w b) l
theorem bgs_app (w : hW) (l k : List Int32) : bgs w (l ++ k) = bgs (bgs w l) k := by
  induction l generalizing w with
  | nil => rfl
  | cons b l ih => exact ih _
theorem bgW_f {w : hW} {b : Int32} {j : Nat} (h : j ≠ 1) : (bgW w b).1 43 j = w.1 43 j := by
  unfold bgW
  rw [wI_o (by omega)]
  split
  · exact wI_p (by decide)
  · rfl
theorem bgW_o {w : hW} {b : Int32} {q j : Nat} (h : q ≠ 43) (h2 : q ≠ 44) : (bgW w b).1 q j = w.1 q j := by
  unfold bgW
  rw [wI_p h]
  split
  · exact wI_p h2
  · rfl
theorem bgW_r {w : hW} {b : Int32} {r : Nat} (h : w.1 43 1 = nI r) : (bgW w b).1 43 1 = nI (r + 1) := by
  unfold bgW
  rw [wI_s, h, nI_1]
theorem bgs_f {w : hW} {l : List Int32} {j : Nat} (h : j ≠ 1) : (bgs w l).1 43 j = w.1 43 j := by
  induction l generalizing w with
  | nil => rfl
  | cons b l ih => rw [bgs, ih, bgW_f h]
theorem bgs_r {w : hW} {l : List Int32} {r : Nat} (h : w.1 43 1 = nI r) : (bgs w l).1 43 1 = nI (r + l.length) := by
  induction l generalizing w r with
  | nil => exact h
  | cons b l ih => rw [bgs, ih (bgW_r h), List.length_cons, Nat.add_assoc, Nat.add_comm 1]
theorem bgs_o {w : hW} {l : List Int32} {q j : Nat} (h : q ≠ 43) (h2 : q ≠ 44) : (bgs w l).1 q j = w.1 q j := by
  induction l generalizing w with
  | nil => rfl
  | cons b l ih => rw [bgs, ih, bgW_o h h2]
/-- GOES of a kind: its bodies and its value -/
def gB (k : Nat) : List Int32 := match k with
  | 1 => [20, 10]
  | 4 => [70, 10]
  | 5 => [20, 10]
  | 6 => [40, 20, 10]
  | _ => [10]
def gV (k : Nat) (n wt x : Int32) : Int32 := match k with
  | 1 => x + n + wt
  | 4 => (x + n) * 2
  | 5 => x + n + wt
  | 6 => x + 1 + n + wt
  | _ => x + n
def rB (kd k : Nat) : List Int32 := match k with
  | 2 => 50 :: 11 :: gB kd
  | 3 => 60 :: 50 :: 11 :: gB kd
  | 5 => 30 :: 11 :: gB kd
  | _ => 11 :: gB kd
def rV (kd k : Nat) (n wt x : Int32) : Int32 := match k with
  | 2 => -(gV kd n wt x * 2)
  | 3 => -(gV kd n wt x * 2) ^^^ 5
  | 5 => gV kd n wt x * 2 * 3
  | _ => gV kd n wt x * 2
def fB (kd k : Nat) : List Int32 := match k with
  | 4 => 71 :: 12 :: (rB kd kd ++ gB kd)
  | 6 => 41 :: 12 :: (rB kd kd ++ gB kd)
  | _ => 12 :: (rB kd kd ++ gB kd)
def fV (kd k : Nat) (n wt x : Int32) : Int32 := match k with
  | 4 => rV kd kd n wt (x - wt) ^^^ gV kd n wt (x - wt - wt)
  | 6 => (rV kd kd n wt x ^^^ gV kd n wt (x - wt)) - n
  | _ => rV kd kd n wt x ^^^ gV kd n wt (x - wt)
/-- the kind that has a body for an act -/
def hmA (k a : Nat) : Nat := match a, k with
  | 0, 1 => 1
  | 0, 4 => 4
  | 0, 5 => 1
  | 0, 6 => 6
  | 1, 2 => 2
  | 1, 3 => 3
  | 1, 5 => 5
  | 2, 4 => 4
  | 2, 6 => 6
  | _, _ => 0
def bdA (k a : Nat) : Int32 := (gSta 101).getD (k * 3 + a) 0
section
variable {d : Nat} {w : hW} {Q : aPost}
theorem c7_isKind {k : Int32} : Cl d 145 [.int k] w Q = Q (some (.int (bI (!decide (k < 0) && decide (k < 7))))) w := by
  rw [Cl_go (L := [some (.int k)]) rfl]
  simp only [s145_0, s145_1, s145_4, s145_5, s145_7, s145_10, s145_11, s145_14, s145_15, gF_i, gF_r, gP_f, gP_t, aRd_1, aRd_4, aKd_e, oo_s, z0, z1, okP_n, okP_i, okP_r, vtl, vtn, true_and, and_true, bI_ite, bI_01]
  repeat' split
  all_goals simp only [bI, *, decide_true, decide_false, not_true_eq_false, not_false_eq_true, Bool.and_true, Bool.true_and, Bool.and_false, Bool.false_and, Bool.or_true, Bool.true_or, Bool.or_false, Bool.false_or, Bool.not_true, Bool.not_false, ite_true, ite_false, if_true, if_false, Bool.false_eq_true, reduceIte, decide_not, and_true, true_and, and_false, false_and, or_true, true_or, or_false, false_or, not_false, not_true]
theorem c0_forget : Cl d 0 [.ref 43] w Q = Q none (wI w 43 1 0) := by
  rw [Cl_go (L := [some (.ref 43)]) rfl]
  simp only [s0_0, s0_1, s0_2, s0_5, gF_i, gF_r, gP_f, gP_t, aRd_1, aRd_4, aKd_e, oo_s, z0, z1, okP_n, okP_i, okP_r, vtl, vtn, true_and, and_true, bI_ite, bI_01, F0_11, F0_15, F0_19, F0_22, F0_25, P0_15, P0_19, P0_22, P0_25]
theorem c0_bodyThatRan {i : Int32} : Cl d 1 [.ref 43, .int i] w Q = Q (some (.int (if i < 0 then -1 else if i < w.1 43 1 then (if i < 20 then w.1 44 i.toNatClampNeg else -1) else -1))) w := by
  rw [Cl_go (L := [some (.ref 43), some (.int i)]) rfl]
  simp only [s1_0, s1_1, s1_4, s1_5, s1_6, s1_9, s1_12, s1_13, s1_15, s1_18, s1_19, s1_22, s1_23, s1_24, s1_27, s1_28, gF_i, gF_r, gP_f, gP_t, aRd_1, aRd_4, aKd_e, oo_s, z0, z1, okP_n, okP_i, okP_r, vtl, vtn, true_and, and_true, bI_ite, bI_01, F0_11, F0_15, F0_19, F0_22, F0_25, P0_15, P0_19, P0_22, P0_25, A_44]
  by_cases h1 : i < 0
  · simp only [h1, decide_true, decide_false, not_true_eq_false, not_false_eq_true, Bool.and_true, Bool.true_and, Bool.and_false, Bool.false_and, Bool.or_true, Bool.true_or, Bool.or_false, Bool.false_or, Bool.not_true, Bool.not_false, ite_true, ite_false, if_true, if_false, Bool.false_eq_true, reduceIte, decide_not, and_true, true_and, and_false, false_and, or_true, true_or, or_false, false_or, not_false, not_true]
  · by_cases h2 : i < w.1 43 1
    · by_cases h3 : i < 20
      · have h4 : inb i 20 := by
          have z : (0 : Int32).toInt = 0 := rfl
          have z2 : (20 : Int32).toInt = 20 := rfl
          rw [i32_lt] at h1 h3
          exact ⟨by omega, by omega⟩
        simp only [h1, h2, h3, h4, decide_true, decide_false, not_true_eq_false, not_false_eq_true, Bool.and_true, Bool.true_and, Bool.and_false, Bool.false_and, Bool.or_true, Bool.true_or, Bool.or_false, Bool.false_or, Bool.not_true, Bool.not_false, ite_true, ite_false, if_true, if_false, Bool.false_eq_true, reduceIte, decide_not, and_true, true_and, and_false, false_and, or_true, true_or, or_false, false_or, not_false, not_true]
      · simp only [h1, h2, h3, decide_true, decide_false, not_true_eq_false, not_false_eq_true, Bool.and_true, Bool.true_and, Bool.and_false, Bool.false_and, Bool.or_true, Bool.true_or, Bool.or_false, Bool.false_or, Bool.not_true, Bool.not_false, ite_true, ite_false, if_true, if_false, Bool.false_eq_true, reduceIte, decide_not, and_true, true_and, and_false, false_and, or_true, true_or, or_false, false_or, not_false, not_true]
    · simp only [h1, h2, decide_true, decide_false, not_true_eq_false, not_false_eq_true, Bool.and_true, Bool.true_and, Bool.and_false, Bool.false_and, Bool.or_true, Bool.true_or, Bool.or_false, Bool.false_or, Bool.not_true, Bool.not_false, ite_true, ite_false, if_true, if_false, Bool.false_eq_true, reduceIte, decide_not, and_true, true_and, and_false, false_and, or_true, true_or, or_false, false_or, not_false, not_true]
theorem c0_begin {b : Int32} {r : Nat} (hr : w.1 43 1 = nI r) (h : r < 1000) : Cl d 3 [.ref 43, .int b] w Q = Q none (bgW w b) := by
  rw [Cl_go (L := [some (.ref 43), some (.int b)]) rfl]
  simp only [s3_0, s3_1, s3_4, s3_6, s3_9, s3_10, s3_13, s3_14, s3_17, s3_18, s3_19, s3_20i, s3_20, s3_21, s3_24, s3_25, s3_26, s3_29, gF_i, gF_r, gP_f, gP_t, aRd_1, aRd_4, aKd_e, oo_s, z0, z1, okP_n, okP_i, okP_r, vtl, vtn, true_and, and_true, bI_ite, bI_01, F0_11, F0_15, F0_19, F0_22, F0_25, P0_15, P0_19, P0_22, P0_25, A_44, hr]
  unfold bgW
  rw [hr]
  have h20 : (nI r < 20) = (r < 20) := by
    have z2 : (20 : Int32).toInt = 20 := rfl
    rw [nIlt (by omega), z2]
    apply propext
    omega
  by_cases h1 : r < 20
  · simp only [h20, h1, nI_inb (show r < 2 ^ 31 by omega) h1, decide_true, decide_false, not_true_eq_false, not_false_eq_true, Bool.and_true, Bool.true_and, Bool.and_false, Bool.false_and, Bool.or_true, Bool.true_or, Bool.or_false, Bool.false_or, Bool.not_true, Bool.not_false, ite_true, ite_false, if_true, if_false, Bool.false_eq_true, reduceIte, decide_not, and_true, true_and, and_false, false_and, or_true, true_or, or_false, false_or, not_false, not_true, wI_p (show (43 : Nat) ≠ 44 by decide), hr]
  · simp only [h20, h1, decide_true, decide_false, not_true_eq_false, not_false_eq_true, Bool.and_true, Bool.true_and, Bool.and_false, Bool.false_and, Bool.or_true, Bool.true_or, Bool.or_false, Bool.false_or, Bool.not_true, Bool.not_false, ite_true, ite_false, if_true, if_false, Bool.false_eq_true, reduceIte, decide_not, and_true, true_and, and_false, false_and, or_true, true_or, or_false, false_or, not_false, not_true, hr]
theorem c0_bodyAt {k a : Nat} (hk : k < 7) (ha : a < 3) : Cl d 5 [.int (nI k), .int (nI a)] w Q = Q (some (.int (bdA k a))) w := by
  rw [Cl_go (L := [some (.int (nI k)), some (.int (nI a)), none]) rfl]
  have e : nI k * 3 + nI a = nI (k * 3 + a) := by
    have : ∀ k, k < 7 → ∀ a, a < 3 → nI k * 3 + nI a = nI (k * 3 + a) := by decide +kernel
    exact this k hk a ha
  have h1 : nI (k * 3 + a) < 21 := by
    have z2 : (21 : Int32).toInt = 21 := rfl
    rw [nIlt (by omega), z2]
    omega
  simp only [s5_0, s5_1, s5_2, s5_3, s5_4, s5_5, s5_6, s5_7, s5_10, s5_11, s5_14, s5_15, s5_18, s5_21, s5_22, s5_23, s5_26, s5_27, gF_i, gF_r, gP_f, gP_t, aRd_1, aRd_4, aKd_e, oo_s, z0, z1, okP_n, okP_i, okP_r, vtl, vtn, true_and, and_true, bI_ite, bI_01, F0_11, F0_15, F0_19, F0_22, F0_25, P0_15, P0_19, P0_22, P0_25, N_101, A_101, n21, e, nI_neg (show k * 3 + a < 2 ^ 31 by omega), h1, nI_inb (show k * 3 + a < 2 ^ 31 by omega) (show k * 3 + a < 21 by omega), nI_cl (show k * 3 + a < 2 ^ 31 by omega), decide_true, decide_false, not_true_eq_false, not_false_eq_true, Bool.and_true, Bool.true_and, Bool.and_false, Bool.false_and, Bool.or_true, Bool.true_or, Bool.or_false, Bool.false_or, Bool.not_true, Bool.not_false, ite_true, ite_false, if_true, if_false, Bool.false_eq_true, reduceIte, decide_not, and_true, true_and, and_false, false_and, or_true, true_or, or_false, false_or, not_false, not_true]
  rfl
theorem kd_k {k : Nat} (h : k < 7) : (!decide (nI k < 0) && decide (nI k < 7)) = true := by
  have : ∀ k, k < 7 → (!decide (nI k < 0) && decide (nI k < 7)) = true := by decide +kernel
  exact this k h
def abv (k : Nat) : Int32 := (gSta 100).getD k 0
theorem homL {k0 : Int32} {a : Nat} (ha : a < 3) {k i : Nat} (hk : k < 7) (hi : i < 7) : Tr (d + 1) 4 4 [some (.int k0), some (.int (nI a)), some (.int (nI k)), some (.int (nI i))] [] w Q = (if bdA k a = 0 then Tr (d + 1) 4 4 [some (.int k0), some (.int (nI a)), some (.int (abv k)), some (.int (nI (i + 1)))] [] w Q else Q (some (.int (nI k))) w) := by
  have h1 : nI i < 7 := by
    have z2 : (7 : Int32).toInt = 7 := rfl
    rw [nIlt (by omega), z2]; omega
  show Go (d + 1) 4 4 _ _ _ _ = _
  simp only [s4_0, s4_1, s4_2, s4_3, s4_4, s4_5, s4_7, s4_10, s4_11, s4_14, s4_17, s4_18, s4_19, s4_22, s4_25, s4_26, s4_27, s4_30, s4_31, s4_32, s4_33, s4_36, s4_39, s4_40, gF_i, gF_r, gP_f, gP_t, aRd_1, aRd_4, aKd_e, oo_s, z0, z1, okP_n, okP_i, okP_r, vtl, vtn, true_and, and_true, bI_ite, bI_01, F0_11, F0_15, F0_19, F0_22, F0_25, P0_15, P0_19, P0_22, P0_25, cs_n, Nat.zero_le, cs_i, cs_r, cs_l, Nat.reduceAdd, Nat.reduceLeDiff, h1, c7_isKind, kd_k hk, c0_bodyAt hk ha, A_100, nI_inb (show k < 2 ^ 31 by omega) hk, nI_cl (show k < 2 ^ 31 by omega), nI_1, decide_true, decide_false, not_true_eq_false, not_false_eq_true, Bool.and_true, Bool.true_and, Bool.and_false, Bool.false_and, Bool.or_true, Bool.true_or, Bool.or_false, Bool.false_or, Bool.not_true, Bool.not_false, ite_true, ite_false, if_true, if_false, Bool.false_eq_true, reduceIte, decide_not, and_true, true_and, and_false, false_and, or_true, true_or, or_false, false_or, not_false, not_true]
  rfl
theorem abv_v : ∀ k : Nat, k < 7 → ∀ a : Nat, a < 3 → bdA k a = 0 → ∃ k2 : Nat, k2 < k ∧ abv k = nI k2 ∧ hmA k2 a = hmA k a := by decide +kernel
theorem hmA_v : ∀ k : Nat, k < 7 → ∀ a : Nat, a < 3 → bdA k a ≠ 0 → hmA k a = k := by decide +kernel
theorem homLL {k0 : Int32} {a : Nat} (ha : a < 3) : ∀ (n k i : Nat), k ≤ n → k < 7 → i + n < 7 → Tr (d + 1) 4 4 [some (.int k0), some (.int (nI a)), some (.int (nI k)), some (.int (nI i))] [] w Q = Q (some (.int (nI (hmA k a)))) w := by
  intro n
  induction n with
  | zero =>
    intro k i hn hk hi
    rw [homL ha hk (by omega)]
    by_cases h : bdA k a = 0
    · obtain ⟨k2, h1, -⟩ := abv_v k hk a ha h
      omega
    · rw [if_neg h, hmA_v k hk a ha h]
  | succ n ih =>
    intro k i hn hk hi
    rw [homL ha hk (by omega)]
    by_cases h : bdA k a = 0
    · obtain ⟨k2, h1, h2, h3⟩ := abv_v k hk a ha h
      rw [if_pos h, h2, ih k2 (i + 1) (by omega) (by omega) (by omega), h3]
    · rw [if_neg h, hmA_v k hk a ha h]
theorem c0_homeOf {k a : Nat} (hk : k < 7) (ha : a < 3) : Cl (d + 1) 4 [.int (nI k), .int (nI a)] w Q = Q (some (.int (nI (hmA k a)))) w := by
  rw [Cl_go (L := [some (.int (nI k)), some (.int (nI a)), none, none]) rfl]
  have h := homLL (d := d) (w := w) (Q := Q) (k0 := nI k) ha k k 0 (Nat.le_refl _) hk (by omega)
  rw [nI_0] at h
  simp only [s4_0, s4_1, s4_2, s4_3, s4_4, s4_5, s4_7, s4_10, s4_11, s4_14, s4_17, s4_18, s4_19, s4_22, s4_25, s4_26, s4_27, s4_30, s4_31, s4_32, s4_33, s4_36, s4_39, s4_40, gF_i, gF_r, gP_f, gP_t, aRd_1, aRd_4, aKd_e, oo_s, z0, z1, okP_n, okP_i, okP_r, vtl, vtn, true_and, and_true, bI_ite, bI_01, h]
theorem hmA_lt : ∀ k : Nat, k < 7 → ∀ a : Nat, a < 3 → hmA k a < 7 := by decide +kernel
/-- run, up to its switch -/
theorem runS {k a D r : Nat} {x : Int32} (hk : k < 7) (ha : a < 3) (hD : D < 40) (hr : w.1 43 1 = nI r) (hr2 : r < 1000) : Cl (d + 2) 6 [.ref 43, .int (nI k), .int (nI a), .int x, .int (nI D)] w Q = Go (d + 2) 6 58 [some (.ref 43), some (.int (nI k)), some (.int (nI a)), some (.int x), some (.int (nI D)), some (.int (nI (hmA k a))), some (.int (abv (hmA k a))), some (.int (bdA (hmA k a) a)), some (.int (nI (D + 1)))] [.int (bdA (hmA k a) a)] (bgW w (bdA (hmA k a) a)) Q := by
  rw [Cl_go (L := [some (.ref 43), some (.int (nI k)), some (.int (nI a)), some (.int x), some (.int (nI D)), none, none, none, none]) rfl]
  have h1 : ¬ 40 < nI D := by
    have z2 : (40 : Int32).toInt = 40 := rfl
    rw [i32_lt, nI_toInt (by omega), z2]; omega
  have h2 := hmA_lt k hk a ha
  simp only [s6_0, s6_2, s6_4, s6_7, s6_8, s6_9, s6_10, s6_11, s6_14, s6_16, s6_18, s6_21, s6_24, s6_27, s6_29, s6_30, s6_33, s6_34, s6_36, s6_38, s6_39, s6_42, s6_44, s6_46, s6_47, s6_48, s6_50, s6_51, s6_53, s6_56, gF_i, gF_r, gP_f, gP_t, aRd_1, aRd_4, aKd_e, oo_s, z0, z1, okP_n, okP_i, okP_r, vtl, vtn, true_and, and_true, bI_ite, bI_01, cs_n, Nat.zero_le, cs_i, cs_r, cs_l, Nat.reduceAdd, Nat.reduceLeDiff, R_0, h1, c0_homeOf hk ha, c7_isKind, kd_k h2, A_100, nI_inb (show hmA k a < 2 ^ 31 by omega) h2, nI_cl (show hmA k a < 2 ^ 31 by omega), c0_bodyAt h2 ha, nI_1, c0_begin hr hr2, decide_true, decide_false, not_true_eq_false, not_false_eq_true, Bool.and_true, Bool.true_and, Bool.and_false, Bool.false_and, Bool.or_true, Bool.true_or, Bool.or_false, Bool.false_or, Bool.not_true, Bool.not_false, ite_true, ite_false, if_true, if_false, Bool.false_eq_true, reduceIte, decide_not, and_true, true_and, and_false, false_and, or_true, true_or, or_false, false_or, not_false, not_true]
  rfl
end

/-! CONTRACTS of the model: keeps, all -/
def kF (w : hW) (o q f a b : Nat) : hW := (fun r j => if r = q ∧ f + a ≤ j ∧ j < f + b then w.1 o (j - f) else w.1 r j, w.2)
def kB (w : hW) (o q f a b : Nat) : hW := (fun r j => if r = o ∧ a ≤ j ∧ j < b then w.1 q (f + j) else w.1 r j, w.2)
theorem kF_s {w : hW} {o q f a b : Nat} (h : o ≠ q) (ha : a < b) : kF (wI w q (f + a) (w.1 o a)) o q f (a + 1) b = kF w o q f a b := by
  refine Prod.ext (funext fun r => funext fun j => ?_) rfl
  simp only [kF, wI]
  by_cases h1 : r = q
  · subst h1
    by_cases h2 : j = f + a
    · subst h2
      rw [if_neg (by omega), if_pos ⟨rfl, rfl⟩, if_pos (by omega), show f + a - f = a by omega]
    · by_cases h3 : f + (a + 1) ≤ j ∧ j < f + b
      · rw [if_pos ⟨rfl, h3.1, h3.2⟩, if_neg (fun e => h e.1), if_pos (by omega)]
      · rw [if_neg (fun e => h3 e.2), if_neg (fun e => h2 e.2), if_neg (by omega)]
  · rw [if_neg (fun e => h1 e.1), if_neg (fun e => h1 e.1), if_neg (fun e => h1 e.1)]
theorem kB_s {w : hW} {o q f a b : Nat} (h : o ≠ q) (ha : a < b) : kB (wI w o a (w.1 q (f + a))) o q f (a + 1) b = kB w o q f a b := by
  refine Prod.ext (funext fun r => funext fun j => ?_) rfl
  simp only [kB, wI]
  by_cases h1 : r = o
  · subst h1
    by_cases h2 : j = a
    · subst h2
      rw [if_neg (by omega), if_pos ⟨rfl, rfl⟩, if_pos (by omega)]
    · by_cases h3 : a + 1 ≤ j ∧ j < b
      · rw [if_pos ⟨rfl, h3.1, h3.2⟩, if_neg (fun e => h e.1.symm), if_pos (by omega)]
      · rw [if_neg (fun e => h3 e.2), if_neg (fun e => h2 e.2), if_neg (by omega)]
  · rw [if_neg (fun e => h1 e.1), if_neg (fun e => h1 e.1), if_neg (fun e => h1 e.1)]
theorem kF_n {w : hW} {o q f a : Nat} : kF w o q f a a = w := by
  refine Prod.ext (funext fun r => funext fun j => ?_) rfl
  simp only [kF]
  rw [if_neg (by omega)]
theorem kB_n {w : hW} {o q f a : Nat} : kB w o q f a a = w := by
  refine Prod.ext (funext fun r => funext fun j => ?_) rfl
  simp only [kB]
  rw [if_neg (by omega)]
section
variable {d : Nat} {w : hW} {Q : aPost}
theorem kpF {o q f N no : Nat} (ho : gArr o = some (1, no)) (hq : gArr q = some (1, 90)) (hne : o ≠ q) (hN : N ≤ no) (hno : no ≤ 8) (hf : f + N ≤ 90) : ∀ (m i : Nat) (w : hW), i + m = N → Tr d 192 3 [some (.ref 45), some (.ref o), some (.int (nI N)), some (.ref q), some (.int (nI f)), some (.int 0), some (.int (nI i))] [] w Q = Q (some (.int (nI f + nI N))) (kF w o q f i N) := by
  intro m
  induction m with
  | zero =>
    intro i w hi
    have hi : i = N := by omega
    subst hi
    have h1 : ¬ nI i < nI i := by rw [i32_lt]; omega
    show Go d 192 3 _ _ _ _ = _
    simp only [s192_0, s192_1, s192_3, s192_5, s192_6, s192_9, s192_11, s192_14, s192_15, s192_17, s192_18, s192_20, s192_22, s192_23, s192_24, s192_25, s192_28, s192_29, s192_31, s192_33, s192_34, s192_35, s192_37, s192_38, s192_39, s192_42, s192_45, s192_47, s192_48, s192_49, gF_i, gF_r, gP_f, gP_t, aRd_1, aRd_4, aKd_e, oo_s, z0, z1, okP_n, okP_i, okP_r, vtl, vtn, true_and, and_true, bI_ite, bI_01, h1, kF_n, decide_true, decide_false, not_true_eq_false, not_false_eq_true, Bool.and_true, Bool.true_and, Bool.and_false, Bool.false_and, Bool.or_true, Bool.true_or, Bool.or_false, Bool.false_or, Bool.not_true, Bool.not_false, ite_true, ite_false, if_true, if_false, Bool.false_eq_true, reduceIte, decide_not, and_true, true_and, and_false, false_and, or_true, true_or, or_false, false_or, not_false, not_true]
  | succ m ih =>
    intro i w hi
    have h1 : nI i < nI N := by rw [nIlt (by omega), nI_toInt (by omega)]; omega
    have h2 : inb (nI i) no := nI_inb (by omega) (by omega)
    have h3 : nI f + nI i = nI (f + i) := nI_sum f i
    have h4 : inb (nI (f + i)) 90 := nI_inb (by omega) (by omega)
    show Go d 192 3 _ _ _ _ = _
    simp only [s192_0, s192_1, s192_3, s192_5, s192_6, s192_9, s192_11, s192_14, s192_15, s192_17, s192_18, s192_20, s192_22, s192_23, s192_24, s192_25, s192_28, s192_29, s192_31, s192_33, s192_34, s192_35, s192_37, s192_38, s192_39, s192_42, s192_45, s192_47, s192_48, s192_49, gF_i, gF_r, gP_f, gP_t, aRd_1, aRd_4, aKd_e, oo_s, z0, z1, okP_n, okP_i, okP_r, vtl, vtn, true_and, and_true, bI_ite, bI_01, ho, hq, h1, h2, h3, h4, nI_cl (show i < 2 ^ 31 by omega), nI_cl (show f + i < 2 ^ 31 by omega), nI_1, ih (i + 1) _ (by omega), kF_s hne (show i < N by omega), decide_true, decide_false, not_true_eq_false, not_false_eq_true, Bool.and_true, Bool.true_and, Bool.and_false, Bool.false_and, Bool.or_true, Bool.true_or, Bool.or_false, Bool.false_or, Bool.not_true, Bool.not_false, ite_true, ite_false, if_true, if_false, Bool.false_eq_true, reduceIte, decide_not, and_true, true_and, and_false, false_and, or_true, true_or, or_false, false_or, not_false, not_true]
theorem kpB {o q f N no : Nat} (ho : gArr o = some (1, no)) (hq : gArr q = some (1, 90)) (hne : o ≠ q) (hN : N ≤ no) (hno : no ≤ 8) (hf : f + N ≤ 90) : ∀ (m i : Nat) (w : hW), i + m = N → Tr d 192 3 [some (.ref 45), some (.ref o), some (.int (nI N)), some (.ref q), some (.int (nI f)), some (.int 1), some (.int (nI i))] [] w Q = Q (some (.int (nI f + nI N))) (kB w o q f i N) := by
  intro m
  have o1 : ¬ (1 : Int32) = 0 := by decide
  induction m with
  | zero =>
    intro i w hi
    have hi : i = N := by omega
    subst hi
    have h1 : ¬ nI i < nI i := by rw [i32_lt]; omega
    show Go d 192 3 _ _ _ _ = _
    simp only [s192_0, s192_1, s192_3, s192_5, s192_6, s192_9, s192_11, s192_14, s192_15, s192_17, s192_18, s192_20, s192_22, s192_23, s192_24, s192_25, s192_28, s192_29, s192_31, s192_33, s192_34, s192_35, s192_37, s192_38, s192_39, s192_42, s192_45, s192_47, s192_48, s192_49, gF_i, gF_r, gP_f, gP_t, aRd_1, aRd_4, aKd_e, oo_s, z0, z1, okP_n, okP_i, okP_r, vtl, vtn, true_and, and_true, bI_ite, bI_01, h1, kB_n, decide_true, decide_false, not_true_eq_false, not_false_eq_true, Bool.and_true, Bool.true_and, Bool.and_false, Bool.false_and, Bool.or_true, Bool.true_or, Bool.or_false, Bool.false_or, Bool.not_true, Bool.not_false, ite_true, ite_false, if_true, if_false, Bool.false_eq_true, reduceIte, decide_not, and_true, true_and, and_false, false_and, or_true, true_or, or_false, false_or, not_false, not_true]
  | succ m ih =>
    intro i w hi
    have h1 : nI i < nI N := by rw [nIlt (by omega), nI_toInt (by omega)]; omega
    have h2 : inb (nI i) no := nI_inb (by omega) (by omega)
    have h3 : nI f + nI i = nI (f + i) := nI_sum f i
    have h4 : inb (nI (f + i)) 90 := nI_inb (by omega) (by omega)
    show Go d 192 3 _ _ _ _ = _
    simp only [s192_0, s192_1, s192_3, s192_5, s192_6, s192_9, s192_11, s192_14, s192_15, s192_17, s192_18, s192_20, s192_22, s192_23, s192_24, s192_25, s192_28, s192_29, s192_31, s192_33, s192_34, s192_35, s192_37, s192_38, s192_39, s192_42, s192_45, s192_47, s192_48, s192_49, gF_i, gF_r, gP_f, gP_t, aRd_1, aRd_4, aKd_e, oo_s, z0, z1, okP_n, okP_i, okP_r, vtl, vtn, true_and, and_true, bI_ite, bI_01, ho, hq, h1, h2, h3, h4, o1, nI_cl (show i < 2 ^ 31 by omega), nI_cl (show f + i < 2 ^ 31 by omega), nI_1, ih (i + 1) _ (by omega), kB_s hne (show i < N by omega), decide_true, decide_false, not_true_eq_false, not_false_eq_true, Bool.and_true, Bool.true_and, Bool.and_false, Bool.false_and, Bool.or_true, Bool.true_or, Bool.or_false, Bool.false_or, Bool.not_true, Bool.not_false, ite_true, ite_false, if_true, if_false, Bool.false_eq_true, reduceIte, decide_not, and_true, true_and, and_false, false_and, or_true, true_or, or_false, false_or, not_false, not_true]
theorem c8_keepF {o q f N no : Nat} {n F : Int32} (hn : n = nI N) (hF : F = nI f) (ho : gArr o = some (1, no)) (hq : gArr q = some (1, 90)) (hne : o ≠ q) (hN : N ≤ no) (hno : no ≤ 8) (hf : f + N ≤ 90) : Cl d 192 [.ref 45, .ref o, .int n, .ref q, .int F, .int 0] w Q = Q (some (.int (F + n))) (kF w o q f 0 N) := by
  rw [Cl_go (L := [some (.ref 45), some (.ref o), some (.int n), some (.ref q), some (.int F), some (.int 0), none]) rfl]
  subst hn
  subst hF
  have hh := kpF (d := d) (Q := Q) ho hq hne hN hno hf N 0 w (by omega)
  rw [nI_0] at hh
  simp only [s192_0, s192_1, s192_3, s192_5, s192_6, s192_9, s192_11, s192_14, s192_15, s192_17, s192_18, s192_20, s192_22, s192_23, s192_24, s192_25, s192_28, s192_29, s192_31, s192_33, s192_34, s192_35, s192_37, s192_38, s192_39, s192_42, s192_45, s192_47, s192_48, s192_49, gF_i, gF_r, gP_f, gP_t, aRd_1, aRd_4, aKd_e, oo_s, z0, z1, okP_n, okP_i, okP_r, vtl, vtn, true_and, and_true, bI_ite, bI_01, hh]
theorem c8_keepB {o q f N no : Nat} {n F : Int32} (hn : n = nI N) (hF : F = nI f) (ho : gArr o = some (1, no)) (hq : gArr q = some (1, 90)) (hne : o ≠ q) (hN : N ≤ no) (hno : no ≤ 8) (hf : f + N ≤ 90) : Cl d 192 [.ref 45, .ref o, .int n, .ref q, .int F, .int 1] w Q = Q (some (.int (F + n))) (kB w o q f 0 N) := by
  rw [Cl_go (L := [some (.ref 45), some (.ref o), some (.int n), some (.ref q), some (.int F), some (.int 1), none]) rfl]
  subst hn
  subst hF
  have hh := kpB (d := d) (Q := Q) ho hq hne hN hno hf N 0 w (by omega)
  rw [nI_0] at hh
  simp only [s192_0, s192_1, s192_3, s192_5, s192_6, s192_9, s192_11, s192_14, s192_15, s192_17, s192_18, s192_20, s192_22, s192_23, s192_24, s192_25, s192_28, s192_29, s192_31, s192_33, s192_34, s192_35, s192_37, s192_38, s192_39, s192_42, s192_45, s192_47, s192_48, s192_49, gF_i, gF_r, gP_f, gP_t, aRd_1, aRd_4, aKd_e, oo_s, z0, z1, okP_n, okP_i, okP_r, vtl, vtn, true_and, and_true, bI_ite, bI_01, hh]
end
def kFs (w : hW) (q : Nat) : hW := (kF (kF (kF (kF (kF (kF (kF (kF (kF (kF (kF w 47 q 0 0 8) 48 q 8 0 8) 49 q 16 0 8) 50 q 24 0 8) 51 q 32 0 8) 52 q 40 0 8) 53 q 48 0 8) 54 q 56 0 8) 55 q 64 0 4) 56 q 68 0 4) 57 q 72 0 4)
def kBs (w : hW) (q : Nat) : hW := (kB (kB (kB (kB (kB (kB (kB (kB (kB (kB (kB w 47 q 0 0 8) 48 q 8 0 8) 49 q 16 0 8) 50 q 24 0 8) 51 q 32 0 8) 52 q 40 0 8) 53 q 48 0 8) 54 q 56 0 8) 55 q 64 0 4) 56 q 68 0 4) 57 q 72 0 4)
/-- everything put away at place q -/
def mSv (w : hW) (q : Nat) : hW := wA w q (fun j => if j < 64 then w.1 (47 + j / 8) (j % 8) else if j < 68 then w.1 55 (j - 64) else if j < 72 then w.1 56 (j - 68) else if j < 76 then w.1 57 (j - 72) else if j < 85 then w.1 45 (j - 76) else w.1 q j)
theorem kF_o {w : hW} {o q f a b r j : Nat} (h : r ≠ q) : (kF w o q f a b).1 r j = w.1 r j := by simp [kF, h]
theorem kF_q {w : hW} {o q f b j : Nat} : (kF w o q f 0 b).1 q j = if f ≤ j ∧ j < f + b then w.1 o (j - f) else w.1 q j := by simp [kF]
theorem mSv_c {w : hW} {q : Nat} (hq : 58 ≤ q) : (wI (wI (wI (wI (wI (wI (wI (wI (wI (kFs w q) q 76 (w.1 45 0)) q 77 (w.1 45 1)) q 78 (w.1 45 2)) q 79 (w.1 45 3)) q 80 (w.1 45 4)) q 81 (w.1 45 5)) q 82 (w.1 45 6)) q 83 (w.1 45 7)) q 84 (w.1 45 8)) = mSv w q := by
  refine Prod.ext (funext fun r => funext fun j => ?_) rfl
  by_cases hr : r = q
  · subst hr
    simp only [mSv, wA_s]
    by_cases s8 : j = 84
    · subst s8
      rw [wI_is]
      rfl
    by_cases s7 : j = 83
    · subst s7
      rw [wI_at (show (83 : Nat) ≠ 84 by decide), wI_is]
      rfl
    by_cases s6 : j = 82
    · subst s6
      rw [wI_at (show (82 : Nat) ≠ 84 by decide), wI_at (show (82 : Nat) ≠ 83 by decide), wI_is]
      rfl
    by_cases s5 : j = 81
    · subst s5
      rw [wI_at (show (81 : Nat) ≠ 84 by decide), wI_at (show (81 : Nat) ≠ 83 by decide), wI_at (show (81 : Nat) ≠ 82 by decide), wI_is]
      rfl
    by_cases s4 : j = 80
    · subst s4
      rw [wI_at (show (80 : Nat) ≠ 84 by decide), wI_at (show (80 : Nat) ≠ 83 by decide), wI_at (show (80 : Nat) ≠ 82 by decide), wI_at (show (80 : Nat) ≠ 81 by decide), wI_is]
      rfl
    by_cases s3 : j = 79
    · subst s3
      rw [wI_at (show (79 : Nat) ≠ 84 by decide), wI_at (show (79 : Nat) ≠ 83 by decide), wI_at (show (79 : Nat) ≠ 82 by decide), wI_at (show (79 : Nat) ≠ 81 by decide), wI_at (show (79 : Nat) ≠ 80 by decide), wI_is]
      rfl
    by_cases s2 : j = 78
    · subst s2
      rw [wI_at (show (78 : Nat) ≠ 84 by decide), wI_at (show (78 : Nat) ≠ 83 by decide), wI_at (show (78 : Nat) ≠ 82 by decide), wI_at (show (78 : Nat) ≠ 81 by decide), wI_at (show (78 : Nat) ≠ 80 by decide), wI_at (show (78 : Nat) ≠ 79 by decide), wI_is]
      rfl
    by_cases s1 : j = 77
    · subst s1
      rw [wI_at (show (77 : Nat) ≠ 84 by decide), wI_at (show (77 : Nat) ≠ 83 by decide), wI_at (show (77 : Nat) ≠ 82 by decide), wI_at (show (77 : Nat) ≠ 81 by decide), wI_at (show (77 : Nat) ≠ 80 by decide), wI_at (show (77 : Nat) ≠ 79 by decide), wI_at (show (77 : Nat) ≠ 78 by decide), wI_is]
      rfl
    by_cases s0 : j = 76
    · subst s0
      rw [wI_at (show (76 : Nat) ≠ 84 by decide), wI_at (show (76 : Nat) ≠ 83 by decide), wI_at (show (76 : Nat) ≠ 82 by decide), wI_at (show (76 : Nat) ≠ 81 by decide), wI_at (show (76 : Nat) ≠ 80 by decide), wI_at (show (76 : Nat) ≠ 79 by decide), wI_at (show (76 : Nat) ≠ 78 by decide), wI_at (show (76 : Nat) ≠ 77 by decide), wI_is]
      rfl
    rw [wI_at s8, wI_at s7, wI_at s6, wI_at s5, wI_at s4, wI_at s3, wI_at s2, wI_at s1, wI_at s0]
    unfold kFs
    rw [kF_q]
    by_cases c10 : 72 ≤ j ∧ j < 72 + 4
    · rw [if_pos c10]
      rw [kF_o (by omega), kF_o (by omega), kF_o (by omega), kF_o (by omega), kF_o (by omega), kF_o (by omega), kF_o (by omega), kF_o (by omega), kF_o (by omega), kF_o (by omega)]
      rw [if_neg (by omega), if_neg (by omega), if_neg (by omega), if_pos (by omega)]
    rw [if_neg c10]
    rw [kF_q]
    by_cases c9 : 68 ≤ j ∧ j < 68 + 4
    · rw [if_pos c9]
      rw [kF_o (by omega), kF_o (by omega), kF_o (by omega), kF_o (by omega), kF_o (by omega), kF_o (by omega), kF_o (by omega), kF_o (by omega), kF_o (by omega)]
      rw [if_neg (by omega), if_neg (by omega), if_pos (by omega)]
    rw [if_neg c9]
    rw [kF_q]
    by_cases c8 : 64 ≤ j ∧ j < 64 + 4
    · rw [if_pos c8]
      rw [kF_o (by omega), kF_o (by omega), kF_o (by omega), kF_o (by omega), kF_o (by omega), kF_o (by omega), kF_o (by omega), kF_o (by omega)]
      rw [if_neg (by omega), if_pos (by omega)]
    rw [if_neg c8]
    rw [kF_q]
    by_cases c7 : 56 ≤ j ∧ j < 56 + 8
    · rw [if_pos c7]
      rw [kF_o (by omega), kF_o (by omega), kF_o (by omega), kF_o (by omega), kF_o (by omega), kF_o (by omega), kF_o (by omega)]
      rw [if_pos (by omega), show j / 8 = 7 by omega, show j % 8 = j - 56 by omega]
    rw [if_neg c7]
    rw [kF_q]
    by_cases c6 : 48 ≤ j ∧ j < 48 + 8
    · rw [if_pos c6]
      rw [kF_o (by omega), kF_o (by omega), kF_o (by omega), kF_o (by omega), kF_o (by omega), kF_o (by omega)]
      rw [if_pos (by omega), show j / 8 = 6 by omega, show j % 8 = j - 48 by omega]
    rw [if_neg c6]
    rw [kF_q]
    by_cases c5 : 40 ≤ j ∧ j < 40 + 8
    · rw [if_pos c5]
      rw [kF_o (by omega), kF_o (by omega), kF_o (by omega), kF_o (by omega), kF_o (by omega)]
      rw [if_pos (by omega), show j / 8 = 5 by omega, show j % 8 = j - 40 by omega]
    rw [if_neg c5]
    rw [kF_q]
    by_cases c4 : 32 ≤ j ∧ j < 32 + 8
    · rw [if_pos c4]
      rw [kF_o (by omega), kF_o (by omega), kF_o (by omega), kF_o (by omega)]
      rw [if_pos (by omega), show j / 8 = 4 by omega, show j % 8 = j - 32 by omega]
    rw [if_neg c4]
    rw [kF_q]
    by_cases c3 : 24 ≤ j ∧ j < 24 + 8
    · rw [if_pos c3]
      rw [kF_o (by omega), kF_o (by omega), kF_o (by omega)]
      rw [if_pos (by omega), show j / 8 = 3 by omega, show j % 8 = j - 24 by omega]
    rw [if_neg c3]
    rw [kF_q]
    by_cases c2 : 16 ≤ j ∧ j < 16 + 8
    · rw [if_pos c2]
      rw [kF_o (by omega), kF_o (by omega)]
      rw [if_pos (by omega), show j / 8 = 2 by omega, show j % 8 = j - 16 by omega]
    rw [if_neg c2]
    rw [kF_q]
    by_cases c1 : 8 ≤ j ∧ j < 8 + 8
    · rw [if_pos c1]
      rw [kF_o (by omega)]
      rw [if_pos (by omega), show j / 8 = 1 by omega, show j % 8 = j - 8 by omega]
    rw [if_neg c1]
    rw [kF_q]
    by_cases c0 : 0 ≤ j ∧ j < 0 + 8
    · rw [if_pos c0]
      rw [if_pos (by omega), show j / 8 = 0 by omega, show j % 8 = j - 0 by omega]
    rw [if_neg c0]
    rw [if_neg (by omega), if_neg (by omega), if_neg (by omega), if_neg (by omega), if_neg (by omega)]
  · unfold mSv
    rw [wA_o hr, wI_q hr, wI_q hr, wI_q hr, wI_q hr, wI_q hr, wI_q hr, wI_q hr, wI_q hr, wI_q hr]
    unfold kFs
    rw [kF_o hr, kF_o hr, kF_o hr, kF_o hr, kF_o hr, kF_o hr, kF_o hr, kF_o hr, kF_o hr, kF_o hr, kF_o hr]
/-- everything taken back from place q -/
def mLd (w : hW) (q : Nat) : hW := (fun r j => if 47 ≤ r ∧ r ≤ 54 ∧ j < 8 then w.1 q (8 * (r - 47) + j) else if 55 ≤ r ∧ r ≤ 57 ∧ j < 4 then w.1 q (64 + 4 * (r - 55) + j) else if r = 45 ∧ j < 9 then w.1 q (76 + j) else w.1 r j, w.2)
theorem kB_o {w : hW} {o q f a b r : Nat} (h : r ≠ o) : (kB w o q f a b).1 r = w.1 r := by funext j; simp [kB, h]
theorem kB_q {w : hW} {o q f b j : Nat} : (kB w o q f 0 b).1 o j = if j < b then w.1 q (f + j) else w.1 o j := by simp [kB]
theorem mLd_c {w : hW} {q : Nat} (hq : 58 ≤ q) : (wI (wI (wI (wI (wI (wI (wI (wI (wI (kBs w q) 45 0 (w.1 q 76)) 45 1 (w.1 q 77)) 45 2 (w.1 q 78)) 45 3 (w.1 q 79)) 45 4 (w.1 q 80)) 45 5 (w.1 q 81)) 45 6 (w.1 q 82)) 45 7 (w.1 q 83)) 45 8 (w.1 q 84)) = mLd w q := by
  refine Prod.ext (funext fun r => funext fun j => ?_) rfl
  by_cases hr : r = 45
  · subst hr
    simp only [mLd]
    rw [if_neg (by omega), if_neg (by omega)]
    by_cases s8 : j = 8
    · subst s8
      rw [wI_is, if_pos (by simp)]
    by_cases s7 : j = 7
    · subst s7
      rw [wI_at (show (7 : Nat) ≠ 8 by decide), wI_is, if_pos (by simp)]
    by_cases s6 : j = 6
    · subst s6
      rw [wI_at (show (6 : Nat) ≠ 8 by decide), wI_at (show (6 : Nat) ≠ 7 by decide), wI_is, if_pos (by simp)]
    by_cases s5 : j = 5
    · subst s5
      rw [wI_at (show (5 : Nat) ≠ 8 by decide), wI_at (show (5 : Nat) ≠ 7 by decide), wI_at (show (5 : Nat) ≠ 6 by decide), wI_is, if_pos (by simp)]
    by_cases s4 : j = 4
    · subst s4
      rw [wI_at (show (4 : Nat) ≠ 8 by decide), wI_at (show (4 : Nat) ≠ 7 by decide), wI_at (show (4 : Nat) ≠ 6 by decide), wI_at (show (4 : Nat) ≠ 5 by decide), wI_is, if_pos (by simp)]
    by_cases s3 : j = 3
    · subst s3
      rw [wI_at (show (3 : Nat) ≠ 8 by decide), wI_at (show (3 : Nat) ≠ 7 by decide), wI_at (show (3 : Nat) ≠ 6 by decide), wI_at (show (3 : Nat) ≠ 5 by decide), wI_at (show (3 : Nat) ≠ 4 by decide), wI_is, if_pos (by simp)]
    by_cases s2 : j = 2
    · subst s2
      rw [wI_at (show (2 : Nat) ≠ 8 by decide), wI_at (show (2 : Nat) ≠ 7 by decide), wI_at (show (2 : Nat) ≠ 6 by decide), wI_at (show (2 : Nat) ≠ 5 by decide), wI_at (show (2 : Nat) ≠ 4 by decide), wI_at (show (2 : Nat) ≠ 3 by decide), wI_is, if_pos (by simp)]
    by_cases s1 : j = 1
    · subst s1
      rw [wI_at (show (1 : Nat) ≠ 8 by decide), wI_at (show (1 : Nat) ≠ 7 by decide), wI_at (show (1 : Nat) ≠ 6 by decide), wI_at (show (1 : Nat) ≠ 5 by decide), wI_at (show (1 : Nat) ≠ 4 by decide), wI_at (show (1 : Nat) ≠ 3 by decide), wI_at (show (1 : Nat) ≠ 2 by decide), wI_is, if_pos (by simp)]
    by_cases s0 : j = 0
    · subst s0
      rw [wI_at (show (0 : Nat) ≠ 8 by decide), wI_at (show (0 : Nat) ≠ 7 by decide), wI_at (show (0 : Nat) ≠ 6 by decide), wI_at (show (0 : Nat) ≠ 5 by decide), wI_at (show (0 : Nat) ≠ 4 by decide), wI_at (show (0 : Nat) ≠ 3 by decide), wI_at (show (0 : Nat) ≠ 2 by decide), wI_at (show (0 : Nat) ≠ 1 by decide), wI_is, if_pos (by simp)]
    rw [if_neg (fun e => by have := e.2; omega), wI_at s8, wI_at s7, wI_at s6, wI_at s5, wI_at s4, wI_at s3, wI_at s2, wI_at s1, wI_at s0]
    unfold kBs
    rw [kB_o (by decide), kB_o (by decide), kB_o (by decide), kB_o (by decide), kB_o (by decide), kB_o (by decide), kB_o (by decide), kB_o (by decide), kB_o (by decide), kB_o (by decide), kB_o (by decide)]
  · rw [wI_q hr, wI_q hr, wI_q hr, wI_q hr, wI_q hr, wI_q hr, wI_q hr, wI_q hr, wI_q hr]
    unfold kBs mLd
    simp only []
    by_cases r10 : r = 57
    · subst r10
      rw [kB_q]
      by_cases c : j < 4
      · rw [if_pos c, if_neg (by omega), if_pos (by omega), kB_o (by omega), kB_o (by omega), kB_o (by omega), kB_o (by omega), kB_o (by omega), kB_o (by omega), kB_o (by omega), kB_o (by omega), kB_o (by omega), kB_o (by omega)]
      · rw [if_neg c, if_neg (by omega), if_neg (by omega), if_neg (by omega), kB_o (by decide), kB_o (by decide), kB_o (by decide), kB_o (by decide), kB_o (by decide), kB_o (by decide), kB_o (by decide), kB_o (by decide), kB_o (by decide), kB_o (by decide)]
    by_cases r9 : r = 56
    · subst r9
      rw [kB_o (by decide), kB_q]
      by_cases c : j < 4
      · rw [if_pos c, if_neg (by omega), if_pos (by omega), kB_o (by omega), kB_o (by omega), kB_o (by omega), kB_o (by omega), kB_o (by omega), kB_o (by omega), kB_o (by omega), kB_o (by omega), kB_o (by omega)]
      · rw [if_neg c, if_neg (by omega), if_neg (by omega), if_neg (by omega), kB_o (by decide), kB_o (by decide), kB_o (by decide), kB_o (by decide), kB_o (by decide), kB_o (by decide), kB_o (by decide), kB_o (by decide), kB_o (by decide)]
    by_cases r8 : r = 55
    · subst r8
      rw [kB_o (by decide), kB_o (by decide), kB_q]
      by_cases c : j < 4
      · rw [if_pos c, if_neg (by omega), if_pos (by omega), kB_o (by omega), kB_o (by omega), kB_o (by omega), kB_o (by omega), kB_o (by omega), kB_o (by omega), kB_o (by omega), kB_o (by omega)]
      · rw [if_neg c, if_neg (by omega), if_neg (by omega), if_neg (by omega), kB_o (by decide), kB_o (by decide), kB_o (by decide), kB_o (by decide), kB_o (by decide), kB_o (by decide), kB_o (by decide), kB_o (by decide)]
    by_cases r7 : r = 54
    · subst r7
      rw [kB_o (by decide), kB_o (by decide), kB_o (by decide), kB_q]
      by_cases c : j < 8
      · rw [if_pos c, if_pos (by omega), kB_o (by omega), kB_o (by omega), kB_o (by omega), kB_o (by omega), kB_o (by omega), kB_o (by omega), kB_o (by omega)]
      · rw [if_neg c, if_neg (by omega), if_neg (by omega), if_neg (by omega), kB_o (by decide), kB_o (by decide), kB_o (by decide), kB_o (by decide), kB_o (by decide), kB_o (by decide), kB_o (by decide)]
    by_cases r6 : r = 53
    · subst r6
      rw [kB_o (by decide), kB_o (by decide), kB_o (by decide), kB_o (by decide), kB_q]
      by_cases c : j < 8
      · rw [if_pos c, if_pos (by omega), kB_o (by omega), kB_o (by omega), kB_o (by omega), kB_o (by omega), kB_o (by omega), kB_o (by omega)]
      · rw [if_neg c, if_neg (by omega), if_neg (by omega), if_neg (by omega), kB_o (by decide), kB_o (by decide), kB_o (by decide), kB_o (by decide), kB_o (by decide), kB_o (by decide)]
    by_cases r5 : r = 52
    · subst r5
      rw [kB_o (by decide), kB_o (by decide), kB_o (by decide), kB_o (by decide), kB_o (by decide), kB_q]
      by_cases c : j < 8
      · rw [if_pos c, if_pos (by omega), kB_o (by omega), kB_o (by omega), kB_o (by omega), kB_o (by omega), kB_o (by omega)]
      · rw [if_neg c, if_neg (by omega), if_neg (by omega), if_neg (by omega), kB_o (by decide), kB_o (by decide), kB_o (by decide), kB_o (by decide), kB_o (by decide)]
    by_cases r4 : r = 51
    · subst r4
      rw [kB_o (by decide), kB_o (by decide), kB_o (by decide), kB_o (by decide), kB_o (by decide), kB_o (by decide), kB_q]
      by_cases c : j < 8
      · rw [if_pos c, if_pos (by omega), kB_o (by omega), kB_o (by omega), kB_o (by omega), kB_o (by omega)]
      · rw [if_neg c, if_neg (by omega), if_neg (by omega), if_neg (by omega), kB_o (by decide), kB_o (by decide), kB_o (by decide), kB_o (by decide)]
    by_cases r3 : r = 50
    · subst r3
      rw [kB_o (by decide), kB_o (by decide), kB_o (by decide), kB_o (by decide), kB_o (by decide), kB_o (by decide), kB_o (by decide), kB_q]
      by_cases c : j < 8
      · rw [if_pos c, if_pos (by omega), kB_o (by omega), kB_o (by omega), kB_o (by omega)]
      · rw [if_neg c, if_neg (by omega), if_neg (by omega), if_neg (by omega), kB_o (by decide), kB_o (by decide), kB_o (by decide)]
    by_cases r2 : r = 49
    · subst r2
      rw [kB_o (by decide), kB_o (by decide), kB_o (by decide), kB_o (by decide), kB_o (by decide), kB_o (by decide), kB_o (by decide), kB_o (by decide), kB_q]
      by_cases c : j < 8
      · rw [if_pos c, if_pos (by omega), kB_o (by omega), kB_o (by omega)]
      · rw [if_neg c, if_neg (by omega), if_neg (by omega), if_neg (by omega), kB_o (by decide), kB_o (by decide)]
    by_cases r1 : r = 48
    · subst r1
      rw [kB_o (by decide), kB_o (by decide), kB_o (by decide), kB_o (by decide), kB_o (by decide), kB_o (by decide), kB_o (by decide), kB_o (by decide), kB_o (by decide), kB_q]
      by_cases c : j < 8
      · rw [if_pos c, if_pos (by omega), kB_o (by omega)]
      · rw [if_neg c, if_neg (by omega), if_neg (by omega), if_neg (by omega), kB_o (by decide)]
    by_cases r0 : r = 47
    · subst r0
      rw [kB_o (by decide), kB_o (by decide), kB_o (by decide), kB_o (by decide), kB_o (by decide), kB_o (by decide), kB_o (by decide), kB_o (by decide), kB_o (by decide), kB_o (by decide), kB_q]
      by_cases c : j < 8
      · rw [if_pos c, if_pos (by omega)]
      · rw [if_neg c, if_neg (by omega), if_neg (by omega), if_neg (by omega)]
    rw [if_neg (by omega), if_neg (by omega), if_neg (by omega), kB_o r10, kB_o r9, kB_o r8, kB_o r7, kB_o r6, kB_o r5, kB_o r4, kB_o r3, kB_o r2, kB_o r1, kB_o r0]

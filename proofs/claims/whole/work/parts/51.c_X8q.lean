/-! CONTRACTS of the model: sharing -/
def updN (s : Nat → Nat) (i x : Nat) : Nat → Nat := fun j => if j = i then x else s j
def mNW (w : hW) : Nat := (w.1 45 2).toInt.toNat
def sF (w : hW) (s : Nat → Nat) : Nat → Int32 := fun i => if i < mNW w then nI (s i) else w.1 74 i
def shU (w : hW) (s : Nat → Nat) (g : Nat → Int32) (σ : (Nat → Int32) × Int32) : hW := wI (wA (wA (wA w 75 g) 74 (sF w s)) 76 σ.1) 45 46 σ.2
def woL (B : Nat → Int32) (s : Nat → Nat) (v : Nat → Int32) : Nat → Nat → Int32 → Int32
  | _, 0, a => a
  | i, r + 1, a => woL B s v (i + 1) r (if B (256 * i + s i) = 1 then a + v i else a)
def woW (w : hW) (s : Nat → Nat) : Int32 := woL (w.1 73) s (w.1 57) 0 (mNW w) 0
def shP (f : (Nat → Nat) → (Nat → Int32) → (Nat → Int32) × Int32 → (Nat → Int32) × ((Nat → Int32) × Int32)) (m : Nat) (s : Nat → Nat) : Nat → Nat → (Nat → Int32) × ((Nat → Int32) × Int32) → (Nat → Int32) × ((Nat → Int32) × Int32)
  | _, 0, x => x
  | i, k + 1, x => shP f m s (i + 1) k (f (updN s i (s i ||| 2 ^ m)) (upd x.1 m (nI i)) x.2)
def shT (n nw : Nat) (wo : (Nat → Nat) → Int32) : Nat → Nat → (Nat → Nat) → (Nat → Int32) → (Nat → Int32) × Int32 → (Nat → Int32) × ((Nat → Int32) × Int32)
  | 0, _, s, g, σ => (g, if σ.2 < wo s then (fun j => if j < n then g j else σ.1 j, wo s) else σ)
  | r + 1, m, s, g, σ => shP (shT n nw wo r (m + 1)) m s 0 nw (shT n nw wo r (m + 1) s (upd g m (-1)) σ)
theorem shU_o {w : hW} {s : Nat → Nat} {g : Nat → Int32} {σ : (Nat → Int32) × Int32} {q : Nat} (h1 : q ≠ 45) (h2 : q ≠ 74) (h3 : q ≠ 75) (h4 : q ≠ 76) : (shU w s g σ).1 q = w.1 q := by
  unfold shU
  rw [wI_q h1, wA_o h4, wA_o h2, wA_o h3]
theorem shU_f {w : hW} {s : Nat → Nat} {g : Nat → Int32} {σ : (Nat → Int32) × Int32} {j : Nat} (h : j ≠ 46) : (shU w s g σ).1 45 j = w.1 45 j := by
  unfold shU
  rw [wI_at h, wA_o (by decide), wA_o (by decide), wA_o (by decide)]
theorem shU_v {w : hW} {s : Nat → Nat} {g : Nat → Int32} {σ : (Nat → Int32) × Int32} : (shU w s g σ).1 45 46 = σ.2 := by
  unfold shU
  rw [wI_is]
theorem shU_g {w : hW} {s : Nat → Nat} {g : Nat → Int32} {σ : (Nat → Int32) × Int32} : (shU w s g σ).1 75 = g := by
  unfold shU
  rw [wI_q (by decide), wA_o (by decide), wA_o (by decide), wA_s]
theorem shU_s {w : hW} {s : Nat → Nat} {g : Nat → Int32} {σ : (Nat → Int32) × Int32} : (shU w s g σ).1 74 = sF w s := by
  unfold shU
  rw [wI_q (by decide), wA_o (by decide), wA_s]
theorem shU_b {w : hW} {s : Nat → Nat} {g : Nat → Int32} {σ : (Nat → Int32) × Int32} : (shU w s g σ).1 76 = σ.1 := by
  unfold shU
  rw [wI_q (by decide), wA_s]
theorem shU_ext {w : hW} {s : Nat → Nat} {g : Nat → Int32} {σ : (Nat → Int32) × Int32} {u : hW} (h0 : ∀ q, q ≠ 45 → q ≠ 74 → q ≠ 75 → q ≠ 76 → u.1 q = w.1 q) (h1 : ∀ j, j ≠ 46 → u.1 45 j = w.1 45 j) (h2 : u.1 45 46 = σ.2) (h3 : u.1 75 = g) (h4 : u.1 74 = sF w s) (h5 : u.1 76 = σ.1) (h6 : u.2 = w.2) : u = shU w s g σ := by
  refine Prod.ext (funext fun q => ?_) h6
  by_cases e1 : q = 45
  · subst e1
    funext j
    by_cases e : j = 46
    · subst e; rw [h2, shU_v]
    · rw [h1 j e, shU_f e]
  · by_cases e2 : q = 74
    · subst e2; rw [h4, shU_s]
    · by_cases e3 : q = 75
      · subst e3; rw [h3, shU_g]
      · by_cases e4 : q = 76
        · subst e4; rw [h5, shU_b]
        · rw [h0 q e1 e2 e3 e4, shU_o e1 e2 e3 e4]
theorem shU_ig {w : hW} {s : Nat → Nat} {g : Nat → Int32} {σ : (Nat → Int32) × Int32} {i : Nat} {x : Int32} : wI (shU w s g σ) 75 i x = shU w s (upd g i x) σ := by
  apply shU_ext
  · intro q a b c e; rw [wI_q c, shU_o a b c e]
  · intro j h; rw [wI_q (by decide), shU_f h]
  · rw [wI_q (by decide), shU_v]
  · rw [wI_A, wA_s, shU_g]
  · rw [wI_q (by decide), shU_s]
  · rw [wI_q (by decide), shU_b]
  · rfl
theorem shU_ib {w : hW} {s : Nat → Nat} {g : Nat → Int32} {σ : (Nat → Int32) × Int32} {i : Nat} {x : Int32} : wI (shU w s g σ) 76 i x = shU w s g (upd σ.1 i x, σ.2) := by
  apply shU_ext
  · intro q a b c e; rw [wI_q e, shU_o a b c e]
  · intro j h; rw [wI_q (by decide), shU_f h]
  · rw [wI_q (by decide), shU_v]
  · rw [wI_q (by decide), shU_g]
  · rw [wI_q (by decide), shU_s]
  · rw [wI_A, wA_s, shU_b]
  · rfl
theorem shU_iv {w : hW} {s : Nat → Nat} {g : Nat → Int32} {σ : (Nat → Int32) × Int32} {x : Int32} : wI (shU w s g σ) 45 46 x = shU w s g (σ.1, x) := by
  apply shU_ext
  · intro q a b c e; rw [wI_q a, shU_o a b c e]
  · intro j h; rw [wI_at h, shU_f h]
  · rw [wI_is]
  · rw [wI_q (by decide), shU_g]
  · rw [wI_q (by decide), shU_s]
  · rw [wI_q (by decide), shU_b]
  · rfl
theorem shU_is {w : hW} {s : Nat → Nat} {g : Nat → Int32} {σ : (Nat → Int32) × Int32} {i x : Nat} (hi : i < mNW w) : wI (shU w s g σ) 74 i (nI x) = shU w (updN s i x) g σ := by
  apply shU_ext
  · intro q a b c e; rw [wI_q b, shU_o a b c e]
  · intro j h; rw [wI_q (by decide), shU_f h]
  · rw [wI_q (by decide), shU_v]
  · rw [wI_q (by decide), shU_g]
  · rw [wI_A, wA_s, shU_s]
    funext j
    by_cases h : j = i
    · subst h; rw [upd_s]; simp [sF, updN, hi]
    · rw [upd_o h]; simp [sF, updN, h]
  · rw [wI_q (by decide), shU_b]
  · rfl
theorem updN_u {s : Nat → Nat} {i x y : Nat} : updN (updN s i x) i y = updN s i y := by
  funext j
  by_cases h : j = i <;> simp [updN, h]
theorem updN_id {s : Nat → Nat} {i : Nat} : updN s i (s i) = s := by
  funext j
  by_cases h : j = i <;> simp [updN, h]
theorem updN_s {s : Nat → Nat} {i x : Nat} : updN s i x i = x := by simp [updN]
theorem updN_o {s : Nat → Nat} {i x j : Nat} (h : j ≠ i) : updN s i x j = s j := by simp [updN, h]
theorem sb_or : ∀ S : Nat, S < 256 → ∀ i : Nat, i < 8 → nI S ||| (1 <<< (nI i &&& 31)) = nI (S ||| 2 ^ i) := by decide +kernel
theorem or_lt {S m : Nat} (h : S < 2 ^ m) : S ||| 2 ^ m < 2 ^ (m + 1) := Nat.or_lt_two_pow (Nat.lt_of_lt_of_le h (Nat.pow_le_pow_right (by decide) (by omega))) (Nat.pow_lt_pow_right (by decide) (by omega))
theorem clr_or : ∀ m : Nat, m < 8 → ∀ S : Nat, S < 2 ^ m → clr (S ||| 2 ^ m) m = S := by decide +kernel
section
variable {d : Nat} {w : hW} {Q : aPost}
theorem worT {s : Nat → Nat} {g : Nat → Int32} {σ : (Nat → Int32) × Int32} (hI : mI w) (hs : ∀ i, i < mNW w → s i < 256) : ∀ (r i : Nat) (a : Int32), i + r = mNW w → Tr d 217 4 [some (.ref 45), some (.int a), some (.int (nI i))] [] (shU w s g σ) Q = Q (some (.int (woL (w.1 73) s (w.1 57) i r a))) (shU w s g σ) := by
  have h4 := hI.2.2.1
  have k2 : (shU w s g σ).1 45 2 = w.1 45 2 := shU_f (by decide)
  have k73 : (shU w s g σ).1 73 = w.1 73 := shU_o (by decide) (by decide) (by decide) (by decide)
  have k57 : (shU w s g σ).1 57 = w.1 57 := shU_o (by decide) (by decide) (by decide) (by decide)
  have hm : mNW w ≤ 4 := by unfold mNW; omega
  intro r
  induction r with
  | zero =>
    intro i a hi
    have h1 : ¬ nI i < w.1 45 2 := by rw [nIlt (by omega)]; unfold mNW at hi; omega
    show Go d 217 4 _ _ _ _ = _
    simp only [s217_4, s217_5, s217_6, s217_9, s217_12, s217_13, s217_16, s217_19, s217_20, s217_21, s217_22, s217_25, s217_26, s217_27, s217_28, s217_29, s217_30, s217_33, s217_34, s217_35, s217_38, s217_39, s217_40, s217_41, s217_42, s217_45, s217_48, s217_49, gF_i, gF_r, gP_f, gP_t, aRd_1, aRd_4, aKd_e, oo_s, z0, z1, okP_n, okP_i, okP_r, vtl, vtn, true_and, and_true, bI_ite, bI_01, F8_7, F8_13, F8_16, F8_19, F8_23, F8_26, F8_29, F8_32, F8_35, F8_38, F8_41, F8_44, F8_47, F8_50, F8_53, F8_56, F8_59, F8_62, F8_65, F8_68, F8_72, F8_75, F8_78, F8_81, F8_84, F8_87, F8_90, F8_93, F8_96, F8_99, F8_102, F8_105, F8_108, F8_111, F8_114, F8_117, F8_171, F8_123, F8_126, F8_120, F8_162, F8_190, F8_184, F8_187, F8_181, F8_223, F8_200, F8_277, F8_304, F8_319, P8_7, P8_13, P8_16, P8_117, P8_171, P8_123, P8_126, P8_120, P8_162, P8_190, P8_184, P8_187, P8_181, P8_223, P8_200, P8_277, P8_304, P8_319, k2, h1, woL, decide_true, decide_false, not_true_eq_false, not_false_eq_true, Bool.and_true, Bool.true_and, Bool.and_false, Bool.false_and, Bool.or_true, Bool.true_or, Bool.or_false, Bool.false_or, Bool.not_true, Bool.not_false, ite_true, ite_false, if_true, if_false, Bool.false_eq_true, reduceIte, decide_not, and_true, true_and, and_false, false_and, or_true, true_or, or_false, false_or, not_false, not_true]
  | succ r ih =>
    intro i a hi
    have h1 : nI i < w.1 45 2 := by rw [nIlt (by omega)]; unfold mNW at hi; omega
    have hsi := hs i (by omega)
    have c1 := nI_cl (show i < 2 ^ 31 by omega)
    have c2 := nI_inb (show i < 2 ^ 31 by omega) (show i < 4 by omega)
    have hsF : sF w s i = nI (s i) := by unfold sF; rw [if_pos (by omega)]
    have hix : (256 : Int32) * nI i + nI (s i) = nI (256 * i + s i) := by
      have h : ∀ i : Nat, i < 4 → (256 : Int32) * nI i = nI (256 * i) := by decide +kernel
      rw [h i (by omega), nI_sum]
    have c3 := nI_cl (show 256 * i + s i < 2 ^ 31 by omega)
    have c4 := nI_inb (show 256 * i + s i < 2 ^ 31 by omega) (show 256 * i + s i < 1024 by omega)
    show Go d 217 4 _ _ _ _ = _
    unfold woL
    by_cases h2 : w.1 73 (256 * i + s i) = 1
    · rw [if_pos h2, ← ih (i + 1) _ (by omega)]
      simp only [s217_4, s217_5, s217_6, s217_9, s217_12, s217_13, s217_16, s217_19, s217_20, s217_21, s217_22, s217_25, s217_26, s217_27, s217_28, s217_29, s217_30, s217_33, s217_34, s217_35, s217_38, s217_39, s217_40, s217_41, s217_42, s217_45, s217_48, s217_49, gF_i, gF_r, gP_f, gP_t, aRd_1, aRd_4, aKd_e, oo_s, z0, z1, okP_n, okP_i, okP_r, vtl, vtn, true_and, and_true, bI_ite, bI_01, F8_7, F8_13, F8_16, F8_19, F8_23, F8_26, F8_29, F8_32, F8_35, F8_38, F8_41, F8_44, F8_47, F8_50, F8_53, F8_56, F8_59, F8_62, F8_65, F8_68, F8_72, F8_75, F8_78, F8_81, F8_84, F8_87, F8_90, F8_93, F8_96, F8_99, F8_102, F8_105, F8_108, F8_111, F8_114, F8_117, F8_171, F8_123, F8_126, F8_120, F8_162, F8_190, F8_184, F8_187, F8_181, F8_223, F8_200, F8_277, F8_304, F8_319, P8_7, P8_13, P8_16, P8_117, P8_171, P8_123, P8_126, P8_120, P8_162, P8_190, P8_184, P8_187, P8_181, P8_223, P8_200, P8_277, P8_304, P8_319, A_46, A_47, A_48, A_49, A_50, A_51, A_52, A_53, A_54, A_55, A_56, A_57, A_58, A_59, A_60, A_61, A_62, A_63, A_64, A_65, A_66, A_67, A_68, A_69, A_70, A_71, A_72, A_73, A_74, A_75, A_76, A_77, k2, k73, k57, h1, shU_s, c1, c2, hsF, hix, c3, c4, if_pos h2, nI_1, decide_true, decide_false, not_true_eq_false, not_false_eq_true, Bool.and_true, Bool.true_and, Bool.and_false, Bool.false_and, Bool.or_true, Bool.true_or, Bool.or_false, Bool.false_or, Bool.not_true, Bool.not_false, ite_true, ite_false, if_true, if_false, Bool.false_eq_true, reduceIte, decide_not, and_true, true_and, and_false, false_and, or_true, true_or, or_false, false_or, not_false, not_true]
    · rw [if_neg h2, ← ih (i + 1) _ (by omega)]
      simp only [s217_4, s217_5, s217_6, s217_9, s217_12, s217_13, s217_16, s217_19, s217_20, s217_21, s217_22, s217_25, s217_26, s217_27, s217_28, s217_29, s217_30, s217_33, s217_34, s217_35, s217_38, s217_39, s217_40, s217_41, s217_42, s217_45, s217_48, s217_49, gF_i, gF_r, gP_f, gP_t, aRd_1, aRd_4, aKd_e, oo_s, z0, z1, okP_n, okP_i, okP_r, vtl, vtn, true_and, and_true, bI_ite, bI_01, F8_7, F8_13, F8_16, F8_19, F8_23, F8_26, F8_29, F8_32, F8_35, F8_38, F8_41, F8_44, F8_47, F8_50, F8_53, F8_56, F8_59, F8_62, F8_65, F8_68, F8_72, F8_75, F8_78, F8_81, F8_84, F8_87, F8_90, F8_93, F8_96, F8_99, F8_102, F8_105, F8_108, F8_111, F8_114, F8_117, F8_171, F8_123, F8_126, F8_120, F8_162, F8_190, F8_184, F8_187, F8_181, F8_223, F8_200, F8_277, F8_304, F8_319, P8_7, P8_13, P8_16, P8_117, P8_171, P8_123, P8_126, P8_120, P8_162, P8_190, P8_184, P8_187, P8_181, P8_223, P8_200, P8_277, P8_304, P8_319, A_46, A_47, A_48, A_49, A_50, A_51, A_52, A_53, A_54, A_55, A_56, A_57, A_58, A_59, A_60, A_61, A_62, A_63, A_64, A_65, A_66, A_67, A_68, A_69, A_70, A_71, A_72, A_73, A_74, A_75, A_76, A_77, k2, k73, k57, h1, shU_s, c1, c2, hsF, hix, c3, c4, if_neg h2, nI_1, decide_true, decide_false, not_true_eq_false, not_false_eq_true, Bool.and_true, Bool.true_and, Bool.and_false, Bool.false_and, Bool.or_true, Bool.true_or, Bool.or_false, Bool.false_or, Bool.not_true, Bool.not_false, ite_true, ite_false, if_true, if_false, Bool.false_eq_true, reduceIte, decide_not, and_true, true_and, and_false, false_and, or_true, true_or, or_false, false_or, not_false, not_true]
theorem c8_worthOf {s : Nat → Nat} {g : Nat → Int32} {σ : (Nat → Int32) × Int32} (hI : mI w) (hs : ∀ i, i < mNW w → s i < 256) : Cl d 217 [.ref 45] (shU w s g σ) Q = Q (some (.int (woW w s))) (shU w s g σ) := by
  rw [Cl_go (L := [some (.ref 45), none, none]) rfl]
  have hh := worT (d := d) (Q := Q) (g := g) (σ := σ) hI hs (mNW w) 0 0 (by omega)
  rw [nI_0] at hh
  simp only [s217_0, s217_1, s217_2, s217_3, gF_i, gF_r, gP_f, gP_t, aRd_1, aRd_4, aKd_e, oo_s, z0, z1, okP_n, okP_i, okP_r, vtl, vtn, true_and, and_true, bI_ite, bI_01, hh]
  rfl
theorem shbT {s : Nat → Nat} {g : Nat → Int32} {v m is : Int32} (hI : mI w) : ∀ (k i : Nat) (b : Nat → Int32), i + k = mN w → Tr d 218 29 [some (.ref 45), some (.int m), some (.int is), some (.int (nI i))] [] (shU w s g (b, v)) Q = Q none (shU w s g (fun j => if i ≤ j ∧ j < mN w then g j else b j, v)) := by
  obtain ⟨e, h8⟩ := mN_nI hI
  have k1 : ∀ σ, (shU w s g σ).1 45 1 = nI (mN w) := fun σ => by rw [shU_f (by decide)]; exact e
  intro k
  induction k with
  | zero =>
    intro i b hi
    have h1 : ¬ nI i < nI (mN w) := by rw [nIlt (by omega), nI_toInt (by omega)]; omega
    have e2 : (fun j => if i ≤ j ∧ j < mN w then g j else b j) = b := funext fun j => by rw [if_neg (by omega)]
    rw [e2]
    show Go d 218 29 _ _ _ _ = _
    simp only [s218_29, s218_30, s218_31, s218_34, s218_37, s218_38, s218_41, s218_42, s218_43, s218_46, s218_47, s218_48, s218_49, s218_52, s218_55, gF_i, gF_r, gP_f, gP_t, aRd_1, aRd_4, aKd_e, oo_s, z0, z1, okP_n, okP_i, okP_r, vtl, vtn, true_and, and_true, bI_ite, bI_01, F8_7, F8_13, F8_16, F8_19, F8_23, F8_26, F8_29, F8_32, F8_35, F8_38, F8_41, F8_44, F8_47, F8_50, F8_53, F8_56, F8_59, F8_62, F8_65, F8_68, F8_72, F8_75, F8_78, F8_81, F8_84, F8_87, F8_90, F8_93, F8_96, F8_99, F8_102, F8_105, F8_108, F8_111, F8_114, F8_117, F8_171, F8_123, F8_126, F8_120, F8_162, F8_190, F8_184, F8_187, F8_181, F8_223, F8_200, F8_277, F8_304, F8_319, P8_7, P8_13, P8_16, P8_117, P8_171, P8_123, P8_126, P8_120, P8_162, P8_190, P8_184, P8_187, P8_181, P8_223, P8_200, P8_277, P8_304, P8_319, k1, h1, decide_true, decide_false, not_true_eq_false, not_false_eq_true, Bool.and_true, Bool.true_and, Bool.and_false, Bool.false_and, Bool.or_true, Bool.true_or, Bool.or_false, Bool.false_or, Bool.not_true, Bool.not_false, ite_true, ite_false, if_true, if_false, Bool.false_eq_true, reduceIte, decide_not, and_true, true_and, and_false, false_and, or_true, true_or, or_false, false_or, not_false, not_true]
  | succ k ih =>
    intro i b hi
    have h1 : nI i < nI (mN w) := by rw [nIlt (by omega), nI_toInt (by omega)]; omega
    have e2 : (fun j => if i ≤ j ∧ j < mN w then g j else b j) = (fun j => if i + 1 ≤ j ∧ j < mN w then g j else upd b i (g i) j) := by
      funext j
      by_cases hj : j = i
      · subst hj
        rw [if_pos (by omega), if_neg (by omega), upd_s]
      · rw [upd_o hj]
        by_cases h6 : i + 1 ≤ j ∧ j < mN w
        · rw [if_pos h6, if_pos (by omega)]
        · rw [if_neg h6, if_neg (by omega)]
    rw [e2, ← ih (i + 1) (upd b i (g i)) (by omega)]
    show Go d 218 29 _ _ _ _ = _
    simp only [s218_29, s218_30, s218_31, s218_34, s218_37, s218_38, s218_41, s218_42, s218_43, s218_46, s218_47, s218_48, s218_49, s218_52, s218_55, gF_i, gF_r, gP_f, gP_t, aRd_1, aRd_4, aKd_e, oo_s, z0, z1, okP_n, okP_i, okP_r, vtl, vtn, true_and, and_true, bI_ite, bI_01, F8_7, F8_13, F8_16, F8_19, F8_23, F8_26, F8_29, F8_32, F8_35, F8_38, F8_41, F8_44, F8_47, F8_50, F8_53, F8_56, F8_59, F8_62, F8_65, F8_68, F8_72, F8_75, F8_78, F8_81, F8_84, F8_87, F8_90, F8_93, F8_96, F8_99, F8_102, F8_105, F8_108, F8_111, F8_114, F8_117, F8_171, F8_123, F8_126, F8_120, F8_162, F8_190, F8_184, F8_187, F8_181, F8_223, F8_200, F8_277, F8_304, F8_319, P8_7, P8_13, P8_16, P8_117, P8_171, P8_123, P8_126, P8_120, P8_162, P8_190, P8_184, P8_187, P8_181, P8_223, P8_200, P8_277, P8_304, P8_319, A_46, A_47, A_48, A_49, A_50, A_51, A_52, A_53, A_54, A_55, A_56, A_57, A_58, A_59, A_60, A_61, A_62, A_63, A_64, A_65, A_66, A_67, A_68, A_69, A_70, A_71, A_72, A_73, A_74, A_75, A_76, A_77, k1, h1, nI_cl (show i < 2 ^ 31 by omega), nI_inb (show i < 2 ^ 31 by omega) (show i < 8 by omega), shU_g, shU_ib, nI_1, decide_true, decide_false, not_true_eq_false, not_false_eq_true, Bool.and_true, Bool.true_and, Bool.and_false, Bool.false_and, Bool.or_true, Bool.true_or, Bool.or_false, Bool.false_or, Bool.not_true, Bool.not_false, ite_true, ite_false, if_true, if_false, Bool.false_eq_true, reduceIte, decide_not, and_true, true_and, and_false, false_and, or_true, true_or, or_false, false_or, not_false, not_true]
theorem shwT {e m : Nat} (hI : mI w) (hm8 : m < 8) {s : Nat → Nat} (hs : ∀ i, i < mNW w → s i < 2 ^ m) {f : (Nat → Nat) → (Nat → Int32) → (Nat → Int32) × Int32 → (Nat → Int32) × ((Nat → Int32) × Int32)} (H : ∀ (s' : Nat → Nat) (g : Nat → Int32) (σ : (Nat → Int32) × Int32) (Q' : aPost), (∀ i, i < mNW w → s' i < 2 ^ (m + 1)) → Cl e 218 [.ref 45, .int (nI (m + 1))] (shU w s' g σ) Q' = Q' none (shU w s' (f s' g σ).1 (f s' g σ).2)) : ∀ (k i : Nat) (x : (Nat → Int32) × ((Nat → Int32) × Int32)) (a3 : Option Value), i + k = mNW w → Tr (e + 1) 218 72 [some (.ref 45), some (.int (nI m)), some (.int (nI i)), a3] [] (shU w s x.1 x.2) Q = Q none (shU w s (shP f m s i k x).1 (shP f m s i k x).2) := by
  have h4 := hI.2.2.1
  have k2 : ∀ s g σ, (shU w s g σ).1 45 2 = w.1 45 2 := fun s g σ => shU_f (by decide)
  have hm : mNW w ≤ 4 := by unfold mNW; omega
  have hp : 2 ^ m ≤ 256 := pw_le (by omega)
  intro k
  induction k with
  | zero =>
    intro i x a3 hi
    have h1 : ¬ nI i < w.1 45 2 := by rw [nIlt (by omega)]; unfold mNW at hi; omega
    show Go (e + 1) 218 72 _ _ _ _ = _
    simp only [s218_72, s218_73, s218_74, s218_77, s218_80, s218_81, s218_84, s218_85, s218_86, s218_87, s218_88, s218_91, s218_92, s218_93, s218_94, s218_95, s218_96, s218_97, s218_98, s218_99, s218_100, s218_101, s218_102, s218_103, s218_106, s218_107, s218_110, s218_111, s218_112, s218_113, s218_114, s218_115, s218_116, s218_117, s218_118, s218_119, s218_120, s218_123, s218_126, gF_i, gF_r, gP_f, gP_t, aRd_1, aRd_4, aKd_e, oo_s, z0, z1, okP_n, okP_i, okP_r, vtl, vtn, true_and, and_true, bI_ite, bI_01, F8_7, F8_13, F8_16, F8_19, F8_23, F8_26, F8_29, F8_32, F8_35, F8_38, F8_41, F8_44, F8_47, F8_50, F8_53, F8_56, F8_59, F8_62, F8_65, F8_68, F8_72, F8_75, F8_78, F8_81, F8_84, F8_87, F8_90, F8_93, F8_96, F8_99, F8_102, F8_105, F8_108, F8_111, F8_114, F8_117, F8_171, F8_123, F8_126, F8_120, F8_162, F8_190, F8_184, F8_187, F8_181, F8_223, F8_200, F8_277, F8_304, F8_319, P8_7, P8_13, P8_16, P8_117, P8_171, P8_123, P8_126, P8_120, P8_162, P8_190, P8_184, P8_187, P8_181, P8_223, P8_200, P8_277, P8_304, P8_319, k2, h1, shP, decide_true, decide_false, not_true_eq_false, not_false_eq_true, Bool.and_true, Bool.true_and, Bool.and_false, Bool.false_and, Bool.or_true, Bool.true_or, Bool.or_false, Bool.false_or, Bool.not_true, Bool.not_false, ite_true, ite_false, if_true, if_false, Bool.false_eq_true, reduceIte, decide_not, and_true, true_and, and_false, false_and, or_true, true_or, or_false, false_or, not_false, not_true]
  | succ k ih =>
    intro i x a3 hi
    have h1 : nI i < w.1 45 2 := by rw [nIlt (by omega)]; unfold mNW at hi; omega
    have hsi := hs i (by omega)
    have c1 := nI_cl (show i < 2 ^ 31 by omega)
    have c2 := nI_inb (show i < 2 ^ 31 by omega) (show i < 4 by omega)
    have c3 := nI_cl (show m < 2 ^ 31 by omega)
    have c4 := nI_inb (show m < 2 ^ 31 by omega) hm8
    have hsF : sF w s i = nI (s i) := by unfold sF; rw [if_pos (by omega)]
    have hso := sb_or (s i) (by omega) m hm8
    have hol := or_lt hsi
    have ho2 : s i ||| 2 ^ m < 256 := Nat.lt_of_lt_of_le hol (pw_le (n := m + 1) (by omega))
    have hsF2 : sF w (updN s i (s i ||| 2 ^ m)) i = nI (s i ||| 2 ^ m) := by unfold sF; rw [if_pos (by omega), updN_s]
    have hsc := sb_clr (s i ||| 2 ^ m) ho2 m hm8
    rw [clr_or m hm8 (s i) hsi] at hsc
    have hin : ∀ (x : (Nat → Int32) × ((Nat → Int32) × Int32)), wI (shU w s x.1 x.2) 75 m (nI i) = shU w s (upd x.1 m (nI i)) x.2 := fun x => shU_ig
    have hi2 : ∀ g σ x, wI (shU w s g σ) 74 i (nI x) = shU w (updN s i x) g σ := fun g σ x => shU_is (by omega)
    have hi3 : ∀ g σ, wI (shU w (updN s i (s i ||| 2 ^ m)) g σ) 74 i (nI (s i)) = shU w s g σ := fun g σ => by rw [shU_is (by omega), updN_u, updN_id]
    have hH := fun g σ Q' => H (updN s i (s i ||| 2 ^ m)) g σ Q' (fun j hj => by
      by_cases e : j = i
      · subst e; rw [updN_s]; exact hol
      · rw [updN_o e]; exact Nat.lt_of_lt_of_le (hs j hj) (Nat.pow_le_pow_right (by decide) (by omega)))
    rw [shP, ← ih (i + 1) _ a3 (by omega)]
    show Go (e + 1) 218 72 _ _ _ _ = _
    simp only [s218_72, s218_73, s218_74, s218_77, s218_80, s218_81, s218_84, s218_85, s218_86, s218_87, s218_88, s218_91, s218_92, s218_93, s218_94, s218_95, s218_96, s218_97, s218_98, s218_99, s218_100, s218_101, s218_102, s218_103, s218_106, s218_107, s218_110, s218_111, s218_112, s218_113, s218_114, s218_115, s218_116, s218_117, s218_118, s218_119, s218_120, s218_123, s218_126, gF_i, gF_r, gP_f, gP_t, aRd_1, aRd_4, aKd_e, oo_s, z0, z1, okP_n, okP_i, okP_r, vtl, vtn, true_and, and_true, bI_ite, bI_01, F8_7, F8_13, F8_16, F8_19, F8_23, F8_26, F8_29, F8_32, F8_35, F8_38, F8_41, F8_44, F8_47, F8_50, F8_53, F8_56, F8_59, F8_62, F8_65, F8_68, F8_72, F8_75, F8_78, F8_81, F8_84, F8_87, F8_90, F8_93, F8_96, F8_99, F8_102, F8_105, F8_108, F8_111, F8_114, F8_117, F8_171, F8_123, F8_126, F8_120, F8_162, F8_190, F8_184, F8_187, F8_181, F8_223, F8_200, F8_277, F8_304, F8_319, P8_7, P8_13, P8_16, P8_117, P8_171, P8_123, P8_126, P8_120, P8_162, P8_190, P8_184, P8_187, P8_181, P8_223, P8_200, P8_277, P8_304, P8_319, A_46, A_47, A_48, A_49, A_50, A_51, A_52, A_53, A_54, A_55, A_56, A_57, A_58, A_59, A_60, A_61, A_62, A_63, A_64, A_65, A_66, A_67, A_68, A_69, A_70, A_71, A_72, A_73, A_74, A_75, A_76, A_77, cs_n, Nat.zero_le, cs_i, cs_r, cs_l, Nat.reduceAdd, Nat.reduceLeDiff, R_8, k2, h1, c1, c2, c3, c4, shU_s, hsF, hso, hsF2, hsc, hin, hi2, hi3, hH, nI_1, decide_true, decide_false, not_true_eq_false, not_false_eq_true, Bool.and_true, Bool.true_and, Bool.and_false, Bool.false_and, Bool.or_true, Bool.true_or, Bool.or_false, Bool.false_or, Bool.not_true, Bool.not_false, ite_true, ite_false, if_true, if_false, Bool.false_eq_true, reduceIte, decide_not, and_true, true_and, and_false, false_and, or_true, true_or, or_false, false_or, not_false, not_true]
theorem shaC (hI : mI w) : ∀ (r e m : Nat) (s : Nat → Nat) (g : Nat → Int32) (σ : (Nat → Int32) × Int32) (Q : aPost), r + 1 ≤ e → m + r = mN w → (∀ i, i < mNW w → s i < 2 ^ m) → Cl e 218 [.ref 45, .int (nI m)] (shU w s g σ) Q = Q none (shU w s (shT (mN w) (mNW w) (woW w) r m s g σ).1 (shT (mN w) (mNW w) (woW w) r m s g σ).2) := by
  obtain ⟨en, h8⟩ := mN_nI hI
  have k1 : ∀ s g σ, (shU w s g σ).1 45 1 = nI (mN w) := fun s g σ => by rw [shU_f (by decide)]; exact en
  intro r
  induction r with
  | zero =>
    intro e m s g σ Q he hm hs
    obtain ⟨e, rfl⟩ : ∃ e', e = e' + 1 := ⟨e - 1, by omega⟩
    have hmn : m = mN w := by omega
    subst hmn
    have hs2 : ∀ i, i < mNW w → s i < 256 := fun i hi => Nat.lt_of_lt_of_le (hs i hi) (pw_le h8)
    rw [Cl_go (L := [some (.ref 45), some (.int (nI (mN w))), none, none]) rfl]
    unfold shT
    by_cases h1 : σ.2 < woW w s
    · have hh := shbT (d := e + 1) (Q := Q) (s := s) (g := g) (v := woW w s) (m := nI (mN w)) (is := woW w s) hI (mN w) 0 σ.1 (by omega)
      rw [nI_0] at hh
      rw [if_pos h1]
      simp only [s218_0, s218_1, s218_2, s218_5, s218_8, s218_9, s218_12, s218_13, s218_14, s218_15, s218_18, s218_21, s218_22, s218_23, s218_24, s218_27, s218_28, gF_i, gF_r, gP_f, gP_t, aRd_1, aRd_4, aKd_e, oo_s, z0, z1, okP_n, okP_i, okP_r, vtl, vtn, true_and, and_true, bI_ite, bI_01, F8_7, F8_13, F8_16, F8_19, F8_23, F8_26, F8_29, F8_32, F8_35, F8_38, F8_41, F8_44, F8_47, F8_50, F8_53, F8_56, F8_59, F8_62, F8_65, F8_68, F8_72, F8_75, F8_78, F8_81, F8_84, F8_87, F8_90, F8_93, F8_96, F8_99, F8_102, F8_105, F8_108, F8_111, F8_114, F8_117, F8_171, F8_123, F8_126, F8_120, F8_162, F8_190, F8_184, F8_187, F8_181, F8_223, F8_200, F8_277, F8_304, F8_319, P8_7, P8_13, P8_16, P8_117, P8_171, P8_123, P8_126, P8_120, P8_162, P8_190, P8_184, P8_187, P8_181, P8_223, P8_200, P8_277, P8_304, P8_319, cs_n, Nat.zero_le, cs_i, cs_r, cs_l, Nat.reduceAdd, Nat.reduceLeDiff, R_8, k1, c8_worthOf hI hs2, shU_v, h1, shU_iv, hh, decide_true, decide_false, not_true_eq_false, not_false_eq_true, Bool.and_true, Bool.true_and, Bool.and_false, Bool.false_and, Bool.or_true, Bool.true_or, Bool.or_false, Bool.false_or, Bool.not_true, Bool.not_false, ite_true, ite_false, if_true, if_false, Bool.false_eq_true, reduceIte, decide_not, and_true, true_and, and_false, false_and, or_true, true_or, or_false, false_or, not_false, not_true]
    · rw [if_neg h1]
      simp only [s218_0, s218_1, s218_2, s218_5, s218_8, s218_9, s218_12, s218_13, s218_14, s218_15, s218_18, s218_21, s218_22, s218_23, s218_24, s218_27, s218_28, gF_i, gF_r, gP_f, gP_t, aRd_1, aRd_4, aKd_e, oo_s, z0, z1, okP_n, okP_i, okP_r, vtl, vtn, true_and, and_true, bI_ite, bI_01, F8_7, F8_13, F8_16, F8_19, F8_23, F8_26, F8_29, F8_32, F8_35, F8_38, F8_41, F8_44, F8_47, F8_50, F8_53, F8_56, F8_59, F8_62, F8_65, F8_68, F8_72, F8_75, F8_78, F8_81, F8_84, F8_87, F8_90, F8_93, F8_96, F8_99, F8_102, F8_105, F8_108, F8_111, F8_114, F8_117, F8_171, F8_123, F8_126, F8_120, F8_162, F8_190, F8_184, F8_187, F8_181, F8_223, F8_200, F8_277, F8_304, F8_319, P8_7, P8_13, P8_16, P8_117, P8_171, P8_123, P8_126, P8_120, P8_162, P8_190, P8_184, P8_187, P8_181, P8_223, P8_200, P8_277, P8_304, P8_319, cs_n, Nat.zero_le, cs_i, cs_r, cs_l, Nat.reduceAdd, Nat.reduceLeDiff, R_8, k1, c8_worthOf hI hs2, shU_v, h1, decide_true, decide_false, not_true_eq_false, not_false_eq_true, Bool.and_true, Bool.true_and, Bool.and_false, Bool.false_and, Bool.or_true, Bool.true_or, Bool.or_false, Bool.false_or, Bool.not_true, Bool.not_false, ite_true, ite_false, if_true, if_false, Bool.false_eq_true, reduceIte, decide_not, and_true, true_and, and_false, false_and, or_true, true_or, or_false, false_or, not_false, not_true]
  | succ r ih =>
    intro e m s g σ Q he hm hs
    obtain ⟨e, rfl⟩ : ∃ e', e = e' + 1 := ⟨e - 1, by omega⟩
    have hne : ¬ nI m = nI (mN w) := by rw [nI_e (by omega) (by omega)]; omega
    have c3 := nI_cl (show m < 2 ^ 31 by omega)
    have c4 := nI_inb (show m < 2 ^ 31 by omega) (show m < 8 by omega)
    have hs2 : ∀ i, i < mNW w → s i < 2 ^ (m + 1) := fun i hi => Nat.lt_of_lt_of_le (hs i hi) (Nat.pow_le_pow_right (by decide) (by omega))
    have h1 := fun g σ Q => ih e (m + 1) s g σ Q (by omega) (by omega) hs2
    have h2 := fun x a3 => shwT (e := e) (Q := Q) (m := m) hI (by omega) hs (fun s' g σ Q' hs' => ih e (m + 1) s' g σ Q' (by omega) (by omega) hs') (mNW w) 0 x a3 (by omega)
    simp only [nI_0] at h2
    rw [Cl_go (L := [some (.ref 45), some (.int (nI m)), none, none]) rfl]
    unfold shT
    simp only [s218_0, s218_1, s218_2, s218_5, s218_56, s218_57, s218_60, s218_61, s218_62, s218_63, s218_64, s218_65, s218_66, s218_67, s218_70, s218_71, gF_i, gF_r, gP_f, gP_t, aRd_1, aRd_4, aKd_e, oo_s, z0, z1, okP_n, okP_i, okP_r, vtl, vtn, true_and, and_true, bI_ite, bI_01, F8_7, F8_13, F8_16, F8_19, F8_23, F8_26, F8_29, F8_32, F8_35, F8_38, F8_41, F8_44, F8_47, F8_50, F8_53, F8_56, F8_59, F8_62, F8_65, F8_68, F8_72, F8_75, F8_78, F8_81, F8_84, F8_87, F8_90, F8_93, F8_96, F8_99, F8_102, F8_105, F8_108, F8_111, F8_114, F8_117, F8_171, F8_123, F8_126, F8_120, F8_162, F8_190, F8_184, F8_187, F8_181, F8_223, F8_200, F8_277, F8_304, F8_319, P8_7, P8_13, P8_16, P8_117, P8_171, P8_123, P8_126, P8_120, P8_162, P8_190, P8_184, P8_187, P8_181, P8_223, P8_200, P8_277, P8_304, P8_319, A_46, A_47, A_48, A_49, A_50, A_51, A_52, A_53, A_54, A_55, A_56, A_57, A_58, A_59, A_60, A_61, A_62, A_63, A_64, A_65, A_66, A_67, A_68, A_69, A_70, A_71, A_72, A_73, A_74, A_75, A_76, A_77, cs_n, Nat.zero_le, cs_i, cs_r, cs_l, Nat.reduceAdd, Nat.reduceLeDiff, R_8, k1, if_neg hne, c3, c4, shU_ig, nI_1, h1, h2, decide_true, decide_false, not_true_eq_false, not_false_eq_true, Bool.and_true, Bool.true_and, Bool.and_false, Bool.false_and, Bool.or_true, Bool.true_or, Bool.or_false, Bool.false_or, Bool.not_true, Bool.not_false, ite_true, ite_false, if_true, if_false, Bool.false_eq_true, reduceIte, decide_not, and_true, true_and, and_false, false_and, or_true, true_or, or_false, false_or, not_false, not_true]
end

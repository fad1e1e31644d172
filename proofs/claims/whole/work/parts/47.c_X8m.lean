/-! CONTRACTS of the model: handovers -/
def hoI (V : Nat → Int32) (f : Int32) (m : Nat) : Nat → Nat → Int32 → Int32
  | _, 0, b => b
  | l, r + 1, b => hoI V f m (l + 1) r (if l = m then b else if V l = -1 then b else if b < V l + f then V l + f else b)
def hoM (F : Nat → Int32) (p : Int32) (V : Nat → Int32) : Nat → Nat → (Nat → Int32) → Bool × (Nat → Int32)
  | _, 0, T => (false, T)
  | m, r + 1, T => if F m = 0 then hoM F p V (m + 1) r T else if hoI V (F m) m 0 9 (T m) < p then hoM F p V (m + 1) r (upd T m (hoI V (F m) m 0 9 (T m))) else (true, upd T m (hoI V (F m) m 0 9 (T m)))
def lo9 (f g : Nat → Int32) : Nat → Int32 := fun j => if j < 9 then f j else g j
def hoK (F : Nat → Int32) (p : Int32) (n : Nat) : Nat → Nat → (Nat → Int32) → (Nat → Int32) → Option Nat × (Nat → Int32) × (Nat → Int32)
  | 0, _, V, T => (none, V, T)
  | r + 1, k, V, T => if (hoM F p V 0 n (lo9 (fun _ => -1) T)).1 = true then (some k, V, (hoM F p V 0 n (lo9 (fun _ => -1) T)).2) else hoK F p n r (k + 1) (lo9 (hoM F p V 0 n (lo9 (fun _ => -1) T)).2 V) (hoM F p V 0 n (lo9 (fun _ => -1) T)).2
def hoW (w : hW) (V T : Nat → Int32) : hW := wA (wA w 71 V) 72 T
def hoF (w : hW) (t : Int32) (m : Nat) : Int32 := mFar w (nI m) t
def hoV (w : hW) (t : Int32) : Nat → Int32 := upd (lo9 (fun _ => -1) (w.1 71)) (if w.1 51 t.toNatClampNeg = -1 then 8 else (w.1 51 t.toNatClampNeg).toNatClampNeg) (w.1 50 t.toNatClampNeg)
def mHan (w : hW) (t p : Int32) : Int32 × hW := if mThing w t then (if mOn w t p then (oI (hoK (hoF w t) p (mN w) 99 1 (hoV w t) (w.1 72)).1, hoW w (hoK (hoF w t) p (mN w) 99 1 (hoV w t) (w.1 72)).2.1 (hoK (hoF w t) p (mN w) 99 1 (hoV w t) (w.1 72)).2.2) else (-16, mNo w (-6))) else (-11, mNo w (-1))
theorem hoW_o {w : hW} {V T : Nat → Int32} {q : Nat} (h : q ≠ 71) (h2 : q ≠ 72) : (hoW w V T).1 q = w.1 q := by unfold hoW; rw [wA_o h2, wA_o h]
theorem hoW_45 {w : hW} {V T : Nat → Int32} : (hoW w V T).1 45 = w.1 45 := hoW_o (by decide) (by decide)
theorem hoW_V {w : hW} {V T : Nat → Int32} : (hoW w V T).1 71 = V := by unfold hoW; rw [wA_o (by decide), wA_s]
theorem hoW_T {w : hW} {V T : Nat → Int32} : (hoW w V T).1 72 = T := by unfold hoW; rw [wA_s]
theorem hoW_iT {w : hW} {V T : Nat → Int32} {i : Nat} {x : Int32} : wI (hoW w V T) 72 i x = hoW w V (upd T i x) := by rw [wI_A, hoW_T]; unfold hoW; rw [wA_wA]
theorem hoW_iV {w : hW} {V T : Nat → Int32} {i : Nat} {x : Int32} : wI (hoW w V T) 71 i x = hoW w (upd V i x) T := by
  rw [wI_A, hoW_V]
  unfold hoW
  refine Prod.ext (funext fun r => ?_) rfl
  by_cases h : r = 71
  · subst h; simp [wA]
  · simp [wA, h]
theorem hoW_id {w : hW} : hoW w (w.1 71) (w.1 72) = w := by
  unfold hoW
  rw [wA_id, wA_id]
theorem nI_l9 {i : Nat} (h : i < 2 ^ 31) : nI i < 9 ↔ i < 9 := by rw [nIlt h, show (9 : Int32).toInt = 9 from rfl]; omega
theorem nI_e {a b : Nat} (ha : a < 2 ^ 31) (hb : b < 2 ^ 31) : nI a = nI b ↔ a = b := by rw [i32_eq, nI_toInt ha, nI_toInt hb]; omega
theorem upd_u {T : Nat → Int32} {i : Nat} {x y : Int32} : upd (upd T i x) i y = upd T i y := by
  funext j
  by_cases h : j = i
  · subst h; rw [upd_s, upd_s]
  · rw [upd_o h, upd_o h, upd_o h]
theorem upd_id {T : Nat → Int32} {i : Nat} : upd T i (T i) = T := by
  funext j
  by_cases h : j = i
  · subst h; rw [upd_s]
  · rw [upd_o h]
theorem lo9_s {f g : Nat → Int32} {i : Nat} (hi : i < 9) : (fun j => if i + 1 ≤ j ∧ j < 9 then f j else upd g i (f i) j) = (fun j => if i ≤ j ∧ j < 9 then f j else g j) := by
  funext j
  by_cases h : j = i
  · subst h
    rw [if_neg (by omega), if_pos (by omega), upd_s]
  · rw [upd_o h]
    by_cases h2 : i + 1 ≤ j ∧ j < 9
    · rw [if_pos h2, if_pos (by omega)]
    · rw [if_neg h2, if_neg (by omega)]
theorem lo9_0 {f g : Nat → Int32} : (fun j => if 0 ≤ j ∧ j < 9 then f j else g j) = lo9 f g := by
  funext j
  simp [lo9]
theorem lo9_9 {f g : Nat → Int32} {i : Nat} (h : 9 ≤ i) : (fun j => if i ≤ j ∧ j < 9 then f j else g j) = g := by
  funext j
  rw [if_neg (by omega)]
section
variable {d : Nat} {w : hW} {Q : aPost}
theorem han1 {t p : Int32} {a4 a5 a6 : Option Value} : ∀ (r i : Nat) (V T : Nat → Int32), i + r = 9 → Tr d 216 32 [some (.ref 45), some (.int t), some (.int p), some (.int (nI i)), a4, a5, a6] [] (hoW w V T) Q = Go d 216 51 [some (.ref 45), some (.int t), some (.int p), some (.int (nI 9)), a4, a5, a6] [] (hoW w (fun j => if i ≤ j ∧ j < 9 then -1 else V j) T) Q := by
  intro r
  induction r with
  | zero =>
    intro i V T hi
    have hi2 : i = 9 := by omega
    subst hi2
    have h1 : ¬ nI 9 < 9 := by decide
    show Go d 216 32 _ _ _ _ = _
    simp only [s216_32, s216_33, s216_35, s216_38, s216_39, s216_42, s216_43, s216_44, s216_45, s216_48, gF_i, gF_r, gP_f, gP_t, aRd_1, aRd_4, aKd_e, oo_s, z0, z1, okP_n, okP_i, okP_r, vtl, vtn, true_and, and_true, bI_ite, bI_01, h1, lo9_9 (f := fun _ => -1) (g := V) (Nat.le_refl 9), decide_true, decide_false, not_true_eq_false, not_false_eq_true, Bool.and_true, Bool.true_and, Bool.and_false, Bool.false_and, Bool.or_true, Bool.true_or, Bool.or_false, Bool.false_or, Bool.not_true, Bool.not_false, ite_true, ite_false, if_true, if_false, Bool.false_eq_true, reduceIte, decide_not, and_true, true_and, and_false, false_and, or_true, true_or, or_false, false_or, not_false, not_true]
  | succ r ih =>
    intro i V T hi
    have h1 : nI i < 9 := by rw [nI_l9 (by omega)]; omega
    have hs := lo9_s (f := fun _ => -1) (g := V) (i := i) (by omega)
    show Go d 216 32 _ _ _ _ = _
    simp only [s216_32, s216_33, s216_35, s216_38, s216_39, s216_42, s216_43, s216_44, s216_45, s216_48, gF_i, gF_r, gP_f, gP_t, aRd_1, aRd_4, aKd_e, oo_s, z0, z1, okP_n, okP_i, okP_r, vtl, vtn, true_and, and_true, bI_ite, bI_01, F8_7, F8_13, F8_16, F8_19, F8_23, F8_26, F8_29, F8_32, F8_35, F8_38, F8_41, F8_44, F8_47, F8_50, F8_53, F8_56, F8_59, F8_62, F8_65, F8_68, F8_72, F8_75, F8_78, F8_81, F8_84, F8_87, F8_90, F8_93, F8_96, F8_99, F8_102, F8_105, F8_108, F8_111, F8_114, F8_117, F8_171, F8_123, F8_126, F8_120, F8_162, F8_190, F8_184, F8_187, F8_181, F8_223, F8_200, F8_277, F8_304, F8_319, P8_7, P8_13, P8_16, P8_117, P8_171, P8_123, P8_126, P8_120, P8_162, P8_190, P8_184, P8_187, P8_181, P8_223, P8_200, P8_277, P8_304, P8_319, A_46, A_47, A_48, A_49, A_50, A_51, A_52, A_53, A_54, A_55, A_56, A_57, A_58, A_59, A_60, A_61, A_62, A_63, A_64, A_65, A_66, A_67, A_68, A_69, A_70, A_71, A_72, A_73, A_74, A_75, A_76, A_77, h1, hoW_iV, nI_cl (show i < 2 ^ 31 by omega), nI_inb (show i < 2 ^ 31 by omega) (show i < 9 by omega), nI_1, ih (i + 1) _ _ (by omega), hs, decide_true, decide_false, not_true_eq_false, not_false_eq_true, Bool.and_true, Bool.true_and, Bool.and_false, Bool.false_and, Bool.or_true, Bool.true_or, Bool.or_false, Bool.false_or, Bool.not_true, Bool.not_false, ite_true, ite_false, if_true, if_false, Bool.false_eq_true, reduceIte, decide_not, and_true, true_and, and_false, false_and, or_true, true_or, or_false, false_or, not_false, not_true]
theorem han2 {t p k : Int32} {a5 a6 : Option Value} : ∀ (r i : Nat) (V T : Nat → Int32), i + r = 9 → Tr d 216 94 [some (.ref 45), some (.int t), some (.int p), some (.int k), some (.int (nI i)), a5, a6] [] (hoW w V T) Q = Tr d 216 118 [some (.ref 45), some (.int t), some (.int p), some (.int k), some (.int 0), a5, a6] [] (hoW w V (fun j => if i ≤ j ∧ j < 9 then -1 else T j)) Q := by
  intro r
  induction r with
  | zero =>
    intro i V T hi
    have hi2 : i = 9 := by omega
    subst hi2
    have h1 : ¬ nI 9 < 9 := by decide
    show Go d 216 94 _ _ _ _ = _
    simp only [s216_94, s216_96, s216_98, s216_101, s216_102, s216_105, s216_107, s216_108, s216_109, s216_112, s216_115, s216_116, gF_i, gF_r, gP_f, gP_t, aRd_1, aRd_4, aKd_e, oo_s, z0, z1, okP_n, okP_i, okP_r, vtl, vtn, true_and, and_true, bI_ite, bI_01, h1, lo9_9 (f := fun _ => -1) (g := T) (Nat.le_refl 9), decide_true, decide_false, not_true_eq_false, not_false_eq_true, Bool.and_true, Bool.true_and, Bool.and_false, Bool.false_and, Bool.or_true, Bool.true_or, Bool.or_false, Bool.false_or, Bool.not_true, Bool.not_false, ite_true, ite_false, if_true, if_false, Bool.false_eq_true, reduceIte, decide_not, and_true, true_and, and_false, false_and, or_true, true_or, or_false, false_or, not_false, not_true]
  | succ r ih =>
    intro i V T hi
    have h1 : nI i < 9 := by rw [nI_l9 (by omega)]; omega
    have hs := lo9_s (f := fun _ => -1) (g := T) (i := i) (by omega)
    show Go d 216 94 _ _ _ _ = _
    simp only [s216_94, s216_96, s216_98, s216_101, s216_102, s216_105, s216_107, s216_108, s216_109, s216_112, s216_115, s216_116, gF_i, gF_r, gP_f, gP_t, aRd_1, aRd_4, aKd_e, oo_s, z0, z1, okP_n, okP_i, okP_r, vtl, vtn, true_and, and_true, bI_ite, bI_01, F8_7, F8_13, F8_16, F8_19, F8_23, F8_26, F8_29, F8_32, F8_35, F8_38, F8_41, F8_44, F8_47, F8_50, F8_53, F8_56, F8_59, F8_62, F8_65, F8_68, F8_72, F8_75, F8_78, F8_81, F8_84, F8_87, F8_90, F8_93, F8_96, F8_99, F8_102, F8_105, F8_108, F8_111, F8_114, F8_117, F8_171, F8_123, F8_126, F8_120, F8_162, F8_190, F8_184, F8_187, F8_181, F8_223, F8_200, F8_277, F8_304, F8_319, P8_7, P8_13, P8_16, P8_117, P8_171, P8_123, P8_126, P8_120, P8_162, P8_190, P8_184, P8_187, P8_181, P8_223, P8_200, P8_277, P8_304, P8_319, A_46, A_47, A_48, A_49, A_50, A_51, A_52, A_53, A_54, A_55, A_56, A_57, A_58, A_59, A_60, A_61, A_62, A_63, A_64, A_65, A_66, A_67, A_68, A_69, A_70, A_71, A_72, A_73, A_74, A_75, A_76, A_77, h1, hoW_iT, nI_cl (show i < 2 ^ 31 by omega), nI_inb (show i < 2 ^ 31 by omega) (show i < 9 by omega), nI_1, ih (i + 1) _ _ (by omega), hs, decide_true, decide_false, not_true_eq_false, not_false_eq_true, Bool.and_true, Bool.true_and, Bool.and_false, Bool.false_and, Bool.or_true, Bool.true_or, Bool.or_false, Bool.false_or, Bool.not_true, Bool.not_false, ite_true, ite_false, if_true, if_false, Bool.false_eq_true, reduceIte, decide_not, and_true, true_and, and_false, false_and, or_true, true_or, or_false, false_or, not_false, not_true]
theorem han5 {t p k : Int32} {a5 a6 : Option Value} : ∀ (r i : Nat) (V T : Nat → Int32), i + r = 9 → Tr d 216 240 [some (.ref 45), some (.int t), some (.int p), some (.int k), some (.int (nI i)), a5, a6] [] (hoW w V T) Q = Tr d 216 85 [some (.ref 45), some (.int t), some (.int p), some (.int (k + 1)), some (.int (nI 9)), a5, a6] [] (hoW w (fun j => if i ≤ j ∧ j < 9 then T j else V j) T) Q := by
  intro r
  induction r with
  | zero =>
    intro i V T hi
    have hi2 : i = 9 := by omega
    subst hi2
    have h1 : ¬ nI 9 < 9 := by decide
    show Go d 216 240 _ _ _ _ = _
    simp only [s216_240, s216_242, s216_244, s216_247, s216_248, s216_251, s216_253, s216_254, s216_257, s216_259, s216_260, s216_261, s216_264, s216_267, s216_270, gF_i, gF_r, gP_f, gP_t, aRd_1, aRd_4, aKd_e, oo_s, z0, z1, okP_n, okP_i, okP_r, vtl, vtn, true_and, and_true, bI_ite, bI_01, h1, lo9_9 (f := T) (g := V) (Nat.le_refl 9), decide_true, decide_false, not_true_eq_false, not_false_eq_true, Bool.and_true, Bool.true_and, Bool.and_false, Bool.false_and, Bool.or_true, Bool.true_or, Bool.or_false, Bool.false_or, Bool.not_true, Bool.not_false, ite_true, ite_false, if_true, if_false, Bool.false_eq_true, reduceIte, decide_not, and_true, true_and, and_false, false_and, or_true, true_or, or_false, false_or, not_false, not_true]
  | succ r ih =>
    intro i V T hi
    have h1 : nI i < 9 := by rw [nI_l9 (by omega)]; omega
    have hs := lo9_s (f := T) (g := V) (i := i) (by omega)
    show Go d 216 240 _ _ _ _ = _
    simp only [s216_240, s216_242, s216_244, s216_247, s216_248, s216_251, s216_253, s216_254, s216_257, s216_259, s216_260, s216_261, s216_264, s216_267, s216_270, gF_i, gF_r, gP_f, gP_t, aRd_1, aRd_4, aKd_e, oo_s, z0, z1, okP_n, okP_i, okP_r, vtl, vtn, true_and, and_true, bI_ite, bI_01, F8_7, F8_13, F8_16, F8_19, F8_23, F8_26, F8_29, F8_32, F8_35, F8_38, F8_41, F8_44, F8_47, F8_50, F8_53, F8_56, F8_59, F8_62, F8_65, F8_68, F8_72, F8_75, F8_78, F8_81, F8_84, F8_87, F8_90, F8_93, F8_96, F8_99, F8_102, F8_105, F8_108, F8_111, F8_114, F8_117, F8_171, F8_123, F8_126, F8_120, F8_162, F8_190, F8_184, F8_187, F8_181, F8_223, F8_200, F8_277, F8_304, F8_319, P8_7, P8_13, P8_16, P8_117, P8_171, P8_123, P8_126, P8_120, P8_162, P8_190, P8_184, P8_187, P8_181, P8_223, P8_200, P8_277, P8_304, P8_319, A_46, A_47, A_48, A_49, A_50, A_51, A_52, A_53, A_54, A_55, A_56, A_57, A_58, A_59, A_60, A_61, A_62, A_63, A_64, A_65, A_66, A_67, A_68, A_69, A_70, A_71, A_72, A_73, A_74, A_75, A_76, A_77, h1, hoW_T, hoW_iV, nI_cl (show i < 2 ^ 31 by omega), nI_inb (show i < 2 ^ 31 by omega) (show i < 9 by omega), nI_1, ih (i + 1) _ _ (by omega), hs, decide_true, decide_false, not_true_eq_false, not_false_eq_true, Bool.and_true, Bool.true_and, Bool.and_false, Bool.false_and, Bool.or_true, Bool.true_or, Bool.or_false, Bool.false_or, Bool.not_true, Bool.not_false, ite_true, ite_false, if_true, if_false, Bool.false_eq_true, reduceIte, decide_not, and_true, true_and, and_false, false_and, or_true, true_or, or_false, false_or, not_false, not_true]
theorem han4 {t p k f : Int32} {m : Nat} (hm : m < 8) {V : Nat → Int32} (R : (Nat → Int32) → Prop) (H : ∀ T, Go d 216 218 [some (.ref 45), some (.int t), some (.int p), some (.int k), some (.int (nI m)), some (.int f), some (.int (nI 9))] [] (hoW w V T) Q = R T) : ∀ (r l : Nat) (T : Nat → Int32), l + r = 9 → Tr d 216 147 [some (.ref 45), some (.int t), some (.int p), some (.int k), some (.int (nI m)), some (.int f), some (.int (nI l))] [] (hoW w V T) Q = R (upd T m (hoI V f m l r (T m))) := by
  intro r
  induction r with
  | zero =>
    intro l T hl
    have hi2 : l = 9 := by omega
    subst hi2
    have h1 : ¬ nI 9 < 9 := by decide
    show Go d 216 147 _ _ _ _ = _
    unfold hoI
    rw [upd_id, ← H]
    simp only [s216_147, s216_149, s216_151, s216_154, s216_156, s216_158, s216_161, s216_162, s216_165, s216_167, s216_168, s216_169, s216_172, s216_175, s216_176, s216_179, s216_181, s216_182, s216_184, s216_185, s216_186, s216_189, s216_191, s216_192, s216_195, s216_196, s216_199, s216_201, s216_202, s216_205, s216_207, s216_208, s216_210, s216_211, s216_212, s216_215, gF_i, gF_r, gP_f, gP_t, aRd_1, aRd_4, aKd_e, oo_s, z0, z1, okP_n, okP_i, okP_r, vtl, vtn, true_and, and_true, bI_ite, bI_01, h1, decide_true, decide_false, not_true_eq_false, not_false_eq_true, Bool.and_true, Bool.true_and, Bool.and_false, Bool.false_and, Bool.or_true, Bool.true_or, Bool.or_false, Bool.false_or, Bool.not_true, Bool.not_false, ite_true, ite_false, if_true, if_false, Bool.false_eq_true, reduceIte, decide_not, and_true, true_and, and_false, false_and, or_true, true_or, or_false, false_or, not_false, not_true]
  | succ r ih =>
    intro l T hl
    have h1 : nI l < 9 := by rw [nI_l9 (by omega)]; omega
    have cl := nI_cl (show l < 2 ^ 31 by omega)
    have il := nI_inb (show l < 2 ^ 31 by omega) (show l < 9 by omega)
    have cm := nI_cl (show m < 2 ^ 31 by omega)
    have im := nI_inb (show m < 2 ^ 31 by omega) (show m < 9 by omega)
    show Go d 216 147 _ _ _ _ = _
    unfold hoI
    by_cases h2 : l = m
    · have e2 : nI l = nI m := by rw [h2]
      rw [if_pos h2, ← ih (l + 1) T (by omega)]
      simp only [s216_147, s216_149, s216_151, s216_154, s216_156, s216_158, s216_161, s216_162, s216_165, s216_167, s216_168, s216_169, s216_172, s216_175, s216_176, s216_179, s216_181, s216_182, s216_184, s216_185, s216_186, s216_189, s216_191, s216_192, s216_195, s216_196, s216_199, s216_201, s216_202, s216_205, s216_207, s216_208, s216_210, s216_211, s216_212, s216_215, gF_i, gF_r, gP_f, gP_t, aRd_1, aRd_4, aKd_e, oo_s, z0, z1, okP_n, okP_i, okP_r, vtl, vtn, true_and, and_true, bI_ite, bI_01, h1, if_pos e2, nI_1, decide_true, decide_false, not_true_eq_false, not_false_eq_true, Bool.and_true, Bool.true_and, Bool.and_false, Bool.false_and, Bool.or_true, Bool.true_or, Bool.or_false, Bool.false_or, Bool.not_true, Bool.not_false, ite_true, ite_false, if_true, if_false, Bool.false_eq_true, reduceIte, decide_not, and_true, true_and, and_false, false_and, or_true, true_or, or_false, false_or, not_false, not_true]
    · have e2 : ¬ nI l = nI m := by rw [nI_e (by omega) (by omega)]; exact h2
      rw [if_neg h2]
      by_cases h3 : V l = -1
      · rw [if_pos h3, ← ih (l + 1) T (by omega)]
        simp only [s216_147, s216_149, s216_151, s216_154, s216_156, s216_158, s216_161, s216_162, s216_165, s216_167, s216_168, s216_169, s216_172, s216_175, s216_176, s216_179, s216_181, s216_182, s216_184, s216_185, s216_186, s216_189, s216_191, s216_192, s216_195, s216_196, s216_199, s216_201, s216_202, s216_205, s216_207, s216_208, s216_210, s216_211, s216_212, s216_215, gF_i, gF_r, gP_f, gP_t, aRd_1, aRd_4, aKd_e, oo_s, z0, z1, okP_n, okP_i, okP_r, vtl, vtn, true_and, and_true, bI_ite, bI_01, F8_7, F8_13, F8_16, F8_19, F8_23, F8_26, F8_29, F8_32, F8_35, F8_38, F8_41, F8_44, F8_47, F8_50, F8_53, F8_56, F8_59, F8_62, F8_65, F8_68, F8_72, F8_75, F8_78, F8_81, F8_84, F8_87, F8_90, F8_93, F8_96, F8_99, F8_102, F8_105, F8_108, F8_111, F8_114, F8_117, F8_171, F8_123, F8_126, F8_120, F8_162, F8_190, F8_184, F8_187, F8_181, F8_223, F8_200, F8_277, F8_304, F8_319, P8_7, P8_13, P8_16, P8_117, P8_171, P8_123, P8_126, P8_120, P8_162, P8_190, P8_184, P8_187, P8_181, P8_223, P8_200, P8_277, P8_304, P8_319, A_46, A_47, A_48, A_49, A_50, A_51, A_52, A_53, A_54, A_55, A_56, A_57, A_58, A_59, A_60, A_61, A_62, A_63, A_64, A_65, A_66, A_67, A_68, A_69, A_70, A_71, A_72, A_73, A_74, A_75, A_76, A_77, h1, if_neg e2, hoW_V, cl, il, if_pos h3, nI_1, decide_true, decide_false, not_true_eq_false, not_false_eq_true, Bool.and_true, Bool.true_and, Bool.and_false, Bool.false_and, Bool.or_true, Bool.true_or, Bool.or_false, Bool.false_or, Bool.not_true, Bool.not_false, ite_true, ite_false, if_true, if_false, Bool.false_eq_true, reduceIte, decide_not, and_true, true_and, and_false, false_and, or_true, true_or, or_false, false_or, not_false, not_true]
      · rw [if_neg h3]
        by_cases h4 : T m < V l + f
        · rw [if_pos h4]
          have hh := ih (l + 1) (upd T m (V l + f)) (by omega)
          rw [upd_s, upd_u] at hh
          rw [← hh]
          simp only [s216_147, s216_149, s216_151, s216_154, s216_156, s216_158, s216_161, s216_162, s216_165, s216_167, s216_168, s216_169, s216_172, s216_175, s216_176, s216_179, s216_181, s216_182, s216_184, s216_185, s216_186, s216_189, s216_191, s216_192, s216_195, s216_196, s216_199, s216_201, s216_202, s216_205, s216_207, s216_208, s216_210, s216_211, s216_212, s216_215, gF_i, gF_r, gP_f, gP_t, aRd_1, aRd_4, aKd_e, oo_s, z0, z1, okP_n, okP_i, okP_r, vtl, vtn, true_and, and_true, bI_ite, bI_01, F8_7, F8_13, F8_16, F8_19, F8_23, F8_26, F8_29, F8_32, F8_35, F8_38, F8_41, F8_44, F8_47, F8_50, F8_53, F8_56, F8_59, F8_62, F8_65, F8_68, F8_72, F8_75, F8_78, F8_81, F8_84, F8_87, F8_90, F8_93, F8_96, F8_99, F8_102, F8_105, F8_108, F8_111, F8_114, F8_117, F8_171, F8_123, F8_126, F8_120, F8_162, F8_190, F8_184, F8_187, F8_181, F8_223, F8_200, F8_277, F8_304, F8_319, P8_7, P8_13, P8_16, P8_117, P8_171, P8_123, P8_126, P8_120, P8_162, P8_190, P8_184, P8_187, P8_181, P8_223, P8_200, P8_277, P8_304, P8_319, A_46, A_47, A_48, A_49, A_50, A_51, A_52, A_53, A_54, A_55, A_56, A_57, A_58, A_59, A_60, A_61, A_62, A_63, A_64, A_65, A_66, A_67, A_68, A_69, A_70, A_71, A_72, A_73, A_74, A_75, A_76, A_77, h1, if_neg e2, hoW_V, hoW_T, hoW_iT, cl, il, cm, im, if_neg h3, if_pos h4, nI_1, decide_true, decide_false, not_true_eq_false, not_false_eq_true, Bool.and_true, Bool.true_and, Bool.and_false, Bool.false_and, Bool.or_true, Bool.true_or, Bool.or_false, Bool.false_or, Bool.not_true, Bool.not_false, ite_true, ite_false, if_true, if_false, Bool.false_eq_true, reduceIte, decide_not, and_true, true_and, and_false, false_and, or_true, true_or, or_false, false_or, not_false, not_true]
        · rw [if_neg h4, ← ih (l + 1) T (by omega)]
          simp only [s216_147, s216_149, s216_151, s216_154, s216_156, s216_158, s216_161, s216_162, s216_165, s216_167, s216_168, s216_169, s216_172, s216_175, s216_176, s216_179, s216_181, s216_182, s216_184, s216_185, s216_186, s216_189, s216_191, s216_192, s216_195, s216_196, s216_199, s216_201, s216_202, s216_205, s216_207, s216_208, s216_210, s216_211, s216_212, s216_215, gF_i, gF_r, gP_f, gP_t, aRd_1, aRd_4, aKd_e, oo_s, z0, z1, okP_n, okP_i, okP_r, vtl, vtn, true_and, and_true, bI_ite, bI_01, F8_7, F8_13, F8_16, F8_19, F8_23, F8_26, F8_29, F8_32, F8_35, F8_38, F8_41, F8_44, F8_47, F8_50, F8_53, F8_56, F8_59, F8_62, F8_65, F8_68, F8_72, F8_75, F8_78, F8_81, F8_84, F8_87, F8_90, F8_93, F8_96, F8_99, F8_102, F8_105, F8_108, F8_111, F8_114, F8_117, F8_171, F8_123, F8_126, F8_120, F8_162, F8_190, F8_184, F8_187, F8_181, F8_223, F8_200, F8_277, F8_304, F8_319, P8_7, P8_13, P8_16, P8_117, P8_171, P8_123, P8_126, P8_120, P8_162, P8_190, P8_184, P8_187, P8_181, P8_223, P8_200, P8_277, P8_304, P8_319, A_46, A_47, A_48, A_49, A_50, A_51, A_52, A_53, A_54, A_55, A_56, A_57, A_58, A_59, A_60, A_61, A_62, A_63, A_64, A_65, A_66, A_67, A_68, A_69, A_70, A_71, A_72, A_73, A_74, A_75, A_76, A_77, h1, if_neg e2, hoW_V, hoW_T, cl, il, cm, im, if_neg h3, if_neg h4, nI_1, decide_true, decide_false, not_true_eq_false, not_false_eq_true, Bool.and_true, Bool.true_and, Bool.and_false, Bool.false_and, Bool.or_true, Bool.true_or, Bool.or_false, Bool.false_or, Bool.not_true, Bool.not_false, ite_true, ite_false, if_true, if_false, Bool.false_eq_true, reduceIte, decide_not, and_true, true_and, and_false, false_and, or_true, true_or, or_false, false_or, not_false, not_true]
theorem han3 (hI : mI w) {t p k : Int32} (ht : mThing w t = true) {V : Nat → Int32} (R : (Nat → Int32) → Prop) (H : ∀ (T : Nat → Int32) (a5 a6 : Option Value), Tr (d + 3) 216 240 [some (.ref 45), some (.int t), some (.int p), some (.int k), some (.int 0), a5, a6] [] (hoW w V T) Q = R T) : ∀ (r m : Nat) (T : Nat → Int32) (a5 a6 : Option Value), m + r = mN w → Tr (d + 3) 216 118 [some (.ref 45), some (.int t), some (.int p), some (.int k), some (.int (nI m)), a5, a6] [] (hoW w V T) Q = (if (hoM (hoF w t) p V m r T).1 = true then Q (some (.int k)) (hoW w V (hoM (hoF w t) p V m r T).2) else R (hoM (hoF w t) p V m r T).2) := by
  obtain ⟨e, h8⟩ := mN_nI hI
  intro r
  induction r with
  | zero =>
    intro m T a5 a6 hm
    have h1 : ¬ nI m < nI (mN w) := by rw [nIlt (by omega), nI_toInt (by omega)]; omega
    show Go (d + 3) 216 118 _ _ _ _ = _
    unfold hoM
    simp only [s216_118, s216_120, s216_121, s216_124, s216_127, s216_128, s216_130, s216_131, s216_134, s216_136, s216_138, s216_141, s216_144, s216_237, s216_238, gF_i, gF_r, gP_f, gP_t, aRd_1, aRd_4, aKd_e, oo_s, z0, z1, okP_n, okP_i, okP_r, vtl, vtn, true_and, and_true, bI_ite, bI_01, F8_7, F8_13, F8_16, F8_19, F8_23, F8_26, F8_29, F8_32, F8_35, F8_38, F8_41, F8_44, F8_47, F8_50, F8_53, F8_56, F8_59, F8_62, F8_65, F8_68, F8_72, F8_75, F8_78, F8_81, F8_84, F8_87, F8_90, F8_93, F8_96, F8_99, F8_102, F8_105, F8_108, F8_111, F8_114, F8_117, F8_171, F8_123, F8_126, F8_120, F8_162, F8_190, F8_184, F8_187, F8_181, F8_223, F8_200, F8_277, F8_304, F8_319, P8_7, P8_13, P8_16, P8_117, P8_171, P8_123, P8_126, P8_120, P8_162, P8_190, P8_184, P8_187, P8_181, P8_223, P8_200, P8_277, P8_304, P8_319, hoW_45, e, h1, H, decide_true, decide_false, not_true_eq_false, not_false_eq_true, Bool.and_true, Bool.true_and, Bool.and_false, Bool.false_and, Bool.or_true, Bool.true_or, Bool.or_false, Bool.false_or, Bool.not_true, Bool.not_false, ite_true, ite_false, if_true, if_false, Bool.false_eq_true, reduceIte, decide_not, and_true, true_and, and_false, false_and, or_true, true_or, or_false, false_or, not_false, not_true]
  | succ r ih =>
    intro m T a5 a6 hm
    have h1 : nI m < nI (mN w) := by rw [nIlt (by omega), nI_toInt (by omega)]; omega
    have hIW : ∀ V T, mI (hoW w V T) := fun V T => mI_o hI (fun q _ _ => hoW_o (by omega) (by omega))
    have hM : ∀ V T, mMan (hoW w V T) (nI m) = true := fun V T => by rw [mMan_o (by rw [hoW_45])]; exact mMan_lt hI (by omega)
    have hT : ∀ V T, mThing (hoW w V T) t = true := fun V T => by rw [mThing_o (by rw [hoW_45])]; exact ht
    have hF : ∀ V T, mFar (hoW w V T) (nI m) t = mFar w (nI m) t := fun V T => mFar_o (fun q _ _ => hoW_o (by omega) (by omega))
    have cm := nI_cl (show m < 2 ^ 31 by omega)
    have im := nI_inb (show m < 2 ^ 31 by omega) (show m < 9 by omega)
    show Go (d + 3) 216 118 _ _ _ _ = _
    rw [hoM]
    by_cases h2 : hoF w t m = 0
    · have h2' := h2
      unfold hoF at h2'
      rw [if_pos h2, ← ih (m + 1) T (some (.int (mFar w (nI m) t))) a6 (by omega)]
      simp only [s216_118, s216_120, s216_121, s216_124, s216_127, s216_128, s216_130, s216_131, s216_134, s216_136, s216_138, s216_141, s216_144, s216_231, s216_234, gF_i, gF_r, gP_f, gP_t, aRd_1, aRd_4, aKd_e, oo_s, z0, z1, okP_n, okP_i, okP_r, vtl, vtn, true_and, and_true, bI_ite, bI_01, F8_7, F8_13, F8_16, F8_19, F8_23, F8_26, F8_29, F8_32, F8_35, F8_38, F8_41, F8_44, F8_47, F8_50, F8_53, F8_56, F8_59, F8_62, F8_65, F8_68, F8_72, F8_75, F8_78, F8_81, F8_84, F8_87, F8_90, F8_93, F8_96, F8_99, F8_102, F8_105, F8_108, F8_111, F8_114, F8_117, F8_171, F8_123, F8_126, F8_120, F8_162, F8_190, F8_184, F8_187, F8_181, F8_223, F8_200, F8_277, F8_304, F8_319, P8_7, P8_13, P8_16, P8_117, P8_171, P8_123, P8_126, P8_120, P8_162, P8_190, P8_184, P8_187, P8_181, P8_223, P8_200, P8_277, P8_304, P8_319, cs_n, Nat.zero_le, cs_i, cs_r, cs_l, Nat.reduceAdd, Nat.reduceLeDiff, R_8, hoW_45, e, h1, c8_farOf' (hIW V T) (hM V T) (hT V T), hF, if_pos h2', nI_1, decide_true, decide_false, not_true_eq_false, not_false_eq_true, Bool.and_true, Bool.true_and, Bool.and_false, Bool.false_and, Bool.or_true, Bool.true_or, Bool.or_false, Bool.false_or, Bool.not_true, Bool.not_false, ite_true, ite_false, if_true, if_false, Bool.false_eq_true, reduceIte, decide_not, and_true, true_and, and_false, false_and, or_true, true_or, or_false, false_or, not_false, not_true]
    · have h2' := h2
      unfold hoF at h2'
      rw [if_neg h2]
      have hh := fun T => han4 (d := d + 3) (w := w) (Q := Q) (t := t) (p := p) (k := k) (f := mFar w (nI m) t) (V := V) (show m < 8 by omega) (fun T' => if T' m < p then Tr (d + 3) 216 118 [some (.ref 45), some (.int t), some (.int p), some (.int k), some (.int (nI (m + 1))), some (.int (mFar w (nI m) t)), some (.int (nI 9))] [] (hoW w V T') Q else Q (some (.int k)) (hoW w V T')) (fun T' => by
        by_cases h3 : T' m < p
        · rw [if_pos h3]
          simp only [s216_218, s216_219, s216_222, s216_224, s216_225, s216_226, s216_229, s216_230, s216_231, s216_234, gF_i, gF_r, gP_f, gP_t, aRd_1, aRd_4, aKd_e, oo_s, z0, z1, okP_n, okP_i, okP_r, vtl, vtn, true_and, and_true, bI_ite, bI_01, F8_7, F8_13, F8_16, F8_19, F8_23, F8_26, F8_29, F8_32, F8_35, F8_38, F8_41, F8_44, F8_47, F8_50, F8_53, F8_56, F8_59, F8_62, F8_65, F8_68, F8_72, F8_75, F8_78, F8_81, F8_84, F8_87, F8_90, F8_93, F8_96, F8_99, F8_102, F8_105, F8_108, F8_111, F8_114, F8_117, F8_171, F8_123, F8_126, F8_120, F8_162, F8_190, F8_184, F8_187, F8_181, F8_223, F8_200, F8_277, F8_304, F8_319, P8_7, P8_13, P8_16, P8_117, P8_171, P8_123, P8_126, P8_120, P8_162, P8_190, P8_184, P8_187, P8_181, P8_223, P8_200, P8_277, P8_304, P8_319, A_46, A_47, A_48, A_49, A_50, A_51, A_52, A_53, A_54, A_55, A_56, A_57, A_58, A_59, A_60, A_61, A_62, A_63, A_64, A_65, A_66, A_67, A_68, A_69, A_70, A_71, A_72, A_73, A_74, A_75, A_76, A_77, hoW_T, cm, im, if_pos h3, nI_1, decide_true, decide_false, not_true_eq_false, not_false_eq_true, Bool.and_true, Bool.true_and, Bool.and_false, Bool.false_and, Bool.or_true, Bool.true_or, Bool.or_false, Bool.false_or, Bool.not_true, Bool.not_false, ite_true, ite_false, if_true, if_false, Bool.false_eq_true, reduceIte, decide_not, and_true, true_and, and_false, false_and, or_true, true_or, or_false, false_or, not_false, not_true]
        · rw [if_neg h3]
          simp only [s216_218, s216_219, s216_222, s216_224, s216_225, s216_226, s216_229, s216_230, s216_231, s216_234, gF_i, gF_r, gP_f, gP_t, aRd_1, aRd_4, aKd_e, oo_s, z0, z1, okP_n, okP_i, okP_r, vtl, vtn, true_and, and_true, bI_ite, bI_01, F8_7, F8_13, F8_16, F8_19, F8_23, F8_26, F8_29, F8_32, F8_35, F8_38, F8_41, F8_44, F8_47, F8_50, F8_53, F8_56, F8_59, F8_62, F8_65, F8_68, F8_72, F8_75, F8_78, F8_81, F8_84, F8_87, F8_90, F8_93, F8_96, F8_99, F8_102, F8_105, F8_108, F8_111, F8_114, F8_117, F8_171, F8_123, F8_126, F8_120, F8_162, F8_190, F8_184, F8_187, F8_181, F8_223, F8_200, F8_277, F8_304, F8_319, P8_7, P8_13, P8_16, P8_117, P8_171, P8_123, P8_126, P8_120, P8_162, P8_190, P8_184, P8_187, P8_181, P8_223, P8_200, P8_277, P8_304, P8_319, A_46, A_47, A_48, A_49, A_50, A_51, A_52, A_53, A_54, A_55, A_56, A_57, A_58, A_59, A_60, A_61, A_62, A_63, A_64, A_65, A_66, A_67, A_68, A_69, A_70, A_71, A_72, A_73, A_74, A_75, A_76, A_77, hoW_T, cm, im, if_neg h3, nI_1, decide_true, decide_false, not_true_eq_false, not_false_eq_true, Bool.and_true, Bool.true_and, Bool.and_false, Bool.false_and, Bool.or_true, Bool.true_or, Bool.or_false, Bool.false_or, Bool.not_true, Bool.not_false, ite_true, ite_false, if_true, if_false, Bool.false_eq_true, reduceIte, decide_not, and_true, true_and, and_false, false_and, or_true, true_or, or_false, false_or, not_false, not_true]) 9 0 T (by omega)
      simp only [nI_0] at hh
      simp only [s216_118, s216_120, s216_121, s216_124, s216_127, s216_128, s216_130, s216_131, s216_134, s216_136, s216_138, s216_141, s216_144, s216_145, gF_i, gF_r, gP_f, gP_t, aRd_1, aRd_4, aKd_e, oo_s, z0, z1, okP_n, okP_i, okP_r, vtl, vtn, true_and, and_true, bI_ite, bI_01, F8_7, F8_13, F8_16, F8_19, F8_23, F8_26, F8_29, F8_32, F8_35, F8_38, F8_41, F8_44, F8_47, F8_50, F8_53, F8_56, F8_59, F8_62, F8_65, F8_68, F8_72, F8_75, F8_78, F8_81, F8_84, F8_87, F8_90, F8_93, F8_96, F8_99, F8_102, F8_105, F8_108, F8_111, F8_114, F8_117, F8_171, F8_123, F8_126, F8_120, F8_162, F8_190, F8_184, F8_187, F8_181, F8_223, F8_200, F8_277, F8_304, F8_319, P8_7, P8_13, P8_16, P8_117, P8_171, P8_123, P8_126, P8_120, P8_162, P8_190, P8_184, P8_187, P8_181, P8_223, P8_200, P8_277, P8_304, P8_319, cs_n, Nat.zero_le, cs_i, cs_r, cs_l, Nat.reduceAdd, Nat.reduceLeDiff, R_8, hoW_45, e, h1, c8_farOf' (hIW V T) (hM V T) (hT V T), hF, if_neg h2', hh, decide_true, decide_false, not_true_eq_false, not_false_eq_true, Bool.and_true, Bool.true_and, Bool.and_false, Bool.false_and, Bool.or_true, Bool.true_or, Bool.or_false, Bool.false_or, Bool.not_true, Bool.not_false, ite_true, ite_false, if_true, if_false, Bool.false_eq_true, reduceIte, decide_not, and_true, true_and, and_false, false_and, or_true, true_or, or_false, false_or, not_false, not_true]
      rw [upd_s]
      show _ = _
      unfold hoF at *
      by_cases h4 : hoI V (mFar w (nI m) t) m 0 9 (T m) < p
      · rw [if_pos h4, if_pos h4, ih (m + 1) _ _ _ (by omega)]
      · rw [if_neg h4, if_neg h4]
        simp only [decide_true, decide_false, not_true_eq_false, not_false_eq_true, Bool.and_true, Bool.true_and, Bool.and_false, Bool.false_and, Bool.or_true, Bool.true_or, Bool.or_false, Bool.false_or, Bool.not_true, Bool.not_false, ite_true, ite_false, if_true, if_false, Bool.false_eq_true, reduceIte, decide_not, and_true, true_and, and_false, false_and, or_true, true_or, or_false, false_or, not_false, not_true]
theorem han6 (hI : mI w) {t p : Int32} (ht : mThing w t = true) : ∀ (r k : Nat) (V T : Nat → Int32) (a4 a5 a6 : Option Value), k + r = 100 → Tr (d + 3) 216 85 [some (.ref 45), some (.int t), some (.int p), some (.int (nI k)), a4, a5, a6] [] (hoW w V T) Q = Q (some (.int (oI (hoK (hoF w t) p (mN w) r k V T).1))) (hoW w (hoK (hoF w t) p (mN w) r k V T).2.1 (hoK (hoF w t) p (mN w) r k V T).2.2) := by
  intro r
  have z : (100 : Int32).toInt = 100 := rfl
  induction r with
  | zero =>
    intro k V T a4 a5 a6 hk
    have h1 : ¬ nI k < 100 := by rw [nIlt (by omega), z]; omega
    show Go (d + 3) 216 85 _ _ _ _ = _
    simp only [s216_85, s216_86, s216_88, s216_91, s216_92, s216_273, s216_274, gF_i, gF_r, gP_f, gP_t, aRd_1, aRd_4, aKd_e, oo_s, z0, z1, okP_n, okP_i, okP_r, vtl, vtn, true_and, and_true, bI_ite, bI_01, h1, hoK, oI, decide_true, decide_false, not_true_eq_false, not_false_eq_true, Bool.and_true, Bool.true_and, Bool.and_false, Bool.false_and, Bool.or_true, Bool.true_or, Bool.or_false, Bool.false_or, Bool.not_true, Bool.not_false, ite_true, ite_false, if_true, if_false, Bool.false_eq_true, reduceIte, decide_not, and_true, true_and, and_false, false_and, or_true, true_or, or_false, false_or, not_false, not_true]
  | succ r ih =>
    intro k V T a4 a5 a6 hk
    have h1 : nI k < 100 := by rw [nIlt (by omega), z]; omega
    have e2 := fun (T : Nat → Int32) (a5 a6 : Option Value) => han2 (d := d + 3) (w := w) (Q := Q) (t := t) (p := p) (k := nI k) (a5 := a5) (a6 := a6) 9 0 V T (by omega)
    have e3 := han3 (d := d) (w := w) (Q := Q) hI ht (p := p) (k := nI k) (V := V) (fun T => Q (some (.int (oI (hoK (hoF w t) p (mN w) r (k + 1) (lo9 T V) T).1))) (hoW w (hoK (hoF w t) p (mN w) r (k + 1) (lo9 T V) T).2.1 (hoK (hoF w t) p (mN w) r (k + 1) (lo9 T V) T).2.2)) (fun T a5 a6 => by
      have e5 := han5 (d := d + 3) (w := w) (Q := Q) (t := t) (p := p) (k := nI k) (a5 := a5) (a6 := a6) 9 0 V T (by omega)
      rw [nI_0, lo9_0, nI_1] at e5
      rw [e5, ih (k + 1) _ _ _ _ _ (by omega)]) (mN w) 0
    simp only [nI_0, lo9_0] at e2 e3
    show Go (d + 3) 216 85 _ _ _ _ = _
    simp only [s216_85, s216_86, s216_88, s216_91, s216_92, gF_i, gF_r, gP_f, gP_t, aRd_1, aRd_4, aKd_e, oo_s, z0, z1, okP_n, okP_i, okP_r, vtl, vtn, true_and, and_true, bI_ite, bI_01, h1, e2, decide_true, decide_false, not_true_eq_false, not_false_eq_true, Bool.and_true, Bool.true_and, Bool.and_false, Bool.false_and, Bool.or_true, Bool.true_or, Bool.or_false, Bool.false_or, Bool.not_true, Bool.not_false, ite_true, ite_false, if_true, if_false, Bool.false_eq_true, reduceIte, decide_not, and_true, true_and, and_false, false_and, or_true, true_or, or_false, false_or, not_false, not_true]
    rw [e3 _ _ _ (by omega), hoK]
    by_cases h2 : (hoM (hoF w t) p V 0 (mN w) (lo9 (fun _ => -1) T)).1 = true
    · rw [if_pos h2, if_pos h2]
      rfl
    · rw [if_neg h2, if_neg h2]
theorem c8_handovers (hI : mI w) {t p : Int32} : Cl (d + 12) 216 [.ref 45, .int t, .int p] w Q = Q (some (.int (mHan w t p).1)) (mHan w t p).2 := by
  rw [Cl_go (L := [some (.ref 45), some (.int t), some (.int p), none, none, none, none]) rfl]
  unfold mHan
  by_cases h1 : mThing w t = true
  · by_cases h2 : mOn w t p = true
    · have hT := (mT_rng hI h1).2.2
      have e1 := fun (a4 a5 a6 : Option Value) => han1 (d := d + 12) (w := w) (Q := Q) (t := t) (p := p) (a4 := a4) (a5 := a5) (a6 := a6) 9 0 (w.1 71) (w.1 72) (by omega)
      simp only [nI_0, hoW_id, lo9_0] at e1
      have e6 := fun (V T : Nat → Int32) (a4 a5 a6 : Option Value) => han6 (d := d + 9) (w := w) (Q := Q) hI (t := t) (p := p) h1 99 1 V T a4 a5 a6 (by omega)
      simp only [show nI 1 = 1 from rfl] at e6
      have k50 : ∀ V T, (hoW w V T).1 50 = w.1 50 := fun V T => hoW_o (by decide) (by decide)
      have k51 : ∀ V T, (hoW w V T).1 51 = w.1 51 := fun V T => hoW_o (by decide) (by decide)
      by_cases h3 : w.1 51 t.toNatClampNeg = -1
      · have i8' : inb (8 : Int32) 9 := ⟨by decide, by decide⟩
        have c8' : (8 : Int32).toNatClampNeg = 8 := rfl
        unfold hoV
        rw [if_pos h3]
        simp only [s216_0, s216_1, s216_2, s216_5, s216_8, s216_9, s216_10, s216_13, s216_14, s216_15, s216_16, s216_17, s216_20, s216_23, s216_24, s216_26, s216_29, s216_30, s216_31, s216_32, s216_33, s216_35, s216_38, s216_39, s216_42, s216_43, s216_44, s216_45, s216_48, s216_51, s216_52, s216_55, s216_56, s216_59, s216_60, s216_61, s216_62, s216_65, s216_67, s216_70, s216_71, s216_74, s216_75, s216_76, s216_77, s216_80, s216_81, s216_82, s216_83, s216_84, gF_i, gF_r, gP_f, gP_t, aRd_1, aRd_4, aKd_e, oo_s, z0, z1, okP_n, okP_i, okP_r, vtl, vtn, true_and, and_true, bI_ite, bI_01, F8_7, F8_13, F8_16, F8_19, F8_23, F8_26, F8_29, F8_32, F8_35, F8_38, F8_41, F8_44, F8_47, F8_50, F8_53, F8_56, F8_59, F8_62, F8_65, F8_68, F8_72, F8_75, F8_78, F8_81, F8_84, F8_87, F8_90, F8_93, F8_96, F8_99, F8_102, F8_105, F8_108, F8_111, F8_114, F8_117, F8_171, F8_123, F8_126, F8_120, F8_162, F8_190, F8_184, F8_187, F8_181, F8_223, F8_200, F8_277, F8_304, F8_319, P8_7, P8_13, P8_16, P8_117, P8_171, P8_123, P8_126, P8_120, P8_162, P8_190, P8_184, P8_187, P8_181, P8_223, P8_200, P8_277, P8_304, P8_319, A_46, A_47, A_48, A_49, A_50, A_51, A_52, A_53, A_54, A_55, A_56, A_57, A_58, A_59, A_60, A_61, A_62, A_63, A_64, A_65, A_66, A_67, A_68, A_69, A_70, A_71, A_72, A_73, A_74, A_75, A_76, A_77, cs_n, Nat.zero_le, cs_i, cs_r, cs_l, Nat.reduceAdd, Nat.reduceLeDiff, R_8, c8_isThing, c8_isOnward hI h1, e1, e6, k50, k51, hT, if_pos h3, i8', c8', hoW_iV, h1, h2, decide_true, decide_false, not_true_eq_false, not_false_eq_true, Bool.and_true, Bool.true_and, Bool.and_false, Bool.false_and, Bool.or_true, Bool.true_or, Bool.or_false, Bool.false_or, Bool.not_true, Bool.not_false, ite_true, ite_false, if_true, if_false, Bool.false_eq_true, reduceIte, decide_not, and_true, true_and, and_false, false_and, or_true, true_or, or_false, false_or, not_false, not_true]
      · have hm := (mT_rng hI h1)
        have hc : t.toNatClampNeg = t.toInt.toNat := rfl
        have hman : mMan w (w.1 51 t.toNatClampNeg) = true := by
          rcases hI.2.2.2.2.2.2.2 t.toNatClampNeg (by omega) with e | e
          · exact absurd e h3
          · exact e
        have hM8 := (mM_rng hI hman).2.2
        have i8' : inb (w.1 51 t.toNatClampNeg) 9 := ⟨hM8.1, by have := hM8.2; omega⟩
        unfold hoV
        rw [if_neg h3]
        simp only [s216_0, s216_1, s216_2, s216_5, s216_8, s216_9, s216_10, s216_13, s216_14, s216_15, s216_16, s216_17, s216_20, s216_23, s216_24, s216_26, s216_29, s216_30, s216_31, s216_32, s216_33, s216_35, s216_38, s216_39, s216_42, s216_43, s216_44, s216_45, s216_48, s216_51, s216_52, s216_55, s216_56, s216_59, s216_60, s216_61, s216_62, s216_65, s216_67, s216_70, s216_71, s216_74, s216_75, s216_76, s216_77, s216_80, s216_81, s216_82, s216_83, s216_84, gF_i, gF_r, gP_f, gP_t, aRd_1, aRd_4, aKd_e, oo_s, z0, z1, okP_n, okP_i, okP_r, vtl, vtn, true_and, and_true, bI_ite, bI_01, F8_7, F8_13, F8_16, F8_19, F8_23, F8_26, F8_29, F8_32, F8_35, F8_38, F8_41, F8_44, F8_47, F8_50, F8_53, F8_56, F8_59, F8_62, F8_65, F8_68, F8_72, F8_75, F8_78, F8_81, F8_84, F8_87, F8_90, F8_93, F8_96, F8_99, F8_102, F8_105, F8_108, F8_111, F8_114, F8_117, F8_171, F8_123, F8_126, F8_120, F8_162, F8_190, F8_184, F8_187, F8_181, F8_223, F8_200, F8_277, F8_304, F8_319, P8_7, P8_13, P8_16, P8_117, P8_171, P8_123, P8_126, P8_120, P8_162, P8_190, P8_184, P8_187, P8_181, P8_223, P8_200, P8_277, P8_304, P8_319, A_46, A_47, A_48, A_49, A_50, A_51, A_52, A_53, A_54, A_55, A_56, A_57, A_58, A_59, A_60, A_61, A_62, A_63, A_64, A_65, A_66, A_67, A_68, A_69, A_70, A_71, A_72, A_73, A_74, A_75, A_76, A_77, cs_n, Nat.zero_le, cs_i, cs_r, cs_l, Nat.reduceAdd, Nat.reduceLeDiff, R_8, c8_isThing, c8_isOnward hI h1, e1, e6, k50, k51, hT, if_neg h3, i8', hoW_iV, h1, h2, decide_true, decide_false, not_true_eq_false, not_false_eq_true, Bool.and_true, Bool.true_and, Bool.and_false, Bool.false_and, Bool.or_true, Bool.true_or, Bool.or_false, Bool.false_or, Bool.not_true, Bool.not_false, ite_true, ite_false, if_true, if_false, Bool.false_eq_true, reduceIte, decide_not, and_true, true_and, and_false, false_and, or_true, true_or, or_false, false_or, not_false, not_true]
    · simp only [s216_0, s216_1, s216_2, s216_5, s216_8, s216_9, s216_10, s216_13, s216_14, s216_15, s216_16, s216_17, s216_20, s216_23, s216_24, s216_26, s216_29, s216_30, s216_31, s216_32, s216_33, s216_35, s216_38, s216_39, s216_42, s216_43, s216_44, s216_45, s216_48, s216_51, s216_52, s216_55, s216_56, s216_59, s216_60, s216_61, s216_62, s216_65, s216_67, s216_70, s216_71, s216_74, s216_75, s216_76, s216_77, s216_80, s216_81, s216_82, s216_83, s216_84, gF_i, gF_r, gP_f, gP_t, aRd_1, aRd_4, aKd_e, oo_s, z0, z1, okP_n, okP_i, okP_r, vtl, vtn, true_and, and_true, bI_ite, bI_01, F8_7, F8_13, F8_16, F8_19, F8_23, F8_26, F8_29, F8_32, F8_35, F8_38, F8_41, F8_44, F8_47, F8_50, F8_53, F8_56, F8_59, F8_62, F8_65, F8_68, F8_72, F8_75, F8_78, F8_81, F8_84, F8_87, F8_90, F8_93, F8_96, F8_99, F8_102, F8_105, F8_108, F8_111, F8_114, F8_117, F8_171, F8_123, F8_126, F8_120, F8_162, F8_190, F8_184, F8_187, F8_181, F8_223, F8_200, F8_277, F8_304, F8_319, P8_7, P8_13, P8_16, P8_117, P8_171, P8_123, P8_126, P8_120, P8_162, P8_190, P8_184, P8_187, P8_181, P8_223, P8_200, P8_277, P8_304, P8_319, A_46, A_47, A_48, A_49, A_50, A_51, A_52, A_53, A_54, A_55, A_56, A_57, A_58, A_59, A_60, A_61, A_62, A_63, A_64, A_65, A_66, A_67, A_68, A_69, A_70, A_71, A_72, A_73, A_74, A_75, A_76, A_77, cs_n, Nat.zero_le, cs_i, cs_r, cs_l, Nat.reduceAdd, Nat.reduceLeDiff, R_8, c8_isThing, c8_isOnward hI h1, c8_noTen ib6, h1, h2, decide_true, decide_false, not_true_eq_false, not_false_eq_true, Bool.and_true, Bool.true_and, Bool.and_false, Bool.false_and, Bool.or_true, Bool.true_or, Bool.or_false, Bool.false_or, Bool.not_true, Bool.not_false, ite_true, ite_false, if_true, if_false, Bool.false_eq_true, reduceIte, decide_not, and_true, true_and, and_false, false_and, or_true, true_or, or_false, false_or, not_false, not_true]
      rfl
  · simp only [s216_0, s216_1, s216_2, s216_5, s216_8, s216_9, s216_10, s216_13, s216_14, s216_15, s216_16, s216_17, s216_20, s216_23, s216_24, s216_26, s216_29, s216_30, s216_31, s216_32, s216_33, s216_35, s216_38, s216_39, s216_42, s216_43, s216_44, s216_45, s216_48, s216_51, s216_52, s216_55, s216_56, s216_59, s216_60, s216_61, s216_62, s216_65, s216_67, s216_70, s216_71, s216_74, s216_75, s216_76, s216_77, s216_80, s216_81, s216_82, s216_83, s216_84, gF_i, gF_r, gP_f, gP_t, aRd_1, aRd_4, aKd_e, oo_s, z0, z1, okP_n, okP_i, okP_r, vtl, vtn, true_and, and_true, bI_ite, bI_01, F8_7, F8_13, F8_16, F8_19, F8_23, F8_26, F8_29, F8_32, F8_35, F8_38, F8_41, F8_44, F8_47, F8_50, F8_53, F8_56, F8_59, F8_62, F8_65, F8_68, F8_72, F8_75, F8_78, F8_81, F8_84, F8_87, F8_90, F8_93, F8_96, F8_99, F8_102, F8_105, F8_108, F8_111, F8_114, F8_117, F8_171, F8_123, F8_126, F8_120, F8_162, F8_190, F8_184, F8_187, F8_181, F8_223, F8_200, F8_277, F8_304, F8_319, P8_7, P8_13, P8_16, P8_117, P8_171, P8_123, P8_126, P8_120, P8_162, P8_190, P8_184, P8_187, P8_181, P8_223, P8_200, P8_277, P8_304, P8_319, A_46, A_47, A_48, A_49, A_50, A_51, A_52, A_53, A_54, A_55, A_56, A_57, A_58, A_59, A_60, A_61, A_62, A_63, A_64, A_65, A_66, A_67, A_68, A_69, A_70, A_71, A_72, A_73, A_74, A_75, A_76, A_77, cs_n, Nat.zero_le, cs_i, cs_r, cs_l, Nat.reduceAdd, Nat.reduceLeDiff, R_8, c8_isThing, c8_noTen ib1, h1, decide_true, decide_false, not_true_eq_false, not_false_eq_true, Bool.and_true, Bool.true_and, Bool.and_false, Bool.false_and, Bool.or_true, Bool.true_or, Bool.or_false, Bool.false_or, Bool.not_true, Bool.not_false, ite_true, ite_false, if_true, if_false, Bool.false_eq_true, reduceIte, decide_not, and_true, true_and, and_false, false_and, or_true, true_or, or_false, false_or, not_false, not_true]
    rfl
end

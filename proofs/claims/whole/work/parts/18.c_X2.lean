/-! CONTRACTS of Relay (class 2): sets of people are numbers below 256, as bits -/
def wA (w : hW) (q : Nat) (f : Nat → Int32) : hW := (fun r => if r = q then f else w.1 r, w.2)
theorem wA_o {w : hW} {q r : Nat} {f : Nat → Int32} (h : r ≠ q) : (wA w q f).1 r = w.1 r := by simp [wA, h]
theorem wA_s {w : hW} {q : Nat} {f : Nat → Int32} : (wA w q f).1 q = f := by simp [wA]
theorem wA_wA {w : hW} {q : Nat} {f g : Nat → Int32} : wA (wA w q f) q g = wA w q g := by
  refine Prod.ext (funext fun r => ?_) rfl
  by_cases h : r = q <;> simp [wA, h]
theorem wA_id {w : hW} {q : Nat} : wA w q (w.1 q) = w := by
  refine Prod.ext (funext fun r => ?_) rfl
  by_cases h : r = q <;> simp [wA, h]
theorem wI_A {w : hW} {q i : Nat} {x : Int32} : wI w q i x = wA w q (upd (w.1 q) i x) := by
  refine Prod.ext (funext fun r => funext fun j => ?_) rfl
  by_cases h : r = q
  · subst h; simp [wA, wI, upd]
  · simp [wA, wI, h]
theorem tI_wA {w : hW} {p q : Nat} {f : Nat → Int32} (h : p ≠ q) : tI (wA w q f) p = tI w p := by
  unfold tI
  rw [wA_o h]
theorem vI_wA {w : hW} {b q : Nat} {f : Nat → Int32} (h1 : b + 1 ≠ q) (h3 : b + 3 ≠ q) (h5 : b + 5 ≠ q) : vI (wA w q f) b = vI w b := by
  unfold vI
  rw [wA_o h1, wA_o h3, wA_o h5]
theorem tCell_wA {w : hW} {p q : Nat} {f : Nat → Int32} {a c : Int32} (h : p ≠ q) (h2 : p + 1 ≠ q) : tCell (wA w q f) p a c = tCell w p a c := by
  unfold tCell tHasC tAt tHas
  rw [wA_o h, wA_o h2]
/-- worlds that show the same valley at b -/
def vSame (b : Nat) (w w' : hW) : Prop := ∀ q, b ≤ q → q ≤ b + 6 → w'.1 q = w.1 q
theorem tCell_same {w w' : hW} {p : Nat} {a c : Int32} (h : w'.1 p = w.1 p) (h2 : w'.1 (p + 1) = w.1 (p + 1)) : tCell w' p a c = tCell w p a c := by
  unfold tCell tHasC tAt tHas
  rw [h, h2]
theorem vSame_1 {b : Nat} {w w' : hW} (h : vSame b w w') {a c : Int32} : tCell w' (b + 1) a c = tCell w (b + 1) a c := tCell_same (h _ (by omega) (by omega)) (h _ (by omega) (by omega))
theorem vSame_3 {b : Nat} {w w' : hW} (h : vSame b w w') {a c : Int32} : tCell w' (b + 3) a c = tCell w (b + 3) a c := tCell_same (h _ (by omega) (by omega)) (h _ (by omega) (by omega))
theorem vSame_5 {b : Nat} {w w' : hW} (h : vSame b w w') {a c : Int32} : tCell w' (b + 5) a c = tCell w (b + 5) a c := tCell_same (h _ (by omega) (by omega)) (h _ (by omega) (by omega))
theorem vSame_f {b : Nat} {w w' : hW} (h : vSame b w w') {j : Nat} : w'.1 b j = w.1 b j := by rw [h b (by omega) (by omega)]
theorem vSame_I {b : Nat} {w w' : hW} (h : vSame b w w') : vI w' b = vI w b := by
  unfold vI
  rw [h (b + 1) (by omega) (by omega), h (b + 3) (by omega) (by omega), h (b + 5) (by omega) (by omega)]
theorem vFar_same {b : Nat} {w w' : hW} (h : vSame b w w') {m t : Int32} : vFar w' b m t = vFar w b m t := by
  unfold vFar vReach vStr
  simp only [vSame_1 h, vSame_3 h, vSame_f h]
theorem vReach_same {b : Nat} {w w' : hW} (h : vSame b w w') {m t : Int32} : vReach w' b m t = vReach w b m t := by
  unfold vReach
  simp only [vSame_1 h, vSame_f h]
theorem vStr_same {b : Nat} {w w' : hW} (h : vSame b w w') {m t : Int32} : vStr w' b m t = vStr w b m t := by
  unfold vStr
  simp only [vSame_3 h]
theorem vStep_same {b : Nat} {w w' : hW} (h : vSame b w w') {t : Int32} : vStep w' b t = vStep w b t := by
  unfold vStep
  simp only [vSame_1 h]
theorem vWet_same {b : Nat} {w w' : hW} (h : vSame b w w') {t : Int32} : vWet w' b t = vWet w b t := by
  unfold vWet
  simp only [vSame_f h]
theorem vSame_wA {b q : Nat} {w : hW} {f : Nat → Int32} (h : q < b ∨ b + 6 < q) : vSame b w (wA w q f) := fun r h1 h2 => wA_o (by omega)
/-! the numbers of sets -/
theorem sb_bit : ∀ S : Nat, S < 256 → ∀ i : Nat, i < 8 → ((nI S >>> (nI i &&& 31)) &&& 1 = 0 ↔ S.testBit i = false) := by decide +kernel
theorem sb_and : ∀ S : Nat, S < 256 → ∀ i : Nat, i < 8 → (nI S &&& (1 <<< (nI i &&& 31)) = 0 ↔ S.testBit i = false) := by decide +kernel
def clr (S i : Nat) : Nat := if S.testBit i then S - 2 ^ i else S
theorem sb_clr : ∀ S : Nat, S < 256 → ∀ i : Nat, i < 8 → nI S &&& ((1 <<< (nI i &&& 31)) ^^^ (-1)) = nI (clr S i) := by decide +kernel
theorem clr_lt : ∀ S : Nat, S < 256 → ∀ i : Nat, i < 8 → clr S i < 256 := by decide +kernel
/-- all of the one are in the other -/
def subN (P S : Nat) : Bool := P &&& S == P
set_option maxRecDepth 100000 in
theorem sb_sub : ∀ P : Nat, P < 256 → ∀ S : Nat, S < 256 → (nI P &&& (nI S ^^^ (-1)) = 0 ↔ subN P S = true) := by
  intro P hP S hS
  have e1 : nI P &&& (nI S ^^^ (-1)) = 0 ↔ (BitVec.ofNat 32 P &&& (BitVec.ofNat 32 S ^^^ (-1#32))) = 0#32 := by
    rw [← Int32.toBitVec_inj]
    exact Iff.rfl
  rw [e1]
  unfold subN
  rw [beq_iff_eq]
  constructor
  · intro h
    apply Nat.eq_of_testBit_eq
    intro j
    rw [Nat.testBit_and]
    by_cases hj : j < 32
    · have h2 := congrArg (fun x => x.getLsbD j) h
      simp only [BitVec.getLsbD_and, BitVec.getLsbD_xor, BitVec.getLsbD_ofNat, BitVec.getLsbD_zero] at h2
      have h3 : (-1#32 : BitVec 32).getLsbD j = true := by
        have : ∀ j, j < 32 → (-1#32 : BitVec 32).getLsbD j = true := by decide
        exact this j hj
      rw [h3] at h2
      simp [hj] at h2
      cases hp : P.testBit j <;> simp_all
    · have hp : P < 2 ^ j := Nat.lt_of_lt_of_le hP (by have := Nat.pow_le_pow_right (n := 2) (by decide) (show 8 ≤ j by omega); simpa using this)
      rw [Nat.testBit_lt_two_pow hp]
      simp
  · intro h
    apply BitVec.eq_of_getLsbD_eq
    intro j hj
    have h3 : (-1#32 : BitVec 32).getLsbD j = true := by
      have : ∀ j, j < 32 → (-1#32 : BitVec 32).getLsbD j = true := by decide
      exact this j hj
    have h2 := congrArg (fun x => x.testBit j) h
    rw [Nat.testBit_and] at h2
    simp only [BitVec.getLsbD_and, BitVec.getLsbD_xor, BitVec.getLsbD_ofNat, BitVec.getLsbD_zero, h3]
    cases hp : P.testBit j <;> cases hs : S.testBit j <;> simp_all
/-! what they compute -/
def onw (fr tt p f to : Int32) : Int32 := if to < (if fr < p + f ∧ p + f < tt then (if p < fr then fr else p) else p + f) then to else (if fr < p + f ∧ p + f < tt then (if p < fr then fr else p) else p + f)
def feL (fr tt : Int32) (F E : Nat → Int32) (to : Int32) (S : Nat) : Nat → Nat → Int32 → Int32
  | _, 0, a => a
  | i, m + 1, a => feL fr tt F E to S (i + 1) m (if S.testBit i then (if a < onw fr tt (E (clr S i)) (F i) to then onw fr tt (E (clr S i)) (F i) to else a) else a)
def fiL (fr tt : Int32) (F : Nat → Int32) (to : Int32) (S : Nat) : Nat → Nat → (Nat → Int32) → Nat → Int32
  | _, 0, E => E
  | i, m + 1, E => fiL fr tt F to S (i + 1) m (if subN i S then upd E i (feL fr tt F E to i 0 8 0) else E)
/-- the ends of a set and of all within it -/
def fiE (fr tt : Int32) (F : Nat → Int32) (to st : Int32) (S : Nat) (E : Nat → Int32) : Nat → Int32 := fiL fr tt F to S 1 S (upd E 0 st)
def rMeas (w : hW) (t : Int32) : hW := wA w 38 (fun j => if j < 8 then (if nI j < w.1 5 3 then vFar w 2 (nI j) t else 0) else w.1 38 j)
theorem i256 : (256 : Int32).toInt = 256 := rfl
theorem nI_cl {i : Nat} (h : i < 2 ^ 31) : (nI i).toNatClampNeg = i := by rw [i32_clamp, nI_toInt h]; omega
theorem nI_inb {i n : Nat} (h : i < 2 ^ 31) (h2 : i < n) : inb (nI i) n := ⟨by rw [nI_toInt h]; omega, by rw [nI_toInt h]; omega⟩
theorem nI_l8 {i : Nat} (h : i < 2 ^ 31) : nI i < 8 ↔ i < 8 := by rw [nIlt h, i8]; omega
theorem nI_l256 {i : Nat} (h : i < 2 ^ 31) : nI i < 256 ↔ i < 256 := by rw [nIlt h, i256]; omega
theorem nI_neg {i : Nat} (h : i < 2 ^ 31) : (nI i < 0) = False := by
  apply eq_false
  rw [i32_lt, nI_toInt h]
  have z : (0 : Int32).toInt = 0 := rfl
  omega
section
variable {d : Nat} {w : hW} {Q : aPost}
theorem c2_onward {p f to : Int32} : Cl (d + 1) 36 [.ref 37, .int p, .int f, .int to] w Q = Q (some (.int (onw (w.1 2 4) (w.1 2 5) p f to))) w := by
  rw [Cl_go (L := [some (.ref 37), some (.int p), some (.int f), some (.int to), none]) rfl]
  simp only [s36_0, s36_1, s36_2, s36_3, s36_5, s36_6, s36_9, s36_11, s36_14, s36_17, s36_18, s36_19, s36_22, s36_25, s36_28, s36_30, s36_32, s36_33, s36_36, gF_i, gF_r, gP_f, gP_t, aRd_1, aRd_4, aKd_e, oo_s, z0, z1, okP_n, okP_i, okP_r, vtl, vtn, true_and, and_true, bI_ite, bI_01, F2_9, F2_15, F2_18, F2_73, F2_57, F2_70, F2_80, F2_105, P2_73, P2_80, P2_105, cs_n, Nat.zero_le, cs_i, cs_r, cs_l, Nat.reduceAdd, Nat.reduceLeDiff, iv2, vl_rcv iv2, c6_inRiver]
  unfold onw
  by_cases h1 : w.1 2 4 < p + f
  · by_cases h2 : p + f < w.1 2 5
    · have h3 : vWet w 2 (p + f) = true := by simp only [vWet, h1, h2, decide_true, decide_false, not_true_eq_false, not_false_eq_true, Bool.and_true, Bool.true_and, Bool.and_false, Bool.false_and, Bool.or_true, Bool.true_or, Bool.or_false, Bool.false_or, Bool.not_true, Bool.not_false, ite_true, ite_false, if_true, if_false, Bool.false_eq_true, reduceIte, decide_not, and_true, true_and, and_false, false_and, or_true, true_or, or_false, false_or, not_false, not_true]
      simp only [h1, h2, h3, decide_true, decide_false, not_true_eq_false, not_false_eq_true, Bool.and_true, Bool.true_and, Bool.and_false, Bool.false_and, Bool.or_true, Bool.true_or, Bool.or_false, Bool.false_or, Bool.not_true, Bool.not_false, ite_true, ite_false, if_true, if_false, Bool.false_eq_true, reduceIte, decide_not, and_true, true_and, and_false, false_and, or_true, true_or, or_false, false_or, not_false, not_true]
    · have h3 : vWet w 2 (p + f) = false := by simp only [vWet, h1, h2, decide_true, decide_false, not_true_eq_false, not_false_eq_true, Bool.and_true, Bool.true_and, Bool.and_false, Bool.false_and, Bool.or_true, Bool.true_or, Bool.or_false, Bool.false_or, Bool.not_true, Bool.not_false, ite_true, ite_false, if_true, if_false, Bool.false_eq_true, reduceIte, decide_not, and_true, true_and, and_false, false_and, or_true, true_or, or_false, false_or, not_false, not_true]
      simp only [h1, h2, h3, decide_true, decide_false, not_true_eq_false, not_false_eq_true, Bool.and_true, Bool.true_and, Bool.and_false, Bool.false_and, Bool.or_true, Bool.true_or, Bool.or_false, Bool.false_or, Bool.not_true, Bool.not_false, ite_true, ite_false, if_true, if_false, Bool.false_eq_true, reduceIte, decide_not, and_true, true_and, and_false, false_and, or_true, true_or, or_false, false_or, not_false, not_true]
  · have h3 : vWet w 2 (p + f) = false := by simp only [vWet, h1, decide_true, decide_false, not_true_eq_false, not_false_eq_true, Bool.and_true, Bool.true_and, Bool.and_false, Bool.false_and, Bool.or_true, Bool.true_or, Bool.or_false, Bool.false_or, Bool.not_true, Bool.not_false, ite_true, ite_false, if_true, if_false, Bool.false_eq_true, reduceIte, decide_not, and_true, true_and, and_false, false_and, or_true, true_or, or_false, false_or, not_false, not_true]
    simp only [h1, h3, decide_true, decide_false, not_true_eq_false, not_false_eq_true, Bool.and_true, Bool.true_and, Bool.and_false, Bool.false_and, Bool.or_true, Bool.true_or, Bool.or_false, Bool.false_or, Bool.not_true, Bool.not_false, ite_true, ite_false, if_true, if_false, Bool.false_eq_true, reduceIte, decide_not, and_true, true_and, and_false, false_and, or_true, true_or, or_false, false_or, not_false, not_true]
theorem c2_endFound {S : Nat} (hS : S < 256) : Cl d 23 [.ref 37, .int (nI S)] w Q = Q (some (.int (w.1 39 S))) w := by
  rw [Cl_go (L := [some (.ref 37), some (.int (nI S))]) rfl]
  simp only [s23_0, s23_1, s23_4, s23_5, s23_8, s23_11, s23_12, s23_15, s23_16, s23_17, s23_20, s23_21, gF_i, gF_r, gP_f, gP_t, aRd_1, aRd_4, aKd_e, oo_s, z0, z1, okP_n, okP_i, okP_r, vtl, vtn, true_and, and_true, bI_ite, bI_01, F2_9, F2_15, F2_18, F2_73, F2_57, F2_70, F2_80, F2_105, P2_73, P2_80, P2_105, cs_n, Nat.zero_le, cs_i, cs_r, cs_l, Nat.reduceAdd, Nat.reduceLeDiff, A_39, nI_neg (show S < 2 ^ 31 by omega), nI_l256 (show S < 2 ^ 31 by omega), hS, nI_inb (show S < 2 ^ 31 by omega) hS, nI_cl (show S < 2 ^ 31 by omega), decide_true, decide_false, not_true_eq_false, not_false_eq_true, Bool.and_true, Bool.true_and, Bool.and_false, Bool.false_and, Bool.or_true, Bool.true_or, Bool.or_false, Bool.false_or, Bool.not_true, Bool.not_false, ite_true, ite_false, if_true, if_false, Bool.false_eq_true, reduceIte, decide_not, and_true, true_and, and_false, false_and, or_true, true_or, or_false, false_or, not_false, not_true]
theorem measL {t : Int32} (w0 : hW) (hI : vI w0 2) : ∀ (m i : Nat) (w : hW), vSame 2 w0 w → i + m = 8 → Tr (d + 3) 33 2 [some (.ref 37), some (.int t), some (.int (nI i))] [] w Q = Q none (wA w 38 (fun j => if i ≤ j ∧ j < 8 then (if nI j < w0.1 5 3 then vFar w0 2 (nI j) t else 0) else w.1 38 j)) := by
  intro m
  induction m with
  | zero =>
    intro i w hs hi
    have h1 : ¬ nI i < 8 := by rw [nI_l8 (by omega)]; omega
    show Go (d + 3) 33 2 _ _ _ _ = _
    simp only [s33_0, s33_1, s33_2, s33_3, s33_5, s33_8, s33_9, s33_12, s33_13, s33_14, s33_15, s33_18, s33_21, s33_24, s33_27, s33_28, s33_31, s33_32, s33_33, s33_36, s33_39, s33_40, s33_41, s33_44, s33_47, gF_i, gF_r, gP_f, gP_t, aRd_1, aRd_4, aKd_e, oo_s, z0, z1, okP_n, okP_i, okP_r, vtl, vtn, true_and, and_true, bI_ite, bI_01, F2_9, F2_15, F2_18, F2_73, F2_57, F2_70, F2_80, F2_105, P2_73, P2_80, P2_105, cs_n, Nat.zero_le, cs_i, cs_r, cs_l, Nat.reduceAdd, Nat.reduceLeDiff, h1, decide_true, decide_false, not_true_eq_false, not_false_eq_true, Bool.and_true, Bool.true_and, Bool.and_false, Bool.false_and, Bool.or_true, Bool.true_or, Bool.or_false, Bool.false_or, Bool.not_true, Bool.not_false, ite_true, ite_false, if_true, if_false, Bool.false_eq_true, reduceIte, decide_not, and_true, true_and, and_false, false_and, or_true, true_or, or_false, false_or, not_false, not_true]
    rw [show (fun j => if i ≤ j ∧ j < 8 then (if nI j < w0.1 5 3 then vFar w0 2 (nI j) t else 0) else w.1 38 j) = w.1 38 from funext fun j => by rw [if_neg (by omega)], wA_id]
  | succ m ih =>
    intro i w hs hi
    have h1 : nI i < 8 := by rw [nI_l8 (by omega)]; omega
    have h5 : w.1 5 = w0.1 5 := hs 5 (by omega) (by omega)
    have hI2 : vI w 2 := by rw [vSame_I hs]; exact hI
    have hfin : ∀ x : Int32, x = (if nI i < w0.1 5 3 then vFar w0 2 (nI i) t else 0) → wA (wI w 38 i x) 38 (fun j => if i + 1 ≤ j ∧ j < 8 then (if nI j < w0.1 5 3 then vFar w0 2 (nI j) t else 0) else (wI w 38 i x).1 38 j) = wA w 38 (fun j => if i ≤ j ∧ j < 8 then (if nI j < w0.1 5 3 then vFar w0 2 (nI j) t else 0) else w.1 38 j) := by
      intro x hx
      rw [wI_A, wA_wA, wA_s]
      congr 1
      funext j
      by_cases hj : j = i
      · subst hj
        rw [if_neg (show ¬ (j + 1 ≤ j ∧ j < 8) by omega), if_pos (show j ≤ j ∧ j < 8 by omega), ← hx]
        simp [upd]
      · by_cases h6 : i + 1 ≤ j ∧ j < 8
        · rw [if_pos h6, if_pos (show i ≤ j ∧ j < 8 by omega)]
        · rw [if_neg h6, if_neg (show ¬ (i ≤ j ∧ j < 8) by omega)]
          simp [upd, hj]
    show Go (d + 3) 33 2 _ _ _ _ = _
    simp only [s33_0, s33_1, s33_2, s33_3, s33_5, s33_8, s33_9, s33_12, s33_13, s33_14, s33_15, s33_18, s33_21, s33_24, s33_27, s33_28, s33_31, s33_32, s33_33, s33_36, s33_39, s33_40, s33_41, s33_44, s33_47, gF_i, gF_r, gP_f, gP_t, aRd_1, aRd_4, aKd_e, oo_s, z0, z1, okP_n, okP_i, okP_r, vtl, vtn, true_and, and_true, bI_ite, bI_01, F2_9, F2_15, F2_18, F2_73, F2_57, F2_70, F2_80, F2_105, P2_73, P2_80, P2_105, cs_n, Nat.zero_le, cs_i, cs_r, cs_l, Nat.reduceAdd, Nat.reduceLeDiff, h1, iv2, it5, vl_rcv iv2, h5, A_38, nI_inb (show i < 2 ^ 31 by omega) (show i < 8 by omega), nI_cl (show i < 2 ^ 31 by omega), nI_1, c6_reachOf, hI2, decide_true, decide_false, not_true_eq_false, not_false_eq_true, Bool.and_true, Bool.true_and, Bool.and_false, Bool.false_and, Bool.or_true, Bool.true_or, Bool.or_false, Bool.false_or, Bool.not_true, Bool.not_false, ite_true, ite_false, if_true, if_false, Bool.false_eq_true, reduceIte, decide_not, and_true, true_and, and_false, false_and, or_true, true_or, or_false, false_or, not_false, not_true]
    by_cases h7 : nI i < w0.1 5 3
    · simp only [h7, decide_true, decide_false, not_true_eq_false, not_false_eq_true, Bool.and_true, Bool.true_and, Bool.and_false, Bool.false_and, Bool.or_true, Bool.true_or, Bool.or_false, Bool.false_or, Bool.not_true, Bool.not_false, ite_true, ite_false, if_true, if_false, Bool.false_eq_true, reduceIte, decide_not, and_true, true_and, and_false, false_and, or_true, true_or, or_false, false_or, not_false, not_true]
      rw [ih (i + 1) _ (fun q a b => by rw [wI_A, wA_o (by omega)]; exact hs q a b) (by omega), hfin _ (by rw [if_pos h7, vFar_same hs])]
    · simp only [h7, decide_true, decide_false, not_true_eq_false, not_false_eq_true, Bool.and_true, Bool.true_and, Bool.and_false, Bool.false_and, Bool.or_true, Bool.true_or, Bool.or_false, Bool.false_or, Bool.not_true, Bool.not_false, ite_true, ite_false, if_true, if_false, Bool.false_eq_true, reduceIte, decide_not, and_true, true_and, and_false, false_and, or_true, true_or, or_false, false_or, not_false, not_true]
      rw [ih (i + 1) _ (fun q a b => by rw [wI_A, wA_o (by omega)]; exact hs q a b) (by omega), hfin _ (by rw [if_neg h7])]
theorem c2_measure (hI : vI w 2) {t : Int32} : Cl (d + 3) 33 [.ref 37, .int t] w Q = Q none (rMeas w t) := by
  rw [Cl_go (L := [some (.ref 37), some (.int t), none]) rfl]
  have h := measL (d := d) (Q := Q) (t := t) w hI 8 0 w (fun _ _ _ => rfl) rfl
  rw [nI_0] at h
  simp only [s33_0, s33_1, s33_2, s33_3, s33_5, s33_8, s33_9, s33_12, s33_13, s33_14, s33_15, s33_18, s33_21, s33_24, s33_27, s33_28, s33_31, s33_32, s33_33, s33_36, s33_39, s33_40, s33_41, s33_44, s33_47, gF_i, gF_r, gP_f, gP_t, aRd_1, aRd_4, aKd_e, oo_s, z0, z1, okP_n, okP_i, okP_r, vtl, vtn, true_and, and_true, bI_ite, bI_01, h]
  congr 1
  unfold rMeas
  congr 1
  funext j
  simp
theorem farS {S : Nat} (hS : S < 256) {to : Int32} {i : Nat} (hi8 : i < 8) {a : Int32} : Tr (d + 2) 35 5 [some (.ref 37), some (.int (nI S)), some (.int to), some (.int a), some (.int (nI i))] [] w Q = Tr (d + 2) 35 5 [some (.ref 37), some (.int (nI S)), some (.int to), some (.int (if S.testBit i then (if a < onw (w.1 2 4) (w.1 2 5) (w.1 39 (clr S i)) (w.1 38 i) to then onw (w.1 2 4) (w.1 2 5) (w.1 39 (clr S i)) (w.1 38 i) to else a) else a)), some (.int (nI (i + 1)))] [] w Q := by
  have h1 : nI i < 8 := by rw [nI_l8 (by omega)]; omega
  have h5 := nI_inb (show i < 2 ^ 31 by omega) hi8
  have h6 := nI_cl (show i < 2 ^ 31 by omega)
  have h7 := sb_clr S hS i hi8
  have h8 := clr_lt S hS i hi8
  have h9 := sb_bit S hS i hi8
  show Go (d + 2) 35 5 _ _ _ _ = _
  by_cases h2 : S.testBit i = true
  · have h3 : ¬ ((nI S >>> (nI i &&& 31)) &&& 1 = 0) := fun z => by rw [h9.mp z] at h2; cases h2
    rw [if_pos h2]
    simp only [s35_0, s35_1, s35_2, s35_3, s35_5, s35_7, s35_9, s35_12, s35_13, s35_15, s35_16, s35_17, s35_18, s35_21, s35_22, s35_23, s35_24, s35_25, s35_26, s35_28, s35_29, s35_30, s35_31, s35_32, s35_35, s35_36, s35_39, s35_41, s35_42, s35_43, s35_46, s35_49, s35_50, s35_53, s35_56, s35_57, gF_i, gF_r, gP_f, gP_t, aRd_1, aRd_4, aKd_e, oo_s, z0, z1, okP_n, okP_i, okP_r, vtl, vtn, true_and, and_true, bI_ite, bI_01, F2_9, F2_15, F2_18, F2_73, F2_57, F2_70, F2_80, F2_105, P2_73, P2_80, P2_105, cs_n, Nat.zero_le, cs_i, cs_r, cs_l, Nat.reduceAdd, Nat.reduceLeDiff, h1, R_2, h7, c2_endFound h8, c2_onward, A_38, h5, h6, nI_1, decide_true, decide_false, not_true_eq_false, not_false_eq_true, Bool.and_true, Bool.true_and, Bool.and_false, Bool.false_and, Bool.or_true, Bool.true_or, Bool.or_false, Bool.false_or, Bool.not_true, Bool.not_false, ite_true, ite_false, if_true, if_false, Bool.false_eq_true, reduceIte, decide_not, and_true, true_and, and_false, false_and, or_true, true_or, or_false, false_or, not_false, not_true, h3]
  · have h3 : (nI S >>> (nI i &&& 31)) &&& 1 = 0 := h9.mpr (by simpa using h2)
    rw [if_neg h2]
    simp only [s35_0, s35_1, s35_2, s35_3, s35_5, s35_7, s35_9, s35_12, s35_13, s35_15, s35_16, s35_17, s35_18, s35_21, s35_22, s35_23, s35_24, s35_25, s35_26, s35_28, s35_29, s35_30, s35_31, s35_32, s35_35, s35_36, s35_39, s35_41, s35_42, s35_43, s35_46, s35_49, s35_50, s35_53, s35_56, s35_57, gF_i, gF_r, gP_f, gP_t, aRd_1, aRd_4, aKd_e, oo_s, z0, z1, okP_n, okP_i, okP_r, vtl, vtn, true_and, and_true, bI_ite, bI_01, F2_9, F2_15, F2_18, F2_73, F2_57, F2_70, F2_80, F2_105, P2_73, P2_80, P2_105, cs_n, Nat.zero_le, cs_i, cs_r, cs_l, Nat.reduceAdd, Nat.reduceLeDiff, h1, R_2, nI_1, decide_true, decide_false, not_true_eq_false, not_false_eq_true, Bool.and_true, Bool.true_and, Bool.and_false, Bool.false_and, Bool.or_true, Bool.true_or, Bool.or_false, Bool.false_or, Bool.not_true, Bool.not_false, ite_true, ite_false, if_true, if_false, Bool.false_eq_true, reduceIte, decide_not, and_true, true_and, and_false, false_and, or_true, true_or, or_false, false_or, not_false, not_true, h3]
theorem farL {S : Nat} (hS : S < 256) {to : Int32} : ∀ (m i : Nat) (a : Int32), i + m = 8 → Tr (d + 2) 35 5 [some (.ref 37), some (.int (nI S)), some (.int to), some (.int a), some (.int (nI i))] [] w Q = Q (some (.int (feL (w.1 2 4) (w.1 2 5) (w.1 38) (w.1 39) to S i m a))) w := by
  intro m
  induction m with
  | zero =>
    intro i a hi
    have h1 : ¬ nI i < 8 := by rw [nI_l8 (by omega)]; omega
    show Go (d + 2) 35 5 _ _ _ _ = _
    simp only [s35_0, s35_1, s35_2, s35_3, s35_5, s35_7, s35_9, s35_12, s35_13, s35_15, s35_16, s35_17, s35_18, s35_21, s35_22, s35_23, s35_24, s35_25, s35_26, s35_28, s35_29, s35_30, s35_31, s35_32, s35_35, s35_36, s35_39, s35_41, s35_42, s35_43, s35_46, s35_49, s35_50, s35_53, s35_56, s35_57, gF_i, gF_r, gP_f, gP_t, aRd_1, aRd_4, aKd_e, oo_s, z0, z1, okP_n, okP_i, okP_r, vtl, vtn, true_and, and_true, bI_ite, bI_01, F2_9, F2_15, F2_18, F2_73, F2_57, F2_70, F2_80, F2_105, P2_73, P2_80, P2_105, cs_n, Nat.zero_le, cs_i, cs_r, cs_l, Nat.reduceAdd, Nat.reduceLeDiff, h1, decide_true, decide_false, not_true_eq_false, not_false_eq_true, Bool.and_true, Bool.true_and, Bool.and_false, Bool.false_and, Bool.or_true, Bool.true_or, Bool.or_false, Bool.false_or, Bool.not_true, Bool.not_false, ite_true, ite_false, if_true, if_false, Bool.false_eq_true, reduceIte, decide_not, and_true, true_and, and_false, false_and, or_true, true_or, or_false, false_or, not_false, not_true]
    rfl
  | succ m ih =>
    intro i a hi
    rw [farS hS (by omega), ih (i + 1) _ (by omega)]
    rfl
theorem c2_farthestEnd {S : Nat} (hS : S < 256) {to : Int32} : Cl (d + 2) 35 [.ref 37, .int (nI S), .int to] w Q = Q (some (.int (feL (w.1 2 4) (w.1 2 5) (w.1 38) (w.1 39) to S 0 8 0))) w := by
  rw [Cl_go (L := [some (.ref 37), some (.int (nI S)), some (.int to), none, none]) rfl]
  have h := farL (d := d) (Q := Q) (w := w) hS (to := to) 8 0 0 rfl
  rw [nI_0] at h
  simp only [s35_0, s35_1, s35_2, s35_3, s35_5, s35_7, s35_9, s35_12, s35_13, s35_15, s35_16, s35_17, s35_18, s35_21, s35_22, s35_23, s35_24, s35_25, s35_26, s35_28, s35_29, s35_30, s35_31, s35_32, s35_35, s35_36, s35_39, s35_41, s35_42, s35_43, s35_46, s35_49, s35_50, s35_53, s35_56, s35_57, gF_i, gF_r, gP_f, gP_t, aRd_1, aRd_4, aKd_e, oo_s, z0, z1, okP_n, okP_i, okP_r, vtl, vtn, true_and, and_true, bI_ite, bI_01, h]
theorem fillL {S : Nat} (hS : S < 256) {st to : Int32} : ∀ (m i : Nat) (w : hW), 1 ≤ i → i + m = S + 1 → Tr (d + 3) 34 10 [some (.ref 37), some (.int st), some (.int (nI S)), some (.int to), some (.int (nI i))] [] w Q = Q (some (.int (fiL (w.1 2 4) (w.1 2 5) (w.1 38) to S i m (w.1 39) S))) (wA w 39 (fiL (w.1 2 4) (w.1 2 5) (w.1 38) to S i m (w.1 39))) := by
  intro m
  induction m with
  | zero =>
    intro i w h0 hi
    have h1 : nI S < nI i := by rw [nIlt (by omega), nI_toInt (by omega)]; omega
    show Go (d + 3) 34 10 _ _ _ _ = _
    simp only [s34_0, s34_1, s34_4, s34_5, s34_6, s34_7, s34_8, s34_10, s34_12, s34_13, s34_16, s34_18, s34_21, s34_24, s34_26, s34_27, s34_28, s34_29, s34_30, s34_33, s34_34, s34_37, s34_39, s34_40, s34_42, s34_43, s34_46, s34_47, s34_50, s34_53, s34_54, s34_55, s34_58, gF_i, gF_r, gP_f, gP_t, aRd_1, aRd_4, aKd_e, oo_s, z0, z1, okP_n, okP_i, okP_r, vtl, vtn, true_and, and_true, bI_ite, bI_01, F2_9, F2_15, F2_18, F2_73, F2_57, F2_70, F2_80, F2_105, P2_73, P2_80, P2_105, cs_n, Nat.zero_le, cs_i, cs_r, cs_l, Nat.reduceAdd, Nat.reduceLeDiff, h1, R_2, c2_endFound hS, decide_true, decide_false, not_true_eq_false, not_false_eq_true, Bool.and_true, Bool.true_and, Bool.and_false, Bool.false_and, Bool.or_true, Bool.true_or, Bool.or_false, Bool.false_or, Bool.not_true, Bool.not_false, ite_true, ite_false, if_true, if_false, Bool.false_eq_true, reduceIte, decide_not, and_true, true_and, and_false, false_and, or_true, true_or, or_false, false_or, not_false, not_true, fiL, wA_id]
  | succ m ih =>
    intro i w h0 hi
    have h1 : ¬ nI S < nI i := by rw [nIlt (by omega), nI_toInt (by omega)]; omega
    have h2 : nI i < 256 := by rw [nI_l256 (by omega)]; omega
    have hi2 : i < 256 := by omega
    show Go (d + 3) 34 10 _ _ _ _ = _
    simp only [s34_0, s34_1, s34_4, s34_5, s34_6, s34_7, s34_8, s34_10, s34_12, s34_13, s34_16, s34_18, s34_21, s34_24, s34_26, s34_27, s34_28, s34_29, s34_30, s34_33, s34_34, s34_37, s34_39, s34_40, s34_42, s34_43, s34_46, s34_47, s34_50, s34_53, s34_54, s34_55, s34_58, gF_i, gF_r, gP_f, gP_t, aRd_1, aRd_4, aKd_e, oo_s, z0, z1, okP_n, okP_i, okP_r, vtl, vtn, true_and, and_true, bI_ite, bI_01, F2_9, F2_15, F2_18, F2_73, F2_57, F2_70, F2_80, F2_105, P2_73, P2_80, P2_105, cs_n, Nat.zero_le, cs_i, cs_r, cs_l, Nat.reduceAdd, Nat.reduceLeDiff, h1, h2, R_2, c2_farthestEnd hi2, A_39, nI_inb (show i < 2 ^ 31 by omega) hi2, nI_cl (show i < 2 ^ 31 by omega), nI_1, ih (i + 1) _ (by omega) (by omega), decide_true, decide_false, not_true_eq_false, not_false_eq_true, Bool.and_true, Bool.true_and, Bool.and_false, Bool.false_and, Bool.or_true, Bool.true_or, Bool.or_false, Bool.false_or, Bool.not_true, Bool.not_false, ite_true, ite_false, if_true, if_false, Bool.false_eq_true, reduceIte, decide_not, and_true, true_and, and_false, false_and, or_true, true_or, or_false, false_or, not_false, not_true, fiL]
    by_cases h3 : subN i S = true
    · have h4 := (sb_sub i hi2 S hS).mpr h3
      simp only [h3, h4, decide_true, decide_false, not_true_eq_false, not_false_eq_true, Bool.and_true, Bool.true_and, Bool.and_false, Bool.false_and, Bool.or_true, Bool.true_or, Bool.or_false, Bool.false_or, Bool.not_true, Bool.not_false, ite_true, ite_false, if_true, if_false, Bool.false_eq_true, reduceIte, decide_not, and_true, true_and, and_false, false_and, or_true, true_or, or_false, false_or, not_false, not_true, wI_A, wA_wA, wA_s, wA_o (show (2 : Nat) ≠ 39 by decide), wA_o (show (38 : Nat) ≠ 39 by decide)]
    · have h4 : ¬ (nI i &&& (nI S ^^^ (-1)) = 0) := fun z => h3 ((sb_sub i hi2 S hS).mp z)
      simp only [h3, h4, decide_true, decide_false, not_true_eq_false, not_false_eq_true, Bool.and_true, Bool.true_and, Bool.and_false, Bool.false_and, Bool.or_true, Bool.true_or, Bool.or_false, Bool.false_or, Bool.not_true, Bool.not_false, ite_true, ite_false, if_true, if_false, Bool.false_eq_true, reduceIte, decide_not, and_true, true_and, and_false, false_and, or_true, true_or, or_false, false_or, not_false, not_true]
theorem c2_fill {S : Nat} (hS : S < 256) {st to : Int32} : Cl (d + 3) 34 [.ref 37, .int st, .int (nI S), .int to] w Q = Q (some (.int (fiE (w.1 2 4) (w.1 2 5) (w.1 38) to st S (w.1 39) S))) (wA w 39 (fiE (w.1 2 4) (w.1 2 5) (w.1 38) to st S (w.1 39))) := by
  rw [Cl_go (L := [some (.ref 37), some (.int st), some (.int (nI S)), some (.int to), none]) rfl]
  have h := fillL (d := d) (Q := Q) hS (st := st) (to := to) S 1 (wI w 39 0 st) (by omega) (by omega)
  rw [show nI 1 = 1 from rfl] at h
  simp only [wI_A, wA_wA, wA_s, wA_o (show (2 : Nat) ≠ 39 by decide), wA_o (show (38 : Nat) ≠ 39 by decide)] at h
  have i0 : inb 0 256 := ⟨by decide, by decide⟩
  have i1 : (0 : Int32).toNatClampNeg = 0 := rfl
  simp only [s34_0, s34_1, s34_4, s34_5, s34_6, s34_7, s34_8, s34_10, s34_12, s34_13, s34_16, s34_18, s34_21, s34_24, s34_26, s34_27, s34_28, s34_29, s34_30, s34_33, s34_34, s34_37, s34_39, s34_40, s34_42, s34_43, s34_46, s34_47, s34_50, s34_53, s34_54, s34_55, s34_58, gF_i, gF_r, gP_f, gP_t, aRd_1, aRd_4, aKd_e, oo_s, z0, z1, okP_n, okP_i, okP_r, vtl, vtn, true_and, and_true, bI_ite, bI_01, F2_9, F2_15, F2_18, F2_73, F2_57, F2_70, F2_80, F2_105, P2_73, P2_80, P2_105, cs_n, Nat.zero_le, cs_i, cs_r, cs_l, Nat.reduceAdd, Nat.reduceLeDiff, A_39, i0, i1, h, wI_A, wA_wA, wA_s, wA_o (show (2 : Nat) ≠ 39 by decide), wA_o (show (38 : Nat) ≠ 39 by decide)]
  rfl
end

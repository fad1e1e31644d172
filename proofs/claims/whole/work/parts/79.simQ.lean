/-! THE TWO SIDES ALIKE: reading, step by step -/
def rAt (w0 w : hW) (a : Nat) : Prop := fr35 w0 w ∧ w.1 35 6 = -1 ∧ w.1 35 4 = nI a
def rBad (w0 w : hW) (q : Nat) : Prop := fr35 w0 w ∧ w.1 35 6 = nI q
def qN (L : Nat → Int32) (ft : Nat → Int32 → Int32 → Bool) : Nat → Nat → Nat → Int32 → Nat ⊕ (List Int32 × Nat)
  | 0, _, a, _ => .inr ([], a)
  | r + 1, i, a, v0 => if L a = 32 then (if rDig (L (a + 1)) then (if ft i (if i = 0 then numV L (a + 1) else v0) (numV L (a + 1)) then (match qN L ft r (i + 1) (numE L (a + 1)) (if i = 0 then numV L (a + 1) else v0) with
    | .inl q => .inl q
    | .inr x => .inr (numV L (a + 1) :: x.1, x.2)) else .inl (a + 1)) else .inl (a + 1)) else .inl a
def cN (ft : Nat → hW → Int32 → Int32 → Bool) : Nat → Nat → hW → Int32 → List Int32 × hW
  | 0, _, w, _ => ([], w)
  | r + 1, i, w, v0 => ((rNum w).1 :: (cN ft r (i + 1) (rMust (rNum w).2 (ft i (rNum w).2 (if i = 0 then (rNum w).1 else v0) (rNum w).1)) (if i = 0 then (rNum w).1 else v0)).1, (cN ft r (i + 1) (rMust (rNum w).2 (ft i (rNum w).2 (if i = 0 then (rNum w).1 else v0) (rNum w).1)) (if i = 0 then (rNum w).1 else v0)).2)
def rOut (w0 : hW) : Nat ⊕ (List Int32 × Nat) → List Int32 × hW → Prop
  | .inl q, z => rBad w0 z.2 q ∧ q < 1000
  | .inr x, z => rAt w0 z.2 x.2 ∧ z.1 = x.1
section
variable {w0 w u : hW} {L : Nat → Int32}
theorem pNs_q {ft : Nat → Int32 → Int32 → Bool} : ∀ (r i a : Nat) (v0 : Int32), i ≠ 0 → pNs L ft r i a v0 = qN L ft r i a v0
  | 0, _, _, _, _ => rfl
  | r + 1, i, a, v0, hi => by
    unfold pNs qN
    simp only [if_neg hi, pNs_q r (i + 1) _ _ (Nat.succ_ne_zero i)]
    by_cases c : L a = 32
    · rw [if_neg (fun e => e.2 c), if_pos c]
      rfl
    · rw [if_pos ⟨hi, c⟩, if_neg c]
theorem pNs_q0 {ft : Nat → Int32 → Int32 → Bool} {r a : Nat} {v0 : Int32} (h : L a = 32) : pNs L ft (r + 1) 0 (a + 1) v0 = qN L ft (r + 1) 0 a v0 := by
  unfold pNs qN
  rw [if_pos h, if_neg (by simp)]
  simp only [if_true, if_pos, pNs_q r (0 + 1) _ _ (Nat.succ_ne_zero 0)]
  rfl
theorem rLet_fr (h : fr35 w0 w) {x : Int32} : rLet w x = rLet w0 x := by
  unfold rLet
  rw [h.2.2.1, h.1 36 (by omega)]
theorem nI_ne {q : Nat} (h : q < 2 ^ 31) : nI q ≠ -1 := by rw [Ne, i32_eq, nI_toInt h, i32_m1]; omega
theorem rBad_6 {q : Nat} (h : rBad w0 w q) (hq : q < 1000) : w.1 35 6 ≠ -1 := by rw [h.2]; exact nI_ne (by omega)
theorem rFail_at {q : Nat} (h : fr35 w0 w) (h6 : w.1 35 6 = -1) : rBad w0 (rFail w (nI q)) q := by
  refine ⟨fr35.tr h fr35_fail, ?_⟩
  unfold rFail
  rw [if_pos h6, wI_is]
theorem rAt_exp (hL : ∀ q, q < 1000 → rLet w0 (nI q) = L q) {a : Nat} {c : Int32} (h : rAt w0 w a) (ha : a < 999) : (L a = c → rAt w0 (rExp w c) (a + 1)) ∧ (L a ≠ c → rBad w0 (rExp w c) a) := by
  obtain ⟨h1, h2, h3⟩ := h
  have el : rLet w (w.1 35 4) = L a := by rw [h3, rLet_fr h1, hL a (by omega)]
  refine ⟨fun e => ⟨fr35.tr h1 fr35_exp, ?_, ?_⟩, fun e => ?_⟩
  · unfold rExp
    rw [if_pos h2, if_pos (by rw [el]; exact e), wI_at (by omega)]
    exact h2
  · unfold rExp
    rw [if_pos h2, if_pos (by rw [el]; exact e), wI_is, h3, nI_1]
  · unfold rExp
    rw [if_pos h2, if_neg (by rw [el]; exact e), h3]
    exact rFail_at h1 h2
theorem rBad_exp {q : Nat} {c : Int32} (h : rBad w0 w q) (hq : q < 1000) : rBad w0 (rExp w c) q := by
  rw [flt_exp (rBad_6 h hq)]
  exact h
theorem rBad_must {q : Nat} {b : Bool} (h : rBad w0 w q) (hq : q < 1000) : rBad w0 (rMust w b) q := by
  rw [flt_must (rBad_6 h hq)]
  exact h
theorem rNumL_bad (h6 : w.1 35 6 ≠ -1) : ∀ (m : Nat) (v : Int32), rNumL m w v = (v, w)
  | 0, _ => rfl
  | m + 1, v => by
    unfold rNumL
    rw [if_neg h6]
theorem rBad_num {q : Nat} (h : rBad w0 w q) (hq : q < 1000) : rBad w0 (rNum w).2 q := by
  have h1 : (rNum1 w).1 35 6 = nI q := by
    unfold rNum1
    rw [flt_exp (rBad_6 h hq), wI_at (by omega)]
    exact h.2
  have n1 : (rNum1 w).1 35 6 ≠ -1 := by rw [h1]; exact nI_ne (by omega)
  have e0 : rNum0 w = rNum1 w := by
    unfold rNum0
    split
    · rfl
    · exact flt_fail n1
  refine ⟨fr35.tr h.1 fr35_num, ?_⟩
  unfold rNum
  rw [e0, rNumL_bad n1]
  exact h1
theorem rAt_num (hL : ∀ q, q < 1000 → rLet w0 (nI q) = L q) {a : Nat} (h : rAt w0 w a) (ha : a < 990) : (L a ≠ 32 → rBad w0 (rNum w).2 a) ∧ (L a = 32 → ¬ rDig (L (a + 1)) = true → rBad w0 (rNum w).2 (a + 1)) ∧ (L a = 32 → rDig (L (a + 1)) = true → rAt w0 (rNum w).2 (numE L (a + 1)) ∧ (rNum w).1 = numV L (a + 1) ∧ (rNum w).2.1 35 5 = nI (a + 1)) := by
  obtain ⟨x1, x2⟩ := rAt_exp (c := 32) hL h (by omega)
  refine ⟨fun e => ?_, fun e hd => ?_, fun e hd => ?_⟩
  · have b := x2 e
    have h1 : (rNum1 w).1 35 6 = nI a := by
      unfold rNum1
      rw [wI_at (by omega)]
      exact b.2
    have n1 : (rNum1 w).1 35 6 ≠ -1 := by rw [h1]; exact nI_ne (by omega)
    have e0 : rNum0 w = rNum1 w := by
      unfold rNum0
      split
      · rfl
      · exact flt_fail n1
    refine ⟨fr35.tr h.1 fr35_num, ?_⟩
    unfold rNum
    rw [e0, rNumL_bad n1]
    exact h1
  · obtain ⟨y1, y2, y3⟩ := x1 e
    have f1 : fr35 w0 (rNum1 w) := by
      unfold rNum1
      exact fr35.tr y1 (fr35_wI (by omega) (by omega))
    have h6 : (rNum1 w).1 35 6 = -1 := by
      unfold rNum1
      rw [wI_at (by omega)]
      exact y2
    have h4 : (rNum1 w).1 35 4 = nI (a + 1) := by
      unfold rNum1
      rw [wI_at (by omega)]
      exact y3
    have e0 : rNum0 w = rFail (rNum1 w) (nI (a + 1)) := by
      unfold rNum0
      rw [h4, rLet_fr f1, hL (a + 1) (by omega), if_neg hd]
    have b := rFail_at (q := a + 1) f1 h6
    unfold rNum
    rw [e0, rNumL_bad (rBad_6 b (by omega))]
    exact b
  · obtain ⟨y1, y2, y3⟩ := x1 e
    have f1 : fr35 w0 (rNum1 w) := by
      unfold rNum1
      exact fr35.tr y1 (fr35_wI (by omega) (by omega))
    have h6 : (rNum1 w).1 35 6 = -1 := by
      unfold rNum1
      rw [wI_at (by omega)]
      exact y2
    have h4 : (rNum1 w).1 35 4 = nI (a + 1) := by
      unfold rNum1
      rw [wI_at (by omega)]
      exact y3
    have h5 : (rNum1 w).1 35 5 = nI (a + 1) := by
      unfold rNum1
      rw [wI_is]
      exact y3
    have e0 : rNum0 w = rNum1 w := by
      unfold rNum0
      rw [h4, rLet_fr f1, hL (a + 1) (by omega), if_pos hd]
    have z : (0 : Int32) * 10 + L (a + 1) - 48 = L (a + 1) - 48 := by
      have : (0 : Int32) * 10 = 0 := by decide
      rw [this, Int32.zero_add]
    have cm : ∀ x : Int32, x * 10 = 10 * x := fun x => Int32.mul_comm x 10
    unfold rNum
    rw [e0]
    generalize rNum1 w = v at f1 h6 h4 h5
    have l1 : rLet v (v.1 35 4) = L (a + 1) := by rw [h4, rLet_fr f1, hL (a + 1) (by omega)]
    have g1 : fr35 w0 (wI v 35 4 (v.1 35 4 + 1)) := fr35.tr f1 (fr35_wI (by omega) (by omega))
    have g4 : (wI v 35 4 (v.1 35 4 + 1)).1 35 4 = nI (a + 1 + 1) := by rw [wI_is, h4, nI_1]
    have g6 : (wI v 35 4 (v.1 35 4 + 1)).1 35 6 = -1 := by rw [wI_at (by omega)]; exact h6
    have g5 : (wI v 35 4 (v.1 35 4 + 1)).1 35 5 = nI (a + 1) := by rw [wI_at (by omega)]; exact h5
    have l2 : rLet (wI v 35 4 (v.1 35 4 + 1)) ((wI v 35 4 (v.1 35 4 + 1)).1 35 4) = L (a + 1 + 1) := by rw [g4, rLet_fr g1, hL (a + 1 + 1) (by omega)]
    have s1 : rNumL 2 v 0 = rNumL 1 (wI v 35 4 (v.1 35 4 + 1)) (L (a + 1) - 48) := by
      rw [rNumL, if_pos h6, l1, if_pos hd, z]
    rw [s1]
    generalize wI v 35 4 (v.1 35 4 + 1) = v2 at g1 g4 g6 g5 l2 ⊢
    have s2 : rNumL 1 v2 (L (a + 1) - 48) = if rDig (L (a + 1 + 1)) then (((L (a + 1) - 48) * 10 + L (a + 1 + 1) - 48), wI v2 35 4 (v2.1 35 4 + 1)) else (L (a + 1) - 48, v2) := by
      rw [rNumL, if_pos g6, l2]
      rfl
    rw [s2]
    unfold numE numV
    by_cases c : rDig (L (a + 1 + 1)) = true
    · rw [if_pos c, if_pos c, if_pos c]
      refine ⟨⟨fr35.tr g1 (fr35_wI (by omega) (by omega)), ?_, ?_⟩, ?_, ?_⟩
      · show (wI v2 35 4 (v2.1 35 4 + 1)).1 35 6 = -1
        rw [wI_at (by omega)]; exact g6
      · show (wI v2 35 4 (v2.1 35 4 + 1)).1 35 4 = _
        rw [wI_is, g4, nI_1]
      · show (L (a + 1) - 48) * 10 + L (a + 1 + 1) - 48 = _
        rw [cm]
      · show (wI v2 35 4 (v2.1 35 4 + 1)).1 35 5 = _
        rw [wI_at (by omega)]; exact g5
    · rw [if_neg c, if_neg c, if_neg c]
      exact ⟨⟨g1, g6, g4⟩, rfl, g5⟩
theorem rAt_must {a s : Nat} {b : Bool} (h : rAt w0 w a) (h5 : w.1 35 5 = nI s) : (b = true → rAt w0 (rMust w b) a) ∧ (b = false → rBad w0 (rMust w b) s) := by
  refine ⟨fun e => ?_, fun e => ?_⟩
  · rw [e]; exact h
  · rw [e]
    show rBad w0 (rFail w (w.1 35 5)) s
    rw [h5]
    exact rFail_at h.1 h.2.1
theorem cN_bad {ft : Nat → hW → Int32 → Int32 → Bool} {q : Nat} (hq : q < 1000) : ∀ (r i : Nat) (w : hW) (v0 : Int32), rBad w0 w q → rBad w0 (cN ft r i w v0).2 q
  | 0, _, _, _, h => h
  | r + 1, i, w, v0, h => cN_bad hq r (i + 1) _ _ (rBad_must (rBad_num h hq) hq)
theorem numE_b {a : Nat} : a + 1 ≤ numE L a ∧ numE L a ≤ a + 2 := by unfold numE; split <;> omega
theorem cN_m (hL : ∀ q, q < 1000 → rLet w0 (nI q) = L q) {ft' : Nat → hW → Int32 → Int32 → Bool} {ft : Nat → Int32 → Int32 → Bool} (hft : ∀ i w v0 v, fr35 w0 w → (0 ≤ v.toInt ∧ v.toInt ≤ 99) → ft' i w v0 v = ft i v0 v) : ∀ (r i : Nat) (w : hW) (a : Nat) (v0 : Int32), rAt w0 w a → a + 3 * r < 980 → rOut w0 (qN L ft r i a v0) (cN ft' r i w v0)
  | 0, i, w, a, v0, h, _ => ⟨h, rfl⟩
  | r + 1, i, w, a, v0, h, ha => by
    obtain ⟨n1, n2, n3⟩ := rAt_num hL h (by omega)
    unfold qN
    by_cases c1 : L a = 32
    · rw [if_pos c1]
      by_cases c2 : rDig (L (a + 1)) = true
      · rw [if_pos c2]
        obtain ⟨m1, m2, m3⟩ := n3 c1 c2
        have eb : numE L (a + 1) ≤ a + 3 := by have := numE_b (L := L) (a := a + 1); omega
        have hf := hft i (rNum w).2 (if i = 0 then (rNum w).1 else v0) (rNum w).1 m1.1 (by rw [m2]; exact numV_b c2)
        have hf2 : ft' i (rNum w).2 (if i = 0 then (rNum w).1 else v0) (rNum w).1 = ft i (if i = 0 then numV L (a + 1) else v0) (numV L (a + 1)) := by rw [hf, m2]
        obtain ⟨k1, k2⟩ := rAt_must (b := ft i (if i = 0 then numV L (a + 1) else v0) (numV L (a + 1))) m1 m3
        unfold cN
        rw [hf2, m2]
        by_cases c3 : ft i (if i = 0 then numV L (a + 1) else v0) (numV L (a + 1)) = true
        · rw [if_pos c3]
          have ih := cN_m hL hft r (i + 1) (rMust (rNum w).2 (ft i (if i = 0 then numV L (a + 1) else v0) (numV L (a + 1)))) (numE L (a + 1)) (if i = 0 then numV L (a + 1) else v0) (k1 c3) (by omega)
          generalize qN L ft r (i + 1) (numE L (a + 1)) (if i = 0 then numV L (a + 1) else v0) = y at ih
          cases y with
          | inl q => exact ih
          | inr x => exact ⟨ih.1, by rw [ih.2]⟩
        · rw [if_neg c3]
          exact ⟨cN_bad (by omega) r (i + 1) _ _ (k2 (by rw [Bool.not_eq_true] at c3; exact c3)), by omega⟩
      · rw [if_neg c2]
        exact ⟨cN_bad (by omega) r (i + 1) _ _ (rBad_must (n2 c1 c2) (by omega)), by omega⟩
    · rw [if_neg c1]
      exact ⟨cN_bad (by omega) r (i + 1) _ _ (rBad_must (n1 c1) (by omega)), by omega⟩
/-! words -/
theorem rWord_bad {tx : List Int32} {q : Nat} (hq : q < 1000) : ∀ (m i : Nat) (w : hW), rBad w0 w q → rBad w0 (rWordI tx i m w) q
  | 0, _, _, h => h
  | m + 1, i, w, h => rWord_bad hq m (i + 1) _ (rBad_exp h hq)
theorem rWord_m (hL : ∀ q, q < 1000 → rLet w0 (nI q) = L q) {tx : List Int32} {a : Nat} : ∀ (m i : Nat) (w : hW), rAt w0 w (a + i) → a + i + m < 990 → (mtF L tx a m i = i + m → rAt w0 (rWordI tx i m w) (a + (i + m))) ∧ (mtF L tx a m i ≠ i + m → rBad w0 (rWordI tx i m w) (a + mtF L tx a m i))
  | 0, i, w, h, _ => ⟨fun _ => h, fun e => absurd rfl e⟩
  | m + 1, i, w, h, ha => by
    obtain ⟨x1, x2⟩ := rAt_exp (c := tx.getD i 0) hL h (by omega)
    unfold rWordI mtF
    by_cases c : L (a + i) = tx.getD i 0
    · rw [if_pos c]
      have ih := rWord_m hL (tx := tx) (a := a) m (i + 1) (rExp w (tx.getD i 0)) (x1 c) (by omega)
      have e : i + 1 + m = i + (m + 1) := by omega
      rw [e] at ih
      exact ih
    · rw [if_neg c]
      exact ⟨fun e => by omega, fun _ => rWord_bad (by omega) m (i + 1) _ (x2 c)⟩
theorem rEW_m (hL : ∀ q, q < 1000 → rLet w0 (nI q) = L q) {a j : Nat} {b : Bool} (h : rAt w0 w a) (ha : a + (gTxs.getD j []).length < 990) : (mtF L (gTxs.getD j []) a (gTxs.getD j []).length 0 = (gTxs.getD j []).length → b = false → rAt w0 (rEW w j b) (a + (gTxs.getD j []).length)) ∧ (mtF L (gTxs.getD j []) a (gTxs.getD j []).length 0 = (gTxs.getD j []).length → b = true → rBad w0 (rEW w j b) a) ∧ (mtF L (gTxs.getD j []) a (gTxs.getD j []).length 0 ≠ (gTxs.getD j []).length → rBad w0 (rEW w j b) (a + mtF L (gTxs.getD j []) a (gTxs.getD j []).length 0)) := by
  have k := rWord_m hL (tx := gTxs.getD j []) (a := a) (gTxs.getD j []).length 0 w h (by omega)
  rw [Nat.zero_add] at k
  have mb := mtF_b (L := L) (tx := gTxs.getD j []) (a := a) (gTxs.getD j []).length 0
  refine ⟨fun e hb => ?_, fun e hb => ?_, fun e => ?_⟩
  · rw [hb]; exact k.1 e
  · rw [hb]
    show rBad w0 (rFail (rWordI (gTxs.getD j []) 0 (gTxs.getD j []).length w) (w.1 35 4)) a
    rw [h.2.2]
    exact rFail_at (k.1 e).1 (k.1 e).2.1
  · have kb := k.2 e
    cases b with
    | false => exact kb
    | true =>
      show rBad w0 (rFail (rWordI (gTxs.getD j []) 0 (gTxs.getD j []).length w) (w.1 35 4)) _
      rw [flt_fail (rBad_6 kb (by omega))]
      exact kb
/-! which word: the model tries all six, the class goes by the first letters -/
theorem wd_no {a f : Nat} (hH : ∀ g, g < 6 → g ≠ f → mtF L (wBl g) a (wLen g + 1) 0 ≤ 1 ∧ 1 < wLen g + 1) : ∀ (r i far : Nat), i + r = 6 → f < i → a + 1 ≤ far → wdF L a i r far = .inr far
  | 0, _, _, _, _, _ => rfl
  | r + 1, i, far, hi, hf, hfar => by
    obtain ⟨h1, h2⟩ := hH i (by omega) (by omega)
    unfold wdF
    rw [if_neg (by omega), if_neg (by omega)]
    exact wd_no hH r (i + 1) far (by omega) (by omega) hfar
theorem wd_m {a f : Nat} (hf : f < 6) (hH : ∀ g, g < 6 → g ≠ f → mtF L (wBl g) a (wLen g + 1) 0 ≤ 1 ∧ 1 < wLen g + 1) (h1 : 1 ≤ mtF L (wBl f) a (wLen f + 1) 0) : ∀ (r i far : Nat), i + r = 6 → i ≤ f → a ≤ far → far ≤ a + 1 → wdF L a i r far = if mtF L (wBl f) a (wLen f + 1) 0 = wLen f + 1 then .inl f else .inr (a + mtF L (wBl f) a (wLen f + 1) 0)
  | 0, i, _, hi, hif, _, _ => by omega
  | r + 1, i, far, hi, hif, l1, l2 => by
    unfold wdF
    by_cases e : i = f
    · subst e
      by_cases c : mtF L (wBl i) a (wLen i + 1) 0 = wLen i + 1
      · rw [if_pos c, if_pos c]
      · rw [if_neg c, if_neg c]
        by_cases c2 : far < a + mtF L (wBl i) a (wLen i + 1) 0
        · rw [if_pos c2, wd_no hH r (i + 1) _ (by omega) (by omega) (by omega)]
        · rw [if_neg c2]
          have : far = a + mtF L (wBl i) a (wLen i + 1) 0 := by omega
          rw [wd_no hH r (i + 1) _ (by omega) (by omega) (by omega), this]
    · obtain ⟨g1, g2⟩ := hH i (by omega) e
      rw [if_neg (by omega)]
      split
      · exact wd_m hf hH h1 r (i + 1) _ (by omega) (by omega) (by omega) (by omega)
      · exact wd_m hf hH h1 r (i + 1) _ (by omega) (by omega) l1 l2
theorem wd_0 {a : Nat} (hH : ∀ g, g < 6 → mtF L (wBl g) a (wLen g + 1) 0 = 0) : ∀ (r i : Nat), i + r = 6 → wdF L a i r a = .inr a
  | 0, _, _ => rfl
  | r + 1, i, hi => by
    have := hH i (by omega)
    unfold wdF
    rw [if_neg (by omega), if_neg (by omega)]
    exact wd_0 hH r (i + 1) (by omega)
end

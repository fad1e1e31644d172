/-! THE TWO SIDES ALIKE: what changes a valley -/
def eqV (V V' : Nat → Nat → Int32) : Prop := (∀ k, k < 9 → V 0 k = V' 0 k) ∧ (∀ c i, 1 ≤ c → c ≤ 8 → i < 8 → V c i = V' c i) ∧ (∀ c i, 9 ≤ c → c ≤ 11 → i < 4 → V c i = V' c i)
section
variable {p u : hW} {b : Nat} {V V' : Nat → Nat → Int32}
theorem eqV.rf : eqV V V := ⟨fun _ _ => rfl, fun _ _ _ _ _ => rfl, fun _ _ _ _ _ => rfl⟩
theorem eqV.sy (h : eqV V V') : eqV V' V := ⟨fun k hk => (h.1 k hk).symm, fun c i a a' a'' => (h.2.1 c i a a' a'').symm, fun c i a a' a'' => (h.2.2 c i a a' a'').symm⟩
theorem eqV.tr {V''} (h : eqV V V') (h2 : eqV V' V'') : eqV V V'' := ⟨fun k hk => (h.1 k hk).trans (h2.1 k hk), fun c i a a' a'' => (h.2.1 c i a a' a'').trans (h2.2.1 c i a a' a''), fun c i a a' a'' => (h.2.2 c i a a' a'').trans (h2.2.2 c i a a' a'')⟩
theorem VR_ext (h : VR p b V) (he : eqV V V') : VR p b V' := by
  obtain ⟨hI, h0, h1, h2, hs, hT, hM, hW⟩ := h
  obtain ⟨e0, e1, e2⟩ := he
  have s0 := hI.2.2.2.2.2.2.1.2
  have s1 := hI.2.2.2.2.2.2.2.1.2
  have s2 := hI.2.2.2.2.2.2.2.2.2
  rw [h0] at s0
  rw [h1] at s1
  rw [h2] at s2
  refine ⟨hI, by rw [h0, e0 0 (by omega)], by rw [h1, e0 1 (by omega)], by rw [h2, e0 2 (by omega)], fun k a a' => by rw [hs k a a', e0 k (by omega)], fun t c a a' => ?_, fun t c a a' => ?_, fun t c a a' => ?_⟩
  · rw [← e0 0 (by omega)] at a
    rw [hT t c a a', e1 _ _ (by omega) (by omega) (by omega)]
  · rw [← e0 1 (by omega)] at a
    rw [hM t c a a', e1 _ _ (by omega) (by omega) (by omega)]
  · rw [← e0 2 (by omega)] at a
    rw [hW t c a a', e2 _ _ (by omega) (by omega) (by omega)]
theorem Std_ext (he : eqV V V') {x : Int32} (h : Std V x) : Std V' x := by
  unfold Std at h ⊢
  rw [← he.1 3 (by omega), ← he.1 4 (by omega), ← he.1 5 (by omega)]
  exact h
theorem Ok_ext (h : Ok V) (he : eqV V V') : Ok V' := by
  obtain ⟨⟨a0, a1, a2, a3, a4, a5⟩, hT, hM, hW⟩ := h
  have e0 := he.1
  have e1 := he.2.1
  have e2 := he.2.2
  refine ⟨⟨?_, ?_, ?_, ?_, ?_, ?_⟩, ?_, ?_, ?_⟩
  · rw [← e0 0 (by omega)]; exact a0
  · rw [← e0 1 (by omega)]; exact a1
  · rw [← e0 2 (by omega)]; exact a2
  · rw [← e0 3 (by omega)]; exact a3
  · rw [← e0 3 (by omega), ← e0 4 (by omega), ← e0 5 (by omega)]; exact a4
  · rw [← e0 6 (by omega)]; exact a5
  · intro t ht
    rw [← e0 0 (by omega)] at ht
    obtain ⟨b1, b2, b3, b4, b5, b6⟩ := hT t ht
    rw [← e1 1 t (by omega) (by omega) (by omega), ← e1 2 t (by omega) (by omega) (by omega), ← e1 3 t (by omega) (by omega) (by omega), ← e1 4 t (by omega) (by omega) (by omega), ← e1 5 t (by omega) (by omega) (by omega), ← e1 6 t (by omega) (by omega) (by omega), ← e0 1 (by omega)]
    exact ⟨b1, b2, b3, Std_ext he b4, b5, b6⟩
  · intro t ht
    rw [← e0 1 (by omega)] at ht
    rw [← e1 7 t (by omega) (by omega) (by omega), ← e1 8 t (by omega) (by omega) (by omega)]
    exact hM t ht
  · intro t ht
    rw [← e0 2 (by omega)] at ht
    obtain ⟨b1, b2, b3⟩ := hW t ht
    rw [← e2 9 t (by omega) (by omega) (by omega), ← e2 10 t (by omega) (by omega) (by omega), ← e2 11 t (by omega) (by omega) (by omega), ← e0 0 (by omega)]
    exact ⟨b1, Std_ext he b2, b3⟩
theorem vI_o {p p' : hW} (h : vI p b) (ho : ∀ q, b ≤ q → q ≤ b + 6 → p'.1 q = p.1 q) : vI p' b := by
  unfold vI at h ⊢
  rw [ho (b + 1) (by omega) (by omega), ho (b + 3) (by omega) (by omega), ho (b + 5) (by omega) (by omega)]
  exact h
theorem VR_o {p p' : hW} (h : VR p b V) (ho : ∀ q, b ≤ q → q ≤ b + 6 → p'.1 q = p.1 q) : VR p' b V := by
  obtain ⟨hI, h0, h1, h2, hs, hT, hM, hW⟩ := h
  refine ⟨vI_o hI ho, ?_, ?_, ?_, ?_, ?_, ?_, ?_⟩
  · rw [ho _ (by omega) (by omega)]; exact h0
  · rw [ho _ (by omega) (by omega)]; exact h1
  · rw [ho _ (by omega) (by omega)]; exact h2
  · intro k a a'; rw [ho _ (by omega) (by omega)]; exact hs k a a'
  · intro t c a a'; rw [ho _ (by omega) (by omega)]; exact hT t c a a'
  · intro t c a a'; rw [ho _ (by omega) (by omega)]; exact hM t c a a'
  · intro t c a a'; rw [ho _ (by omega) (by omega)]; exact hW t c a a'
theorem put_at {k : Nat} {n c : Nat} {t v : Int32} (h2 : p.1 k 2 = nI n) (hn : n < 48) (h : tHas p k t = true) (hc : c < n) : tPut p k t (nI c) v = wI p (k + 1) (n * t.toNatClampNeg + c) v := by
  have z : (0 : Int32).toInt = 0 := rfl
  have e1 := nI_toInt (show c < 2 ^ 31 by omega)
  have e2 := nI_toInt (show n < 2 ^ 31 by omega)
  have hC : tHasC p k t (nI c) = true := by
    unfold tHasC
    rw [h, h2]
    simp only [Bool.true_and, Bool.and_eq_true, Bool.not_eq_true', decide_eq_false_iff_not, decide_eq_true_eq, i32_lt, z, e1, e2]
    omega
  unfold tPut tAt
  rw [if_pos hC, h2, e1, e2, i32_clamp]
  have e3 : (n : Int).toNat = n := by omega
  have e4 : (c : Int).toNat = c := by omega
  rw [e3, e4, Nat.mul_comm]
theorem vset_o {c i a j : Nat} {v : Int32} (h : ¬ (a = c ∧ j = i)) : vset V c i v a j = V a j := by unfold vset; rw [if_neg h]
theorem vset_c {c i a j : Nat} {v : Int32} (h : a ≠ c) : vset V c i v a j = V a j := vset_o (fun e => h e.1)
theorem vset_s {c i : Nat} {v : Int32} : vset V c i v c i = v := by unfold vset; rw [if_pos ⟨rfl, rfl⟩]
theorem vI_wI2 {q j : Nat} {v : Int32} (h : vI p b) (h1 : q ≠ b + 1) (h3 : q ≠ b + 3) (h5 : q ≠ b + 5) : vI (wI p q j v) b := by
  unfold vI at h ⊢
  rw [wI_q (Ne.symm h1), wI_q (Ne.symm h3), wI_q (Ne.symm h5)]
  exact h
theorem VR_putT (h : VR p b V) {t v : Int32} (ht : tHas p (b + 1) t = true) {c : Nat} (hc : c < 6) : VR (tPut p (b + 1) t (nI c) v) b (vset V (1 + c) t.toNatClampNeg v) := by
  obtain ⟨hI, h0, h1, h2, hs, hT, hM, hW⟩ := h
  rw [put_at (n := 6) (by rw [hI.2.1]; rfl) (by omega) ht hc]
  refine ⟨vI_wI2 hI (by omega) (by omega) (by omega), ?_, ?_, ?_, ?_, ?_, ?_, ?_⟩
  · rw [wI_q (by omega), vset_c (by omega)]; exact h0
  · rw [wI_q (by omega), vset_c (by omega)]; exact h1
  · rw [wI_q (by omega), vset_c (by omega)]; exact h2
  · intro k a a'; rw [wI_q (by omega), vset_c (by omega)]; exact hs k a a'
  · intro t' c' a a'
    rw [vset_c (by omega)] at a
    by_cases e : t' = t.toNatClampNeg ∧ c' = c
    · rw [e.1, e.2, vset_s, wI_s]
    · rw [wI_o (by omega), vset_o (by omega)]; exact hT t' c' a a'
  · intro t' c' a a'; rw [vset_c (by omega)] at a; rw [wI_q (by omega), vset_c (by omega)]; exact hM t' c' a a'
  · intro t' c' a a'; rw [vset_c (by omega)] at a; rw [wI_q (by omega), vset_c (by omega)]; exact hW t' c' a a'
theorem VR_putM (h : VR p b V) {t v : Int32} (ht : tHas p (b + 3) t = true) {c : Nat} (hc : c < 2) : VR (tPut p (b + 3) t (nI c) v) b (vset V (7 + c) t.toNatClampNeg v) := by
  obtain ⟨hI, h0, h1, h2, hs, hT, hM, hW⟩ := h
  rw [put_at (n := 2) (by rw [hI.2.2.2.1]; rfl) (by omega) ht hc]
  refine ⟨vI_wI2 hI (by omega) (by omega) (by omega), ?_, ?_, ?_, ?_, ?_, ?_, ?_⟩
  · rw [wI_q (by omega), vset_c (by omega)]; exact h0
  · rw [wI_q (by omega), vset_c (by omega)]; exact h1
  · rw [wI_q (by omega), vset_c (by omega)]; exact h2
  · intro k a a'; rw [wI_q (by omega), vset_c (by omega)]; exact hs k a a'
  · intro t' c' a a'; rw [vset_c (by omega)] at a; rw [wI_q (by omega), vset_c (by omega)]; exact hT t' c' a a'
  · intro t' c' a a'
    rw [vset_c (by omega)] at a
    by_cases e : t' = t.toNatClampNeg ∧ c' = c
    · rw [e.1, e.2, vset_s, wI_s]
    · rw [wI_o (by omega), vset_o (by omega)]; exact hM t' c' a a'
  · intro t' c' a a'; rw [vset_c (by omega)] at a; rw [wI_q (by omega), vset_c (by omega)]; exact hW t' c' a a'
theorem VR_putW (h : VR p b V) {t v : Int32} (ht : tHas p (b + 5) t = true) {c : Nat} (hc : c < 3) : VR (tPut p (b + 5) t (nI c) v) b (vset V (9 + c) t.toNatClampNeg v) := by
  obtain ⟨hI, h0, h1, h2, hs, hT, hM, hW⟩ := h
  rw [put_at (n := 3) (by rw [hI.2.2.2.2.2.1]; rfl) (by omega) ht hc]
  refine ⟨vI_wI2 hI (by omega) (by omega) (by omega), ?_, ?_, ?_, ?_, ?_, ?_, ?_⟩
  · rw [wI_q (by omega), vset_c (by omega)]; exact h0
  · rw [wI_q (by omega), vset_c (by omega)]; exact h1
  · rw [wI_q (by omega), vset_c (by omega)]; exact h2
  · intro k a a'; rw [wI_q (by omega), vset_c (by omega)]; exact hs k a a'
  · intro t' c' a a'; rw [vset_c (by omega)] at a; rw [wI_q (by omega), vset_c (by omega)]; exact hT t' c' a a'
  · intro t' c' a a'; rw [vset_c (by omega)] at a; rw [wI_q (by omega), vset_c (by omega)]; exact hM t' c' a a'
  · intro t' c' a a'
    rw [vset_c (by omega)] at a
    by_cases e : t' = t.toNatClampNeg ∧ c' = c
    · rw [e.1, e.2, vset_s, wI_s]
    · rw [wI_o (by omega), vset_o (by omega)]; exact hW t' c' a a'
theorem VR_sc (h : VR p b V) {k : Nat} {v : Int32} (h3 : 3 ≤ k) (h8 : k ≤ 8) : VR (wI p b k v) b (vset V 0 k v) := by
  obtain ⟨hI, h0, h1, h2, hs, hT, hM, hW⟩ := h
  refine ⟨vI_wI2 hI (by omega) (by omega) (by omega), ?_, ?_, ?_, ?_, ?_, ?_, ?_⟩
  · rw [wI_q (by omega), vset_o (by omega)]; exact h0
  · rw [wI_q (by omega), vset_o (by omega)]; exact h1
  · rw [wI_q (by omega), vset_o (by omega)]; exact h2
  · intro j a a'
    by_cases e : j = k
    · rw [e, wI_s, vset_s]
    · rw [wI_o (by omega), vset_o (by omega)]; exact hs j a a'
  · intro t' c' a a'; rw [vset_o (by omega)] at a; rw [wI_q (by omega), vset_c (by omega)]; exact hT t' c' a a'
  · intro t' c' a a'; rw [vset_o (by omega)] at a; rw [wI_q (by omega), vset_c (by omega)]; exact hM t' c' a a'
  · intro t' c' a a'; rw [vset_o (by omega)] at a; rw [wI_q (by omega), vset_c (by omega)]; exact hW t' c' a a'
/-! one more: the row behind the last holds what lay there -/
theorem one_more {x : Int32} (h0 : 0 ≤ x.toInt) (h1 : x.toInt < 100) {t : Nat} (h : (t : Int) < (x + 1).toInt) (hn : t ≠ x.toNatClampNeg) : (t : Int) < x.toInt := by
  rw [add1 h0 h1] at h
  rw [i32_clamp] at hn
  omega
def gro (V : Nat → Nat → Int32) (k lo hi : Nat) (g : Nat → Int32) : Nat → Nat → Int32 := fun c i => if c = 0 ∧ i = k then V 0 k + 1 else if lo ≤ c ∧ c ≤ hi ∧ i = (V 0 k).toNatClampNeg then g c else V c i
theorem VR_gT (h : VR p b V) (h8 : (V 0 0).toInt < 8) : VR (wI p (b + 1) 3 (p.1 (b + 1) 3 + 1)) b (gro V 0 1 6 (fun c => p.1 (b + 2) (6 * (V 0 0).toNatClampNeg + (c - 1)))) := by
  obtain ⟨hI, h0, h1, h2, hs, hT, hM, hW⟩ := h
  have g0 := hI.2.2.2.2.2.2.1.1
  rw [h0] at g0
  refine ⟨vI_add1 hI (by rw [h0]; exact h8), ?_, ?_, ?_, ?_, ?_, ?_, ?_⟩
  · rw [wI_s, h0]; rfl
  · rw [wI_q (by omega)]; exact h1
  · rw [wI_q (by omega)]; exact h2
  · intro k a a'
    rw [wI_q (by omega), hs k a a']
    unfold gro
    rw [if_neg (by omega), if_neg (by omega)]
  · intro t' c' a a'
    rw [wI_q (by omega)]
    unfold gro at a ⊢
    rw [if_pos ⟨rfl, rfl⟩] at a
    rw [if_neg (by omega)]
    by_cases e : t' = (V 0 0).toNatClampNeg
    · rw [if_pos ⟨by omega, by omega, e⟩, e]
      show _ = p.1 (b + 2) (6 * (V 0 0).toNatClampNeg + (1 + c' - 1))
      rw [show 1 + c' - 1 = c' by omega]
    · rw [if_neg (by omega)]
      exact hT t' c' (one_more g0 (by omega) a e) a'
  · intro t' c' a a'
    rw [wI_q (by omega)]
    unfold gro at a ⊢
    rw [if_neg (by omega), if_neg (by omega)] at a
    rw [if_neg (by omega), if_neg (by omega)]
    exact hM t' c' a a'
  · intro t' c' a a'
    rw [wI_q (by omega)]
    unfold gro at a ⊢
    rw [if_neg (by omega), if_neg (by omega)] at a
    rw [if_neg (by omega), if_neg (by omega)]
    exact hW t' c' a a'
theorem VR_gM (h : VR p b V) (h8 : (V 0 1).toInt < 8) : VR (wI p (b + 3) 3 (p.1 (b + 3) 3 + 1)) b (gro V 1 7 8 (fun c => p.1 (b + 4) (2 * (V 0 1).toNatClampNeg + (c - 7)))) := by
  obtain ⟨hI, h0, h1, h2, hs, hT, hM, hW⟩ := h
  have g0 := hI.2.2.2.2.2.2.2.1.1
  rw [h1] at g0
  refine ⟨vI_add3 hI (by rw [h1]; exact h8), ?_, ?_, ?_, ?_, ?_, ?_, ?_⟩
  · rw [wI_q (by omega)]; exact h0
  · rw [wI_s, h1]; rfl
  · rw [wI_q (by omega)]; exact h2
  · intro k a a'
    rw [wI_q (by omega), hs k a a']
    unfold gro
    rw [if_neg (by omega), if_neg (by omega)]
  · intro t' c' a a'
    rw [wI_q (by omega)]
    unfold gro at a ⊢
    rw [if_neg (by omega), if_neg (by omega)] at a
    rw [if_neg (by omega), if_neg (by omega)]
    exact hT t' c' a a'
  · intro t' c' a a'
    rw [wI_q (by omega)]
    unfold gro at a ⊢
    rw [if_pos ⟨rfl, rfl⟩] at a
    rw [if_neg (by omega)]
    by_cases e : t' = (V 0 1).toNatClampNeg
    · rw [if_pos ⟨by omega, by omega, e⟩, e]
      show _ = p.1 (b + 4) (2 * (V 0 1).toNatClampNeg + (7 + c' - 7))
      rw [show 7 + c' - 7 = c' by omega]
    · rw [if_neg (by omega)]
      exact hM t' c' (one_more g0 (by omega) a e) a'
  · intro t' c' a a'
    rw [wI_q (by omega)]
    unfold gro at a ⊢
    rw [if_neg (by omega), if_neg (by omega)] at a
    rw [if_neg (by omega), if_neg (by omega)]
    exact hW t' c' a a'
theorem VR_gW (h : VR p b V) (h8 : (V 0 2).toInt < 4) : VR (wI p (b + 5) 3 (p.1 (b + 5) 3 + 1)) b (gro V 2 9 11 (fun c => p.1 (b + 6) (3 * (V 0 2).toNatClampNeg + (c - 9)))) := by
  obtain ⟨hI, h0, h1, h2, hs, hT, hM, hW⟩ := h
  have g0 := hI.2.2.2.2.2.2.2.2.1
  rw [h2] at g0
  refine ⟨vI_add5 hI (by rw [h2]; exact h8), ?_, ?_, ?_, ?_, ?_, ?_, ?_⟩
  · rw [wI_q (by omega)]; exact h0
  · rw [wI_q (by omega)]; exact h1
  · rw [wI_s, h2]; rfl
  · intro k a a'
    rw [wI_q (by omega), hs k a a']
    unfold gro
    rw [if_neg (by omega), if_neg (by omega)]
  · intro t' c' a a'
    rw [wI_q (by omega)]
    unfold gro at a ⊢
    rw [if_neg (by omega), if_neg (by omega)] at a
    rw [if_neg (by omega), if_neg (by omega)]
    exact hT t' c' a a'
  · intro t' c' a a'
    rw [wI_q (by omega)]
    unfold gro at a ⊢
    rw [if_neg (by omega), if_neg (by omega)] at a
    rw [if_neg (by omega), if_neg (by omega)]
    exact hM t' c' a a'
  · intro t' c' a a'
    rw [wI_q (by omega)]
    unfold gro at a ⊢
    rw [if_pos ⟨rfl, rfl⟩] at a
    rw [if_neg (by omega)]
    by_cases e : t' = (V 0 2).toNatClampNeg
    · rw [if_pos ⟨by omega, by omega, e⟩, e]
      show _ = p.1 (b + 6) (3 * (V 0 2).toNatClampNeg + (9 + c' - 9))
      rw [show 9 + c' - 9 = c' by omega]
    · rw [if_neg (by omega)]
      exact hW t' c' (one_more g0 (by omega) a e) a'
end

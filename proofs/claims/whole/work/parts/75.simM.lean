/-! THE TWO SIDES ALIKE: sharing: sets and what lies in them -/
section
theorem and_sub {S P : Nat} : subN P S = true ↔ P &&& S = P := by unfold subN; rw [beq_iff_eq]
theorem sub_pred : ∀ (N S P Q : Nat), P ≤ N → P &&& S = P → Q &&& S = Q → Q < P → Q ≤ (P - 1) &&& S
  | 0, S, P, Q, hN, _, _, h => by omega
  | N + 1, S, P, Q, hN, hP, hQ, h => by
    have p2 : (P / 2) &&& (S / 2) = P / 2 := by rw [← Nat.and_div_two, hP]
    have q2 : (Q / 2) &&& (S / 2) = Q / 2 := by rw [← Nat.and_div_two, hQ]
    have r2 : ((P - 1) &&& S) / 2 = (P - 1) / 2 &&& S / 2 := Nat.and_div_two
    have m2 : ((P - 1) &&& S) % 2 = 1 ↔ (P - 1) % 2 = 1 ∧ S % 2 = 1 := Nat.and_mod_two_eq_one
    have mq : (Q &&& S) % 2 = 1 ↔ Q % 2 = 1 ∧ S % 2 = 1 := Nat.and_mod_two_eq_one
    rw [hQ] at mq
    by_cases hp : P % 2 = 1
    · have e : (P - 1) / 2 = P / 2 := by omega
      rw [e, p2] at r2
      omega
    · have e : (P - 1) / 2 = P / 2 - 1 := by omega
      rw [e] at r2
      rcases Nat.lt_or_ge (Q / 2) (P / 2) with hlt | hge
      · have ih := sub_pred N (S / 2) (P / 2) (Q / 2) (by omega) p2 q2 hlt
        rw [← r2] at ih
        omega
      · omega
theorem dif_bit {S P b : Nat} : (dif S P).testBit b = (S.testBit b && !P.testBit b) := by
  unfold dif
  rw [Nat.testBit_xor, Nat.testBit_and]
  cases S.testBit b <;> cases P.testBit b <;> rfl
theorem dif_sub {S P : Nat} : subN (dif S P) S = true := by
  rw [subN_iff]
  intro j hj
  rw [dif_bit] at hj
  simp at hj
  exact hj.1
theorem dif_0 {S : Nat} : dif S 0 = S := by unfold dif; rw [Nat.and_zero, Nat.xor_zero]
theorem sub_0 {S : Nat} : subN 0 S = true := by unfold subN; rw [Nat.zero_and]; rfl
theorem dif_le {S P : Nat} : dif S P ≤ S := sub_lt dif_sub
theorem dif_ne {S P : Nat} (hP : subN P S = true) (h0 : P ≠ 0) : dif S P < S := by
  rcases Nat.lt_or_ge (dif S P) S with h | h
  · exact h
  · exfalso
    have e : dif S P = S := by have := dif_le (S := S) (P := P); omega
    apply h0
    apply Nat.eq_of_testBit_eq
    intro b
    rw [Nat.zero_testBit]
    cases hb : P.testBit b
    · rfl
    · have hs := (subN_iff.mp hP) b hb
      have := dif_bit (S := S) (P := P) (b := b)
      rw [e, hs, hb] at this
      cases this
/-! what the class's halving over the sets inside S finds -/
theorem soP_p {G C : Nat → Int32} {S : Nat} (hG : ∀ P, subN P S = true → (G P).toInt ≤ 100000000) (hC : ∀ P, P < S → 0 ≤ (C P).toInt ∧ (C P).toInt ≤ 400000000) : ∀ (n P : Nat) (q : Int32), P ≤ n → subN P S = true → 0 ≤ q.toInt → q.toInt ≤ (soP G C S n P q).toInt ∧ (∀ Q, subN Q S = true → Q ≠ 0 → Q ≤ P → 0 < (G Q).toInt → (G Q).toInt + (C (dif S Q)).toInt ≤ (soP G C S n P q).toInt) ∧ (soP G C S n P q = q ∨ ∃ Q, subN Q S = true ∧ Q ≠ 0 ∧ 0 < (G Q).toInt ∧ (soP G C S n P q).toInt = (G Q).toInt + (C (dif S Q)).toInt)
  | 0, P, q, hP, _, _ => ⟨Int.le_refl _, fun Q _ h0 h1 => by omega, Or.inl rfl⟩
  | n + 1, P, q, hP, hs, hq => by
    unfold soP
    by_cases c0 : P = 0
    · rw [if_pos c0]
      exact ⟨Int.le_refl _, fun Q _ h0 h1 => by omega, Or.inl rfl⟩
    · rw [if_neg c0]
      have hlt : (P - 1) &&& S < P := Nat.lt_of_le_of_lt Nat.and_le_left (by omega)
      have hsub : subN ((P - 1) &&& S) S = true := by
        rw [and_sub, Nat.and_assoc, Nat.and_self]
      have hdl := hC (dif S P) (dif_ne hs c0)
      have hGP := hG P hs
      by_cases c1 : 0 < G P
      · rw [if_pos c1]
        rw [i32_lt, i32_0] at c1
        have ad := i32_add (a := G P) (b := C (dif S P)) (by omega) (by omega)
        by_cases c2 : q < G P + C (dif S P)
        · rw [if_pos c2]
          rw [i32_lt, ad] at c2
          obtain ⟨a1, a2, a3⟩ := soP_p hG hC n ((P - 1) &&& S) (G P + C (dif S P)) (by omega) hsub (by rw [ad]; omega)
          rw [ad] at a1
          refine ⟨by omega, fun Q h1 h2 h3 h4 => ?_, ?_⟩
          · by_cases e : Q = P
            · rw [e]; exact a1
            · exact a2 Q h1 h2 (sub_pred P S P Q (Nat.le_refl _) (and_sub.mp hs) (and_sub.mp h1) (by omega)) h4
          · rcases a3 with a3 | a3
            · exact Or.inr ⟨P, hs, c0, c1, by rw [a3, ad]⟩
            · exact Or.inr a3
        · rw [if_neg c2]
          rw [i32_lt, ad] at c2
          obtain ⟨a1, a2, a3⟩ := soP_p hG hC n ((P - 1) &&& S) q (by omega) hsub hq
          refine ⟨a1, fun Q h1 h2 h3 h4 => ?_, a3⟩
          by_cases e : Q = P
          · rw [e]; omega
          · exact a2 Q h1 h2 (sub_pred P S P Q (Nat.le_refl _) (and_sub.mp hs) (and_sub.mp h1) (by omega)) h4
      · rw [if_neg c1]
        rw [i32_lt, i32_0] at c1
        obtain ⟨a1, a2, a3⟩ := soP_p hG hC n ((P - 1) &&& S) q (by omega) hsub hq
        refine ⟨a1, fun Q h1 h2 h3 h4 => ?_, a3⟩
        by_cases e : Q = P
        · rw [e] at h4; omega
        · exact a2 Q h1 h2 (sub_pred P S P Q (Nat.le_refl _) (and_sub.mp hs) (and_sub.mp h1) (by omega)) h4
theorem soP_c {G C C' : Nat → Int32} {S : Nat} (h : ∀ P, P < S → C P = C' P) : ∀ (n P : Nat) (q : Int32), subN P S = true → soP G C S n P q = soP G C' S n P q
  | 0, _, _, _ => rfl
  | n + 1, P, q, hs => by
    unfold soP
    have hsub : subN ((P - 1) &&& S) S = true := by
      rw [and_sub, Nat.and_assoc, Nat.and_self]
    by_cases c0 : P = 0
    · rw [if_pos c0, if_pos c0]
    · rw [if_neg c0, if_neg c0, h _ (dif_ne hs c0), soP_c h n _ _ hsub]
theorem soO_p {G : Nat → Int32} : ∀ (A : Nat) (C : Nat → Int32), (∀ j, A < j → soO G A C j = C j) ∧ soO G A C 0 = C 0 ∧ ∀ S, 1 ≤ S → S ≤ A → soO G A C S = soP G C S S S (C S)
  | 0, C => ⟨fun _ _ => rfl, rfl, fun S h1 h2 => by omega⟩
  | A + 1, C => by
    unfold soO
    obtain ⟨a1, a2, a3⟩ := soO_p (G := G) A (upd C (A + 1) (soP G C (A + 1) (A + 1) (A + 1) (C (A + 1))))
    refine ⟨fun j hj => ?_, ?_, fun S h1 h2 => ?_⟩
    · rw [a1 j (by omega), upd_o (by omega)]
    · rw [a2, upd_o (by omega)]
    · by_cases e : S = A + 1
      · subst e
        rw [a1 _ (by omega), upd_s]
      · rw [a3 S h1 (by omega), upd_o e]
        exact soP_c (fun P hP => upd_o (by omega)) _ _ _ subN_rf
end

/-! THE ENDS OF SETS: E S is the farthest that an order of the set S comes to, from p; g i is what number i does of a step -/
theorem subN_iff {P S : Nat} : subN P S = true ↔ ∀ j, P.testBit j = true → S.testBit j = true := by
  unfold subN
  rw [beq_iff_eq]
  constructor
  · intro h j hj
    have := congrArg (fun x => x.testBit j) h
    simp only [Nat.testBit_and, hj, Bool.true_and] at this
    exact this
  · intro h
    apply Nat.eq_of_testBit_eq
    intro j
    rw [Nat.testBit_and]
    cases hp : P.testBit j
    · rfl
    · rw [h j hp]; rfl
theorem subN_tr {P S T : Nat} (h1 : subN P S = true) (h2 : subN S T = true) : subN P T = true := by
  rw [subN_iff] at h1 h2 ⊢
  exact fun j hj => h2 j (h1 j hj)
theorem subN_rf {S : Nat} : subN S S = true := by rw [subN_iff]; exact fun _ h => h
theorem bit_lt {S i n : Nat} (h : S < 2 ^ n) (hb : S.testBit i = true) : i < n := by
  rcases Nat.lt_or_ge i n with h1 | h1
  · exact h1
  · rw [Nat.testBit_lt_two_pow (Nat.lt_of_lt_of_le h (Nat.pow_le_pow_right (by decide) h1))] at hb
    cases hb
theorem bit_8 {S i : Nat} (h : S < 256) (hb : S.testBit i = true) : i < 8 := bit_lt (n := 8) h hb
theorem clr_ltS : ∀ S : Nat, S < 256 → ∀ i : Nat, i < 8 → S.testBit i = true → clr S i < S := by decide +kernel
theorem clr_bit : ∀ S : Nat, S < 256 → ∀ i : Nat, i < 8 → ∀ j : Nat, j < 8 → (clr S i).testBit j = (S.testBit j && !(j == i)) := by decide +kernel
theorem clr_com : ∀ S : Nat, S < 256 → ∀ i : Nat, i < 8 → ∀ j : Nat, j < 8 → clr (clr S i) j = clr (clr S j) i := by decide +kernel
theorem clr_sub {S i : Nat} (h : S < 256) (hi : i < 8) : subN (clr S i) S = true := by
  rw [subN_iff]
  intro j hj
  have h8 := bit_8 (clr_lt S h i hi) hj
  rw [clr_bit S h i hi j h8] at hj
  simp at hj
  exact hj.1
theorem sub_lt {P S : Nat} (h : subN P S = true) : P ≤ S := by
  unfold subN at h
  rw [beq_iff_eq] at h
  rw [← h]
  exact Nat.and_le_right
def isE (g : Nat → Int32 → Int32) (p : Int32) (T : Nat) (E : Nat → Int32) : Prop := E 0 = p ∧ ∀ S, S ≠ 0 → subN S T = true → (∀ i, S.testBit i = true → (g i (E (clr S i))).toInt ≤ (E S).toInt) ∧ ∃ i, S.testBit i = true ∧ E S = g i (E (clr S i))
theorem isE_u {g : Nat → Int32 → Int32} {p : Int32} {T T' : Nat} {E E' : Nat → Int32} (hT : T < 256) (h : isE g p T E) (h' : isE g p T' E') : ∀ (m S : Nat), S ≤ m → subN S T = true → subN S T' = true → E S = E' S := by
  intro m
  induction m with
  | zero =>
    intro S hS _ _
    have : S = 0 := by omega
    subst this
    rw [h.1, h'.1]
  | succ m ih =>
    intro S hS hs hs'
    by_cases h0 : S = 0
    · subst h0
      rw [h.1, h'.1]
    · have h256 : S < 256 := by have := sub_lt hs; omega
      obtain ⟨a1, i, a2, a3⟩ := h.2 S h0 hs
      obtain ⟨b1, j, b2, b3⟩ := h'.2 S h0 hs'
      have key : ∀ i, S.testBit i = true → E (clr S i) = E' (clr S i) := by
        intro i hi
        have hi8 := bit_8 h256 hi
        have hl := clr_ltS S h256 i hi8 hi
        exact ih _ (by omega) (subN_tr (clr_sub h256 hi8) hs) (subN_tr (clr_sub h256 hi8) hs')
      have c1 := b1 i a2
      have c2 := a1 j b2
      rw [← key i a2, ← a3] at c1
      rw [key j b2, ← b3] at c2
      rw [i32_eq]
      omega
theorem isE_sub {g : Nat → Int32 → Int32} {p : Int32} {T T' : Nat} {E : Nat → Int32} (h : isE g p T E) (hs : subN T' T = true) : isE g p T' E := ⟨h.1, fun S h0 h1 => h.2 S h0 (subN_tr h1 hs)⟩
/-- steps that are kept to by all -/
def isG (n : Nat) (D : Int32 → Prop) (g : Nat → Int32 → Int32) : Prop := (∀ i, i < n → ∀ x, D x → D (g i x)) ∧ (∀ i, i < n → ∀ x, D x → x.toInt ≤ (g i x).toInt) ∧ (∀ i, i < n → ∀ x y, D x → D y → x.toInt ≤ y.toInt → (g i x).toInt ≤ (g i y).toInt)
theorem isE_D {n : Nat} {D : Int32 → Prop} {g : Nat → Int32 → Int32} {p : Int32} {T : Nat} {E : Nat → Int32} (hT : T < 256) (hTn : T < 2 ^ n) (hg : isG n D g) (hp : D p) (h : isE g p T E) : ∀ (m S : Nat), S ≤ m → subN S T = true → D (E S) := by
  intro m
  induction m with
  | zero =>
    intro S hS _
    have : S = 0 := by omega
    subst this
    rw [h.1]
    exact hp
  | succ m ih =>
    intro S hS hs
    by_cases h0 : S = 0
    · subst h0
      rw [h.1]
      exact hp
    · have h256 : S < 256 := by have := sub_lt hs; omega
      obtain ⟨a1, i, a2, a3⟩ := h.2 S h0 hs
      have hi8 := bit_8 h256 a2
      have hin := bit_lt (n := n) (by have := sub_lt hs; omega) a2
      rw [a3]
      exact hg.1 i hin _ (ih _ (by have := clr_ltS S h256 i hi8 a2; omega) (subN_tr (clr_sub h256 hi8) hs))
theorem isE_first {n : Nat} {D : Int32 → Prop} {g : Nat → Int32 → Int32} {p : Int32} {T : Nat} {E : Int32 → Nat → Int32} (hT : T < 256) (hTn : T < 2 ^ n) (hg : isG n D g) (hp : D p) (h : ∀ q, D q → isE g q T (E q)) : ∀ (m S : Nat), S ≤ m → S ≠ 0 → subN S T = true → ∃ i, S.testBit i = true ∧ (E p S).toInt ≤ (E (g i p) (clr S i)).toInt := by
  intro m
  induction m with
  | zero => intro S hS h0; omega
  | succ m ih =>
    intro S hS h0 hs
    have h256 : S < 256 := by have := sub_lt hs; omega
    obtain ⟨-, l, a2, a3⟩ := (h p hp).2 S h0 hs
    have hl8 := bit_8 h256 a2
    have hln := bit_lt (n := n) (by have := sub_lt hs; omega) a2
    have hsl := subN_tr (clr_sub h256 hl8) hs
    by_cases hc : clr S l = 0
    · refine ⟨l, a2, ?_⟩
      rw [a3, hc, (h p hp).1, (h _ (hg.1 l hln p hp)).1]
      omega
    · have hlt := clr_ltS S h256 l hl8 a2
      obtain ⟨i, b1, b2⟩ := ih (clr S l) (by omega) hc hsl
      have hi8 := bit_8 (by omega) b1
      have b1' := b1
      rw [clr_bit S h256 l hl8 i hi8] at b1'
      simp at b1'
      obtain ⟨c1, c2⟩ := b1'
      refine ⟨i, c1, ?_⟩
      have hin := bit_lt (n := n) (by have := sub_lt hs; omega) c1
      have hsi := subN_tr (clr_sub h256 hi8) hs
      have hl' : (clr S i).testBit l = true := by
        rw [clr_bit S h256 i hi8 l hl8, a2]
        simp
        exact fun e => c2 e.symm
      have hne : clr S i ≠ 0 := by
        intro e
        rw [e] at hl'
        simp at hl'
      have hq := h _ (hg.1 i hin p hp)
      have e1 := (hq.2 (clr S i) hne hsi).1 l hl'
      rw [clr_com S h256 i hi8 l hl8] at e1
      have hDa := isE_D hT hTn hg hp (h p hp) (clr S l) (clr S l) (Nat.le_refl _) hsl
      have hDb := isE_D hT hTn hg (hg.1 i hin p hp) hq (clr (clr S l) i) (clr (clr S l) i) (Nat.le_refl _) (subN_tr (clr_sub (by omega) hi8) hsl)
      have e2 := hg.2.2 l hln _ _ hDa hDb b2
      rw [a3]
      omega
theorem isE_mono {n : Nat} {D : Int32 → Prop} {g : Nat → Int32 → Int32} {p : Int32} {T : Nat} {E : Nat → Int32} (hT : T < 256) (hTn : T < 2 ^ n) (hg : isG n D g) (hp : D p) (h : isE g p T E) : ∀ (m S P : Nat), S ≤ m → subN S T = true → subN P S = true → (E P).toInt ≤ (E S).toInt := by
  intro m
  induction m with
  | zero =>
    intro S P hS hs hp2
    have h0 : S = 0 := by omega
    have h1 : P = 0 := by have := sub_lt hp2; omega
    rw [h0, h1]
    omega
  | succ m ih =>
    intro S P hS hs hps
    by_cases he : P = S
    · rw [he]; omega
    · have h256 : S < 256 := by have := sub_lt hs; omega
      have hex : ∃ i, S.testBit i = true ∧ P.testBit i = false := by
        rcases Classical.em (∃ i, S.testBit i = true ∧ P.testBit i = false) with h1 | h1
        · exact h1
        · exfalso
          apply he
          apply Nat.eq_of_testBit_eq
          intro j
          cases hS : S.testBit j
          · cases hP : P.testBit j
            · rfl
            · rw [subN_iff.mp hps j hP] at hS; cases hS
          · cases hP : P.testBit j
            · exact absurd ⟨j, hS, hP⟩ h1
            · rfl
      obtain ⟨i, hi, hPi⟩ := hex
      have hi8 := bit_8 h256 hi
      have hl := clr_ltS S h256 i hi8 hi
      have hsc := subN_tr (clr_sub h256 hi8) hs
      have hpc : subN P (clr S i) = true := by
        rw [subN_iff]
        intro j hj
        have hSj := subN_iff.mp hps j hj
        rw [clr_bit S h256 i hi8 j (bit_8 h256 hSj), hSj]
        simp
        intro e
        subst e
        rw [hPi] at hj
        cases hj
      have h0 : S ≠ 0 := by omega
      have e1 := ih (clr S i) P (by omega) hsc hpc
      have hin := bit_lt (n := n) (by have := sub_lt hs; omega) hi
      have e2 := hg.2.1 i hin _ (isE_D hT hTn hg hp h _ _ (Nat.le_refl _) hsc)
      have e3 := (h.2 S h0 hs).1 i hi
      omega
/-- the greatest of b and v i for the numbers of S -/
def mxL (v : Nat → Int32) (S : Nat) : Nat → Nat → Int32 → Int32
  | _, 0, b => b
  | i, m + 1, b => mxL v S (i + 1) m (if S.testBit i then (if b < v i then v i else b) else b)
theorem mxL_p {v : Nat → Int32} {S : Nat} : ∀ (m i : Nat) (b : Int32), b.toInt ≤ (mxL v S i m b).toInt ∧ (∀ k, i ≤ k → k < i + m → S.testBit k = true → (v k).toInt ≤ (mxL v S i m b).toInt) ∧ (mxL v S i m b = b ∨ ∃ k, i ≤ k ∧ k < i + m ∧ S.testBit k = true ∧ mxL v S i m b = v k)
  | 0, i, b => ⟨by unfold mxL; omega, fun k h1 h2 => by omega, Or.inl rfl⟩
  | m + 1, i, b => by
    unfold mxL
    obtain ⟨a1, a2, a3⟩ := mxL_p (v := v) (S := S) m (i + 1) (if S.testBit i then (if b < v i then v i else b) else b)
    by_cases h1 : S.testBit i = true
    · rw [if_pos h1] at a1 a2 a3 ⊢
      by_cases h2 : b < v i
      · rw [if_pos h2] at a1 a2 a3 ⊢
        rw [i32_lt] at h2
        refine ⟨by omega, ?_, ?_⟩
        · intro k k1 k2 k3
          by_cases e : k = i
          · subst e; exact a1
          · exact a2 k (by omega) (by omega) k3
        · rcases a3 with a3 | ⟨k, k1, k2, k3, k4⟩
          · exact Or.inr ⟨i, by omega, by omega, h1, a3⟩
          · exact Or.inr ⟨k, by omega, by omega, k3, k4⟩
      · rw [if_neg h2] at a1 a2 a3 ⊢
        rw [i32_lt] at h2
        refine ⟨a1, ?_, ?_⟩
        · intro k k1 k2 k3
          by_cases e : k = i
          · subst e; omega
          · exact a2 k (by omega) (by omega) k3
        · rcases a3 with a3 | ⟨k, k1, k2, k3, k4⟩
          · exact Or.inl a3
          · exact Or.inr ⟨k, by omega, by omega, k3, k4⟩
    · rw [if_neg h1] at a1 a2 a3 ⊢
      refine ⟨a1, ?_, ?_⟩
      · intro k k1 k2 k3
        by_cases e : k = i
        · subst e; exact absurd k3 h1
        · exact a2 k (by omega) (by omega) k3
      · rcases a3 with a3 | ⟨k, k1, k2, k3, k4⟩
        · exact Or.inl a3
        · exact Or.inr ⟨k, by omega, by omega, k3, k4⟩
theorem mxL_c {v v' : Nat → Int32} {S : Nat} : ∀ (m i : Nat) (b : Int32), (∀ k, i ≤ k → k < i + m → S.testBit k = true → v k = v' k) → mxL v S i m b = mxL v' S i m b
  | 0, _, _, _ => rfl
  | m + 1, i, b, h => by
    unfold mxL
    by_cases h1 : S.testBit i = true
    · rw [if_pos h1, if_pos h1, h i (by omega) (by omega) h1]
      exact mxL_c m (i + 1) _ (fun k k1 k2 k3 => h k (by omega) (by omega) k3)
    · rw [if_neg h1, if_neg h1]
      exact mxL_c m (i + 1) _ (fun k k1 k2 k3 => h k (by omega) (by omega) k3)
theorem grM_mx {fr tt : Int32} {F E : Nat → Int32} {to : Int32} {S : Nat} : ∀ (m i : Nat) (b : Int32), grM fr tt F E to S i m b = mxL (fun k => goe fr tt (E (clr S k)) (F k) to) S i m b
  | 0, _, _ => rfl
  | m + 1, i, b => by
    unfold grM mxL
    rw [grM_mx m (i + 1)]
theorem feL_mx {fr tt : Int32} {F E : Nat → Int32} {to : Int32} {S : Nat} : ∀ (m i : Nat) (b : Int32), feL fr tt F E to S i m b = mxL (fun k => onw fr tt (E (clr S k)) (F k) to) S i m b
  | 0, _, _ => rfl
  | m + 1, i, b => by
    unfold feL mxL
    rw [feL_mx m (i + 1)]
theorem upd_s {E : Nat → Int32} {i : Nat} {x : Int32} : upd E i x i = x := by simp [upd]
theorem upd_o {E : Nat → Int32} {i j : Nat} {x : Int32} (h : j ≠ i) : upd E i x j = E j := by simp [upd, h]
theorem grO_lo {fr tt : Int32} {F : Nat → Int32} {to p : Int32} {n : Nat} : ∀ (m S : Nat) (E : Nat → Int32) (j : Nat), j < S → grO fr tt F to p n S m E j = E j
  | 0, _, _, _, _ => rfl
  | m + 1, S, E, j, h => by
    unfold grO
    rw [grO_lo m (S + 1) _ j (by omega), upd_o (by omega)]
theorem grO_at {fr tt : Int32} {F : Nat → Int32} {to p : Int32} {n : Nat} (h8 : n ≤ 8) : ∀ (m S : Nat) (E : Nat → Int32) (j : Nat), S + m ≤ 256 → S ≤ j → j < S + m → grO fr tt F to p n S m E j = grM fr tt F (grO fr tt F to p n S m E) to j 0 n p
  | 0, _, _, _, _, h1, h2 => by omega
  | m + 1, S, E, j, hm, h1, h2 => by
    by_cases e : j = S
    · subst e
      have e1 : grO fr tt F to p n j (m + 1) E j = grM fr tt F E to j 0 n p := by
        unfold grO
        rw [grO_lo m (j + 1) _ j (by omega), upd_s]
      rw [e1, grM_mx, grM_mx]
      apply mxL_c
      intro k _ k2 k3
      have hl := clr_ltS j (by omega) k (by omega) k3
      rw [grO_lo (m + 1) j E _ hl]
    · unfold grO
      exact grO_at h8 m (S + 1) _ j (by omega) (by omega) (by omega)
theorem fiL_lo {fr tt : Int32} {F : Nat → Int32} {to : Int32} {T : Nat} : ∀ (m i : Nat) (E : Nat → Int32) (j : Nat), j < i → fiL fr tt F to T i m E j = E j
  | 0, _, _, _, _ => rfl
  | m + 1, i, E, j, h => by
    unfold fiL
    rw [fiL_lo m (i + 1) _ j (by omega)]
    split
    · rw [upd_o (by omega)]
    · rfl
theorem fiL_at {fr tt : Int32} {F : Nat → Int32} {to : Int32} {T : Nat} : ∀ (m i : Nat) (E : Nat → Int32) (j : Nat), i + m ≤ 256 → i ≤ j → j < i + m → subN j T = true → fiL fr tt F to T i m E j = feL fr tt F (fiL fr tt F to T i m E) to j 0 8 0
  | 0, _, _, _, _, h1, h2, _ => by omega
  | m + 1, i, E, j, hm, h1, h2, hs => by
    by_cases e : j = i
    · subst e
      have e1 : fiL fr tt F to T j (m + 1) E j = feL fr tt F E to j 0 8 0 := by
        unfold fiL
        rw [fiL_lo m (j + 1) _ j (by omega), if_pos hs, upd_s]
      rw [e1, feL_mx, feL_mx]
      apply mxL_c
      intro k _ k2 k3
      have hl := clr_ltS j (by omega) k (by omega) k3
      rw [fiL_lo (m + 1) j E _ hl]
    · unfold fiL
      exact fiL_at m (i + 1) _ j (by omega) (by omega) (by omega) hs
/-- steps on which a thing may be, up to one that is wanted -/
def okD (fr tt to : Int32) (x : Int32) : Prop := 0 ≤ x.toInt ∧ x.toInt ≤ to.toInt ∧ (x.toInt ≤ fr.toInt ∨ tt.toInt ≤ x.toInt)
theorem goe_G {n : Nat} {fr tt to : Int32} {F : Nat → Int32} (hfr : 0 ≤ fr.toInt) (hto : to.toInt ≤ 99) (hw : to.toInt ≤ fr.toInt ∨ tt.toInt ≤ to.toInt) (hF : ∀ i, i < n → 0 ≤ (F i).toInt ∧ (F i).toInt ≤ 99) : isG n (okD fr tt to) (fun i x => goe fr tt x (F i) to) := by
  have key : ∀ i, i < n → ∀ x, okD fr tt to x → ∃ q : Int, q = min (x.toInt + (F i).toInt) to.toInt ∧ (goe fr tt x (F i) to).toInt = (if fr.toInt < q ∧ q < tt.toInt then fr.toInt else q) := by
    intro i hi x hx
    obtain ⟨h1, h2, h3⟩ := hx
    obtain ⟨f0, f1⟩ := hF i hi
    have ha := i32_add (a := x) (b := F i) (by omega) (by omega)
    refine ⟨_, rfl, ?_⟩
    have hlow : (iLow (x + F i) to).toInt = min (x.toInt + (F i).toInt) to.toInt := by
      unfold iLow
      split
      · rename_i h; rw [i32_lt, ha] at h; rw [ha]; omega
      · rename_i h; rw [i32_lt, ha] at h; omega
    unfold goe
    simp only [i32_lt, hlow]
    split
    · rfl
    · exact hlow
  refine ⟨fun i hi x hx => ?_, fun i hi x hx => ?_, fun i hi x y hx hy hxy => ?_⟩
  · obtain ⟨q, e1, e2⟩ := key i hi x hx
    obtain ⟨h1, h2, h3⟩ := hx
    obtain ⟨f0, f1⟩ := hF i hi
    unfold okD
    simp only
    rw [e2]
    split <;> omega
  · obtain ⟨q, e1, e2⟩ := key i hi x hx
    obtain ⟨h1, h2, h3⟩ := hx
    obtain ⟨f0, f1⟩ := hF i hi
    simp only
    rw [e2]
    split <;> omega
  · obtain ⟨q, e1, e2⟩ := key i hi x hx
    obtain ⟨q', e1', e2'⟩ := key i hi y hy
    obtain ⟨h1, h2, h3⟩ := hx
    obtain ⟨h1', h2', h3'⟩ := hy
    obtain ⟨f0, f1⟩ := hF i hi
    simp only
    rw [e2, e2']
    split <;> split <;> omega
theorem onw_goe {fr tt to : Int32} {f x : Int32} (hfr : 0 ≤ fr.toInt) (hto : to.toInt ≤ 99) (hw : to.toInt ≤ fr.toInt ∨ tt.toInt ≤ to.toInt) (hF : 0 ≤ f.toInt ∧ f.toInt ≤ 99) (hx : okD fr tt to x) : onw fr tt x f to = goe fr tt x f to := by
  obtain ⟨h1, h2, h3⟩ := hx
  obtain ⟨f0, f1⟩ := hF
  have ha := i32_add (a := x) (b := f) (by omega) (by omega)
  rw [i32_eq]
  unfold onw goe iLow
  simp only [i32_lt, ha]
  repeat' split
  all_goals (simp only [ha] at *; try omega)
theorem grE_isE {fr tt to p : Int32} {F E0 : Nat → Int32} {n : Nat} (h8 : n ≤ 8) (hg : isG n (okD fr tt to) (fun i x => goe fr tt x (F i) to)) (hp : okD fr tt to p) : isE (fun i x => goe fr tt x (F i) to) p (2 ^ n - 1) (grE fr tt F to p n E0) := by
  have hpw := pw_le h8
  have hpos : 0 < 2 ^ n := Nat.two_pow_pos _
  have h0 : grE fr tt F to p n E0 0 = p := by unfold grE; rw [grO_lo _ _ _ _ (by omega), upd_s]
  have hat : ∀ S, S ≠ 0 → S ≤ 2 ^ n - 1 → grE fr tt F to p n E0 S = mxL (fun k => goe fr tt (grE fr tt F to p n E0 (clr S k)) (F k) to) S 0 n p := by
    intro S hS1 hS2
    have := grO_at (fr := fr) (tt := tt) (F := F) (to := to) (p := p) h8 (2 ^ n - 1) 1 (upd E0 0 p) S (by omega) (by omega) (by omega)
    rw [grM_mx] at this
    exact this
  have hD : ∀ (m S : Nat), S ≤ m → S ≤ 2 ^ n - 1 → okD fr tt to (grE fr tt F to p n E0 S) ∧ p.toInt ≤ (grE fr tt F to p n E0 S).toInt := by
    intro m
    induction m with
    | zero =>
      intro S hS _
      have : S = 0 := by omega
      subst this
      rw [h0]
      exact ⟨hp, by omega⟩
    | succ m ih =>
      intro S hS hS2
      by_cases e : S = 0
      · subst e
        rw [h0]
        exact ⟨hp, by omega⟩
      · obtain ⟨a1, a2, a3⟩ := mxL_p (v := fun k => goe fr tt (grE fr tt F to p n E0 (clr S k)) (F k) to) (S := S) n 0 p
        rw [hat S e hS2]
        refine ⟨?_, a1⟩
        rcases a3 with a3 | ⟨k, k1, k2, k3, k4⟩
        · rw [a3]; exact hp
        · rw [k4]
          have hl := clr_ltS S (by omega) k (by omega) k3
          exact hg.1 k (by omega) _ (ih _ (by omega) (by omega)).1
  refine ⟨h0, fun S hS1 hS2 => ?_⟩
  have hS3 := sub_lt hS2
  obtain ⟨a1, a2, a3⟩ := mxL_p (v := fun k => goe fr tt (grE fr tt F to p n E0 (clr S k)) (F k) to) (S := S) n 0 p
  rw [hat S hS1 hS3]
  have hin : ∀ i, S.testBit i = true → i < n := fun i hi => bit_lt (by omega) hi
  refine ⟨fun i hi => a2 i (by omega) (by have := hin i hi; omega) hi, ?_⟩
  rcases a3 with a3 | ⟨k, k1, k2, k3, k4⟩
  · have hex : ∃ i, S.testBit i = true := by
      rcases Classical.em (∃ i, S.testBit i = true) with h | h
      · exact h
      · exfalso
        apply hS1
        apply Nat.eq_of_testBit_eq
        intro j
        cases hj : S.testBit j
        · simp
        · exact absurd ⟨j, hj⟩ h
    obtain ⟨i, hi⟩ := hex
    have hi8 := hin i hi
    have hl := clr_ltS S (by omega) i (by omega) hi
    obtain ⟨b1, b2⟩ := hD (clr S i) (clr S i) (Nat.le_refl _) (by omega)
    have b3 := hg.2.1 i hi8 _ b1
    have b4 := a2 i (by omega) (by omega) hi
    rw [a3] at b4
    refine ⟨i, hi, ?_⟩
    rw [a3, i32_eq]
    simp only at b3 b4
    show p.toInt = (goe fr tt (grE fr tt F to p n E0 (clr S i)) (F i) to).toInt
    omega
  · exact ⟨k, k3, k4⟩
theorem fiE_isE {fr tt to p : Int32} {F E0 : Nat → Int32} {T : Nat} (hT : T < 256) (hg : isG 8 (okD fr tt to) (fun i x => goe fr tt x (F i) to)) (hgo : ∀ i, i < 8 → ∀ x, okD fr tt to x → onw fr tt x (F i) to = goe fr tt x (F i) to) (hp : okD fr tt to p) : isE (fun i x => goe fr tt x (F i) to) p T (fiE fr tt F to p T E0) := by
  have h0 : fiE fr tt F to p T E0 0 = p := by unfold fiE; rw [fiL_lo _ _ _ _ (by omega), upd_s]
  have hat0 : ∀ S, S ≠ 0 → subN S T = true → fiE fr tt F to p T E0 S = mxL (fun k => onw fr tt (fiE fr tt F to p T E0 (clr S k)) (F k) to) S 0 8 0 := by
    intro S hS1 hS2
    have hS3 := sub_lt hS2
    have := fiL_at (fr := fr) (tt := tt) (F := F) (to := to) (T := T) T 1 (upd E0 0 p) S (by omega) (by omega) (by omega) hS2
    rw [feL_mx] at this
    exact this
  have hex : ∀ S : Nat, S ≠ 0 → ∃ i, S.testBit i = true := by
    intro S hS1
    rcases Classical.em (∃ i, S.testBit i = true) with h | h
    · exact h
    · exfalso
      apply hS1
      apply Nat.eq_of_testBit_eq
      intro j
      cases hj : S.testBit j
      · simp
      · exact absurd ⟨j, hj⟩ h
  have z : (0 : Int32).toInt = 0 := rfl
  have hD : ∀ (m S : Nat), S ≤ m → subN S T = true → okD fr tt to (fiE fr tt F to p T E0 S) ∧ (S ≠ 0 → (∀ i, S.testBit i = true → (goe fr tt (fiE fr tt F to p T E0 (clr S i)) (F i) to).toInt ≤ (fiE fr tt F to p T E0 S).toInt) ∧ ∃ i, S.testBit i = true ∧ fiE fr tt F to p T E0 S = goe fr tt (fiE fr tt F to p T E0 (clr S i)) (F i) to) := by
    intro m
    induction m with
    | zero =>
      intro S hS _
      have : S = 0 := by omega
      subst this
      rw [h0]
      exact ⟨hp, fun h => absurd rfl h⟩
    | succ m ih =>
      intro S hS hS2
      by_cases e : S = 0
      · subst e
        rw [h0]
        exact ⟨hp, fun h => absurd rfl h⟩
      · have hS3 := sub_lt hS2
        have hd : ∀ k, S.testBit k = true → okD fr tt to (fiE fr tt F to p T E0 (clr S k)) := by
          intro k k3
          have hk := bit_8 (by omega) k3
          have hl := clr_ltS S (by omega) k hk k3
          exact (ih _ (by omega) (subN_tr (clr_sub (by omega) hk) hS2)).1
        have hat := hat0 S e hS2
        rw [mxL_c 8 0 0 (v' := fun k => goe fr tt (fiE fr tt F to p T E0 (clr S k)) (F k) to) (fun k _ k2 k3 => hgo k (by omega) _ (hd k k3))] at hat
        obtain ⟨a1, a2, a3⟩ := mxL_p (v := fun k => goe fr tt (fiE fr tt F to p T E0 (clr S k)) (F k) to) (S := S) 8 0 0
        rw [← hat] at a1 a2 a3
        have hub : ∀ i, S.testBit i = true → (goe fr tt (fiE fr tt F to p T E0 (clr S i)) (F i) to).toInt ≤ (fiE fr tt F to p T E0 S).toInt := fun i hi => a2 i (by omega) (by have := bit_8 (by omega) hi; omega) hi
        have hexi : ∃ i, S.testBit i = true ∧ fiE fr tt F to p T E0 S = goe fr tt (fiE fr tt F to p T E0 (clr S i)) (F i) to := by
          rcases a3 with a3 | ⟨k, k1, k2, k3, k4⟩
          · obtain ⟨i, hi⟩ := hex S e
            have b1 := hub i hi
            have b2 := (hg.1 i (bit_8 (by omega) hi) _ (hd i hi)).1
            refine ⟨i, hi, ?_⟩
            rw [i32_eq]
            rw [a3, z] at b1 ⊢
            simp only at b2
            omega
          · exact ⟨k, k3, k4⟩
        refine ⟨?_, fun _ => ⟨hub, hexi⟩⟩
        obtain ⟨i, hi, he⟩ := hexi
        rw [he]
        exact hg.1 i (bit_8 (by omega) hi) _ (hd i hi)
  exact ⟨h0, fun S hS1 hS2 => (hD S S (Nat.le_refl _) hS2).2 hS1⟩

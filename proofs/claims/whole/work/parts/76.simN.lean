/-! THE TWO SIDES ALIKE: what a share is worth, and the class's best -/
def eW (u : hW) (i P : Nat) : Int32 := grE (u.1 45 4) (u.1 45 5) (mMeasF u (u.1 55 i) (fun _ => 0)) (u.1 56 i) (u.1 50 (u.1 55 i).toNatClampNeg) (mN u) (fun _ => 0) P
def bz (u : hW) (i P : Nat) : Bool := decide (u.1 50 (u.1 55 i).toNatClampNeg = u.1 56 i) || (decide (u.1 50 (u.1 55 i).toNatClampNeg < u.1 56 i) && decide (eW u i P = u.1 56 i))
def hz (u : hW) (i P : Nat) : Int := (if bz u i P = true then (u.1 57 i).toInt * 390625 else 0) - ((i : Int) + 1) * (digS P : Int)
def sv (u : hW) (fam : Nat → Nat) : Nat → Int
  | 0 => 0
  | i + 1 => sv u fam i + hz u i (fam i)
def sFam : Nat → Nat → (Nat → Nat) → Prop
  | 0, _, _ => True
  | i + 1, S, fam => subN (fam i) S = true ∧ sFam i (dif S (fam i)) fam
section
variable {p u p' u' : hW} {b : Nat}
theorem dif_mono {S S' P : Nat} (h : subN S S' = true) : subN (dif S P) (dif S' P) = true := by
  rw [subN_iff] at h ⊢
  intro j hj
  rw [dif_bit] at hj ⊢
  simp at hj
  simp [h j hj.1, hj.2]
theorem sFam_mono {fam : Nat → Nat} : ∀ (i S S' : Nat), subN S S' = true → sFam i S fam → sFam i S' fam
  | 0, _, _, _, _ => trivial
  | i + 1, S, S', h, hf => ⟨subN_tr hf.1 h, sFam_mono i _ _ (dif_mono h) hf.2⟩
theorem sFam_c {fam fam' : Nat → Nat} : ∀ (i S : Nat), (∀ j, j < i → fam j = fam' j) → sFam i S fam → sFam i S fam'
  | 0, _, _, _ => trivial
  | i + 1, S, h, hf => by
    have e := h i (by omega)
    refine ⟨by rw [← e]; exact hf.1, ?_⟩
    rw [← e]
    exact sFam_c i _ (fun j hj => h j (by omega)) hf.2
theorem sv_c {fam fam' : Nat → Nat} : ∀ (i : Nat), (∀ j, j < i → fam j = fam' j) → sv u fam i = sv u fam' i
  | 0, _ => rfl
  | i + 1, h => by
    unfold sv
    rw [sv_c i (fun j hj => h j (by omega)), h i (by omega)]
theorem dig_b : ∀ P : Nat, P < 256 → digS P ≤ 97656 := by decide +kernel
theorem dig_0 : digS 0 = 0 := by decide
/-- one more want, from what is known of the best with the wants before -/
theorem best_up {i : Nat} {A : Nat} {C C' : Nat → Int32} {s : Int} (hA : A < 256) (h : ∀ S, subN S A = true → (∀ fam, sFam i S fam → sv u fam i ≤ (C S).toInt + s) ∧ ∃ fam, sFam i S fam ∧ sv u fam i = (C S).toInt + s) (h0 : hz u i 0 = 0) (n1 : ∀ S, subN S A = true → (C S).toInt ≤ (C' S).toInt) (n2 : ∀ S P, subN S A = true → subN P S = true → P ≠ 0 → 0 < hz u i P → hz u i P + (C (dif S P)).toInt ≤ (C' S).toInt) (n3 : ∀ S, subN S A = true → (C' S).toInt = (C S).toInt ∨ ∃ P, subN P S = true ∧ P ≠ 0 ∧ (C' S).toInt = hz u i P + (C (dif S P)).toInt) : ∀ S, subN S A = true → (∀ fam, sFam (i + 1) S fam → sv u fam (i + 1) ≤ (C' S).toInt + s) ∧ ∃ fam, sFam (i + 1) S fam ∧ sv u fam (i + 1) = (C' S).toInt + s := by
  intro S hS
  have hD : ∀ P, subN (dif S P) A = true := fun P => subN_tr dif_sub hS
  refine ⟨fun fam hf => ?_, ?_⟩
  · have f1 := hf.1
    have f2 := hf.2
    show sv u fam i + hz u i (fam i) ≤ _
    by_cases c : fam i ≠ 0 ∧ 0 < hz u i (fam i)
    · have a := (h _ (hD (fam i))).1 fam f2
      have q := n2 S (fam i) hS f1 c.1 c.2
      omega
    · have a := (h S hS).1 fam (sFam_mono i _ _ dif_sub f2)
      have q := n1 S hS
      have z : hz u i (fam i) ≤ 0 := by
        by_cases c0 : fam i = 0
        · rw [c0, h0]; omega
        · have := fun e => c ⟨c0, e⟩
          omega
      omega
  · have mk : ∀ (P : Nat) (fam : Nat → Nat), subN P S = true → sFam i (dif S P) fam → sFam (i + 1) S (fun j => if j = i then P else fam j) ∧ sv u (fun j => if j = i then P else fam j) (i + 1) = sv u fam i + hz u i P := fun P fam hP hf => by
      have e : ∀ j, j < i → fam j = (fun j => if j = i then P else fam j) j := fun j hj => by
        show fam j = if j = i then P else fam j
        rw [if_neg (by omega)]
      have ei : (fun j => if j = i then P else fam j) i = P := if_pos rfl
      refine ⟨⟨?_, ?_⟩, ?_⟩
      · rw [ei]; exact hP
      · rw [ei]; exact sFam_c i _ e hf
      · show sv u _ i + hz u i ((fun j => if j = i then P else fam j) i) = _
        rw [ei, ← sv_c i e]
    rcases n3 S hS with e | ⟨P, p1, p2, e⟩
    · obtain ⟨fam, f1, f2⟩ := (h S hS).2
      obtain ⟨g1, g2⟩ := mk 0 fam sub_0 (by rw [dif_0]; exact f1)
      exact ⟨_, g1, by rw [g2, f2, h0, e]; omega⟩
    · obtain ⟨fam, f1, f2⟩ := (h _ (hD P)).2
      obtain ⟨g1, g2⟩ := mk P fam p1 f1
      exact ⟨_, g1, by rw [g2, f2, e]; omega⟩
/-- one more want that is there already -/
theorem best_th {i : Nat} {A : Nat} {C : Nat → Int32} {s x : Int} (h : ∀ S, subN S A = true → (∀ fam, sFam i S fam → sv u fam i ≤ (C S).toInt + s) ∧ ∃ fam, sFam i S fam ∧ sv u fam i = (C S).toInt + s) (h0 : hz u i 0 = x) (h1 : ∀ P, hz u i P ≤ x) : ∀ S, subN S A = true → (∀ fam, sFam (i + 1) S fam → sv u fam (i + 1) ≤ (C S).toInt + (s + x)) ∧ ∃ fam, sFam (i + 1) S fam ∧ sv u fam (i + 1) = (C S).toInt + (s + x) := by
  intro S hS
  refine ⟨fun fam hf => ?_, ?_⟩
  · show sv u fam i + hz u i (fam i) ≤ _
    have a := (h S hS).1 fam (sFam_mono i _ _ dif_sub hf.2)
    have q := h1 (fam i)
    omega
  · obtain ⟨fam, f1, f2⟩ := (h S hS).2
    have e : ∀ j, j < i → fam j = (fun j => if j = i then 0 else fam j) j := fun j hj => by
      show fam j = if j = i then 0 else fam j
      rw [if_neg (by omega)]
    have ei : (fun j => if j = i then 0 else fam j) i = 0 := if_pos rfl
    refine ⟨fun j => if j = i then 0 else fam j, ⟨?_, ?_⟩, ?_⟩
    · rw [ei]; exact sub_0
    · rw [ei, dif_0]; exact sFam_c i _ e f1
    · show sv u _ i + hz u i ((fun j => if j = i then 0 else fam j) i) = _
      rw [ei, ← sv_c i e, f2, h0]
      omega
/-! a want, as both sides see it -/
theorem wOk (h : R p u) {i : Nat} (hi : (i : Int) < (u.1 45 2).toInt) : mThing u (u.1 55 i) = true ∧ Std (vwM u) (u.1 56 i) ∧ (0 ≤ (u.1 57 i).toInt ∧ (u.1 57 i).toInt ≤ 99) := by
  have o := h.2.1.2.2.2 i hi
  exact ⟨(R_mI h).2.2.2.2.2.2.1 i hi, o.2⟩
theorem Std_step {x : Int32} (h : Std (vwM u) x) : mStep u x = true := by
  obtain ⟨h1, h2, h3⟩ := h
  have h2' : x.toInt ≤ (u.1 45 3).toInt := h2
  have h3' : x.toInt ≤ (u.1 45 4).toInt ∨ (u.1 45 5).toInt ≤ x.toInt := h3
  unfold mStep mWet
  simp only [Bool.and_eq_true, Bool.not_eq_true', decide_eq_false_iff_not, Bool.and_eq_false_iff, i32_lt, i32_0]
  omega
theorem eW_m (h : R p u) {i P : Nat} (hi : (i : Int) < (u.1 45 2).toInt) (hle : (u.1 50 (u.1 55 i).toNatClampNeg).toInt ≤ (u.1 56 i).toInt) (hP : subN P (2 ^ mN u - 1) = true) : (mRF u (u.1 55 i) (u.1 56 i)).1 69 P = eW u i P := by
  obtain ⟨w1, w2, w3⟩ := wOk h hi
  have n8 := mN_8 h
  have l3 := h.2.1.1.2.2.2.1.2
  have q1 := w2.2.1
  rw [mRF_69]
  unfold eW
  refine grE_cg n8.1 h.2.1.1.2.2.2.2.1.1 (by omega) w2.2.2 (fun j hj => by rw [← F_m h w1 j hj]; exact F_b h w1 j (by omega)) (fun j hj => ?_) (Std_D h.2.1 (Ok_T h.2.1 w1).2.2.2.1 hle) hP
  unfold mMeasF
  rw [if_pos hj, if_pos hj]
theorem eW_mono (h : R p u) {i P A : Nat} (hi : (i : Int) < (u.1 45 2).toInt) (hle : (u.1 50 (u.1 55 i).toNatClampNeg).toInt ≤ (u.1 56 i).toInt) (hA : subN A (2 ^ mN u - 1) = true) (hP : subN P A = true) (he : eW u i P = u.1 56 i) : eW u i A = u.1 56 i := by
  obtain ⟨w1, w2, w3⟩ := wOk h hi
  have n8 := mN_8 h
  have l3 := h.2.1.1.2.2.2.1.2
  have q1 := w2.2.1
  have p0 := Nat.pos_of_neZero (2 ^ mN u)
  have hp := Std_D h.2.1 (Ok_T h.2.1 w1).2.2.2.1 hle
  have hG := goe_G (n := mN u) (fr := u.1 45 4) (tt := u.1 45 5) (to := u.1 56 i) (F := mMeasF u (u.1 55 i) (fun _ => 0)) h.2.1.1.2.2.2.2.1.1 (by omega) w2.2.2 (fun j hj => by rw [← F_m h w1 j hj]; exact F_b h w1 j (by omega))
  have E1 := grE_isE (E0 := fun _ => 0) n8.1 hG hp
  have le := isE_mono (pw_lt n8.1) (by omega) hG hp E1 A A P (Nat.le_refl _) hA hP
  have D := isE_D (pw_lt n8.1) (by omega) hG hp E1 A A (Nat.le_refl _) hA
  have D1 := D.2.1
  unfold eW at he ⊢
  rw [he] at le
  rw [i32_eq]
  omega
theorem eW_0 (h : R p u) {i : Nat} : eW u i 0 = u.1 50 (u.1 55 i).toNatClampNeg := by
  unfold eW grE
  rw [grO_lo _ _ _ _ (by omega), upd_s]
/-- the class's sharing, want after want -/
theorem sh_l (h : R p u) : ∀ (r i : Nat) (w : hW) (s : Int32), ((i + r : Nat) : Int) = (u.1 45 2).toInt → xS p w → (0 ≤ s.toInt ∧ s.toInt ≤ 99 * (i : Int)) → (∀ S, subN S (2 ^ mN u - 1) = true → 0 ≤ (w.1 41 S).toInt ∧ (w.1 41 S).toInt ≤ 38671875 * (i : Int)) → (∀ S, subN S (2 ^ mN u - 1) = true → (∀ fam, sFam i S fam → sv u fam i ≤ (w.1 41 S).toInt + s.toInt * 390625) ∧ ∃ fam, sFam i S fam ∧ sv u fam i = (w.1 41 S).toInt + s.toInt * 390625) → xS p (shL (2 ^ mN u - 1) i r w s).1 ∧ (0 ≤ (shL (2 ^ mN u - 1) i r w s).2.toInt ∧ (shL (2 ^ mN u - 1) i r w s).2.toInt ≤ 396) ∧ (∀ S, subN S (2 ^ mN u - 1) = true → 0 ≤ ((shL (2 ^ mN u - 1) i r w s).1.1 41 S).toInt ∧ ((shL (2 ^ mN u - 1) i r w s).1.1 41 S).toInt ≤ 154687500) ∧ (∀ S, subN S (2 ^ mN u - 1) = true → (∀ fam, sFam (i + r) S fam → sv u fam (i + r) ≤ ((shL (2 ^ mN u - 1) i r w s).1.1 41 S).toInt + (shL (2 ^ mN u - 1) i r w s).2.toInt * 390625) ∧ ∃ fam, sFam (i + r) S fam ∧ sv u fam (i + r) = ((shL (2 ^ mN u - 1) i r w s).1.1 41 S).toInt + (shL (2 ^ mN u - 1) i r w s).2.toInt * 390625)
  | 0, i, w, s, hi, hx, hs, hC, hB => by
    have o2 := h.2.1.1.2.2.1.2
    have o2' : (u.1 45 2).toInt ≤ 4 := o2
    refine ⟨hx, ?_, fun S hS => ?_, hB⟩
    · show 0 ≤ s.toInt ∧ s.toInt ≤ 396
      omega
    · show 0 ≤ (w.1 41 S).toInt ∧ (w.1 41 S).toInt ≤ 154687500
      have := hC S hS
      omega
  | r + 1, i, w, s, hi, hx, hs, hC, hB => by
    have hR : R w u := (Sim_scr h (r := 0) hx mS.rf).2.1
    have hiw : (i : Int) < (u.1 45 2).toInt := by omega
    have o2 := h.2.1.1.2.2.1.2
    have o2' : (u.1 45 2).toInt ≤ 4 := o2
    have hw := hW_nI hR.1 hiw
    obtain ⟨w1, w2, w3⟩ := wOk h hiw
    have n8 := mN_8 h
    have hA : 2 ^ mN u - 1 < 256 := pw_lt n8.1
    have ci : (nI i).toNatClampNeg = i := nI_cl (by omega)
    have c0 : tCell w 7 (nI i) 0 = u.1 55 i := by have := vW0 hR.1 hw; rw [ci] at this; exact this
    have c1 : tCell w 7 (nI i) 1 = u.1 56 i := by have := vW1 hR.1 hw; rw [ci] at this; exact this
    have c2 : tCell w 7 (nI i) 2 = u.1 57 i := by have := vW2 hR.1 hw; rw [ci] at this; exact this
    have eth : vThere w 2 (nI i) = decide (u.1 50 (u.1 55 i).toNatClampNeg = u.1 56 i) := by have := there_m hR hw; rw [ci] at this; exact this
    have i1 : i + (r + 1) = i + 1 + r := by omega
    rw [i1] at hi ⊢
    unfold shL
    rw [eth, c2]
    by_cases ct : u.1 50 (u.1 55 i).toNatClampNeg = u.1 56 i
    · rw [if_pos (decide_eq_true ct)]
      have hb : ∀ P, bz u i P = true := fun P => by unfold bz; rw [decide_eq_true ct]; rfl
      have ad := i32_add (a := s) (b := u.1 57 i) (by omega) (by omega)
      have z0 : hz u i 0 = (u.1 57 i).toInt * 390625 := by unfold hz; rw [if_pos (hb 0), dig_0]; omega
      have zP : ∀ P, hz u i P ≤ (u.1 57 i).toInt * 390625 := fun P => by
        unfold hz
        rw [if_pos (hb P)]
        have : 0 ≤ ((i : Int) + 1) * (digS P : Int) := Int.mul_nonneg (by omega) (by omega)
        omega
      refine sh_l h r (i + 1) w (s + u.1 57 i) hi hx (by rw [ad]; omega) (fun S hS => by have := hC S hS; omega) ?_
      have q := best_th hB z0 zP
      intro S hS
      have e : (s + u.1 57 i).toInt * 390625 = s.toInt * 390625 + (u.1 57 i).toInt * 390625 := by rw [ad]; omega
      rw [e]
      exact q S hS
    · rw [if_neg (by rw [decide_eq_false ct]; decide)]
      have z0 : hz u i 0 = 0 := by
        have hb : bz u i 0 = false := by
          unfold bz
          rw [decide_eq_false ct, eW_0 h, decide_eq_false ct]
          simp
        unfold hz
        rw [hb, dig_0]
        simp
      have ev : vOn w 2 (u.1 55 i) (u.1 56 i) = decide (u.1 50 (u.1 55 i).toNatClampNeg < u.1 56 i) := by
        rw [on_m hR.1 w1]
        unfold mOn
        rw [Std_step w2]
        rfl
      -- what a gain is
      have hzb : ∀ P, hz u i P ≤ 38671875 := fun P => by
        unfold hz
        have : 0 ≤ ((i : Int) + 1) * (digS P : Int) := Int.mul_nonneg (by omega) (by omega)
        split <;> omega
      have no : (∀ P, subN P (2 ^ mN u - 1) = true → bz u i P = false) → ∀ (w' : hW), xS p w' → w'.1 41 = w.1 41 → xS p (shL (2 ^ mN u - 1) (i + 1) r w' s).1 ∧ (0 ≤ (shL (2 ^ mN u - 1) (i + 1) r w' s).2.toInt ∧ (shL (2 ^ mN u - 1) (i + 1) r w' s).2.toInt ≤ 396) ∧ (∀ S, subN S (2 ^ mN u - 1) = true → 0 ≤ ((shL (2 ^ mN u - 1) (i + 1) r w' s).1.1 41 S).toInt ∧ ((shL (2 ^ mN u - 1) (i + 1) r w' s).1.1 41 S).toInt ≤ 154687500) ∧ (∀ S, subN S (2 ^ mN u - 1) = true → (∀ fam, sFam (i + 1 + r) S fam → sv u fam (i + 1 + r) ≤ ((shL (2 ^ mN u - 1) (i + 1) r w' s).1.1 41 S).toInt + (shL (2 ^ mN u - 1) (i + 1) r w' s).2.toInt * 390625) ∧ ∃ fam, sFam (i + 1 + r) S fam ∧ sv u fam (i + 1 + r) = ((shL (2 ^ mN u - 1) (i + 1) r w' s).1.1 41 S).toInt + (shL (2 ^ mN u - 1) (i + 1) r w' s).2.toInt * 390625) := by
        intro hb w' hx' h41
        refine sh_l h r (i + 1) w' s hi hx' ⟨hs.1, by omega⟩ (fun S hS => by rw [h41]; have := hC S hS; omega) ?_
        rw [h41]
        refine best_up hA hB z0 (fun S _ => Int.le_refl _) (fun S P hS hP h0 hp => ?_) (fun S _ => Or.inl rfl)
        exfalso
        unfold hz at hp
        rw [hb P (subN_tr hP hS)] at hp
        have : 0 ≤ ((i : Int) + 1) * (digS P : Int) := Int.mul_nonneg (by omega) (by omega)
        simp only [Bool.false_eq_true, if_false] at hp
        omega
      have xm : xS w (rMeas w (u.1 55 i)) := by unfold rMeas; exact xS_A (by omega) (by omega)
      by_cases cl : u.1 50 (u.1 55 i).toNatClampNeg < u.1 56 i
      · have cl' := cl
        rw [i32_lt] at cl'
        have eE : ∀ P, subN P (2 ^ mN u - 1) = true → fgE w (nI i) (2 ^ mN u - 1) P = eW u i P := fun P hP => by
          unfold fgE
          rw [c0, c1, ← eW_m h hiw (by omega) hP]
          exact tab_m hR w1 w2 (by omega) subN_rf hP
        have ebz : ∀ P, bz u i P = decide (eW u i P = u.1 56 i) := fun P => by
          unfold bz
          rw [decide_eq_false ct, decide_eq_true cl]
          simp
        have eok : fgOk w (nI i) (2 ^ mN u - 1) = decide (eW u i (2 ^ mN u - 1) = u.1 56 i) := by
          unfold fgOk
          rw [c0, c1, ev, decide_eq_true cl, eE _ subN_rf]
          rfl
        by_cases ce : eW u i (2 ^ mN u - 1) = u.1 56 i
        · unfold shA
          rw [eok, if_pos (decide_eq_true ce)]
          have eW' : fgW w (nI i) (2 ^ mN u - 1) = wA (wA (rMeas w (u.1 55 i)) 39 (fgE w (nI i) (2 ^ mN u - 1))) 42 (fun j => if j ≤ 2 ^ mN u - 1 then gnF (u.1 57 i) (nI i) (fgE w (nI i) (2 ^ mN u - 1)) (u.1 56 i) j else w.1 42 j) := by
            unfold fgW
            rw [c0, c1, c2, ev, if_pos (decide_eq_true cl), if_pos (by rw [eE _ subN_rf]; exact ce)]
          rw [eW']
          have e41 : (wA (wA (rMeas w (u.1 55 i)) 39 (fgE w (nI i) (2 ^ mN u - 1))) 42 (fun j => if j ≤ 2 ^ mN u - 1 then gnF (u.1 57 i) (nI i) (fgE w (nI i) (2 ^ mN u - 1)) (u.1 56 i) j else w.1 42 j)).1 41 = w.1 41 := by
            rw [wA_o (by omega), wA_o (by omega)]
            exact wA_o (by omega)
          have e42 : (wA (wA (rMeas w (u.1 55 i)) 39 (fgE w (nI i) (2 ^ mN u - 1))) 42 (fun j => if j ≤ 2 ^ mN u - 1 then gnF (u.1 57 i) (nI i) (fgE w (nI i) (2 ^ mN u - 1)) (u.1 56 i) j else w.1 42 j)).1 42 = (fun j => if j ≤ 2 ^ mN u - 1 then gnF (u.1 57 i) (nI i) (fgE w (nI i) (2 ^ mN u - 1)) (u.1 56 i) j else w.1 42 j) := wA_s
          rw [e41, e42]
          have xF : xS w (wA (wA (rMeas w (u.1 55 i)) 39 (fgE w (nI i) (2 ^ mN u - 1))) 42 (fun j => if j ≤ 2 ^ mN u - 1 then gnF (u.1 57 i) (nI i) (fgE w (nI i) (2 ^ mN u - 1)) (u.1 56 i) j else w.1 42 j)) := xS.tr xm (xS.tr (xS_A (by omega) (by omega)) (xS_A (by omega) (by omega)))
          -- the gains
          have hG : ∀ P, subN P (2 ^ mN u - 1) = true → (eW u i P = u.1 56 i → ((fun j => if j ≤ 2 ^ mN u - 1 then gnF (u.1 57 i) (nI i) (fgE w (nI i) (2 ^ mN u - 1)) (u.1 56 i) j else w.1 42 j) P).toInt = hz u i P) ∧ (¬ eW u i P = u.1 56 i → ((fun j => if j ≤ 2 ^ mN u - 1 then gnF (u.1 57 i) (nI i) (fgE w (nI i) (2 ^ mN u - 1)) (u.1 56 i) j else w.1 42 j) P).toInt = -1 ∧ hz u i P ≤ 0) := fun P hP => by
            have dP := dig_b P (by have := sub_lt hP; omega)
            have dI : (nI (digS P)).toInt = (digS P : Int) := nI_toInt (by omega)
            have oI : (1 : Int32).toInt = 1 := rfl
            have nIi : (nI i).toInt = (i : Int) := nI_toInt (by omega)
            have k5 : (390625 : Int32).toInt = 390625 := rfl
            have m0 : 0 ≤ ((i : Int) + 1) * (digS P : Int) := Int.mul_nonneg (by omega) (by omega)
            have m1 : ((i : Int) + 1) * (digS P : Int) ≤ 4 * 97656 := Int.mul_le_mul (by omega) (by omega) (by omega) (by omega)
            show (_ → (if P ≤ 2 ^ mN u - 1 then gnF (u.1 57 i) (nI i) (fgE w (nI i) (2 ^ mN u - 1)) (u.1 56 i) P else w.1 42 P).toInt = _) ∧ (_ → (if P ≤ 2 ^ mN u - 1 then gnF (u.1 57 i) (nI i) (fgE w (nI i) (2 ^ mN u - 1)) (u.1 56 i) P else w.1 42 P).toInt = _ ∧ _)
            rw [if_pos (sub_lt hP)]
            unfold gnF
            rw [eE P hP]
            refine ⟨fun e => ?_, fun e => ?_⟩
            · rw [if_pos e]
              have a1 := i32_mul (a := u.1 57 i) (b := 390625) (by rw [k5]; omega) (by rw [k5]; omega)
              have a2 := i32_add (a := nI i) (b := 1) (by omega) (by omega)
              have a3 := i32_mul (a := nI i + 1) (b := nI (digS P)) (by rw [a2, nIi, oI, dI]; omega) (by rw [a2, nIi, oI, dI]; omega)
              rw [a2, nIi, oI, dI] at a3
              rw [k5] at a1
              rw [i32_sub (by rw [a1, a3]; omega) (by rw [a1, a3]; omega), a1, a3]
              unfold hz
              rw [ebz P, if_pos (decide_eq_true e)]
            · rw [if_neg e]
              refine ⟨rfl, ?_⟩
              unfold hz
              rw [ebz P, decide_eq_false e]
              simp only [Bool.false_eq_true, if_false]
              omega
          generalize (fun j => if j ≤ 2 ^ mN u - 1 then gnF (u.1 57 i) (nI i) (fgE w (nI i) (2 ^ mN u - 1)) (u.1 56 i) j else w.1 42 j) = G at hG xF ⊢
          have hG1 : ∀ P, subN P (2 ^ mN u - 1) = true → (G P).toInt ≤ 100000000 := fun P hP => by
            by_cases e : eW u i P = u.1 56 i
            · rw [(hG P hP).1 e]; have := hzb P; omega
            · rw [((hG P hP).2 e).1]; omega
          obtain ⟨o1, o2, o3⟩ := soO_p (G := G) (2 ^ mN u - 1) (w.1 41)
          have spec : ∀ S, subN S (2 ^ mN u - 1) = true → (w.1 41 S).toInt ≤ (soO G (2 ^ mN u - 1) (w.1 41) S).toInt ∧ (∀ Q, subN Q S = true → Q ≠ 0 → 0 < (G Q).toInt → (G Q).toInt + (w.1 41 (dif S Q)).toInt ≤ (soO G (2 ^ mN u - 1) (w.1 41) S).toInt) ∧ (soO G (2 ^ mN u - 1) (w.1 41) S = w.1 41 S ∨ ∃ Q, subN Q S = true ∧ Q ≠ 0 ∧ 0 < (G Q).toInt ∧ (soO G (2 ^ mN u - 1) (w.1 41) S).toInt = (G Q).toInt + (w.1 41 (dif S Q)).toInt) := fun S hS => by
            by_cases s0 : S = 0
            · subst s0
              rw [o2]
              refine ⟨Int.le_refl _, fun Q h1 h2 => ?_, Or.inl rfl⟩
              exact absurd (Nat.le_zero.mp (sub_lt h1)) h2
            · rw [o3 S (by omega) (sub_lt hS)]
              have sp := soP_p (G := G) (C := w.1 41) (S := S) (fun P hP => hG1 P (subN_tr hP hS)) (fun P hP => by
                by_cases hsub : subN P (2 ^ mN u - 1) = true
                · have := hC P hsub; omega
                · exfalso
                  exact hsub (sub_pw (by have := sub_lt hS; omega))) S S (w.1 41 S) (Nat.le_refl _) subN_rf (hC S hS).1
              exact ⟨sp.1, fun Q h1 h2 h3 => sp.2.1 Q h1 h2 (sub_lt h1) h3, sp.2.2⟩
          have hpos : ∀ P, subN P (2 ^ mN u - 1) = true → 0 < (G P).toInt → (G P).toInt = hz u i P := fun P hP hp => by
            by_cases e : eW u i P = u.1 56 i
            · exact (hG P hP).1 e
            · rw [((hG P hP).2 e).1] at hp; omega
          refine sh_l h r (i + 1) _ s hi (xS.tr hx (xS.tr xF (xS_A (by omega) (by omega)))) ⟨hs.1, by omega⟩ (fun S hS => ?_) ?_
          · rw [wA_s]
            obtain ⟨p1, p2, p3⟩ := spec S hS
            have cS := hC S hS
            rcases p3 with e | ⟨Q, q1, q2, q3, q4⟩
            · rw [e]; omega
            · have cD := hC (dif S Q) (subN_tr dif_sub hS)
              have hq := hpos Q (subN_tr q1 hS) q3
              have := hzb Q
              omega
          · rw [wA_s]
            refine best_up hA hB z0 (fun S hS => (spec S hS).1) (fun S P hS hP h0 hp => ?_) (fun S hS => ?_)
            · have hPA := subN_tr hP hS
              by_cases e : eW u i P = u.1 56 i
              · have eg := (hG P hPA).1 e
                rw [← eg]
                exact (spec S hS).2.1 P hP h0 (by rw [eg]; exact hp)
              · have := ((hG P hPA).2 e).2
                omega
            · rcases (spec S hS).2.2 with e | ⟨Q, q1, q2, q3, q4⟩
              · exact Or.inl (by rw [e])
              · exact Or.inr ⟨Q, q1, q2, by rw [q4, hpos Q (subN_tr q1 hS) q3]⟩
        · unfold shA
          rw [eok, if_neg (by rw [decide_eq_false ce]; decide)]
          have eW' : fgW w (nI i) (2 ^ mN u - 1) = wA (rMeas w (u.1 55 i)) 39 (fgE w (nI i) (2 ^ mN u - 1)) := by
            unfold fgW
            rw [c0, c1, ev, if_pos (decide_eq_true cl), if_neg (by rw [eE _ subN_rf]; exact ce)]
          rw [eW']
          refine no (fun P hP => ?_) _ (xS.tr hx (xS.tr xm (xS_A (by omega) (by omega)))) ?_
          · rw [ebz P, decide_eq_false (fun e => ce (eW_mono h hiw (by omega) subN_rf hP e))]
          · rw [wA_o (by omega)]
            exact wA_o (by omega)
      · have eok : fgOk w (nI i) (2 ^ mN u - 1) = false := by
          unfold fgOk
          rw [c0, c1, ev, decide_eq_false cl]
          rfl
        unfold shA
        rw [eok, if_neg (by decide)]
        have eW' : fgW w (nI i) (2 ^ mN u - 1) = w := by
          unfold fgW
          rw [c0, c1, ev, if_neg (by rw [decide_eq_false cl]; decide)]
        rw [eW']
        refine no (fun P hP => ?_) w hx rfl
        unfold bz
        rw [decide_eq_false ct, decide_eq_false cl]
        rfl
end

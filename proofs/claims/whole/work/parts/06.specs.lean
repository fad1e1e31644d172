/-! THE TABLES, read -/
theorem find_spec {α : Type} {l : List α} {P : α → Bool} {q : α} (h : l.find? P = some q) : q ∈ l ∧ P q = true := ⟨List.mem_of_find?_eq_some h, List.find?_some h⟩
theorem vwCl_at {ci : Nat} (h : ci < 9) : vwCl[ci]? = some (gCn ci, gT ci, gN ci) := match ci, h with
  | 0, _ => rfl
  | 1, _ => rfl
  | 2, _ => rfl
  | 3, _ => rfl
  | 4, _ => rfl
  | 5, _ => rfl
  | 6, _ => rfl
  | 7, _ => rfl
  | 8, _ => rfl
theorem TW_fld {ci : Nat} (h : ci < 9) : ∀ w ∈ u_ws (gCn ci) (gT ci) (gN ci), w ∈ TW := match ci, h with
  | 0, _ => TW_X0
  | 1, _ => TW_X1
  | 2, _ => TW_X2
  | 3, _ => TW_X3
  | 4, _ => TW_X4
  | 5, _ => TW_X5
  | 6, _ => TW_X6
  | 7, _ => TW_X7
  | 8, _ => TW_X8
theorem gNm {ci : Nat} (h : ci < 9) : ∀ a, a < gN ci → ∀ b, b < gN ci → a ≠ b → (gT ci a).2.1 ≠ (gT ci b).2.1 := match ci, h with
  | 0, _ => nmX0
  | 1, _ => nmX1
  | 2, _ => nmX2
  | 3, _ => nmX3
  | 4, _ => nmX4
  | 5, _ => nmX5
  | 6, _ => nmX6
  | 7, _ => nmX7
  | 8, _ => nmX8
def gTy (ci : Nat) : Nat → FieldType := match ci with
  | 0 => tyX0
  | 1 => tyX1
  | 2 => tyX2
  | 3 => tyX3
  | 4 => tyX4
  | 5 => tyX5
  | 6 => tyX6
  | 7 => tyX7
  | _ => tyX8
theorem gTyOk {ci : Nat} (h : ci < 9) : ∀ k, k < gN ci → parseFieldDescriptor (gT ci k).2.2.1 = some (gTy ci k) := match ci, h with
  | 0, _ => tyX0_ok
  | 1, _ => tyX1_ok
  | 2, _ => tyX2_ok
  | 3, _ => tyX3_ok
  | 4, _ => tyX4_ok
  | 5, _ => tyX5_ok
  | 6, _ => tyX6_ok
  | 7, _ => tyX7_ok
  | 8, _ => tyX8_ok
theorem gI_in {c : Nat} (h : c < 10) : Cond.initialized (gCn c) ∈ TW := gIs_in (List.all_eq_true.mp gI_ok c (List.mem_range.mpr h))
theorem drop_mem {a b k : Nat} (h1 : a ≤ k) (h2 : k < b) : k ∈ (List.range b).drop a := by
  refine List.mem_of_getElem? (i := k - a) ?_
  rw [List.getElem?_drop, Nat.add_sub_cancel' h1, List.getElem?_range h2]
theorem gM_at {k : Nat} (h : k < 247) : ckM k = true := by
  rcases Nat.lt_or_ge k 8 with h1 | h1
  · exact List.all_eq_true.mp gM_ok_0 k (drop_mem (by omega) h1)
  rcases Nat.lt_or_ge k 16 with h1 | h1
  · exact List.all_eq_true.mp gM_ok_8 k (drop_mem (by omega) h1)
  rcases Nat.lt_or_ge k 24 with h1 | h1
  · exact List.all_eq_true.mp gM_ok_16 k (drop_mem (by omega) h1)
  rcases Nat.lt_or_ge k 32 with h1 | h1
  · exact List.all_eq_true.mp gM_ok_24 k (drop_mem (by omega) h1)
  rcases Nat.lt_or_ge k 40 with h1 | h1
  · exact List.all_eq_true.mp gM_ok_32 k (drop_mem (by omega) h1)
  rcases Nat.lt_or_ge k 48 with h1 | h1
  · exact List.all_eq_true.mp gM_ok_40 k (drop_mem (by omega) h1)
  rcases Nat.lt_or_ge k 56 with h1 | h1
  · exact List.all_eq_true.mp gM_ok_48 k (drop_mem (by omega) h1)
  rcases Nat.lt_or_ge k 64 with h1 | h1
  · exact List.all_eq_true.mp gM_ok_56 k (drop_mem (by omega) h1)
  rcases Nat.lt_or_ge k 72 with h1 | h1
  · exact List.all_eq_true.mp gM_ok_64 k (drop_mem (by omega) h1)
  rcases Nat.lt_or_ge k 80 with h1 | h1
  · exact List.all_eq_true.mp gM_ok_72 k (drop_mem (by omega) h1)
  rcases Nat.lt_or_ge k 88 with h1 | h1
  · exact List.all_eq_true.mp gM_ok_80 k (drop_mem (by omega) h1)
  rcases Nat.lt_or_ge k 96 with h1 | h1
  · exact List.all_eq_true.mp gM_ok_88 k (drop_mem (by omega) h1)
  rcases Nat.lt_or_ge k 104 with h1 | h1
  · exact List.all_eq_true.mp gM_ok_96 k (drop_mem (by omega) h1)
  rcases Nat.lt_or_ge k 112 with h1 | h1
  · exact List.all_eq_true.mp gM_ok_104 k (drop_mem (by omega) h1)
  rcases Nat.lt_or_ge k 120 with h1 | h1
  · exact List.all_eq_true.mp gM_ok_112 k (drop_mem (by omega) h1)
  rcases Nat.lt_or_ge k 128 with h1 | h1
  · exact List.all_eq_true.mp gM_ok_120 k (drop_mem (by omega) h1)
  rcases Nat.lt_or_ge k 136 with h1 | h1
  · exact List.all_eq_true.mp gM_ok_128 k (drop_mem (by omega) h1)
  rcases Nat.lt_or_ge k 144 with h1 | h1
  · exact List.all_eq_true.mp gM_ok_136 k (drop_mem (by omega) h1)
  rcases Nat.lt_or_ge k 152 with h1 | h1
  · exact List.all_eq_true.mp gM_ok_144 k (drop_mem (by omega) h1)
  rcases Nat.lt_or_ge k 160 with h1 | h1
  · exact List.all_eq_true.mp gM_ok_152 k (drop_mem (by omega) h1)
  rcases Nat.lt_or_ge k 168 with h1 | h1
  · exact List.all_eq_true.mp gM_ok_160 k (drop_mem (by omega) h1)
  rcases Nat.lt_or_ge k 176 with h1 | h1
  · exact List.all_eq_true.mp gM_ok_168 k (drop_mem (by omega) h1)
  rcases Nat.lt_or_ge k 184 with h1 | h1
  · exact List.all_eq_true.mp gM_ok_176 k (drop_mem (by omega) h1)
  rcases Nat.lt_or_ge k 192 with h1 | h1
  · exact List.all_eq_true.mp gM_ok_184 k (drop_mem (by omega) h1)
  rcases Nat.lt_or_ge k 200 with h1 | h1
  · exact List.all_eq_true.mp gM_ok_192 k (drop_mem (by omega) h1)
  rcases Nat.lt_or_ge k 208 with h1 | h1
  · exact List.all_eq_true.mp gM_ok_200 k (drop_mem (by omega) h1)
  rcases Nat.lt_or_ge k 216 with h1 | h1
  · exact List.all_eq_true.mp gM_ok_208 k (drop_mem (by omega) h1)
  rcases Nat.lt_or_ge k 224 with h1 | h1
  · exact List.all_eq_true.mp gM_ok_216 k (drop_mem (by omega) h1)
  rcases Nat.lt_or_ge k 232 with h1 | h1
  · exact List.all_eq_true.mp gM_ok_224 k (drop_mem (by omega) h1)
  rcases Nat.lt_or_ge k 240 with h1 | h1
  · exact List.all_eq_true.mp gM_ok_232 k (drop_mem (by omega) h1)
  exact List.all_eq_true.mp gM_ok_240 k (drop_mem (by omega) h)
theorem gM_spec {k : Nat} (h : k < 247) : Cond.code (gY k) (gCd k) (gML k) (gRt k) ∈ TW ∧ ((gMp.getD k (0, 0, 0, 0)).2.1 = 1 → Cond.static (gY k) ∈ TW) ∧ ((gMp.getD k (0, 0, 0, 0)).2.1 = 0 → Cond.instanceMethod (gY k) ∈ TW ∧ Cond.selects (gCn (gOw k)) (gY k) (gY k) ∈ TW) ∧ (gY k).cls = gCn (gOw k) ∧ (gY k).cls ≠ "java/lang/invoke/MethodHandle" ∧ (gY k).cls ≠ "java/lang/invoke/VarHandle" ∧ plainName (gY k).cls = true ∧ gML k ≤ 20 := by
  have h0 := gM_at h
  unfold ckM at h0
  rcases hq : gMp.getD k (0, 0, 0, 0) with ⟨p, s, a, b⟩
  rw [hq] at h0
  simp only [Bool.and_eq_true, decide_eq_true_eq] at h0
  obtain ⟨⟨⟨⟨⟨⟨h1, h2⟩, h3⟩, h4⟩, h5⟩, h6⟩, h7⟩ := h0
  refine ⟨gIs_in h1, fun e => ?_, fun e => ?_, h3, h4, h5, h6, h7⟩
  · have e : s = 1 := e
    rw [if_pos e] at h2
    exact gIs_in h2
  · have e : s = 0 := e
    rw [if_neg (by omega), Bool.and_eq_true] at h2
    exact ⟨gIs_in h2.1, gIs_in h2.2⟩
theorem gOw_lt {k : Nat} (h : k < 247) : gOw k < 10 := by
  have h1 : (List.range 247).all (fun k => decide (gOw k < 10)) = true := by decide +kernel
  exact of_decide_eq_true (List.all_eq_true.mp h1 k (List.mem_range.mpr h))
theorem gCall_spec {c i kd k na : Nat} (h : gCall c i = some (kd, k, na)) : ∃ p, ckC (c, i, kd, k, na, p) = true := by
  unfold gCall at h
  cases hf : gCalls.find? fun q => q.1 == c && q.2.1 == i with
  | none => rw [hf] at h; cases h
  | some q =>
    rw [hf] at h
    obtain ⟨h1, h2⟩ := find_spec hf
    obtain ⟨c', i', kd', k', na', p⟩ := q
    simp only [Bool.and_eq_true, beq_iff_eq] at h2
    obtain ⟨rfl, rfl⟩ := h2
    cases h
    exact ⟨p, List.all_eq_true.mp gC_ok _ h1⟩
theorem gGet_spec {c i p : Nat} {q : Nat ⊕ Nat} (h : gGet c i p = some q) : ∃ (ci k z pp : Nat) (l : List (Option Nat)), ckF (c, i, ci, k, z, pp) = true ∧ gSh[p]? = some (0, ci, l) ∧ ((l[k]? = some none ∧ q = .inl k) ∨ ∃ r, l[k]? = some (some r) ∧ q = .inr r) := by
  unfold gGet at h
  cases hf : gFlds.find? fun q => q.1 == c && q.2.1 == i with
  | none => rw [hf] at h; cases h
  | some e =>
    rw [hf] at h
    obtain ⟨h1, h2⟩ := find_spec hf
    obtain ⟨c', i', ci, k, z, pp⟩ := e
    simp only [Bool.and_eq_true, beq_iff_eq] at h2
    obtain ⟨rfl, rfl⟩ := h2
    have hck := List.all_eq_true.mp gF_ok _ h1
    dsimp only at h
    split at h
    · rename_i ci' l hs
      by_cases hc : ci' = ci
      · subst hc
        rw [if_pos rfl] at h
        rcases hl : l[k]? with _ | _ | r
        · rw [hl] at h; cases h
        · rw [hl] at h; cases h
          exact ⟨_, _, _, _, l, hck, hs, Or.inl ⟨hl, rfl⟩⟩
        · rw [hl] at h; cases h
          exact ⟨_, _, _, _, l, hck, hs, Or.inr ⟨r, hl, rfl⟩⟩
      · rw [if_neg hc] at h; cases h
    · cases h
theorem gPut_spec {c i p : Nat} {q : Nat × Bool} (h : gPut c i p = some q) : ∃ (ci z pp : Nat) (l : List (Option Nat)), ckF (c, i, ci, q.1, z, pp) = true ∧ gSh[p]? = some (0, ci, l) ∧ l[q.1]? = some none ∧ (gT ci q.1).2.2.2 = false ∧ ((q.2 = false ∧ (gT ci q.1).2.2.1 = "I") ∨ (q.2 = true ∧ (gT ci q.1).2.2.1 = "Z")) := by
  unfold gPut at h
  cases hf : gFlds.find? fun q => q.1 == c && q.2.1 == i with
  | none => rw [hf] at h; cases h
  | some e =>
    rw [hf] at h
    obtain ⟨h1, h2⟩ := find_spec hf
    obtain ⟨c', i', ci, k, z, pp⟩ := e
    simp only [Bool.and_eq_true, beq_iff_eq] at h2
    obtain ⟨rfl, rfl⟩ := h2
    have hck := List.all_eq_true.mp gF_ok _ h1
    dsimp only at h
    split at h
    · rename_i ci' l hs
      by_cases hc : ci' = ci ∧ (gT ci' k).2.2.2 = false
      · rw [if_pos hc] at h
        obtain ⟨rfl, hc2⟩ := hc
        rcases hl : l[k]? with _ | _ | r
        · rw [hl] at h; cases h
        · rw [hl] at h
          dsimp only at h
          by_cases hI : (gT ci' k).2.2.1 = "I"
          · rw [if_pos hI] at h; cases h
            exact ⟨_, _, _, l, hck, hs, hl, hc2, Or.inl ⟨rfl, hI⟩⟩
          · rw [if_neg hI] at h
            by_cases hZ : (gT ci' k).2.2.1 = "Z"
            · rw [if_pos hZ] at h; cases h
              exact ⟨_, _, _, l, hck, hs, hl, hc2, Or.inr ⟨rfl, hZ⟩⟩
            · rw [if_neg hZ] at h; cases h
        · rw [hl] at h; cases h
      · rw [if_neg hc] at h; cases h
    · cases h
theorem gRcv_spec {p c : Nat} (h : gRcv p = some c) : ∃ l, gSh[p]? = some (0, c, l) := by
  unfold gRcv at h
  rcases hs : gSh[p]? with _ | ⟨t, ci', l⟩
  · rw [hs] at h; cases h
  · rw [hs] at h
    rcases t with _ | t
    · cases h; exact ⟨l, rfl⟩
    · cases h
theorem gArr_spec {p : Nat} {q : Nat × Nat} (h : gArr p = some q) : (q.1 = 1 ∧ ∃ l, gSh[p]? = some (1, q.2, l)) ∨ (q.1 = 2 ∧ ∃ l, gSh[p]? = some (2, q.2, l)) ∨ (q.1 = 4 ∧ (p = 100 ∨ p = 101 ∨ p = 102) ∧ q.2 = (gSta p).length) := by
  unfold gArr at h
  split at h
  · cases h; rename_i l hs; exact Or.inl ⟨rfl, l, hs⟩
  · cases h; rename_i l hs; exact Or.inr (Or.inl ⟨rfl, l, hs⟩)
  · split at h
    · cases h; rename_i hp; exact Or.inr (Or.inr ⟨rfl, hp, rfl⟩)
    · cases h
theorem gLen_spec {p n : Nat} (h : gLen p = some n) : (∃ t l, gSh[p]? = some (t, n, l) ∧ (t = 1 ∨ t = 2 ∨ t = 3)) ∨ ((p = 100 ∨ p = 101 ∨ p = 102) ∧ n = (gSta p).length) := by
  unfold gLen at h
  split at h
  · cases h; rename_i l hs; exact Or.inl ⟨_, l, hs, Or.inl rfl⟩
  · cases h; rename_i l hs; exact Or.inl ⟨_, l, hs, Or.inr (Or.inl rfl)⟩
  · cases h; rename_i l hs; exact Or.inl ⟨_, l, hs, Or.inr (Or.inr rfl)⟩
  · split at h
    · cases h; rename_i hp; exact Or.inr ⟨hp, rfl⟩
    · cases h
theorem gStat_spec {c i p : Nat} (h : gStat c i = some p) : ∃ z pp, ckS (c, i, p, z, pp) = true := by
  unfold gStat at h
  cases hf : gStats.find? fun q => q.1 == c && q.2.1 == i with
  | none => rw [hf] at h; cases h
  | some q =>
    rw [hf] at h
    obtain ⟨h1, h2⟩ := find_spec hf
    obtain ⟨c', i', s, z, pp⟩ := q
    simp only [Bool.and_eq_true, beq_iff_eq] at h2
    obtain ⟨rfl, rfl⟩ := h2
    cases h
    exact ⟨z, pp, List.all_eq_true.mp gS_ok _ h1⟩
theorem gCon_spec {c i : Nat} {x : Int32} (h : gCon c i = some x) : Cond.constant (gCn c) i x ∈ TW := by
  unfold gCon at h
  cases hf : gCons.find? fun q => q.1 == c && q.2.1 == i with
  | none => rw [hf] at h; cases h
  | some q =>
    rw [hf] at h
    obtain ⟨h1, h2⟩ := find_spec hf
    obtain ⟨c', i', s, z⟩ := q
    simp only [Bool.and_eq_true, beq_iff_eq] at h2
    obtain ⟨rfl, rfl⟩ := h2
    cases h
    exact gIs_in (List.all_eq_true.mp gK_ok _ h1)
theorem gLdc_spec {c i : Nat} {v : Value} (h : gLdc c i = some v) : (∃ y, v = .int y ∧ gCon c i = some y) ∨ ∃ j, j < 6 ∧ v = .ref (200 + j) ∧ c = 1 ∧ i = gSi j := by
  unfold gLdc at h
  cases hc : gCon c i with
  | some x => rw [hc] at h; cases h; exact Or.inl ⟨x, rfl, rfl⟩
  | none =>
    rw [hc] at h
    unfold gStr at h
    cases hf : gStrs.find? fun q => q.1 == c && q.2.1 == i with
    | none => rw [hf] at h; cases h
    | some q =>
      rw [hf] at h
      obtain ⟨h1, h2⟩ := find_spec hf
      obtain ⟨c', i', s⟩ := q
      simp only [Bool.and_eq_true, beq_iff_eq] at h2
      obtain ⟨rfl, rfl⟩ := h2
      cases h
      have hs : ∀ q ∈ gStrs, ∃ j, j < 6 ∧ q.2.2 = 200 + j ∧ q.1 = 1 ∧ q.2.1 = gSi j := by
        intro q hq
        simp only [gStrs, List.mem_cons, List.not_mem_nil, or_false] at hq
        rcases hq with rfl | rfl | rfl | rfl | rfl | rfl
        · exact ⟨0, by decide, rfl, rfl, rfl⟩
        · exact ⟨1, by decide, rfl, rfl, rfl⟩
        · exact ⟨2, by decide, rfl, rfl, rfl⟩
        · exact ⟨3, by decide, rfl, rfl, rfl⟩
        · exact ⟨4, by decide, rfl, rfl, rfl⟩
        · exact ⟨5, by decide, rfl, rfl, rfl⟩
      obtain ⟨j, a1, a2, a3, a4⟩ := hs _ h1
      exact Or.inr ⟨j, a1, congrArg Value.ref a2, a3, a4⟩
theorem gTx_spec {q : Nat} {tx : List Int32} (h : gTx q = some tx) : ∃ j, j < 6 ∧ q = 200 + j ∧ gTxs.getD j [] = tx := by
  unfold gTx at h
  split at h
  · have h6 : q - 200 < gTxs.length := (List.getElem?_eq_some_iff.mp h).1
    have h7 : gTxs.length = 6 := rfl
    refine ⟨q - 200, by omega, by omega, ?_⟩
    rw [List.getD_eq_getElem?_getD, h]
    rfl
  · cases h
theorem gCoL_spec {c i : Nat} {x : Int64} (h : gCoL c i = some x) : Cond.constantLong (gCn c) i x ∈ TW := by
  unfold gCoL at h
  cases hf : gConL.find? fun q => q.1 == c && q.2.1 == i with
  | none => rw [hf] at h; cases h
  | some q =>
    rw [hf] at h
    obtain ⟨h1, h2⟩ := find_spec hf
    obtain ⟨c', i', s, z⟩ := q
    simp only [Bool.and_eq_true, beq_iff_eq] at h2
    obtain ⟨rfl, rfl⟩ := h2
    cases h
    exact gIs_in (List.all_eq_true.mp gJ_ok _ h1)
theorem ckF_spec {c i ci k z pp : Nat} (h : ckF (c, i, ci, k, z, pp) = true) : (ci < 9 ∧ k < gN ci) ∧ (Cond.fieldLink (gCn c) i (gT ci k).1 (gT ci k).2.1 (gT ci k).2.2.1 ∈ TW ∨ Cond.fieldLinkNest (gCn c) i (gT ci k).1 (gT ci k).2.1 (gT ci k).2.2.1 RX7 ∈ gNest) := by
  unfold ckF at h
  rcases z with _ | _ | z
  · simp only [Bool.and_eq_true, decide_eq_true_eq] at h
    exact ⟨⟨h.1.2, h.2⟩, Or.inl (gIs_in h.1.1)⟩
  · simp only [Bool.and_eq_true, decide_eq_true_eq] at h
    exact ⟨⟨h.1.2, h.2⟩, Or.inr (List.mem_of_getElem? h.1.1)⟩
  · simp at h
theorem ckS_spec {c i p z pp : Nat} (h : ckS (c, i, p, z, pp) = true) : (p = 100 ∨ p = 101 ∨ p = 102) ∧ (Cond.fieldLink (gCn c) i (gStN p).1 (gStN p).2 "[I" ∈ TW ∨ Cond.fieldLinkNest (gCn c) i (gStN p).1 (gStN p).2 "[I" RX7 ∈ gNest) := by
  unfold ckS at h
  rcases z with _ | _ | z
  · simp only [Bool.and_eq_true, decide_eq_true_eq] at h
    exact ⟨h.2, Or.inl (gIs_in h.1)⟩
  · simp only [Bool.and_eq_true, decide_eq_true_eq] at h
    exact ⟨h.2, Or.inr (List.mem_of_getElem? h.1)⟩
  · simp at h
/-! the combinators, read -/
theorem sI_spec {st : List Value} {f : Int32 → List Value → Prop} (h : sI st f) : ∃ x r, st = .int x :: r ∧ f x r := by
  rcases st with _ | ⟨v, r⟩
  · exact False.elim h
  · cases v <;> first | exact ⟨_, _, rfl, h⟩ | exact False.elim h
theorem sJ_spec {st : List Value} {f : Int64 → List Value → Prop} (h : sJ st f) : ∃ x r, st = .long x :: r ∧ f x r := by
  rcases st with _ | ⟨v, r⟩
  · exact False.elim h
  · cases v <;> first | exact ⟨_, _, rfl, h⟩ | exact False.elim h
theorem sR_spec {st : List Value} {f : Nat → List Value → Prop} (h : sR st f) : ∃ x r, st = .ref x :: r ∧ f x r := by
  rcases st with _ | ⟨v, r⟩
  · exact False.elim h
  · cases v <;> first | exact ⟨_, _, rfl, h⟩ | exact False.elim h
theorem oo_spec {α : Type} {o : Option α} {f : α → Prop} (h : oo o f) : ∃ x, o = some x ∧ f x := by
  cases o with
  | none => exact False.elim h
  | some x => exact ⟨x, rfl, h⟩
theorem ldI_spec {L : aL} {i : Nat} {f : Int32 → Prop} (h : ldI L i f) : ∃ x, aLd L i = some (.int x) ∧ f x := by
  unfold ldI at h
  rcases hv : aLd L i with _ | v
  · rw [hv] at h; exact False.elim h
  · rw [hv] at h; cases v <;> first | exact ⟨_, rfl, h⟩ | exact False.elim h
theorem ldJ_spec {L : aL} {i : Nat} {f : Int64 → Prop} (h : ldJ L i f) : ∃ x, aLd L i = some (.long x) ∧ f x := by
  unfold ldJ at h
  rcases hv : aLd L i with _ | v
  · rw [hv] at h; exact False.elim h
  · rw [hv] at h; cases v <;> first | exact ⟨_, rfl, h⟩ | exact False.elim h
theorem ldR_spec {L : aL} {i : Nat} {f : Nat → Prop} (h : ldR L i f) : ∃ x, aLd L i = some (.ref x) ∧ f x := by
  unfold ldR at h
  rcases hv : aLd L i with _ | v
  · rw [hv] at h; exact False.elim h
  · rw [hv] at h; cases v <;> first | exact ⟨_, rfl, h⟩ | exact False.elim h
theorem jmp_spec {pc : Nat} {off : Int} {f : Nat → Prop} (h : jmp pc off f) : ∃ t : Nat, (pc : Int) + off = (t : Int) ∧ f t := ⟨_, (Int.toNat_of_nonneg h.1).symm, h.2⟩
theorem popA_spec {f : List Value → List Value → Prop} : ∀ (n : Nat) (st as : List Value), popA n st as f → ∃ bs r, st = bs.reverse ++ r ∧ bs.length = n ∧ f (bs ++ as) r
  | 0, st, as, h => ⟨[], st, rfl, rfl, h⟩
  | n + 1, [], as, h => False.elim h
  | n + 1, v :: st, as, h => by
    obtain ⟨bs, r, h1, h2, h3⟩ := popA_spec n st (v :: as) h
    exact ⟨bs ++ [v], r, by rw [h1]; simp, by simp [h2], by simpa using h3⟩
theorem catS_sum (g : aG) : ∀ r : List Value, ((r.map (cv g)).map fun v => v.category).sum = catS r
  | [] => rfl
  | v :: r => by
    simp only [List.map_cons, List.sum_cons, cv_cat, catS]
    rw [catS_sum g r]
theorem ofInt_iff {x : Int32} {n : Int} (h1 : -2147483648 ≤ n) (h2 : n ≤ 2147483647) : x = Int32.ofInt n ↔ x.toInt = n := by
  rw [← Int32.toInt_inj, Int32.toInt_ofInt]
  have e : n.bmod (2 ^ 32) = n := by
    rw [Int.bmod_def]; split <;> omega
  have e2 : n.bmod Int32.size = n := e
  first | rw [e] | rw [e2]
theorem swT_spec {x : Int32} {f : Int → Prop} {d : Int} : ∀ (os : List Int) (lo : Int), swT x f d lo os → -2147483648 ≤ lo → lo + os.length ≤ 2147483648 → ((x.toInt < lo ∨ lo + os.length ≤ x.toInt) → f d) ∧ ∀ (j : Nat) (off : Int), os[j]? = some off → x.toInt = lo + j → f off
  | [], lo, h, _, _ => ⟨fun _ => h, fun j off hj => by simp at hj⟩
  | o :: os, lo, h, h1, h2 => by
    unfold swT at h
    simp only [List.length_cons, Int.natCast_add, Int.natCast_one] at h2 ⊢
    have hr := ofInt_iff (x := x) h1 (n := lo) (by omega)
    by_cases hx : x = Int32.ofInt lo
    · rw [if_pos hx] at h
      have hx2 := hr.mp hx
      refine ⟨fun h3 => by omega, fun j off hj h3 => ?_⟩
      have hj0 : j = 0 := by omega
      subst hj0
      cases hj
      exact h
    · rw [if_neg hx] at h
      have hx2 : x.toInt ≠ lo := fun e => hx (hr.mpr e)
      obtain ⟨g1, g2⟩ := swT_spec os (lo + 1) h (by omega) (by omega)
      refine ⟨fun h3 => g1 (by omega), fun j off hj h3 => ?_⟩
      cases j with
      | zero => omega
      | succ j => exact g2 j off hj (by omega)
theorem swL_spec {x : Int32} {f : Int → Prop} {d : Int} : ∀ (ps : List (Int × Int)), swL x f d ps → ps.all (fun a => decide (-2147483648 ≤ a.1) && decide (a.1 ≤ 2147483647)) = true → f (Op.lookupswitch.offset ps d x.toInt)
  | [], h, _ => h
  | (a, o) :: ps, h, h1 => by
    simp only [List.all_cons, Bool.and_eq_true, decide_eq_true_eq] at h1
    unfold swL at h
    have hr := ofInt_iff (x := x) h1.1.1 h1.1.2
    by_cases hx : x = Int32.ofInt a
    · rw [if_pos hx] at h
      have hx2 := hr.mp hx
      simpa [Op.lookupswitch.offset, hx2] using h
    · rw [if_neg hx] at h
      have hx2 : ¬ a = x.toInt := fun e => hx (hr.mpr e.symm)
      have g := swL_spec ps h h1.2
      simpa [Op.lookupswitch.offset, hx2] using g
theorem inb_in {i : Int32} {n : Nat} (h : inb i n) : vp_in i n := by
  intro h2
  obtain ⟨h3, h4⟩ := h
  rcases h2 with h2 | h2
  · rw [Int32.lt_iff_toInt_lt] at h2
    simp at h2
    omega
  · have e : i.toNatClampNeg = i.toInt.toNat := rfl
    omega

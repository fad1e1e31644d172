/-! THE TWO SIDES ALIKE: valley -/
section
variable {p w u : hW} {s : Int32}
theorem sLong_o {w w' : hW} (h25 : w'.1 25 = w.1 25) (h2 : w'.2 = w.2) {i : Int32} : sLong w' s i = sLong w s i := by
  unfold sLong sSpan sSize
  rw [h25, h2]
theorem rFil_is : ∀ (m i : Nat) (w : hW) (j : Nat), (rFil s i m w).1 36 j = if i ≤ j ∧ j < i + m then (sLong w s (nI j)).toInt32 else w.1 36 j
  | 0, i, w, j => by
    rw [if_neg (by omega)]
    rfl
  | m + 1, i, w, j => by
    unfold rFil
    rw [rFil_is m (i + 1), sLong_o (w := w) (wI_q (by decide)) rfl]
    by_cases e : j = i
    · rw [if_neg (by omega), if_pos (by omega), e, wI_is]
    · rw [wI_at e]
      by_cases c : i + 1 ≤ j ∧ j < i + 1 + m
      · rw [if_pos c, if_pos (by omega)]
      · rw [if_neg c, if_neg (by omega)]
theorem eqV_o {u u' : hW} (h : ∀ q, 45 ≤ q → q ≤ 57 → u'.1 q = u.1 q) : eqV (vwM u) (vwM u') := ⟨fun k _ => (vwM_o h 0 k (by omega)).symm, fun c i _ h2 _ => (vwM_o h c i (by omega)).symm, fun c i _ h2 _ => (vwM_o h c i (by omega)).symm⟩
theorem eqV_vl0 : eqV (vwM u) (vwM (vl0 u s)) := by
  unfold vl0
  exact (((eqV_o (u' := mSv u 66) (fun q _ _ => mSv_o (by omega))).tr (vw_31 (by omega))).tr (vw_31 (by omega))).tr ((vw_31 (by omega)).tr (vw_31 (by omega)))
theorem vl0_o : (∀ q, q ≠ 45 → q ≠ 66 → (vl0 u s).1 q = u.1 q) ∧ (∀ j, j ≠ 30 → j ≠ 31 → j ≠ 32 → j ≠ 9 → (vl0 u s).1 45 j = u.1 45 j) ∧ (vl0 u s).1 45 9 = -1 ∧ (vl0 u s).2 = u.2 := by
  refine ⟨fun q a b => ?_, fun j a b c e => ?_, ?_, rfl⟩
  · unfold vl0
    rw [wI_q a, wI_q a, wI_q a, wI_q a, mSv_o b]
  · unfold vl0
    rw [wI_at e, wI_at c, wI_at b, wI_at a, mSv_o (by decide)]
  · unfold vl0
    rw [wI_is]
theorem rd_lp (h : R p u) (hb : mBars u s = 0) : lpR (rRead0 (vTake p 16 2) s) (vl0 u s) 0 := by
  obtain ⟨hs, h1⟩ := bars_row h hb
  have hI := R_mI h
  obtain ⟨P0, A0, B0, E0⟩ := mP_vl0 hI hs
  obtain ⟨o1, o2, o3, o4⟩ := vl0_o (u := u) (s := s)
  have hz := (h.2.2.2.1 _ (sHas_lt hs)).1
  have hS : shI (vTake p 16 2) := by rw [shI_same (vtk_o (by omega))]; exact (R_xI h).2.2.2
  have e25 : (vTake p 16 2).1 25 = p.1 25 := vtk_o (by omega)
  have eS : rSiz (vTake p 16 2) s = nI (mEd (vl0 u s)) := by
    rw [(siz_le hS).2.2, E0]
    have : sSize (vTake p 16 2) s = sSize p s := by unfold sSize; rw [e25]
    rw [this, size_m h hs h1]
    exact (nIof hz.1).symm
  have e3 : (rRead0 (vTake p 16 2) s).1 35 3 = nI (mEd (vl0 u s)) := by
    unfold rRead0
    rw [wI_at (by decide), wI_at (by decide), fil_o (by decide), wI_is, eS]
  have hE : mEd (vl0 u s) ≤ 160 := by rw [E0]; omega
  have i36 : ∀ j, j < mEd (vl0 u s) → (rRead0 (vTake p 16 2) s).1 36 j = mLt (vl0 u s) j := by
    intro j hj
    have hsp : sSpan p s (nI j) 1 = true := by
      rw [span_1 h hs h1, decide_eq_false (by rw [i32_lt, nI_toInt (by omega), i32_0]; omega), decide_eq_true (by rw [i32_lt, nI_toInt (by omega)]; rw [E0] at hj; omega)]
      rfl
    unfold rRead0
    rw [wI_q (by decide), wI_q (by decide), rFil_is, eS, nI_cl (by omega), if_pos (by omega), sLong_o (w := vTake p 16 2) (wI_q (by decide)) rfl, sLong_o (w := p) e25 rfl, long_m h hs h1 hsp]
    unfold mLt
    rw [if_pos hj, B0, o4, cell_n hs (by rw [nI_toInt (by omega)]; omega) (by rw [nI_toInt (by omega)]; omega), nI_cl (by omega)]
  refine ⟨?_, ?_, A0, e3, fun q hq => ?_, ?_, Ok_ext h.2.1 eqV_vl0, ?_, P0, ?_⟩
  · unfold rRead0
    rw [wI_is]
  · unfold rRead0
    rw [wI_at (by decide), wI_is]
    rfl
  · unfold rLet
    have z160 : (160 : Int32).toInt = 160 := rfl
    rw [if_neg (by rw [i32_lt, nI_toInt (by omega), i32_0]; omega), e3]
    by_cases c : q < mEd (vl0 u s)
    · rw [if_pos (by rw [nIlt (by omega), nI_toInt (by omega)]; omega), if_pos (by rw [nIlt (by omega), z160]; omega), nI_cl (by omega)]
      exact i36 q c
    · rw [if_neg (by rw [nIlt (by omega), nI_toInt (by omega)]; omega)]
      unfold mLt
      rw [if_neg c]
  · have v0 : VR (vTake p 16 2) 16 (vwM u) := VR_take iv16 iv2 (by decide) h.2.2.1.2 h.1
    refine VR_ext (VR_o v0 (fun q a b => ?_)) eqV_vl0
    unfold rRead0
    rw [wI_q (by omega), wI_q (by omega), fil_o (by omega), wI_q (by omega)]
  · exact mI_had hI (fun q hq => o1 q (by omega) (by omega)) (o2 0 (by decide) (by decide) (by decide) (by decide)) (o2 1 (by decide) (by decide) (by decide) (by decide)) (o2 2 (by decide) (by decide) (by decide) (by decide)) (fun t => Or.inl (by rw [o1 51 (by decide) (by decide)]))
  · intro i hi
    rw [o1 64 (by decide) (by decide)]
    exact h.2.2.2.2.2.2.2.2 i hi
theorem read_m (h : R p u) (hb : mBars u s = 0) : lpO (vl0 u s) (pVs (vl0 u s)) (rRead (vTake p 16 2) s) := by
  have h0 := rd_lp h hb
  have hs := it_step (k := 1) h0
  obtain ⟨-, l2⟩ := lp_ed h0
  unfold rRead pVs
  cases hp : pItem (vl0 u s) with
  | inl q =>
    rw [hp] at hs
    have hbd : (wI (rItem (rRead0 (vTake p 16 2) s)) 35 7 1).1 35 6 ≠ -1 := by
      rw [hs.1]
      exact nI_ne (by omega)
    rw [rLoop_bad hbd]
    exact hs
  | inr x =>
    rw [hp] at hs
    obtain ⟨s1, s2, s3, s4⟩ := hs
    have hi := lp_m 159 200 1 _ _ x.2.2 s1 wI_is (by omega) (by omega)
    have e00 : (wI (itA (vl0 u s) x.1 x.2.1) 45 31 (nI x.2.2)).1 45 0 = (itA (vl0 u s) x.1 x.2.1).1 45 0 := wI_at (by decide)
    dsimp only
    cases hv : pVl 200 1 (wI (itA (vl0 u s) x.1 x.2.1) 45 31 (nI x.2.2)) with
    | inl q => rw [hv] at hi; exact hi
    | inr y =>
      rw [hv] at hi
      obtain ⟨i1, i2, i3, i4, i5⟩ := hi
      rw [e00] at i5
      exact ⟨i1, i2, i3, i4, Int.le_trans s4 i5⟩
theorem vTake_2 {w : hW} {b o : Nat} : (vTake w b o).2 = w.2 := rfl
theorem read_fr (h : R p u) : vI (rRead (vTake p 16 2) s) 16 ∧ (∀ q, q ≠ 35 → q ≠ 36 → ¬ (16 ≤ q ∧ q ≤ 22) → (rRead (vTake p 16 2) s).1 q = p.1 q) ∧ (rRead (vTake p 16 2) s).2 = p.2 := by
  obtain ⟨hI2, hI9, hI16, hS⟩ := R_xI h
  have i1 : vI (vTake p 16 2) 16 := vtk_vI iv16 iv2 hI16 hI2
  have s1 : shI (vTake p 16 2) := by rw [shI_same (vtk_o (by omega))]; exact hS
  obtain ⟨i0, r0⟩ := rd0_I i1 s1 (s := s)
  obtain ⟨iT, rT, fT⟩ := itemA i0 r0
  have i2 : vI (wI (rItem (rRead0 (vTake p 16 2) s)) 35 7 1) 16 := by rw [show vI (wI (rItem (rRead0 (vTake p 16 2) s)) 35 7 1) 16 = vI (rItem (rRead0 (vTake p 16 2) s)) 16 from vSame_I (fun q _ _ => wI_q (by omega))]; exact iT
  obtain ⟨j1, j2, j3⟩ := lp_fr 159 (wI (rItem (rRead0 (vTake p 16 2) s)) 35 7 1) i2 (rI_wI rT (by decide) (by decide))
  unfold rRead
  refine ⟨j1, fun q a b c => ?_, ?_⟩
  · rw [j2 q a c, wI_q a, fT.1 q a c]
    unfold rRead0
    rw [wI_q a, wI_q a, fil_o b, wI_q a, vTake_o iv16 (by omega)]
  · rw [j3]
    rw [wI_2, fT.2.1]
    unfold rRead0
    rw [wI_2, wI_2, fil_2, wI_2, vTake_2]
theorem wI_eq {W p : hW} {q r j : Nat} {x : Int32} (h : W.1 q = p.1 q) : (wI W r j x).1 q = (wI p r j x).1 q := by
  funext k
  simp only [wI]
  rw [h]
theorem R_flt (h : R p u) {x : Int32} : R (wI p 0 10 x) (wI u 45 9 x) := by
  obtain ⟨r1, r2, ⟨r3, r4⟩, r5, r6, ⟨r7, r8⟩, r9, ⟨ra, rb, rc⟩, rd⟩ := h
  have hk : vwK (wI u 45 9 x) 67 = vwK u 67 := by funext c i; unfold vwK; rw [wI_q (by decide)]
  have e49 : (wI u 45 9 x).1 45 49 = u.1 45 49 := wI_at (by decide)
  have e48 : (wI u 45 9 x).1 45 48 = u.1 45 48 := wI_at (by decide)
  have e00 : (wI u 45 9 x).1 45 0 = u.1 45 0 := wI_at (by decide)
  refine ⟨VR_ext (VR_o r1 (fun q _ _ => wI_q (by omega))) (vw_31 (by omega)), Ok_ext r2 (vw_31 (by omega)), ⟨vI_o r3 (fun q a a' => wI_q (by omega)), vI_o r4 (fun q a a' => wI_q (by omega))⟩, fun s hs => ?_, fun k a a' => ?_, ⟨?_, fun e => ?_⟩, ?_, ⟨?_, ?_, fun j hj => ?_⟩, fun i hi => ?_⟩
  · have hS := r5 s hs
    unfold RS mThing at hS ⊢
    rw [e00, wI_q (by decide), wI_q (by decide), wI_q (by decide), wI_q (by decide), wI_q (by decide), wI_q (by decide)]
    exact hS
  · rw [wI_q (by decide), wI_q (by decide)]; exact r6 k a a'
  · rw [wI_at (by decide), e49]; exact r7
  · rw [e49] at e
    rw [hk]
    exact ⟨VR_o (r8 e).1 (fun q a a' => wI_q (by omega)), (r8 e).2⟩
  · rw [wI_is, wI_is]
  · rw [wI_q (by decide), e48]; exact ra
  · rw [e48]; exact rb
  · rw [wI_q (by decide), wI_q (by decide)]; exact rc j hj
  · rw [wI_q (by decide)]; exact rd i hi
theorem sim_valleyB (h : R p u) (hb : mBars u s = 0) {q : Nat} (hp : pVs (vl0 u s) = .inl q) {w' : hW} (hw : bak (mNo (wI u 45 9 (nI q)) (-6)) w') : Sim p u (xValley p s) (-6, w') := by
  have hr := read_m h hb
  obtain ⟨f1, f2, f3⟩ := read_fr (s := s) h
  rw [hp] at hr
  obtain ⟨h6, hq⟩ := hr
  have e : xValley p s = (-6, rfA (wI (rRead (vTake p 16 2) s) 0 10 (nI q)) (-6)) := by
    unfold xValley xNo
    rw [sNo_m h, if_pos hb, h6, if_neg (nI_ne (by omega))]
  rw [e]
  clear e
  generalize rRead (vTake p 16 2) s = W at f1 f2 f3 h6 ⊢
  have kW : ∀ r, r ≠ 35 → r ≠ 36 → ¬ (16 ≤ r ∧ r ≤ 22) → (wI W 0 10 (nI q)).1 r = (wI p 0 10 (nI q)).1 r := fun r a b c => wI_eq (f2 r a b c)
  have a1 := R_flt h (x := nI q)
  have v16 : vI (wI W 0 10 (nI q)) 16 := vI_o f1 (fun r _ _ => wI_q (by omega))
  have a2 : R (wI W 0 10 (nI q)) (wI u 45 9 (nI q)) := R_val a1 (VR_o a1.1 (fun r _ _ => kW r (by omega) (by omega) (by omega))) a1.2.1 (Int.le_refl _) ⟨fun r _ => kW r (by omega) (by omega) (by omega), fun r _ _ => kW r (by omega) (by omega) (by omega), fun r _ _ => kW r (by omega) (by omega) (by omega), by rw [kW 43 (by omega) (by omega) (by omega)], kW 44 (by omega) (by omega) (by omega), fun r _ => by rw [wI_2, wI_2, f3], v16⟩ mQ.rf
  have a3 := R_no a2 k6.1 k6.2
  obtain ⟨b1, b2, b3, b4, b5⟩ := hw
  have ev : eqV (vwM (mNo (wI u 45 9 (nI q)) (-6))) (vwM w') := by
    refine ⟨fun k hk => ?_, fun c i c1 c2 c3 => ?_, fun c i c1 c2 c3 => ?_⟩
    · show (mNo (wI u 45 9 (nI q)) (-6)).1 45 k = w'.1 45 k
      rw [b4 k (by omega)]
    · unfold vwM
      rw [if_neg (by omega), if_neg (by omega), b1 (46 + c) i (by omega) (by omega) c3]
    · unfold vwM
      rw [if_neg (by omega), if_neg (by omega), b2 (46 + c) i (by omega) (by omega) c3]
  have a4 : R (rfA (wI W 0 10 (nI q)) (-6)) w' := R_val a3 (VR_ext a3.1 ev) (Ok_ext a3.2.1 ev) (by rw [b4 0 (by omega)]; exact Int.le_refl _) (xQ.rf a3) ⟨b3 46 (by decide) (by decide) (by decide) (by decide), fun r _ _ => b3 r (by omega) (by omega) (by omega) (by omega), b3 64 (by decide) (by decide) (by decide) (by decide), b3 67 (by decide) (by decide) (by decide) (by decide), b3 77 (by decide) (by decide) (by decide) (by decide), b4 9 (by decide), b4 48 (by decide), b4 49 (by decide), by rw [b5]⟩
  refine ⟨rfl, a4, ⟨fun r hr => ?_, fun r hr => ?_⟩, ⟨fun r hr => ?_, fun r hr => ?_⟩⟩
  · show (rfA (wI W 0 10 (nI q)) (-6)).1 r = p.1 r
    rw [rf_o (by omega), wI_q (by omega), f2 r (by omega) (by omega) (by omega)]
  · show (rfA (wI W 0 10 (nI q)) (-6)).2 r = p.2 r
    rw [rf_2, wI_2, f3]
  · show w'.1 r = u.1 r
    rw [b3 r (by omega) (by omega) (by omega) (by omega), no_o (by omega), wI_q (by omega)]
  · show w'.2 r = u.2 r
    rw [b5]
    rfl
theorem sim_valleyG (h : R p u) (hb : mBars u s = 0) {x : Nat × hW} (hp : pVs (vl0 u s) = .inr x) {w' : hW} (hw : scr x.2 w') (hf : fxd (vl0 u s) x.2) : Sim p u (xValley p s) (nI x.1, w') := by
  have hr := read_m h hb
  obtain ⟨f1, f2, f3⟩ := read_fr (s := s) h
  rw [hp] at hr
  obtain ⟨h6, h7, hv, hok, h0⟩ := hr
  obtain ⟨o1, o2, o3, o4⟩ := vl0_o (u := u) (s := s)
  have e : xValley p s = (nI x.1, vTake (wI (rRead (vTake p 16 2) s) 0 10 (-1)) 2 16) := by
    unfold xValley
    rw [sNo_m h, if_pos hb, h6, if_pos rfl, h7]
  rw [e]
  clear e
  generalize rRead (vTake p 16 2) s = W at f1 f2 f3 h6 h7 hv ⊢
  have kW : ∀ r, r ≠ 35 → r ≠ 36 → ¬ (16 ≤ r ∧ r ≤ 22) → (wI W 0 10 (-1)).1 r = (wI p 0 10 (-1)).1 r := fun r a b c => wI_eq (f2 r a b c)
  have a1 := R_flt h (x := -1)
  have v16 : vI (wI W 0 10 (-1)) 16 := vI_o f1 (fun r _ _ => wI_q (by omega))
  have v2 : vI (wI W 0 10 (-1)) 2 := vI_o h.1.1 (fun r _ _ => by rw [wI_q (by omega), f2 r (by omega) (by omega) (by omega)])
  have ev : eqV (vwM x.2) (vwM w') := by
    refine ⟨fun k hk => ?_, fun c i c1 c2 _ => ?_, fun c i c1 c2 _ => ?_⟩
    · show x.2.1 45 k = w'.1 45 k
      rw [hw.2.1 k (by omega) (by omega) (by omega)]
    · unfold vwM
      rw [if_neg (by omega), if_neg (by omega), hw.1 (46 + c) (by omega) (by omega)]
    · unfold vwM
      rw [if_neg (by omega), if_neg (by omega), hw.1 (46 + c) (by omega) (by omega)]
  have kM : ∀ r, r ≠ 45 → r ≠ 65 → r ≠ 66 → ¬ (47 ≤ r ∧ r ≤ 57) → w'.1 r = u.1 r := fun r a b c c2 => by rw [hw.1 r a b, hf.1 r a b c2, o1 r a c]
  have kJ : ∀ j, 9 ≤ j → ¬ (30 ≤ j ∧ j ≤ 34) → w'.1 45 j = (wI u 45 9 (-1)).1 45 j := fun j a b => by
    rw [hw.2.1 j (by omega) (by omega) (by omega), hf.2.1 j a (by omega) (by omega) (by omega)]
    by_cases e9 : j = 9
    · rw [e9, o3, wI_is]
    · rw [wI_at e9, o2 j (by omega) (by omega) (by omega) e9]
  have k2 : w'.2 = u.2 := by rw [hw.2.2, hf.2.2, o4]
  have kT : ∀ r, r < 2 ∨ 8 < r → (vTake (wI W 0 10 (-1)) 2 16).1 r = (wI W 0 10 (-1)).1 r := fun r hr => vTake_o iv2 (by omega)
  have kP : ∀ r, r ≠ 35 → r ≠ 36 → ¬ (16 ≤ r ∧ r ≤ 22) → (r < 2 ∨ 8 < r) → (vTake (wI W 0 10 (-1)) 2 16).1 r = (wI p 0 10 (-1)).1 r := fun r a b c c2 => by rw [kT r c2, kW r a b c]
  have t2 : (vTake (wI W 0 10 (-1)) 2 16).2 = p.2 := by
    rw [vTake_2, wI_2, f3]
  have hT : VR (vTake (wI W 0 10 (-1)) 2 16) 2 (vwM w') := VR_ext (VR_take iv2 iv16 (by decide) v2 (VR_o hv (fun r _ _ => wI_q (by omega)))) ev
  have a4 : R (vTake (wI W 0 10 (-1)) 2 16) w' := by
    refine R_val a1 hT (Ok_ext hok ev) ?_ ⟨fun r _ => kP r (by omega) (by omega) (by omega) (by omega), fun r _ _ => kP r (by omega) (by omega) (by omega) (by omega), fun r _ _ => kP r (by omega) (by omega) (by omega) (by omega), by rw [kP 43 (by omega) (by omega) (by omega) (by omega)], kP 44 (by omega) (by omega) (by omega) (by omega), fun r _ => by rw [t2, wI_2], vI_o v16 (fun r _ _ => kT r (by omega))⟩ ⟨?_, fun r _ _ => ?_, ?_, ?_, ?_, kJ 9 (by omega) (by omega), kJ 48 (by omega) (by omega), kJ 49 (by omega) (by omega), by rw [k2, wI_2]⟩
    · have e0 : w'.1 45 0 = x.2.1 45 0 := hw.2.1 0 (by decide) (by decide) (by decide)
      rw [e0, wI_at (by decide), ← o2 0 (by decide) (by decide) (by decide) (by decide)]
      exact h0
    · rw [kM 46 (by decide) (by decide) (by decide) (by decide), wI_q (by decide)]
    · rw [kM r (by omega) (by omega) (by omega) (by omega), wI_q (by omega)]
    · rw [kM 64 (by decide) (by decide) (by decide) (by decide), wI_q (by decide)]
    · rw [kM 67 (by decide) (by decide) (by decide) (by decide), wI_q (by decide)]
    · rw [kM 77 (by decide) (by decide) (by decide) (by decide), wI_q (by decide)]
  refine ⟨rfl, a4, ⟨fun r hr => ?_, fun r hr => ?_⟩, ⟨fun r hr => ?_, fun r hr => ?_⟩⟩
  · show (vTake (wI W 0 10 (-1)) 2 16).1 r = p.1 r
    rw [kP r (by omega) (by omega) (by omega) (by omega), wI_q (by omega)]
  · show (vTake (wI W 0 10 (-1)) 2 16).2 r = p.2 r
    rw [t2]
  · exact kM r (by omega) (by omega) (by omega) (by omega)
  · show w'.2 r = u.2 r
    rw [k2]
theorem mBars_k (hb : mBars u s ≠ 0) : 0 < (-(mBars u s)).toInt ∧ (-(mBars u s)).toInt < 8 := by
  revert hb
  unfold mBars
  repeat' split
  · intro; decide
  · intro; decide
  · intro h; exact absurd rfl h
  · intro; decide
theorem c8_valleyN {d : Nat} {Q : aPost} (hb : ¬ mBars u s = 0) : Cl (d + 12) 194 [.ref 45, .int s] u Q = Q (some (.int (mBars u s))) (mNo u (mBars u s)) := by
  rw [Cl_go (L := [some (.ref 45), some (.int s), none, none, none]) rfl]
  simp only [s194_0, s194_1, s194_2, s194_5, s194_6, s194_7, s194_10, s194_11, s194_12, s194_15, gF_i, gF_r, gP_f, gP_t, aRd_1, aRd_4, aKd_e, oo_s, z0, z1, okP_n, okP_i, okP_r, vtl, vtn, true_and, and_true, bI_ite, bI_01, F8_7, F8_13, F8_16, F8_19, F8_23, F8_26, F8_29, F8_32, F8_35, F8_38, F8_41, F8_44, F8_47, F8_50, F8_53, F8_56, F8_59, F8_62, F8_65, F8_68, F8_72, F8_75, F8_78, F8_81, F8_84, F8_87, F8_90, F8_93, F8_96, F8_99, F8_102, F8_105, F8_108, F8_111, F8_114, F8_117, F8_171, F8_123, F8_126, F8_120, F8_162, F8_190, F8_184, F8_187, F8_181, F8_223, F8_200, F8_277, F8_304, F8_319, P8_7, P8_13, P8_16, P8_117, P8_171, P8_123, P8_126, P8_120, P8_162, P8_190, P8_184, P8_187, P8_181, P8_223, P8_200, P8_277, P8_304, P8_319, A_46, A_47, A_48, A_49, A_50, A_51, A_52, A_53, A_54, A_55, A_56, A_57, A_58, A_59, A_60, A_61, A_62, A_63, A_64, A_65, A_66, A_67, A_68, A_69, A_70, A_71, A_72, A_73, A_74, A_75, A_76, A_77, cs_n, Nat.zero_le, cs_i, cs_r, cs_l, Nat.reduceAdd, Nat.reduceLeDiff, R_8, c8_wants, c8_no (mBars_in hb), hb, decide_true, decide_false, not_true_eq_false, not_false_eq_true, Bool.and_true, Bool.true_and, Bool.and_false, Bool.false_and, Bool.or_true, Bool.true_or, Bool.or_false, Bool.false_or, Bool.not_true, Bool.not_false, ite_true, ite_false, if_true, if_false, Bool.false_eq_true, reduceIte, decide_not, and_true, true_and, and_false, false_and, or_true, true_or, or_false, false_or, not_false, not_true]
theorem sim_valleyN (h : R p u) (hb : ¬ mBars u s = 0) : Sim p u (xValley p s) (mBars u s, mNo u (mBars u s)) := by
  unfold xValley xNo
  rw [sNo_m h, if_neg hb]
  exact Sim_no h (mBars_k hb)
/-- valley of the two, whatever lies there -/
theorem sim_valley (h : R p u) : ∃ m : Int32 × hW, (∀ (d : Nat) (Q : aPost), Cl (d + 12) 194 [.ref 45, .int s] u Q = Q (some (.int m.1)) m.2) ∧ Sim p u (xValley p s) m := by
  by_cases hb : mBars u s = 0
  · have c8 := c8_valley (R_mI h) h.2.2.2.2.2.2.2.2 hb
    cases hp : pVs (vl0 u s) with
    | inl q =>
      rw [hp] at c8
      obtain ⟨w', h1, h2⟩ := c8
      exact ⟨(-6, w'), h2, sim_valleyB h hb hp h1⟩
    | inr x =>
      rw [hp] at c8
      obtain ⟨w', h1, h2, h3, h4⟩ := c8
      exact ⟨(nI x.1, w'), h4, sim_valleyG h hb hp h1 h2⟩
  · exact ⟨(mBars u s, mNo u (mBars u s)), fun d Q => c8_valleyN hb, sim_valleyN h hb⟩
end

/-! THE TWO SIDES ALIKE: order -/
section
variable {p u p' u' : hW} {b : Nat} {V : Nat → Nat → Int32}
theorem Sim_sn (h : R p u) {r n : Int32} (hx : xS p p') (hm : mS u u') (hn : 0 < (-n).toInt ∧ (-n).toInt < 8) : Sim p u (r, rfA p' n) (r, mNo u' n) := Sim_tr (Sim_scr h (r := 0) hx hm) (Sim_no (Sim_scr h (r := 0) hx hm).2.1 hn)
theorem tCell_o {w : hW} {k : Nat} {i c : Int32} (h1 : w.1 k = p.1 k) (h2 : w.1 (k + 1) = p.1 (k + 1)) : tCell w k i c = tCell p k i c := by
  unfold tCell tHasC tHas tAt
  rw [h1, h2]
theorem vStr_o {w : hW} (h : ∀ q, 2 ≤ q → q ≤ 8 → w.1 q = p.1 q) {m x : Int32} : vStr w 2 m x = vStr p 2 m x := by
  unfold vStr
  rw [tCell_o (p := p) (k := 2 + 3) (h _ (by omega) (by omega)) (h _ (by omega) (by omega)), tCell_o (p := p) (k := 2 + 3) (h _ (by omega) (by omega)) (h _ (by omega) (by omega))]
theorem vReach_o {w : hW} (h : ∀ q, 2 ≤ q → q ≤ 8 → w.1 q = p.1 q) {s t : Int32} : vReach w 2 s t = vReach p 2 s t := by
  unfold vReach
  rw [tCell_o (p := p) (k := 2 + 1) (h _ (by omega) (by omega)) (h _ (by omega) (by omega)), tCell_o (p := p) (k := 2 + 1) (h _ (by omega) (by omega)) (h _ (by omega) (by omega)), tCell_o (p := p) (k := 2 + 1) (h _ (by omega) (by omega)) (h _ (by omega) (by omega)), h 2 (by omega) (by omega)]
theorem vFar_o {w : hW} (h : ∀ q, 2 ≤ q → q ≤ 8 → w.1 q = p.1 q) {m t : Int32} : vFar w 2 m t = vFar p 2 m t := by
  unfold vFar
  rw [vReach_o h, vStr_o h]
theorem rMeas_o {w : hW} (h : ∀ q, 2 ≤ q → q ≤ 8 → w.1 q = p.1 q) {t : Int32} : ∀ j, j < 8 → (rMeas w t).1 38 j = (rMeas p t).1 38 j := by
  intro j hj
  unfold rMeas
  rw [wA_s, wA_s, if_pos hj, if_pos hj, h 5 (by omega) (by omega), vFar_o h]
theorem xS_28 (h : xS p p') : ∀ q, 2 ≤ q → q ≤ 8 → p'.1 q = p.1 q := fun q a a' => h.1 q (by omega)
theorem ft_or {fr tt to fm : Int32} {F F' : Nat → Int32} {n L : Nat} (h8 : n ≤ 8) (hfr : 0 ≤ fr.toInt) (hto : to.toInt ≤ 99) (hw : to.toInt ≤ fr.toInt ∨ tt.toInt ≤ to.toInt) (hF : ∀ i, i < 8 → 0 ≤ (F i).toInt ∧ (F i).toInt ≤ 99) (hFF : ∀ i, i < n → F i = F' i) (hp : okD fr tt to fm) (hL : subN L (2 ^ n - 1) = true) : ∀ (r m : Nat) (E E' : Nat → Int32), m + r = 8 → (∃ j, m ≤ j ∧ j < 8 ∧ orX fr tt F' to n fm L j) → (ftL fr tt F fm L to m r E).1 = nI (orI fr tt F' to n fm L r m E').1
  | 0, m, E, E', hm, ⟨j, h1, h2, _⟩ => by omega
  | r + 1, m, E, E', hm, ⟨j, h1, h2, h3⟩ => by
    unfold ftL orI
    by_cases c : L.testBit m = true
    · have mn := sub_bit hL c
      have hG := goe_G (n := 8) hfr hto hw hF
      have hst : okD fr tt to (goe fr tt fm (F m) to) := hG.1 m (by omega) fm hp
      have hsub : subN (clr L m) (2 ^ n - 1) = true := subN_tr (clr_sub (by have := sub_lt hL; have := pw_lt h8; omega) (by omega)) hL
      have e := tab_g (E0 := E) (E1 := E') h8 hfr hto hw hF hFF hst hsub subN_rf
      rw [if_pos c, if_pos c, onw_goe hfr hto hw (hF m (by omega)) hp, e, ← hFF m mn]
      by_cases c2 : grE fr tt F' to (goe fr tt fm (F m) to) n E' (clr L m) = to
      · rw [if_pos c2, if_pos c2]
      · rw [if_neg c2, if_neg c2]
        refine ft_or h8 hfr hto hw hF hFF hp hL r (m + 1) _ _ (by omega) ⟨j, ?_, h2, h3⟩
        have : j ≠ m := fun ej => c2 (by
          have := h3.2 E'
          rw [ej, ← hFF m mn] at this
          exact this)
        omega
    · rw [if_neg c, if_neg c]
      refine ft_or h8 hfr hto hw hF hFF hp hL r (m + 1) _ _ (by omega) ⟨j, ?_, h2, h3⟩
      have : j ≠ m := fun ej => c (by rw [← ej]; exact h3.1)
      omega
theorem ord_m {fr tt to : Int32} {F F' : Nat → Int32} {n : Nat} (h8 : n ≤ 8) (hfr : 0 ≤ fr.toInt) (hto : to.toInt ≤ 99) (hw : to.toInt ≤ fr.toInt ∨ tt.toInt ≤ to.toInt) (hF : ∀ i, i < 8 → 0 ≤ (F i).toInt ∧ (F i).toInt ≤ 99) (hFF : ∀ i, i < n → F i = F' i) : ∀ (k : Nat) (fm : Int32) (L : Nat) (man : Int32) (E E' : Nat → Int32), okD fr tt to fm → subN L (2 ^ n - 1) = true → grE fr tt F' to fm n (fun _ => 0) L = to → k < cnt8 L → (plL fr tt F to (k + 1) fm L man E).1 = nI (orO fr tt F' to n k fm L E').1
  | k, fm, L, man, E, E', hp, hL, hg, hk => by
    have hG' := goe_G (n := n) (F := F') hfr hto hw (fun i hi => by rw [← hFF i hi]; exact hF i (by omega))
    have L256 : L < 256 := by have := sub_lt hL; have := pw_lt h8; omega
    have L0 : L ≠ 0 := fun e => by rw [e] at hk; exact absurd hk (by decide +revert)
    have hex := or_ex h8 hG' hp hL L0 hg
    have hf := ft_or (E := E) (E' := E') h8 hfr hto hw hF hFF hp hL 8 0 (by omega) hex
    obtain ⟨s1, s2⟩ := orI_s h8 hG' hp hL 8 0 E' (by omega) hex
    have hm1 : nI (orI fr tt F' to n fm L 8 0 E').1 ≠ -1 := by rw [Ne, i32_eq, nI_toInt (by omega), i32_m1]; omega
    unfold plL
    rw [hf, if_neg hm1, nI_cl (by omega)]
    cases k with
    | zero => rfl
    | succ k =>
      unfold orO
      have mn := sub_bit hL s2.1
      rw [onw_goe hfr hto hw (hF _ (by omega)) hp, hFF _ mn]
      have hst : okD fr tt to (goe fr tt fm (F' (orI fr tt F' to n fm L 8 0 E').1) to) := hG'.1 _ mn fm hp
      have hsub := subN_tr (clr_sub L256 s1) hL
      have cc := cnt_clr L L256 _ s1 s2.1
      exact ord_m h8 hfr hto hw hF hFF k _ _ _ _ _ hst hsub (s2.2 _) (by omega)
theorem sim_order (h : R p u) {t s to i : Int32} : Sim p u (xOrder p t s to i) (mOrder u t s to i) := by
  unfold xOrder mOrder xNo
  rw [hasT h.1, set_m h]
  by_cases ht : mThing u t = true
  · rw [if_pos ht, if_pos ht]
    by_cases hs : mSet u s = true
    · rw [if_pos hs, if_pos hs, show vOn p 2 t to = mOn u t to from on_m h.1 ht]
      by_cases ho : mOn u t to = true
      · rw [if_pos ho, if_pos ho, eo_m h ht hs ho]
        obtain ⟨s1, s2, s3⟩ := set_nn h hs
        have hb : iBits s = nI (cnt8 s.toNatClampNeg) := by rw [s3, nI_cl (by omega)]; exact iBits_cnt _ s2
        rw [hb]
        by_cases hd : (mRF u t to).1 69 s.toNatClampNeg = to
        · rw [if_pos hd, if_pos hd]
          by_cases h0 : i < 0
          · rw [if_pos h0, if_pos h0]; exact Sim_sn h xS.rf mS_RF k5
          · rw [if_neg h0, if_neg h0]
            by_cases hi : i < nI (cnt8 s.toNatClampNeg)
            · rw [if_pos hi, if_pos hi]
              obtain ⟨d1, d2, d3⟩ := mOn_D (R_mI h) (Ok_mV h.2.1) ht ho
              have n8 := mN_8 h
              have l3 := h.2.1.1.2.2.2.1.2
              have q1 := d1.2.1
              have l3' : (u.1 45 3).toInt ≤ 99 := l3
              have c8 := cnt_le _ s2
              rw [i32_lt, i32_0] at h0
              rw [i32_lt, nI_toInt (by omega)] at hi
              have hx := xS_28 (xS_eo (p := p) (t := t) (to := to) (S := s.toNatClampNeg))
              have e4 : (eoW p t to s.toNatClampNeg).1 2 4 = u.1 45 4 := by rw [hx 2 (by omega) (by omega)]; exact VR_s h.1 (by omega) (by omega)
              have e5 : (eoW p t to s.toNatClampNeg).1 2 5 = u.1 45 5 := by rw [hx 2 (by omega) (by omega)]; exact VR_s h.1 (by omega) (by omega)
              have es : vStep (eoW p t to s.toNatClampNeg) 2 t = u.1 50 t.toNatClampNeg := by
                unfold vStep
                rw [tCell_o (p := p) (k := 2 + 1) (hx _ (by omega) (by omega)) (hx _ (by omega) (by omega))]
                exact step_m h.1 ht
              have e : (plV (eoW p t to s.toNatClampNeg) t to s.toNatClampNeg i.toNatClampNeg).1 = nI (orO (u.1 45 4) (u.1 45 5) ((mRF u t to).1 70) to (mN u) i.toNatClampNeg (u.1 50 t.toNatClampNeg) s.toNatClampNeg ((mRF u t to).1 69)).1 := by
                unfold plV
                rw [e4, e5, es, mRF_70]
                have hF8 : ∀ j, j < 8 → (rMeas (eoW p t to s.toNatClampNeg) t).1 38 j = (rMeas p t).1 38 j := rMeas_o hx
                refine ord_m n8.1 h.2.1.1.2.2.2.2.1.1 (by omega) d1.2.2 (fun j hj => by rw [hF8 j hj]; exact F_b h ht j hj) (fun j hj => by rw [hF8 j (by omega)]; exact F_m h ht j hj) _ _ _ _ _ _ d2 s1 ?_ (by rw [i32_clamp]; omega)
                rw [mRF_69] at hd
                have hG := goe_G (n := mN u) (fr := u.1 45 4) (tt := u.1 45 5) (to := to) (F := mMeasF u t (u.1 70)) h.2.1.1.2.2.2.2.1.1 (by omega) d1.2.2 (fun i hi => by rw [← F_m h ht i hi]; exact F_b h ht i (by omega))
                show grE (u.1 45 4) (u.1 45 5) (mMeasF u t (u.1 70)) to (u.1 50 t.toNatClampNeg) (mN u) (fun _ => 0) s.toNatClampNeg = to
                rw [grE_u (E' := u.1 69) n8.1 hG d2 s1]
                exact hd
              rw [e]
              have xm : xS (eoW p t to s.toNatClampNeg) (rMeas (eoW p t to s.toNatClampNeg) t) := by
                unfold rMeas
                exact xS_A (by omega) (by omega)
              exact Sim_scr h (xS.tr xS_eo (xS.tr xm (xS_A (by omega) (by omega)))) (mS.tr mS_RF (mS_A (by omega) (by omega)))
            · rw [if_neg hi, if_neg hi]; exact Sim_sn h xS.rf mS_RF k5
        · rw [if_neg hd, if_neg hd]
          have hX : ∀ (a : Int32 × hW), a = (-5, rfA p (-5)) ∨ a = (-5, rfA (eoW p t to s.toNatClampNeg) (-5)) → Sim p u a (-5, mNo (mRF u t to) (-5)) := by
            intro a ha
            rcases ha with rfl | rfl
            · exact Sim_sn h xS.rf mS_RF k5
            · exact Sim_sn h xS_eo mS_RF k5
          refine hX _ ?_
          by_cases h0 : i < 0
          · rw [if_pos h0]; exact Or.inl rfl
          · rw [if_neg h0]
            by_cases hi : i < nI (cnt8 s.toNatClampNeg)
            · rw [if_pos hi]; exact Or.inr rfl
            · rw [if_neg hi]; exact Or.inl rfl
      · rw [if_neg ho, if_neg ho]; exact Sim_no h k6
    · rw [if_neg hs, if_neg hs]; exact Sim_no h k1
  · rw [if_neg ht, if_neg ht]; exact Sim_no h k1
end

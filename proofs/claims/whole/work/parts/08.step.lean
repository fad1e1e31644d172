/-! SOUNDNESS, one step -/
section STEP
variable {p : Program} {l : Launch} {e : Env} {R : Room} {s : State} {m : MethodId} {args : Array Value} {below : List Frame} {meth : Method} {c : Code} {H : Heap} {locs : List Loc} {Qf : State → Prop}
variable {D : va_G} {g : aG} {k pc : Nat} {L0 : aL} {ls : Array Slot} {rest : List Value} {w : hW}
theorem sh_cell1 {q n : Nat} {l : List (Option Nat)} (h : gSh[q]? = some (1, n, l)) : (aWd g w)[q]? = some (g.1 q, .inl (g.2.1, n, .inl (w.1 q))) := aWd_at g w h
theorem sh_cell2 {q n : Nat} {l : List (Option Nat)} (h : gSh[q]? = some (2, n, l)) : (aWd g w)[q]? = some (g.1 q, .inl (g.2.2.1, n, .inr (.inl (w.2 q)))) := aWd_at g w h
theorem aIald {q : Nat} {t : Nat × Nat} {i : Int32} {v : Value} (C : aCx p s m args meth c k D g) (h : gArr q = some t) (hin : inb i t.2) (hv : (t.1 = 1 ∧ v = .int (w.1 q i.toNatClampNeg)) ∨ (t.1 = 4 ∧ v = .int ((gSta q).getD i.toNatClampNeg 0))) (hP : va_P D vwCl (aWd g w) H) (hS : va_S (aA g) s.heap H locs) (hdg : decode (gCd k) pc = .ok (.iaload, 1)) (kk : W p l e R s m args below meth c H locs 0 0 Qf (F0 m (pc + 1) ls (v :: rest))) : W p l e R s m args below meth c H locs 0 0 Qf (F0 m pc ls (.int i :: .ref (g.1 q) :: rest)) := by
  obtain ⟨hx, hb, hml, hown, hts, hr, hlocks, hK, hAm⟩ := C
  rcases gArr_spec h with ⟨h1, lf, h2⟩ | ⟨h1, lf, h2⟩ | ⟨h1, h2, h3⟩
  · rcases hv with ⟨-, rfl⟩ | ⟨h4, -⟩
    · exact va_iald hx hb hK hP q 0 (sh_cell1 h2) rfl (inb_in hin) hdg kk
    · omega
  · rcases hv with ⟨h4, -⟩ | ⟨h4, -⟩ <;> omega
  · rcases hv with ⟨h4, -⟩ | ⟨-, rfl⟩
    · omega
    · exact va_ti hx hb (hAm.1.1 q h2).2 hS (by rw [← h3]; exact inb_in hin) rfl hdg kk
theorem aIast {q : Nat} {t : Nat × Nat} {i x : Int32} (C : aCx p s m args meth c k D g) (h : gArr q = some t) (ht : t.1 = 1) (hin : inb i t.2) (hP : va_P D vwCl (aWd g w) H) (hD : va_D (aA g) (aWd g w)) (hS : va_S (aA g) s.heap H locs) (hdg : decode (gCd k) pc = .ok (.iastore, 1)) (kk : ∀ (H1 : Heap) (locs1 : List Loc), va_P D vwCl (aWd g (wI w q i.toNatClampNeg x)) H1 → va_S (aA g) s.heap H1 locs1 → W p l e R s m args below meth c H1 locs1 0 0 Qf (F0 m (pc + 1) ls rest)) : W p l e R s m args below meth c H locs 0 0 Qf (F0 m pc ls (.int x :: .int i :: .ref (g.1 q) :: rest)) := by
  obtain ⟨hx, hb, hml, hown, hts, hr, hlocks, hK, hAm⟩ := C
  rcases gArr_spec h with ⟨h1, lf, h2⟩ | ⟨h1, lf, h2⟩ | ⟨h1, h2, h3⟩
  · refine va_iast hx hb hK hP hD hS q 0 (sh_cell1 h2) rfl (inb_in hin) hdg (fun H1 locs1 b1 b2 b3 => kk H1 locs1 ?_ b3)
    have e : aCell g (wI w q i.toNatClampNeg x) q (1, t.2, lf) = .inl (g.2.1, t.2, .inl (upd (w.1 q) i.toNatClampNeg x)) := by
      show (Sum.inl (g.2.1, t.2, Sum.inl ((wI w q i.toNatClampNeg x).1 q)) : va_E) = _
      rw [show (wI w q i.toNatClampNeg x).1 q = upd (w.1 q) i.toNatClampNeg x from funext fun j => by simp [wI, upd]]
    rw [aWd_set g h2 e (wI_ne w q _ x)] at b1
    exact b1
  · omega
  · omega
theorem aLald {q : Nat} {t : Nat × Nat} {i : Int32} (C : aCx p s m args meth c k D g) (h : gArr q = some t) (ht : t.1 = 2) (hin : inb i t.2) (hP : va_P D vwCl (aWd g w) H) (hdg : decode (gCd k) pc = .ok (.laload, 1)) (kk : W p l e R s m args below meth c H locs 0 0 Qf (F0 m (pc + 1) ls (.long (w.2 q i.toNatClampNeg) :: rest))) : W p l e R s m args below meth c H locs 0 0 Qf (F0 m pc ls (.int i :: .ref (g.1 q) :: rest)) := by
  obtain ⟨hx, hb, hml, hown, hts, hr, hlocks, hK, hAm⟩ := C
  rcases gArr_spec h with ⟨h1, lf, h2⟩ | ⟨h1, lf, h2⟩ | ⟨h1, h2, h3⟩
  · omega
  · exact va_lald hx hb hK hP q 1 (sh_cell2 h2) rfl (inb_in hin) hdg kk
  · omega
theorem aLast {q : Nat} {t : Nat × Nat} {i : Int32} {x : Int64} (C : aCx p s m args meth c k D g) (h : gArr q = some t) (ht : t.1 = 2) (hin : inb i t.2) (hP : va_P D vwCl (aWd g w) H) (hD : va_D (aA g) (aWd g w)) (hS : va_S (aA g) s.heap H locs) (hdg : decode (gCd k) pc = .ok (.lastore, 1)) (kk : ∀ (H1 : Heap) (locs1 : List Loc), va_P D vwCl (aWd g (wJ w q i.toNatClampNeg x)) H1 → va_S (aA g) s.heap H1 locs1 → W p l e R s m args below meth c H1 locs1 0 0 Qf (F0 m (pc + 1) ls rest)) : W p l e R s m args below meth c H locs 0 0 Qf (F0 m pc ls (.long x :: .int i :: .ref (g.1 q) :: rest)) := by
  obtain ⟨hx, hb, hml, hown, hts, hr, hlocks, hK, hAm⟩ := C
  rcases gArr_spec h with ⟨h1, lf, h2⟩ | ⟨h1, lf, h2⟩ | ⟨h1, h2, h3⟩
  · omega
  · refine va_last hx hb hK hP hD hS q 1 (sh_cell2 h2) rfl (inb_in hin) hdg (fun H1 locs1 b1 b2 b3 => kk H1 locs1 ?_ b3)
    have e : aCell g (wJ w q i.toNatClampNeg x) q (2, t.2, lf) = .inl (g.2.2.1, t.2, .inr (.inl (vp_updL (w.2 q) i.toNatClampNeg x))) := by
      show (Sum.inl (g.2.2.1, t.2, Sum.inr (Sum.inl ((wJ w q i.toNatClampNeg x).2 q))) : va_E) = _
      rw [show (wJ w q i.toNatClampNeg x).2 q = vp_updL (w.2 q) i.toNatClampNeg x from funext fun j => by simp [wJ, vp_updL]]
    rw [aWd_set g h2 e (wJ_ne w q _ x)] at b1
    exact b1
  · omega
theorem aAald {q : Nat} {t : Nat × Nat} {i : Int32} (C : aCx p s m args meth c k D g) (h : gRows q = some t) (hin : inb i t.1) (hP : va_P D vwCl (aWd g w) H) (hdg : decode (gCd k) pc = .ok (.aaload, 1)) (kk : W p l e R s m args below meth c H locs 0 0 Qf (F0 m (pc + 1) ls (.ref (g.1 (t.2 + i.toNatClampNeg)) :: rest))) : W p l e R s m args below meth c H locs 0 0 Qf (F0 m pc ls (.int i :: .ref (g.1 q) :: rest)) := by
  obtain ⟨hx, hb, hml, hown, hts, hr, hlocks, hK, hAm⟩ := C
  unfold gRows at h
  split at h
  · cases h
    rename_i hq
    subst hq
    have h2 : gSh[26]? = some (3, 8, [some 27, some 28, some 29, some 30, some 31, some 32, some 33, some 34]) := rfl
    have hlt : i.toNatClampNeg < 8 := by
      have e : i.toNatClampNeg = i.toInt.toNat := rfl
      obtain ⟨a1, a2⟩ := hin
      omega
    have hv : ∀ j : Nat, j < 8 → va_rf ((([some 27, some 28, some 29, some 30, some 31, some 32, some 33, some 34] : List (Option Nat)).getD j none).map g.1) = .ref (g.1 (27 + j)) := by
      intro j hj
      match j, hj with
      | 0, _ => rfl
      | 1, _ => rfl
      | 2, _ => rfl
      | 3, _ => rfl
      | 4, _ => rfl
      | 5, _ => rfl
      | 6, _ => rfl
      | 7, _ => rfl
    have hc := hP 26 _ (aWd_at g w h2)
    exact W.aald (v := .ref (g.1 (27 + i.toNatClampNeg))) (ty := .array .long) hx hb hc ((hK.2 2 _ rfl).1 8 (fun j => va_rf ((([some 27, some 28, some 29, some 30, some 31, some 32, some 33, some 34] : List (Option Nat)).getD j none).map g.1))) rfl (fun q => by cases q) (by show ¬ (i < 0 ∨ (arrV _ _ _).slots.size ≤ _); rw [arrV_size]; exact inb_in hin) (by show (arrV _ _ _).slots[_]? = _; rw [arrV_read _ _ hlt, hv _ hlt]) rfl rfl hdg kk
  · cases h
theorem aLen {q n : Nat} (C : aCx p s m args meth c k D g) (h : gLen q = some n) (hP : va_P D vwCl (aWd g w) H) (hS : va_S (aA g) s.heap H locs) (hdg : decode (gCd k) pc = .ok (.arraylength, 1)) (kk : W p l e R s m args below meth c H locs 0 0 Qf (F0 m (pc + 1) ls (.int (Int32.ofNat n) :: rest))) : W p l e R s m args below meth c H locs 0 0 Qf (F0 m pc ls (.ref (g.1 q) :: rest)) := by
  obtain ⟨hx, hb, hml, hown, hts, hr, hlocks, hK, hAm⟩ := C
  rcases gLen_spec h with ⟨t, lf, h2, rfl | rfl | rfl⟩ | ⟨h2, rfl⟩
  · exact va_alen hx hb hK hP q 0 (aWd_at g w h2) (ty := .int) rfl rfl hdg kk
  · exact va_alen hx hb hK hP q 1 (aWd_at g w h2) (ty := .long) rfl rfl hdg kk
  · exact va_alen hx hb hK hP q 2 (aWd_at g w h2) (ty := .array .long) rfl rfl hdg kk
  · exact va_tlen hx hb (hAm.1.1 q h2).2 hS rfl hdg kk
theorem aNat : nativeFrameWords "java/lang/System" "arraycopy" 5 ≤ 70 := by decide +kernel
theorem aCpy {d i q0 q1 : Nat} {sp dp n : Int32} {r : List Value} {f : hW → Prop} (C : aCx p s m args meth c k D g) (hck : ∃ na c' pp, ckC (gOw k, i, 7, c', na, pp) = true) (hP : va_P D vwCl (aWd g w) H) (hD : va_D (aA g) (aWd g w)) (hS : va_S (aA g) s.heap H locs) (hl : lvR g ls (gML k) L0) (hcat : catS r ≤ 8) (h : cpyA q0 q1 sp dp n w f) (hdg : decode (gCd k) pc = .ok (.invokestatic i, 3))
    (kk : ∀ (w' : hW) (H1 : Heap) (locs1 : List Loc), f w' → va_P D vwCl (aWd g w') H1 → va_S (aA g) s.heap H1 locs1 → W p l e (aRm d) s m args below meth c H1 locs1 0 0 Qf (F0 m (pc + 3) ls (r.map (cv g)))) : W p l e (aRm d) s m args below meth c H locs 0 0 Qf (F0 m pc ls (.int n :: .int dp :: .ref (g.1 q1) :: .int sp :: .ref (g.1 q0) :: r.map (cv g))) := by
  obtain ⟨hx, hb, hml, hown, hts, hr, hlocks, hK, hAm⟩ := C
  obtain ⟨na, c', pp, hck⟩ := hck
  have k1 := gIs_in (w := .methodLink (gCn (gOw k)) i arraycopyName) hck
  have hroom : ((r.map (cv g)).map fun v => v.category).sum + (nativeFrameWords "java/lang/System" "arraycopy" 5 + 11) ≤ (aRm d).locals := by
    rw [catS_sum]
    have := aNat
    show _ ≤ 100 * (d + 5)
    omega
  unfold cpyA at h
  split at h
  · rename_i n0 n1 e0 e1
    obtain ⟨⟨c1, c2, c3, c4, c5⟩, hf⟩ := h
    rcases gArr_spec e0 with ⟨-, lf0, h0⟩ | ⟨z, -⟩ | ⟨z, -⟩
    · rcases gArr_spec e1 with ⟨-, lf1, h1⟩ | ⟨z, -⟩ | ⟨z, -⟩
      · refine va_copyi hx hb (by rw [hml]; exact hl.1.symm) hown (hts _ k1) (hts _ TW_nac) (hts _ TW_sac) (hts _ TW_isys) hK hP hD hS q0 q1 0 0 (sh_cell1 h0) (sh_cell1 h1) rfl rfl rfl c1 c2 c3 c4 c5 (fun _ _ => rfl) (by show 1 ≤ d + 5; omega) hroom hdg (fun H1 locs1 b1 b2 b3 => kk _ H1 locs1 hf ?_ b3)
        rw [aWd_set (w' := (fun r => if r = q1 then va_cpy (w.1 q0) (w.1 q1) sp.toNatClampNeg dp.toNatClampNeg n.toNatClampNeg else w.1 r, w.2)) g h1 (by show (Sum.inl (_, _, Sum.inl _) : va_E) = _; simp) (fun q hq => by simp [hq])] at b1
        exact b1
      · cases z
      · cases z
    · cases z
    · cases z
  · rename_i n0 n1 e0 e1
    obtain ⟨⟨c1, c2, c3, c4, c5⟩, hf⟩ := h
    rcases gArr_spec e0 with ⟨z, -⟩ | ⟨-, lf0, h0⟩ | ⟨z, -⟩
    · cases z
    · rcases gArr_spec e1 with ⟨z, -⟩ | ⟨-, lf1, h1⟩ | ⟨z, -⟩
      · cases z
      · refine va_copyl hx hb (by rw [hml]; exact hl.1.symm) hown (hts _ k1) (hts _ TW_nac) (hts _ TW_sac) (hts _ TW_isys) hK hP hD hS q0 q1 1 1 (sh_cell2 h0) (sh_cell2 h1) rfl rfl rfl c1 c2 c3 c4 c5 (fun _ _ => rfl) (by show 1 ≤ d + 5; omega) hroom hdg (fun H1 locs1 b1 b2 b3 => kk _ H1 locs1 hf ?_ b3)
        rw [aWd_set (w' := (w.1, fun r => if r = q1 then va_cpy (w.2 q0) (w.2 q1) sp.toNatClampNeg dp.toNatClampNeg n.toNatClampNeg else w.2 r)) g h1 (by show (Sum.inl (_, _, Sum.inr (Sum.inl _)) : va_E) = _; simp) (fun q hq => by simp [hq])] at b1
        exact b1
      · cases z
    · cases z
  · exact False.elim h
end STEP


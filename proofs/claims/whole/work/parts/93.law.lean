/-! THE LAW: its calls, its script, its loop -/
def lwC (p : Program) (s : State) (m : MethodId) (c : Code) (b L : Nat) (xs : Nat → Int32) (D : va_G) (g : aG) : Prop :=
  p.tables.exec = Jvm.exec ∧ c.code = code ∧ c.maxLocals = 4 ∧ s.vm.findClass RL = some m.cls ∧ (∀ w ∈ TW, w.before #[Value.ref b] s = true) ∧ va_K D vwCl (aTy g) s ∧ aAmb g s s.heap ∧ va_X b L xs s s.heap ∧ b < s.heap.size ∧ (∀ q, aA g q → s.heap.size ≤ q)
section
variable {p : Program} {l : Launch} {e : Env} {s : State} {m : MethodId} {below : List Frame} {meth : Method} {c : Code} {b L : Nat} {xs : Nat → Int32} {D : va_G} {g : aG} {H : Heap} {locs : List Loc} {Qf : State → Prop} {pc : Nat} {ls : Array Slot} {rest : List Value} {w w' : hW} {cells slots : Nat}
theorem lwAns {Q : aPost} {a : Array Value} {st0 : List Value} (hr : va_Run p l e room_1 s m #[Value.ref b] below meth c H locs cells slots 0 0 (F0 m pc ls st0) rest (aQc D g Q a) (aA g)) (hS : va_S (fun q => s.heap.size ≤ q) s.heap H locs) (hg : ∀ q, aA g q → s.heap.size ≤ q) (kk : ∀ (r : Option Value) (w' : hW) (H1 : Heap) (locs1 : List Loc), Q r w' → va_P D vwCl (aWd g w') H1 → va_S (fun q => s.heap.size ≤ q) s.heap H1 locs1 → W p l e room_1 s m #[Value.ref b] below meth c H1 locs1 cells slots Qf (F0 m (pc + 3) ls ((r.map (cv g)).toList ++ rest))) : W p l e room_1 s m #[Value.ref b] below meth c H locs cells slots Qf (F0 m pc ls st0) := by
  intro T hT X
  obtain ⟨v, st₀, t, T', L, h0, X', hL, e1, e2, ⟨⟨r, w', hv, hq, hp⟩, hz, hk⟩, st⟩ := hr T hT X
  cases hv
  rw [h0] at hz hk
  obtain ⟨t2, a1, b1⟩ := kk r w' T'.heap (locs ++ L) hq (by rw [e1]; exact hp) ⟨Nat.le_trans hS.1 (by rw [e1]; exact hz), fun q h1 h2 => by rw [e1, hk q (Nat.lt_of_lt_of_le h1 hS.1) (fun h => h2 (hg q h))]; exact hS.2.1 q h1 h2, fun q hq => by
      rcases List.mem_append.mp hq with h | h
      · exact hS.2.2 q h
      · exact hg _ (hL q h)⟩ T' rfl X'
  exact ⟨t2, st t2 a1, b1⟩
theorem lwPreAt (hP : va_P D vwCl (aWd g w) H) (hK : va_K D vwCl (aTy g) s) (hD : va_D (aA g) (aWd g w)) (hA : aAmb g s s.heap) (hS : va_S (fun q => s.heap.size ≤ q) s.heap H locs) (U : State) (hU : U.heap = H) (hW : s.WarmedH U.vm) : aPre D g w U := ⟨by rw [hU]; exact hP, va_K.moved hW.alike hK, hD, by rw [hU]; exact (hA.kept (fun a h1 _ => hS.2.1 a h1 (Nat.not_le.mpr h1))).warm hW⟩
set_option maxRecDepth 100000 in
theorem lw_callV {c' na i pp : Nat} {as : List Value} {q : Nat} {r0 : Option Value} (C : lwC p s m c b L xs D g) (hck : ckC (10, i, 0, c', na, pp) = true) (hD : va_D (aA g) (aWd g w)) (hP : va_P D vwCl (aWd g w) H) (hS : va_S (fun q => s.heap.size ≤ q) s.heap H locs) (hl : lv_has ls 4 [(3, .int (xs 0)), (0, .ref b)] ∨ ls.size = 4) (hq : gRcv q = some (gOw c')) (hcat : (rest.map fun v => v.category).sum ≤ 8) (hlen : (spv (.ref q :: as)).length ≤ gML c') (hna : as.length = na) (hw : Cl 300 c' (.ref q :: as) w (fun v u => v = r0 ∧ u = w')) (hdg : decode code pc = .ok (.invokevirtual i, 3))
    (kk : ∀ (H1 : Heap) (locs1 : List Loc), va_P D vwCl (aWd g w') H1 → va_S (fun q => s.heap.size ≤ q) s.heap H1 locs1 → W p l e room_1 s m #[Value.ref b] below meth c H1 locs1 600000 7302250 Qf (F0 m (pc + 3) ls ((r0.map (cv g)).toList ++ rest))) : W p l e room_1 s m #[Value.ref b] below meth c H locs 600000 7302250 Qf (F0 m pc ls ((as.map (cv g)).reverse ++ .ref (g.1 q) :: rest)) := by
  obtain ⟨hx, hb, hml, hown, hts, hK, hAm, hX, hbl, hg⟩ := C
  simp only [ckC, Bool.and_eq_true, decide_eq_true_eq] at hck
  obtain ⟨⟨⟨⟨k1, k2⟩, k3⟩, k4⟩, k5⟩ := hck
  obtain ⟨m1, m2, m3, m4, m5, m6, m7, m8⟩ := gM_spec k2
  obtain ⟨l0, hl0⟩ := gRcv_spec hq
  have hsz : ls.size = 4 := by
    rcases hl with h | h
    · exact h.1
    · exact h
  have hroom : (aRm 300).frames + 1 ≤ room_1.frames ∧ 8 + (gML c' + 11) + (aRm 300).locals ≤ room_1.locals := by
    refine ⟨Nat.le_of_ble_eq_true rfl, ?_⟩
    show 8 + (gML c' + 11) + 100 * (300 + 5) ≤ 84000
    omega
  have cw : CallW room_1 s #[Value.ref b] RL (gCn (gOw c')) i (gY c') (gCd c') (gML c') (gRt c') (.code (gY c') (gCd c') (gML c') (gRt c') :: TW) (aRm 300) 0 0 na := ⟨callB_of na hts (TW_goodIn k2) rfl rfl rfl (by rw [m4]; exact hts _ (gI_in (by omega))) (hts _ (gIs_in k1)) ⟨m5, m6, k4⟩ hroom, hts _ (m3 k3).1, hts _ (m3 k3).2⟩
  refine lwAns (va_runV (As := as.map (cv g)) (rest := rest) (C := gCn (gOw c')) ⟨hx, hb, hml, hown, hts⟩ (aMet k2 hlen hw) cw ⟨aBlind D g w _, va_recv hK hP (vwCl_at k5) (aWd_at g w hl0), fun U hU hW => ⟨rfl, lwPreAt hP hK hD hAm hS U hU hW⟩⟩ rfl (by rw [List.length_map]; exact hna) hsz rfl (lv_room hcat) hdg ⟨Nat.le_refl _, Nat.le_refl _⟩) hS hg (fun r u H1 locs1 hq1 hP1 hS1 => ?_)
  obtain ⟨rfl, rfl⟩ := hq1
  exact kk H1 locs1 hP1 hS1
/-- script[i + k] -/
theorem lw_in {i : Nat} (hi : i < L) (hL : L ≤ 3072) : vp_in (nI i) L := vp_in_nI hi (by omega)
theorem lw_ld {i k : Nat} {kI : Int} {x : Nat} {ty : Nat} (C : lwC p s m c b L xs D g) (hS : va_S (fun q => s.heap.size ≤ q) s.heap H locs) (hL : L ≤ 3072) (hl : lv_has ls 4 [(0, .ref b), (1, .ref x), (2, .ref ty), (3, .int (nI i))]) (hi : i + k < L) (hk : Int32.ofInt kI = nI k) (d0 : decode code pc = .ok (.aload_n 0, 1)) (d1 : decode code (pc + 1) = .ok (.iload_n 3, 1)) (d2 : decode code (pc + 2) = .ok (.iconst kI, 1)) (d3 : decode code (pc + 3) = .ok (.iadd, 1)) (d4 : decode code (pc + 4) = .ok (.iaload, 1))
    (kk : W p l e room_1 s m #[Value.ref b] below meth c H locs 600000 7302250 Qf (F0 m (pc + 5) ls (.int (xs (i + k)) :: rest))) : W p l e room_1 s m #[Value.ref b] below meth c H locs 600000 7302250 Qf (F0 m pc ls rest) := by
  obtain ⟨hx, hb, hml, hown, hts, hK, hAm, hX, hbl, hg⟩ := C
  have hbA : ¬ (fun q : Nat => s.heap.size ≤ q) b := Nat.not_le.mpr hbl
  have e1 : nI i + nI k = nI (i + k) := nI_add i k
  have e2 : (nI (i + k)).toNatClampNeg = i + k := nI_cl (by omega)
  refine lv_aload_n hx hb d0 rfl (lv_at hl 0 rfl) ?_
  refine lv_iload_n hx hb d1 rfl (lv_at hl 3 rfl) ?_
  refine lv_iconst (v := nI k) hx hb d2 hk ?_
  refine lv_iadd hx hb d3 ?_
  rw [e1]
  refine va_sld hx hb hX hbl hbA hS (lw_in hi hL) d4 ?_
  rw [e2]
  exact kk
end
section
variable {p : Program} {l : Launch} {e : Env} {s : State} {m : MethodId} {below : List Frame} {meth : Method} {c : Code} {b L : Nat} {xs : Nat → Int32} {D : va_G} {g : aG} {H : Heap} {locs : List Loc} {Qf : State → Prop} {pc : Nat} {ls : Array Slot} {rest : List Value} {w w' : hW}
theorem lw_cI {c' na i pp : Nat} {as : List Value} {q : Nat} {x : Int32} (C : lwC p s m c b L xs D g) (hck : ckC (10, i, 0, c', na, pp) = true) (hD : va_D (aA g) (aWd g w)) (hP : va_P D vwCl (aWd g w) H) (hS : va_S (fun q => s.heap.size ≤ q) s.heap H locs) (hl : ls.size = 4) (hq : gRcv q = some (gOw c')) (hcat : (rest.map fun v => v.category).sum ≤ 8) (hlen : (spv (.ref q :: as)).length ≤ gML c') (hna : as.length = na) (hw : Cl 300 c' (.ref q :: as) w (fun v u => v = some (.int x) ∧ u = w')) (hdg : decode code pc = .ok (.invokevirtual i, 3))
    (kk : ∀ (H1 : Heap) (locs1 : List Loc), va_P D vwCl (aWd g w') H1 → va_S (fun q => s.heap.size ≤ q) s.heap H1 locs1 → W p l e room_1 s m #[Value.ref b] below meth c H1 locs1 600000 7302250 Qf (F0 m (pc + 3) ls (.int x :: rest))) : W p l e room_1 s m #[Value.ref b] below meth c H locs 600000 7302250 Qf (F0 m pc ls ((as.map (cv g)).reverse ++ .ref (g.1 q) :: rest)) := lw_callV C hck hD hP hS (Or.inr hl) hq hcat hlen hna hw hdg kk
theorem lw_cJ {c' na i pp : Nat} {as : List Value} {q : Nat} {x : Int64} (C : lwC p s m c b L xs D g) (hck : ckC (10, i, 0, c', na, pp) = true) (hD : va_D (aA g) (aWd g w)) (hP : va_P D vwCl (aWd g w) H) (hS : va_S (fun q => s.heap.size ≤ q) s.heap H locs) (hl : ls.size = 4) (hq : gRcv q = some (gOw c')) (hcat : (rest.map fun v => v.category).sum ≤ 8) (hlen : (spv (.ref q :: as)).length ≤ gML c') (hna : as.length = na) (hw : Cl 300 c' (.ref q :: as) w (fun v u => v = some (.long x) ∧ u = w')) (hdg : decode code pc = .ok (.invokevirtual i, 3))
    (kk : ∀ (H1 : Heap) (locs1 : List Loc), va_P D vwCl (aWd g w') H1 → va_S (fun q => s.heap.size ≤ q) s.heap H1 locs1 → W p l e room_1 s m #[Value.ref b] below meth c H1 locs1 600000 7302250 Qf (F0 m (pc + 3) ls (.long x :: rest))) : W p l e room_1 s m #[Value.ref b] below meth c H locs 600000 7302250 Qf (F0 m pc ls ((as.map (cv g)).reverse ++ .ref (g.1 q) :: rest)) := lw_callV C hck hD hP hS (Or.inr hl) hq hcat hlen hna hw hdg kk
theorem lw_cmp {x : Int64} : lg_cmp x x = 0 := by
  have h : ¬ x < x := fun h => by rw [i64_lt] at h; omega
  simp [lg_cmp, h]
end

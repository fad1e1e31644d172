/-! THE ABSTRACT MACHINE IS SOUND: what 'wp' says of a method, the machine does -/
def aCx (p : Program) (s : State) (m : MethodId) (args : Array Value) (meth : Method) (c : Code) (k : Nat) (D : va_G) (g : aG) : Prop :=
  p.tables.exec = Jvm.exec ∧ c.code = gCd k ∧ c.maxLocals = gML k ∧ s.vm.findClass (gCn (gOw k)) = some m.cls ∧ (∀ w ∈ TW, w.before args s = true) ∧ meth.sig.returnType = gRt k ∧ meth.locks = false ∧ va_K D vwCl (aTy g) s ∧ aAmb g s s.heap
/-- soundness at n steps -/
def aSd (l : Launch) (D : va_G) (g : aG) (n : Nat) : Prop := ∀ (d k : Nat), k < 247 → ∀ (p : Program) (e : Env) (s : State) (m : MethodId) (args : Array Value) (below : List Frame) (meth : Method) (c : Code), aCx p s m args meth c k D g → ∀ (Q : aPost) (pc : Nat) (L : aL) (st : List Value) (w : hW) (H : Heap) (locs : List Loc) (ls : Array Slot), va_P D vwCl (aWd g w) H → va_D (aA g) (aWd g w) → va_S (aA g) s.heap H locs → lvR g ls (gML k) L → wp d n k pc L st w Q → W p l e (aRm d) s m args below meth c H locs 0 0 (MQ below (aQc D g Q) args s 0 0 (aA g)) (F0 m pc ls (st.map (cv g)))
theorem TW_goodIn {k : Nat} (h : k < 247) : GoodIn TW (.code (gY k) (gCd k) (gML k) (gRt k) :: TW) := by
  intro w hw
  have hm : w ∈ TW := by
    rcases List.mem_cons.mp hw with rfl | hw
    · exact (gM_spec h).1
    · exact hw
  exact ⟨hm, TW_good w hm⟩
theorem aBlind (D : va_G) (g : aG) (w : hW) (av : List Value) : FrameBlind (va_Pc av (aPre D g w)) := fun a U gg mk hq => ⟨hq.1, hq.2.1, va_K.moved (u := U) (U := U.calling gg mk a) (Vm.Alike.refl U.vm) hq.2.2.1, hq.2.2.2.1, aAmb.same (u := U) (U := U.calling gg mk a) rfl hq.2.2.2.2⟩
/-- a method's contract, from soundness at n steps -/
theorem aMetOf {l : Launch} {D : va_G} {g : aG} {n : Nat} (hs : aSd l D g n) {d k : Nat} (hk : k < 247) {as : List Value} {w : hW} {Q : aPost} (hlen : (spv as).length ≤ gML k) (hw : wp d n k 0 (padL (gML k) (spv as)) [] w Q) : Met l (gY k) (.code (gY k) (gCd k) (gML k) (gRt k) :: TW) (aRm d) (va_Pc (as.map (cv g)) (aPre D g w)) (aQc D g Q) 0 0 (aA g) := by
  obtain ⟨m1, m2, m3, m4, m5, m6, m7, m8⟩ := gM_spec hk
  refine Met.ofW (cc := gCd k) (maxL := gML k) (ret := gRt k) m7 rfl ?_
  intro p e s m args below meth c s₁ B hml hv
  obtain ⟨rfl, hP, hK, hD, hA⟩ := hv
  have hts := atoms_spec (ws := .code (gY k) (gCd k) (gML k) (gRt k) :: TW) B.pre
  have hown : s.vm.findClass (gCn (gOw k)) = some m.cls := by rw [← m4]; exact findClass_of_methodNamed B.named
  rw [lg_entry_eq]
  exact hs d k hk p e s m _ below meth c ⟨B.exec, B.bytes, hml, hown, fun w hw => hts w (List.mem_cons_of_mem _ hw), B.returns, B.notSynchronized, hK, hA⟩ Q 0 _ [] w s.heap [] _ hP hD va_S.rf (lvR_entry g as hlen) hw
section SND
variable {p : Program} {l : Launch} {e : Env} {R : Room} {s : State} {m : MethodId} {args : Array Value} {below : List Frame} {meth : Method} {c : Code} {H : Heap} {locs : List Loc} {Qf : State → Prop}
variable {D : va_G} {g : aG} {k pc : Nat} {L0 : aL} {ls : Array Slot} {rest : List Value} {w : hW}
/-- a call's answer, and on -/
theorem aCall {Q : aPost} {a : Array Value} {st0 : List Value} (hr : va_Run p l e R s m args below meth c H locs 0 0 0 0 (F0 m pc ls st0) rest (aQc D g Q a) (aA g)) (hS : va_S (aA g) s.heap H locs) (kk : ∀ (r : Option Value) (w' : hW) (H1 : Heap) (locs1 : List Loc), Q r w' → va_P D vwCl (aWd g w') H1 → va_S (aA g) s.heap H1 locs1 → W p l e R s m args below meth c H1 locs1 0 0 Qf (F0 m (pc + 3) ls ((r.map (cv g)).toList ++ rest))) : W p l e R s m args below meth c H locs 0 0 Qf (F0 m pc ls st0) := by
  intro T hT X
  obtain ⟨v, st₀, t, T', L, h0, X', hL, e1, e2, ⟨⟨r, w', hv, hq, hp⟩, hz, hk⟩, st⟩ := hr T hT X
  cases hv
  rw [h0] at hz hk
  obtain ⟨t2, a1, b1⟩ := kk r w' T'.heap (locs ++ L) hq (by rw [e1]; exact hp) ⟨Nat.le_trans hS.1 (by rw [e1]; exact hz), fun q h1 h2 => by rw [e1, hk q (Nat.lt_of_lt_of_le h1 hS.1) h2]; exact hS.2.1 q h1 h2, fun q hq => by
      rcases List.mem_append.mp hq with h | h
      · exact hS.2.2 q h
      · exact hL q h⟩ T' rfl X'
  exact ⟨t2, st t2 a1, b1⟩
theorem aAmbAt (hA : aAmb g s s.heap) (hS : va_S (aA g) s.heap H locs) {U : State} (hU : U.heap = H) (hW : s.WarmedH U.vm) : aAmb g U U.heap := by
  rw [hU]
  exact (hA.kept hS.2.1).warm hW
theorem aPreAt (hP : va_P D vwCl (aWd g w) H) (hK : va_K D vwCl (aTy g) s) (hD : va_D (aA g) (aWd g w)) (hA : aAmb g s s.heap) (hS : va_S (aA g) s.heap H locs) (U : State) (hU : U.heap = H) (hW : s.WarmedH U.vm) : aPre D g w U := ⟨by rw [hU]; exact hP, va_K.moved hW.alike hK, hD, aAmbAt hA hS hU hW⟩
theorem aRm_le (d : Nat) {k : Nat} (h : gML k ≤ 20) : (aRm d).frames + 1 ≤ (aRm (d + 1)).frames ∧ 8 + (gML k + 11) + (aRm d).locals ≤ (aRm (d + 1)).locals := by
  refine ⟨Nat.le_refl _, ?_⟩
  show 8 + (gML k + 11) + 100 * (d + 5) ≤ 100 * (d + 1 + 5)
  omega
set_option maxRecDepth 100000 in
theorem aCallV {n d c' na i : Nat} {as : List Value} {q : Nat} {r : List Value} {Q : aPost} (ih : aSd l D g n) (C : aCx p s m args meth c k D g) (hck : ∃ pp, ckC (gOw k, i, 0, c', na, pp) = true) (hP : va_P D vwCl (aWd g w) H) (hD : va_D (aA g) (aWd g w)) (hS : va_S (aA g) s.heap H locs) (hl : lvR g ls (gML k) L0) (hq : gRcv q = some (gOw c')) (hcat : catS r ≤ 8) (hlen : (spv (.ref q :: as)).length ≤ gML c') (hna : as.length = na) (hw : wp d n c' 0 (padL (gML c') (spv (.ref q :: as))) [] w Q) (hdg : decode (gCd k) pc = .ok (.invokevirtual i, 3))
    (kk : ∀ (r0 : Option Value) (w' : hW) (H1 : Heap) (locs1 : List Loc), Q r0 w' → va_P D vwCl (aWd g w') H1 → va_S (aA g) s.heap H1 locs1 → W p l e (aRm (d + 1)) s m args below meth c H1 locs1 0 0 Qf (F0 m (pc + 3) ls ((r0.map (cv g)).toList ++ r.map (cv g)))) : W p l e (aRm (d + 1)) s m args below meth c H locs 0 0 Qf (F0 m pc ls ((as.map (cv g)).reverse ++ .ref (g.1 q) :: r.map (cv g))) := by
  obtain ⟨hx, hb, hml, hown, hts, hr, hlocks, hK, hAm⟩ := C
  obtain ⟨pp, hck⟩ := hck
  simp only [ckC, Bool.and_eq_true, decide_eq_true_eq] at hck
  obtain ⟨⟨⟨⟨k1, k2⟩, k3⟩, k4⟩, k5⟩ := hck
  obtain ⟨m1, m2, m3, m4, m5, m6, m7, m8⟩ := gM_spec k2
  obtain ⟨l0, hl0⟩ := gRcv_spec hq
  have cw : CallW (aRm (d + 1)) s args (gCn (gOw k)) (gCn (gOw c')) i (gY c') (gCd c') (gML c') (gRt c') (.code (gY c') (gCd c') (gML c') (gRt c') :: TW) (aRm d) 0 0 na := ⟨callB_of na hts (TW_goodIn k2) rfl rfl rfl (by rw [m4]; exact hts _ (gI_in (by omega))) (hts _ (gIs_in k1)) ⟨m5, m6, k4⟩ (aRm_le d m8), hts _ (m3 k3).1, hts _ (m3 k3).2⟩
  refine aCall (va_runV (As := as.map (cv g)) (rest := r.map (cv g)) (C := gCn (gOw c')) ⟨hx, hb, hml, hown, hts⟩ (aMetOf ih k2 hlen hw) cw ⟨aBlind D g w _, va_recv hK hP (vwCl_at k5) (aWd_at g w hl0), fun U hU hW => ⟨rfl, aPreAt hP hK hD hAm hS U hU hW⟩⟩ rfl (by rw [List.length_map]; exact hna) hl.1 rfl (lv_room (by rw [catS_sum]; exact hcat)) hdg ⟨Nat.le_refl _, Nat.le_refl _⟩) hS kk
set_option maxRecDepth 100000 in
theorem aCallS {n d c' na i : Nat} {as : List Value} {r : List Value} {Q : aPost} (ih : aSd l D g n) (C : aCx p s m args meth c k D g) (hck : ∃ pp, ckC (gOw k, i, 1, c', na, pp) = true) (hP : va_P D vwCl (aWd g w) H) (hD : va_D (aA g) (aWd g w)) (hS : va_S (aA g) s.heap H locs) (hl : lvR g ls (gML k) L0) (hcat : catS r ≤ 8) (hlen : (spv as).length ≤ gML c') (hna : as.length = na) (hw : wp d n c' 0 (padL (gML c') (spv as)) [] w Q) (hdg : decode (gCd k) pc = .ok (.invokestatic i, 3))
    (kk : ∀ (r0 : Option Value) (w' : hW) (H1 : Heap) (locs1 : List Loc), Q r0 w' → va_P D vwCl (aWd g w') H1 → va_S (aA g) s.heap H1 locs1 → W p l e (aRm (d + 1)) s m args below meth c H1 locs1 0 0 Qf (F0 m (pc + 3) ls ((r0.map (cv g)).toList ++ r.map (cv g)))) : W p l e (aRm (d + 1)) s m args below meth c H locs 0 0 Qf (F0 m pc ls ((as.map (cv g)).reverse ++ r.map (cv g))) := by
  obtain ⟨hx, hb, hml, hown, hts, hr, hlocks, hK, hAm⟩ := C
  obtain ⟨pp, hck⟩ := hck
  simp only [ckC, Bool.and_eq_true, decide_eq_true_eq] at hck
  obtain ⟨⟨⟨k1, k2⟩, k3⟩, k4⟩ := hck
  obtain ⟨m1, m2, m3, m4, m5, m6, m7, m8⟩ := gM_spec k2
  have cw : CallB (aRm (d + 1)) s args (gCn (gOw k)) i (gY c') (gCd c') (gML c') (gRt c') (.code (gY c') (gCd c') (gML c') (gRt c') :: TW) (aRm d) 0 0 na := callB_of na hts (TW_goodIn k2) rfl rfl rfl (by rw [m4]; exact hts _ (gI_in (gOw_lt k2))) (hts _ (gIs_in k1)) ⟨m5, m6, k4⟩ (aRm_le d m8)
  refine aCall (va_runS (As := as.map (cv g)) (rest := r.map (cv g)) ⟨hx, hb, hml, hown, hts⟩ (aMetOf ih k2 hlen hw) ⟨cw, hts _ (m2 k3)⟩ ⟨aBlind D g w _, fun U hU hW => ⟨rfl, aPreAt hP hK hD hAm hS U hU hW⟩⟩ rfl (by rw [List.length_map]; exact hna) hl.1 rfl (lv_room (by rw [catS_sum]; exact hcat)) hdg ⟨Nat.le_refl _, Nat.le_refl _⟩) hS kk
set_option maxRecDepth 100000 in
theorem aCallN {n d c' na i : Nat} {as : List Value} {r : List Value} {Q : aPost} (ih : aSd l D g n) (C : aCx p s m args meth c k D g) (hck : ∃ pp, ckC (gOw k, i, 3, c', na, pp) = true) (hP : va_P D vwCl (aWd g w) H) (hD : va_D (aA g) (aWd g w)) (hS : va_S (aA g) s.heap H locs) (hl : lvR g ls (gML k) L0) (hcat : catS r ≤ 8) (hlen : (spv as).length ≤ gML c') (hna : as.length = na) (hw : wp d n c' 0 (padL (gML c') (spv as)) [] w Q) (hdg : decode (gCd k) pc = .ok (.invokestatic i, 3))
    (kk : ∀ (r0 : Option Value) (w' : hW) (H1 : Heap) (locs1 : List Loc), Q r0 w' → va_P D vwCl (aWd g w') H1 → va_S (aA g) s.heap H1 locs1 → W p l e (aRm (d + 1)) s m args below meth c H1 locs1 0 0 Qf (F0 m (pc + 3) ls ((r0.map (cv g)).toList ++ r.map (cv g)))) : W p l e (aRm (d + 1)) s m args below meth c H locs 0 0 Qf (F0 m pc ls ((as.map (cv g)).reverse ++ r.map (cv g))) := by
  obtain ⟨hx, hb, hml, hown, hts, hr, hlocks, hK, hAm⟩ := C
  obtain ⟨pp, hck⟩ := hck
  simp only [ckC, Bool.and_eq_true, decide_eq_true_eq] at hck
  obtain ⟨⟨⟨k1, k2⟩, k3⟩, k4⟩ := hck
  obtain ⟨m1, m2, m3, m4, m5, m6, m7, m8⟩ := gM_spec k2
  have cw : va_CN (aRm (d + 1)) s args (gCn (gOw k)) i (gY c') RX7 (gCd c') (gML c') (gRt c') (.code (gY c') (gCd c') (gML c') (gRt c') :: TW) (aRm d) 0 0 na := va_cnB na hts (TW_goodIn k2) rfl rfl rfl (hAm.2 _ (List.mem_of_getElem? k1)) (by rw [m4]; exact hts _ (gI_in (gOw_lt k2))) ⟨m5, m6, k4⟩ (aRm_le d m8)
  refine aCall (va_runSN (As := as.map (cv g)) (rest := r.map (cv g)) ⟨hx, hb, hml, hown, hts⟩ (aMetOf ih k2 hlen hw) ⟨cw, hts _ (m2 k3), trivial⟩ ⟨aBlind D g w _, fun U hU hW => ⟨rfl, aPreAt hP hK hD hAm hS U hU hW⟩⟩ rfl (by rw [List.length_map]; exact hna) hl.1 rfl (lv_room (by rw [catS_sum]; exact hcat)) hdg ⟨Nat.le_refl _, Nat.le_refl _⟩) hS kk
def aGv (g : aG) (w : hW) (q : Nat) : Nat ⊕ Nat → Value
  | .inl j => .int (w.1 q j)
  | .inr r => .ref (g.1 r)
theorem aGet {i q : Nat} {v : Nat ⊕ Nat} (C : aCx p s m args meth c k D g) (h : gGet (gOw k) i q = some v) (hP : va_P D vwCl (aWd g w) H) (hdg : decode (gCd k) pc = .ok (.getfield i, 3)) (kk : W p l e R s m args below meth c H locs 0 0 Qf (F0 m (pc + 3) ls (aGv g w q v :: rest))) : W p l e R s m args below meth c H locs 0 0 Qf (F0 m pc ls (.ref (g.1 q) :: rest)) := by
  obtain ⟨hx, hb, hml, hown, hts, hr, hlocks, hK, hAm⟩ := C
  obtain ⟨ci, j, z, pp, lf, h1, h2, h3⟩ := gGet_spec h
  obtain ⟨⟨h4, h5⟩, h6⟩ := ckF_spec h1
  have he := aWd_at g w h2
  have hv : (aFs g.1 (w.1 q) lf 0)[j]? = some (aGv g w q v) := by
    rw [aFs_get, Nat.zero_add]
    rcases h3 with ⟨a1, rfl⟩ | ⟨r, a1, rfl⟩ <;> (rw [a1]; rfl)
  rcases h6 with h6 | h6
  · exact va_get hx hb hts (TW_fld h4) hown hK hP q he (vwCl_at h4) j h5 (hts _ h6) (fun _ h => h) hv hdg kk
  · exact va_getN hx hb hts (TW_fld h4) hown hK hP q he (vwCl_at h4) j h5 ((hAm.2 _ h6).use rfl) (fun _ h => h) hv hdg kk
theorem aFs_set (a : Nat → Nat) (f : Nat → Int32) (l : List (Option Nat)) {j : Nat} (x : Int32) (h : l[j]? = some none) : aFs a (fun i => if i = j then x else f i) l 0 = (aFs a f l 0).set j (.int x) := by
  apply List.ext_getElem?
  intro i
  rw [List.getElem?_set, aFs_get, aFs_get, Nat.zero_add]
  have hl : j < (aFs a f l 0).length := by rw [aFs_len]; exact (List.getElem?_eq_some_iff.mp h).1
  by_cases hij : j = i
  · subst hij
    rw [if_pos rfl, if_pos hl, h]
    simp [aFv]
  · rw [if_neg hij]
    rcases hq : l[i]? with _ | _ | r
    · rfl
    · simp [aFv, Ne.symm hij]
    · rfl
theorem wI_cell {q j : Nat} {x : Int32} {w : hW} {ci : Nat} {l : List (Option Nat)} (h : l[j]? = some none) : aCell g (wI w q j x) q (0, ci, l) = .inr (ci, (aFs g.1 (w.1 q) l 0).set j (.int x)) := by
  show (Sum.inr (ci, aFs g.1 ((wI w q j x).1 q) l 0) : va_E) = _
  rw [show (wI w q j x).1 q = fun i => if i = j then x else w.1 q i from funext fun i => by simp [wI], aFs_set _ _ _ _ h]
theorem wI_ne (w : hW) (q j : Nat) (x : Int32) : ∀ r, r ≠ q → (wI w q j x).1 r = w.1 r ∧ (wI w q j x).2 r = w.2 r := fun r hr => ⟨funext fun i => by simp [wI, hr], rfl⟩
theorem wJ_ne (w : hW) (q j : Nat) (x : Int64) : ∀ r, r ≠ q → (wJ w q j x).1 r = w.1 r ∧ (wJ w q j x).2 r = w.2 r := fun r hr => ⟨rfl, funext fun i => by simp [wJ, hr]⟩
theorem aPut {i q : Nat} {v : Nat × Bool} {x : Int32} (C : aCx p s m args meth c k D g) (h : gPut (gOw k) i q = some v) (hx2 : v.2 = false ∨ x = 0 ∨ x = 1) (hP : va_P D vwCl (aWd g w) H) (hD : va_D (aA g) (aWd g w)) (hS : va_S (aA g) s.heap H locs) (hdg : decode (gCd k) pc = .ok (.putfield i, 3)) (kk : ∀ (H1 : Heap) (locs1 : List Loc), va_P D vwCl (aWd g (wI w q v.1 x)) H1 → va_S (aA g) s.heap H1 locs1 → W p l e R s m args below meth c H1 locs1 0 0 Qf (F0 m (pc + 3) ls rest)) : W p l e R s m args below meth c H locs 0 0 Qf (F0 m pc ls (.int x :: .ref (g.1 q) :: rest)) := by
  obtain ⟨hx, hb, hml, hown, hts, hr, hlocks, hK, hAm⟩ := C
  obtain ⟨ci, z, pp, lf, h1, h2, h3, h7, h8⟩ := gPut_spec h
  obtain ⟨⟨h4, h5⟩, h6⟩ := ckF_spec h1
  have he := aWd_at g w h2
  have hlt : v.1 < (aFs g.1 (w.1 q) lf 0).length := by rw [aFs_len]; exact (List.getElem?_eq_some_iff.mp h3).1
  have hfin : ∀ H1 : Heap, va_P D vwCl ((aWd g w).set q (g.1 q, .inr (ci, (aFs g.1 (w.1 q) lf 0).set v.1 (.int x)))) H1 → va_P D vwCl (aWd g (wI w q v.1 x)) H1 := fun H1 h9 => by
    rw [aWd_set g h2 (wI_cell h3) (wI_ne w q v.1 x)] at h9
    exact h9
  have hty : ∃ ty : FieldType, parseFieldDescriptor (gT ci v.1).2.2.1 = some ty ∧ narrow ty (.int x) = .int x ∧ fits ty (.int x) = true := by
    rcases h8 with ⟨a1, a2⟩ | ⟨a1, a2⟩
    · exact ⟨.int, by rw [a2]; decide +kernel, rfl, rfl⟩
    · refine ⟨.boolean, by rw [a2]; decide +kernel, ?_⟩
      rcases hx2 with a3 | rfl | rfl
      · rw [a1] at a3; cases a3
      · exact ⟨rfl, rfl⟩
      · exact ⟨rfl, rfl⟩
  obtain ⟨ty, t1, t2, t3⟩ := hty
  rcases h6 with h6 | h6
  · exact va_put hx hb hts (TW_fld h4) (gTy ci) (gTyOk h4) (gNm h4) hown hK hP hD hS q he (vwCl_at h4) v.1 h5 (hts _ h6) (fun _ h => h) h7 t1 t2 t3 hlt hdg (fun H1 locs1 b1 b2 b3 => kk H1 locs1 (hfin H1 b1) b3)
  · exact va_putN hx hb hts (TW_fld h4) (gTy ci) (gTyOk h4) (gNm h4) hown hK hP hD hS q he (vwCl_at h4) v.1 h5 ((hAm.2 _ h6).use rfl) (fun _ h => h) h7 t1 t2 t3 hlt hdg (fun H1 locs1 b1 b2 b3 => kk H1 locs1 (hfin H1 b1) b3)
theorem aStat {i q : Nat} (C : aCx p s m args meth c k D g) (h : gStat (gOw k) i = some q) (hS : va_S (aA g) s.heap H locs) (hdg : decode (gCd k) pc = .ok (.getstatic i, 3)) (kk : W p l e R s m args below meth c H locs 0 0 Qf (F0 m (pc + 3) ls (.ref (g.1 q) :: rest))) : W p l e R s m args below meth c H locs 0 0 Qf (F0 m pc ls rest) := by
  obtain ⟨hx, hb, hml, hown, hts, hr, hlocks, hK, hAm⟩ := C
  obtain ⟨z, pp, h1⟩ := gStat_spec h
  obtain ⟨h2, h3⟩ := ckS_spec h1
  rcases h3 with h3 | h3
  · exact va_gets hx hb (hAm.1.1 q h2).1 hS hown (hts _ h3) (fun _ h => h) hdg kk
  · exact va_getsN hx hb (hAm.1.1 q h2).1 hS hown ((hAm.2 _ h3).use rfl) (fun _ h => h) hdg kk
end SND

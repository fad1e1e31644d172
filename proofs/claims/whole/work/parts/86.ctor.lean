/-! THE CONSTRUCTORS of the small classes: contracts by the kit's rows (printed by gen85.py) -/
set_option maxHeartbeats 4000000 in
set_option maxRecDepth 100000 in
theorem kX5_init (l : Launch) (D : va_G) (cI cJ cJJ : ClassId) (h0 sz : Nat) (x y : Int32) : Met l yX5_init (.code yX5_init cX5_init 3 none :: TW) ({ frames := 2, cells := 1, slots := 48, locals := 40 }) (va_Pc [.ref h0, .int x, .int y] (fun U => U.heap.size = sz ∧ va_P D vwCl [(h0, .inr (5, [.null, .int 0, .int 0, .int 0]))] U.heap ∧ va_K D vwCl [(cI, .int), (cJ, .long), (cJJ, .array .long)] U ∧ va_D (fun _ => True) [(h0, .inr (5, [.null, .int 0, .int 0, .int 0]))])) (va_Qv (fun _ : Unit => True) (fun _ t => ∃ (q7 : Nat), va_P D vwCl [(h0, .inr (5, [.ref q7, .int x, .int y, .int 0])), (q7, .inl (cI, 48, .inl (fun _ => 0)))] t.heap ∧ va_K D vwCl [(cI, .int), (cJ, .long), (cJJ, .array .long)] t ∧ va_D (va_A [(h0, .inr (5, [.null, .int 0, .int 0, .int 0]))] sz) [(h0, .inr (5, [.ref q7, .int x, .int y, .int 0])), (q7, .inl (cI, 48, .inl (fun _ => 0)))]) (va_A [(h0, .inr (5, [.null, .int 0, .int 0, .int 0]))] sz)) 1 48 (va_A [(h0, .inr (5, [.null, .int 0, .int 0, .int 0]))] sz) := by
  refine Met.ofW (cc := cX5_init) (maxL := 3) (ret := none) (by decide) rfl ?_
  intro p e s m args below meth c s₁ B hml hv
  obtain ⟨rfl, hsz, hP, hK, hD0⟩ := hv
  have hx := B.exec
  have hb := B.bytes
  have hr := B.returns
  have hts := atoms_spec (ws := .code yX5_init cX5_init 3 none :: TW) B.pre
  have hT : ∀ w ∈ TW, w.before _ s = true := fun w h => hts w (List.mem_cons_of_mem _ h)
  have hown : s.vm.findClass RX5 = some m.cls := findClass_of_methodNamed B.named
  have hlocks := B.notSynchronized
  have hin : meth.name = "<init>" := (name_of_methodNamed B.named B.method).1
  subst hsz
  have hD := hD0.self (sz := s.heap.size)
  generalize hAe : va_A [(h0, .inr (5, [.null, .int 0, .int 0, .int 0]))] s.heap.size = A at hD ⊢
  have hA : ∀ q : Nat, s.heap.size ≤ q → A q := fun q h => by rw [← hAe]; exact Or.inr h
  have hS : va_S A s.heap s.heap [] := va_S.rf
  have hP : va_P D vwCl [(h0, .inr (5, [.null, .int 0, .int 0, .int 0]))] s.heap := hP
  have hl := lv_entry ([.ref h0, .int x, .int y]) (n := 3) (Nat.le_of_ble_eq_true rfl)
  rw [lg_entry_eq]
  generalize (lg_sl ([.ref h0, .int x, .int y]) ++ List.replicate (3 - (lg_sl ([.ref h0, .int x, .int y])).length) Slot.unset).toArray = ls at hl ⊢
  have hl : lv_has ls 3 [(0, .ref h0), (1, .int x), (2, .int y)] := hl
  refine lv_aload_n hx hb dX5_init_0 rfl (lv_at hl 0 rfl) ?_
  refine W.objInit hx hb hown (hT (.methodLink RX5 3 objectInit) (gIs_in (i := 116) (by decide +kernel))) (hT (.instanceMethod objectInit) (gIs_in (i := 103) (by decide +kernel))) (hT (.code objectInit ⟨#[0xb1]⟩ 1 none) (gIs_in (i := 104) (by decide +kernel))) rfl (by rw [hml]; exact hl.1) rfl dX5_init_1 (Nat.le_of_ble_eq_true rfl) (Nat.le_of_ble_eq_true rfl) ?_
  refine W.eq (g2 := F0 m 4 ls []) rfl ?_
  refine lv_aload_n hx hb dX5_init_4 rfl (lv_at hl 0 rfl) ?_
  refine lv_bipush (v := 48) hx hb dX5_init_5 (by decide) ?_
  refine nw_I (n := 48) (N' := 48) hx hb (hT (.arrayClass .int) (gIs_in (i := 134) (by decide +kernel))) hK hP hD hS hA (by decide) rfl (Nat.le_of_ble_eq_true rfl) (Nat.le_of_ble_eq_true rfl) (Nat.le_of_ble_eq_true rfl) dX5_init_7 (fun q7 H hP hD hS => ?_)
  have hP : va_P D vwCl [(h0, .inr (5, [.null, .int 0, .int 0, .int 0])), (q7, .inl (cI, 48, .inl (fun _ => 0)))] H := hP
  have hD : va_D A [(h0, .inr (5, [.null, .int 0, .int 0, .int 0])), (q7, .inl (cI, 48, .inl (fun _ => 0)))] := hD
  refine W.widen (k := 1) (n := 48) (by omega) (by omega) ?_
  refine va_putF (D := D) (ci := 5) (v := .ref q7) (ty := .array .int) (C := RX5) (T := TX5) (N := 4) hx hb hT TW_X5 tyX5 tyX5_ok nmX5 hown hK hP hD hS 0 rfl rfl 0 (by decide) (hT (.fieldLink RX5 9 "NoFartherThanAThrow$Table" "cells" "[I") (gIs_in (i := 117) (by decide +kernel))) (fun _ h9 => h9) rfl hin rfl (by decide +kernel) rfl rfl (Nat.le_of_ble_eq_true rfl) dX5_init_9 (fun H locs hP hD hS => ?_)
  have hP : va_P D vwCl [(h0, .inr (5, [.ref q7, .int 0, .int 0, .int 0])), (q7, .inl (cI, 48, .inl (fun _ => 0)))] H := hP
  have hD : va_D A [(h0, .inr (5, [.ref q7, .int 0, .int 0, .int 0])), (q7, .inl (cI, 48, .inl (fun _ => 0)))] := hD
  refine lv_aload_n hx hb dX5_init_12 rfl (lv_at hl 0 rfl) ?_
  refine lv_iload_n hx hb dX5_init_13 rfl (lv_at hl 1 rfl) ?_
  refine va_putF (D := D) (ci := 5) (v := .int x) (ty := .int) (C := RX5) (T := TX5) (N := 4) hx hb hT TW_X5 tyX5 tyX5_ok nmX5 hown hK hP hD hS 0 rfl rfl 1 (by decide) (hT (.fieldLink RX5 15 "NoFartherThanAThrow$Table" "room" "I") (gIs_in (i := 118) (by decide +kernel))) (fun _ h9 => h9) rfl hin rfl (by decide +kernel) rfl rfl (Nat.le_of_ble_eq_true rfl) dX5_init_14 (fun H locs hP hD hS => ?_)
  have hP : va_P D vwCl [(h0, .inr (5, [.ref q7, .int x, .int 0, .int 0])), (q7, .inl (cI, 48, .inl (fun _ => 0)))] H := hP
  have hD : va_D A [(h0, .inr (5, [.ref q7, .int x, .int 0, .int 0])), (q7, .inl (cI, 48, .inl (fun _ => 0)))] := hD
  refine lv_aload_n hx hb dX5_init_17 rfl (lv_at hl 0 rfl) ?_
  refine lv_iload_n hx hb dX5_init_18 rfl (lv_at hl 2 rfl) ?_
  refine va_putF (D := D) (ci := 5) (v := .int y) (ty := .int) (C := RX5) (T := TX5) (N := 4) hx hb hT TW_X5 tyX5 tyX5_ok nmX5 hown hK hP hD hS 0 rfl rfl 2 (by decide) (hT (.fieldLink RX5 19 "NoFartherThanAThrow$Table" "width" "I") (gIs_in (i := 119) (by decide +kernel))) (fun _ h9 => h9) rfl hin rfl (by decide +kernel) rfl rfl (Nat.le_of_ble_eq_true rfl) dX5_init_19 (fun H locs hP hD hS => ?_)
  have hP : va_P D vwCl [(h0, .inr (5, [.ref q7, .int x, .int y, .int 0])), (q7, .inl (cI, 48, .inl (fun _ => 0)))] H := hP
  have hD : va_D A [(h0, .inr (5, [.ref q7, .int x, .int y, .int 0])), (q7, .inl (cI, 48, .inl (fun _ => 0)))] := hD
  exact W.vret hx hb hr (fun t ht hW => ⟨⟨(), rfl, trivial, q7, by rw [ht]; exact hP, va_K.moved hW.alike hK, hD⟩, hS.F ht⟩) hS.2.2 dX5_init_22
set_option maxHeartbeats 4000000 in
set_option maxRecDepth 100000 in
theorem kX6_init (l : Launch) (D : va_G) (cI cJ cJJ : ClassId) (h0 sz : Nat)  : Met l yX6_init (.code yX6_init cX6_init 1 none :: TW) ({ frames := 4, cells := 6, slots := 156, locals := 120 }) (va_Pc [.ref h0] (fun U => U.heap.size = sz ∧ va_P D vwCl [(h0, .inr (6, [.null, .null, .null, .int 0, .int 0, .int 0, .int 0, .int 0, .int 0]))] U.heap ∧ va_K D vwCl [(cI, .int), (cJ, .long), (cJJ, .array .long)] U ∧ va_D (fun _ => True) [(h0, .inr (6, [.null, .null, .null, .int 0, .int 0, .int 0, .int 0, .int 0, .int 0]))])) (va_Qv (fun _ : Unit => True) (fun _ t => ∃ (q5 q13_0 q20 q27_0 q34 q40_0 : Nat), va_P D vwCl [(h0, .inr (6, [.ref q5, .ref q20, .ref q34, .int 60, .int 0, .int 0, .int 0, .int 1, .int 0])), (q5, .inr (5, [.ref q13_0, .int 8, .int 6, .int 0])), (q13_0, .inl (cI, 48, .inl (fun _ => 0))), (q20, .inr (5, [.ref q27_0, .int 8, .int 2, .int 0])), (q27_0, .inl (cI, 48, .inl (fun _ => 0))), (q34, .inr (5, [.ref q40_0, .int 4, .int 3, .int 0])), (q40_0, .inl (cI, 48, .inl (fun _ => 0)))] t.heap ∧ va_K D vwCl [(cI, .int), (cJ, .long), (cJJ, .array .long)] t ∧ va_D (va_A [(h0, .inr (6, [.null, .null, .null, .int 0, .int 0, .int 0, .int 0, .int 0, .int 0]))] sz) [(h0, .inr (6, [.ref q5, .ref q20, .ref q34, .int 60, .int 0, .int 0, .int 0, .int 1, .int 0])), (q5, .inr (5, [.ref q13_0, .int 8, .int 6, .int 0])), (q13_0, .inl (cI, 48, .inl (fun _ => 0))), (q20, .inr (5, [.ref q27_0, .int 8, .int 2, .int 0])), (q27_0, .inl (cI, 48, .inl (fun _ => 0))), (q34, .inr (5, [.ref q40_0, .int 4, .int 3, .int 0])), (q40_0, .inl (cI, 48, .inl (fun _ => 0)))]) (va_A [(h0, .inr (6, [.null, .null, .null, .int 0, .int 0, .int 0, .int 0, .int 0, .int 0]))] sz)) 6 156 (va_A [(h0, .inr (6, [.null, .null, .null, .int 0, .int 0, .int 0, .int 0, .int 0, .int 0]))] sz) := by
  refine Met.ofW (cc := cX6_init) (maxL := 1) (ret := none) (by decide) rfl ?_
  intro p e s m args below meth c s₁ B hml hv
  obtain ⟨rfl, hsz, hP, hK, hD0⟩ := hv
  have hx := B.exec
  have hb := B.bytes
  have hr := B.returns
  have hts := atoms_spec (ws := .code yX6_init cX6_init 1 none :: TW) B.pre
  have hT : ∀ w ∈ TW, w.before _ s = true := fun w h => hts w (List.mem_cons_of_mem _ h)
  have hown : s.vm.findClass RX6 = some m.cls := findClass_of_methodNamed B.named
  have hlocks := B.notSynchronized
  have hin : meth.name = "<init>" := (name_of_methodNamed B.named B.method).1
  subst hsz
  have hD := hD0.self (sz := s.heap.size)
  generalize hAe : va_A [(h0, .inr (6, [.null, .null, .null, .int 0, .int 0, .int 0, .int 0, .int 0, .int 0]))] s.heap.size = A at hD ⊢
  have hA : ∀ q : Nat, s.heap.size ≤ q → A q := fun q h => by rw [← hAe]; exact Or.inr h
  have hS : va_S A s.heap s.heap [] := va_S.rf
  have hP : va_P D vwCl [(h0, .inr (6, [.null, .null, .null, .int 0, .int 0, .int 0, .int 0, .int 0, .int 0]))] s.heap := hP
  have hl := lv_entry ([.ref h0]) (n := 1) (Nat.le_of_ble_eq_true rfl)
  rw [lg_entry_eq]
  generalize (lg_sl ([.ref h0]) ++ List.replicate (1 - (lg_sl ([.ref h0])).length) Slot.unset).toArray = ls at hl ⊢
  have hl : lv_has ls 1 [(0, .ref h0)] := hl
  refine lv_aload_n hx hb dX6_init_0 rfl (lv_at hl 0 rfl) ?_
  refine W.objInit hx hb hown (hT (.methodLink RX6 3 objectInit) (gIs_in (i := 110) (by decide +kernel))) (hT (.instanceMethod objectInit) (gIs_in (i := 103) (by decide +kernel))) (hT (.code objectInit ⟨#[0xb1]⟩ 1 none) (gIs_in (i := 104) (by decide +kernel))) rfl (by rw [hml]; exact hl.1) rfl dX6_init_1 (Nat.le_of_ble_eq_true rfl) (Nat.le_of_ble_eq_true rfl) ?_
  refine W.eq (g2 := F0 m 4 ls []) rfl ?_
  refine lv_aload_n hx hb dX6_init_4 rfl (lv_at hl 0 rfl) ?_
  refine va_new (ci := 5) (fs := [.null, .int 0, .int 0, .int 0]) (C := RX5) (T := TX5) (N := 4) hx hb hT TW_X5 tyX5 tyX5_ok hown (hT (.classLink RX6 9 RX5) (gIs_in (i := 111) (by decide +kernel))) (hT (.instantiable RX5 4) (gIs_in (i := 112) (by decide +kernel))) (hT (.initialized RX5) (gIs_in (i := 83) (by decide +kernel))) hK hP hD hS hA rfl (fun j hj => by rcases (show j = 0 ∨ j = 1 ∨ j = 2 ∨ j = 3 by omega) with rfl | rfl | rfl | rfl <;> rfl) (Nat.le_of_ble_eq_true rfl) (Nat.le_of_ble_eq_true rfl) dX6_init_5 (fun q5 H hP hD hS => ?_)
  have hP : va_P D vwCl [(h0, .inr (6, [.null, .null, .null, .int 0, .int 0, .int 0, .int 0, .int 0, .int 0])), (q5, .inr (5, [.null, .int 0, .int 0, .int 0]))] H := hP
  have hD : va_D A [(h0, .inr (6, [.null, .null, .null, .int 0, .int 0, .int 0, .int 0, .int 0, .int 0])), (q5, .inr (5, [.null, .int 0, .int 0, .int 0]))] := hD
  refine W.widen (k := 1) (n := 4) (by omega) (by omega) ?_
  refine lv_dup hx hb dX6_init_8 rfl ?_
  refine lv_bipush (v := 8) hx hb dX6_init_9 (by decide) ?_
  refine lv_bipush (v := 6) hx hb dX6_init_11 (by decide) ?_
  have hPc := hP.sub (ws' := [(q5, .inr (5, [.null, .int 0, .int 0, .int 0]))]) [1] rfl
  have hDc := hD.sub (ws' := [(q5, .inr (5, [.null, .int 0, .int 0, .int 0]))]) [1] (by decide) rfl
  have hFc := va_free (wc := [(q5, .inr (5, [.null, .int 0, .int 0, .int 0]))]) hD hS hA [1] rfl
  refine va_callv (va_runI (As := [.int 8, .int 6]) (rest := [.ref q5, .ref h0]) ⟨hx, hb, hml, hown, hT⟩ (kX5_init l D cI cJ cJJ q5 H.size (8) (6)) (cwI 2 hT (TJ_goodIn (gIs_in (i := 115) (by decide +kernel))) rfl rfl rfl (hT (.initialized RX5) (gIs_in (i := 83) (by decide +kernel))) (hT (.methodLink RX6 11 yX5_init) (gIs_in (i := 113) (by decide +kernel))) (hT (.instanceMethod yX5_init) (gIs_in (i := 114) (by decide +kernel))) rfl (by decide +kernel) ⟨Nat.le_of_ble_eq_true rfl, Nat.le_of_ble_eq_true rfl⟩) ⟨fun a U g mk q => by obtain ⟨q0, q1, qP, qK, qD⟩ := q; exact ⟨q0, q1, qP, va_K.moved (u := U) (U := U.calling g mk a) (Vm.Alike.refl U.vm) qK, qD⟩, fun U hU hW => ⟨rfl, by rw [hU], by rw [hU]; exact hPc, va_K.moved hW.alike hK, hDc.weaken (fun _ _ _ _ => trivial)⟩⟩ rfl rfl hl.1 rfl (lv_room (Nat.le_of_ble_eq_true rfl)) dX6_init_13 ⟨Nat.le_of_ble_eq_true rfl, Nat.le_of_ble_eq_true rfl⟩) hS (fun q _ h => hFc q h) hFc (fun u t H1 locs ht hvm hw hB hz1 hk1 hS => ?_)
  obtain ⟨q13_0, hP1, hK1, hD1⟩ := hB
  rw [ht] at hP1
  obtain ⟨hP, hD⟩ := va_join (wr := [(h0, .inr (6, [.null, .null, .null, .int 0, .int 0, .int 0, .int 0, .int 0, .int 0]))]) (w1 := [(q5, .inr (5, [.ref q13_0, .int 8, .int 6, .int 0])), (q13_0, .inl (cI, 48, .inl (fun _ => 0)))]) hP hD [1] [0] rfl rfl (by decide) (by decide) hk1 hFc hP1 hD1
  generalize H1 = H at hP hS ⊢
  have hP : va_P D vwCl [(h0, .inr (6, [.null, .null, .null, .int 0, .int 0, .int 0, .int 0, .int 0, .int 0])), (q5, .inr (5, [.ref q13_0, .int 8, .int 6, .int 0])), (q13_0, .inl (cI, 48, .inl (fun _ => 0)))] H := hP
  have hD : va_D A [(h0, .inr (6, [.null, .null, .null, .int 0, .int 0, .int 0, .int 0, .int 0, .int 0])), (q5, .inr (5, [.ref q13_0, .int 8, .int 6, .int 0])), (q13_0, .inl (cI, 48, .inl (fun _ => 0)))] := hD
  refine W.widen (k := 2) (n := 52) (by omega) (by omega) ?_
  refine va_putF (D := D) (ci := 6) (v := .ref q5) (ty := .object "NoFartherThanAThrow$Table") (C := RX6) (T := TX6) (N := 9) hx hb hT TW_X6 tyX6 tyX6_ok nmX6 hown hK hP hD hS 0 rfl rfl 0 (by decide) (hT (.fieldLink RX6 14 "NoFartherThanAThrow$Valley" "things" "LNoFartherThanAThrow$Table;") (gIs_in (i := 135) (by decide +kernel))) (fun _ h9 => h9) rfl hin rfl (by decide +kernel) rfl rfl (Nat.le_of_ble_eq_true rfl) dX6_init_16 (fun H locs hP hD hS => ?_)
  have hP : va_P D vwCl [(h0, .inr (6, [.ref q5, .null, .null, .int 0, .int 0, .int 0, .int 0, .int 0, .int 0])), (q5, .inr (5, [.ref q13_0, .int 8, .int 6, .int 0])), (q13_0, .inl (cI, 48, .inl (fun _ => 0)))] H := hP
  have hD : va_D A [(h0, .inr (6, [.ref q5, .null, .null, .int 0, .int 0, .int 0, .int 0, .int 0, .int 0])), (q5, .inr (5, [.ref q13_0, .int 8, .int 6, .int 0])), (q13_0, .inl (cI, 48, .inl (fun _ => 0)))] := hD
  refine lv_aload_n hx hb dX6_init_19 rfl (lv_at hl 0 rfl) ?_
  refine va_new (ci := 5) (fs := [.null, .int 0, .int 0, .int 0]) (C := RX5) (T := TX5) (N := 4) hx hb hT TW_X5 tyX5 tyX5_ok hown (hT (.classLink RX6 9 RX5) (gIs_in (i := 111) (by decide +kernel))) (hT (.instantiable RX5 4) (gIs_in (i := 112) (by decide +kernel))) (hT (.initialized RX5) (gIs_in (i := 83) (by decide +kernel))) hK hP hD hS hA rfl (fun j hj => by rcases (show j = 0 ∨ j = 1 ∨ j = 2 ∨ j = 3 by omega) with rfl | rfl | rfl | rfl <;> rfl) (Nat.le_of_ble_eq_true rfl) (Nat.le_of_ble_eq_true rfl) dX6_init_20 (fun q20 H hP hD hS => ?_)
  have hP : va_P D vwCl [(h0, .inr (6, [.ref q5, .null, .null, .int 0, .int 0, .int 0, .int 0, .int 0, .int 0])), (q5, .inr (5, [.ref q13_0, .int 8, .int 6, .int 0])), (q13_0, .inl (cI, 48, .inl (fun _ => 0))), (q20, .inr (5, [.null, .int 0, .int 0, .int 0]))] H := hP
  have hD : va_D A [(h0, .inr (6, [.ref q5, .null, .null, .int 0, .int 0, .int 0, .int 0, .int 0, .int 0])), (q5, .inr (5, [.ref q13_0, .int 8, .int 6, .int 0])), (q13_0, .inl (cI, 48, .inl (fun _ => 0))), (q20, .inr (5, [.null, .int 0, .int 0, .int 0]))] := hD
  refine W.widen (k := 3) (n := 56) (by omega) (by omega) ?_
  refine lv_dup hx hb dX6_init_23 rfl ?_
  refine lv_bipush (v := 8) hx hb dX6_init_24 (by decide) ?_
  refine lv_iconst (v := 2) hx hb dX6_init_26 (by decide) ?_
  have hPc := hP.sub (ws' := [(q20, .inr (5, [.null, .int 0, .int 0, .int 0]))]) [3] rfl
  have hDc := hD.sub (ws' := [(q20, .inr (5, [.null, .int 0, .int 0, .int 0]))]) [3] (by decide) rfl
  have hFc := va_free (wc := [(q20, .inr (5, [.null, .int 0, .int 0, .int 0]))]) hD hS hA [3] rfl
  refine va_callv (va_runI (As := [.int 8, .int 2]) (rest := [.ref q20, .ref h0]) ⟨hx, hb, hml, hown, hT⟩ (kX5_init l D cI cJ cJJ q20 H.size (8) (2)) (cwI 2 hT (TJ_goodIn (gIs_in (i := 115) (by decide +kernel))) rfl rfl rfl (hT (.initialized RX5) (gIs_in (i := 83) (by decide +kernel))) (hT (.methodLink RX6 11 yX5_init) (gIs_in (i := 113) (by decide +kernel))) (hT (.instanceMethod yX5_init) (gIs_in (i := 114) (by decide +kernel))) rfl (by decide +kernel) ⟨Nat.le_of_ble_eq_true rfl, Nat.le_of_ble_eq_true rfl⟩) ⟨fun a U g mk q => by obtain ⟨q0, q1, qP, qK, qD⟩ := q; exact ⟨q0, q1, qP, va_K.moved (u := U) (U := U.calling g mk a) (Vm.Alike.refl U.vm) qK, qD⟩, fun U hU hW => ⟨rfl, by rw [hU], by rw [hU]; exact hPc, va_K.moved hW.alike hK, hDc.weaken (fun _ _ _ _ => trivial)⟩⟩ rfl rfl hl.1 rfl (lv_room (Nat.le_of_ble_eq_true rfl)) dX6_init_27 ⟨Nat.le_of_ble_eq_true rfl, Nat.le_of_ble_eq_true rfl⟩) hS (fun q _ h => hFc q h) hFc (fun u t H1 locs ht hvm hw hB hz1 hk1 hS => ?_)
  obtain ⟨q27_0, hP1, hK1, hD1⟩ := hB
  rw [ht] at hP1
  obtain ⟨hP, hD⟩ := va_join (wr := [(h0, .inr (6, [.ref q5, .null, .null, .int 0, .int 0, .int 0, .int 0, .int 0, .int 0])), (q5, .inr (5, [.ref q13_0, .int 8, .int 6, .int 0])), (q13_0, .inl (cI, 48, .inl (fun _ => 0)))]) (w1 := [(q20, .inr (5, [.ref q27_0, .int 8, .int 2, .int 0])), (q27_0, .inl (cI, 48, .inl (fun _ => 0)))]) hP hD [3] [0, 1, 2] rfl rfl (by decide) (by decide) hk1 hFc hP1 hD1
  generalize H1 = H at hP hS ⊢
  have hP : va_P D vwCl [(h0, .inr (6, [.ref q5, .null, .null, .int 0, .int 0, .int 0, .int 0, .int 0, .int 0])), (q5, .inr (5, [.ref q13_0, .int 8, .int 6, .int 0])), (q13_0, .inl (cI, 48, .inl (fun _ => 0))), (q20, .inr (5, [.ref q27_0, .int 8, .int 2, .int 0])), (q27_0, .inl (cI, 48, .inl (fun _ => 0)))] H := hP
  have hD : va_D A [(h0, .inr (6, [.ref q5, .null, .null, .int 0, .int 0, .int 0, .int 0, .int 0, .int 0])), (q5, .inr (5, [.ref q13_0, .int 8, .int 6, .int 0])), (q13_0, .inl (cI, 48, .inl (fun _ => 0))), (q20, .inr (5, [.ref q27_0, .int 8, .int 2, .int 0])), (q27_0, .inl (cI, 48, .inl (fun _ => 0)))] := hD
  refine W.widen (k := 4) (n := 104) (by omega) (by omega) ?_
  refine va_putF (D := D) (ci := 6) (v := .ref q20) (ty := .object "NoFartherThanAThrow$Table") (C := RX6) (T := TX6) (N := 9) hx hb hT TW_X6 tyX6 tyX6_ok nmX6 hown hK hP hD hS 0 rfl rfl 1 (by decide) (hT (.fieldLink RX6 20 "NoFartherThanAThrow$Valley" "people" "LNoFartherThanAThrow$Table;") (gIs_in (i := 139) (by decide +kernel))) (fun _ h9 => h9) rfl hin rfl (by decide +kernel) rfl rfl (Nat.le_of_ble_eq_true rfl) dX6_init_30 (fun H locs hP hD hS => ?_)
  have hP : va_P D vwCl [(h0, .inr (6, [.ref q5, .ref q20, .null, .int 0, .int 0, .int 0, .int 0, .int 0, .int 0])), (q5, .inr (5, [.ref q13_0, .int 8, .int 6, .int 0])), (q13_0, .inl (cI, 48, .inl (fun _ => 0))), (q20, .inr (5, [.ref q27_0, .int 8, .int 2, .int 0])), (q27_0, .inl (cI, 48, .inl (fun _ => 0)))] H := hP
  have hD : va_D A [(h0, .inr (6, [.ref q5, .ref q20, .null, .int 0, .int 0, .int 0, .int 0, .int 0, .int 0])), (q5, .inr (5, [.ref q13_0, .int 8, .int 6, .int 0])), (q13_0, .inl (cI, 48, .inl (fun _ => 0))), (q20, .inr (5, [.ref q27_0, .int 8, .int 2, .int 0])), (q27_0, .inl (cI, 48, .inl (fun _ => 0)))] := hD
  refine lv_aload_n hx hb dX6_init_33 rfl (lv_at hl 0 rfl) ?_
  refine va_new (ci := 5) (fs := [.null, .int 0, .int 0, .int 0]) (C := RX5) (T := TX5) (N := 4) hx hb hT TW_X5 tyX5 tyX5_ok hown (hT (.classLink RX6 9 RX5) (gIs_in (i := 111) (by decide +kernel))) (hT (.instantiable RX5 4) (gIs_in (i := 112) (by decide +kernel))) (hT (.initialized RX5) (gIs_in (i := 83) (by decide +kernel))) hK hP hD hS hA rfl (fun j hj => by rcases (show j = 0 ∨ j = 1 ∨ j = 2 ∨ j = 3 by omega) with rfl | rfl | rfl | rfl <;> rfl) (Nat.le_of_ble_eq_true rfl) (Nat.le_of_ble_eq_true rfl) dX6_init_34 (fun q34 H hP hD hS => ?_)
  have hP : va_P D vwCl [(h0, .inr (6, [.ref q5, .ref q20, .null, .int 0, .int 0, .int 0, .int 0, .int 0, .int 0])), (q5, .inr (5, [.ref q13_0, .int 8, .int 6, .int 0])), (q13_0, .inl (cI, 48, .inl (fun _ => 0))), (q20, .inr (5, [.ref q27_0, .int 8, .int 2, .int 0])), (q27_0, .inl (cI, 48, .inl (fun _ => 0))), (q34, .inr (5, [.null, .int 0, .int 0, .int 0]))] H := hP
  have hD : va_D A [(h0, .inr (6, [.ref q5, .ref q20, .null, .int 0, .int 0, .int 0, .int 0, .int 0, .int 0])), (q5, .inr (5, [.ref q13_0, .int 8, .int 6, .int 0])), (q13_0, .inl (cI, 48, .inl (fun _ => 0))), (q20, .inr (5, [.ref q27_0, .int 8, .int 2, .int 0])), (q27_0, .inl (cI, 48, .inl (fun _ => 0))), (q34, .inr (5, [.null, .int 0, .int 0, .int 0]))] := hD
  refine W.widen (k := 5) (n := 108) (by omega) (by omega) ?_
  refine lv_dup hx hb dX6_init_37 rfl ?_
  refine lv_iconst (v := 4) hx hb dX6_init_38 (by decide) ?_
  refine lv_iconst (v := 3) hx hb dX6_init_39 (by decide) ?_
  have hPc := hP.sub (ws' := [(q34, .inr (5, [.null, .int 0, .int 0, .int 0]))]) [5] rfl
  have hDc := hD.sub (ws' := [(q34, .inr (5, [.null, .int 0, .int 0, .int 0]))]) [5] (by decide) rfl
  have hFc := va_free (wc := [(q34, .inr (5, [.null, .int 0, .int 0, .int 0]))]) hD hS hA [5] rfl
  refine va_callv (va_runI (As := [.int 4, .int 3]) (rest := [.ref q34, .ref h0]) ⟨hx, hb, hml, hown, hT⟩ (kX5_init l D cI cJ cJJ q34 H.size (4) (3)) (cwI 2 hT (TJ_goodIn (gIs_in (i := 115) (by decide +kernel))) rfl rfl rfl (hT (.initialized RX5) (gIs_in (i := 83) (by decide +kernel))) (hT (.methodLink RX6 11 yX5_init) (gIs_in (i := 113) (by decide +kernel))) (hT (.instanceMethod yX5_init) (gIs_in (i := 114) (by decide +kernel))) rfl (by decide +kernel) ⟨Nat.le_of_ble_eq_true rfl, Nat.le_of_ble_eq_true rfl⟩) ⟨fun a U g mk q => by obtain ⟨q0, q1, qP, qK, qD⟩ := q; exact ⟨q0, q1, qP, va_K.moved (u := U) (U := U.calling g mk a) (Vm.Alike.refl U.vm) qK, qD⟩, fun U hU hW => ⟨rfl, by rw [hU], by rw [hU]; exact hPc, va_K.moved hW.alike hK, hDc.weaken (fun _ _ _ _ => trivial)⟩⟩ rfl rfl hl.1 rfl (lv_room (Nat.le_of_ble_eq_true rfl)) dX6_init_40 ⟨Nat.le_of_ble_eq_true rfl, Nat.le_of_ble_eq_true rfl⟩) hS (fun q _ h => hFc q h) hFc (fun u t H1 locs ht hvm hw hB hz1 hk1 hS => ?_)
  obtain ⟨q40_0, hP1, hK1, hD1⟩ := hB
  rw [ht] at hP1
  obtain ⟨hP, hD⟩ := va_join (wr := [(h0, .inr (6, [.ref q5, .ref q20, .null, .int 0, .int 0, .int 0, .int 0, .int 0, .int 0])), (q5, .inr (5, [.ref q13_0, .int 8, .int 6, .int 0])), (q13_0, .inl (cI, 48, .inl (fun _ => 0))), (q20, .inr (5, [.ref q27_0, .int 8, .int 2, .int 0])), (q27_0, .inl (cI, 48, .inl (fun _ => 0)))]) (w1 := [(q34, .inr (5, [.ref q40_0, .int 4, .int 3, .int 0])), (q40_0, .inl (cI, 48, .inl (fun _ => 0)))]) hP hD [5] [0, 1, 2, 3, 4] rfl rfl (by decide) (by decide) hk1 hFc hP1 hD1
  generalize H1 = H at hP hS ⊢
  have hP : va_P D vwCl [(h0, .inr (6, [.ref q5, .ref q20, .null, .int 0, .int 0, .int 0, .int 0, .int 0, .int 0])), (q5, .inr (5, [.ref q13_0, .int 8, .int 6, .int 0])), (q13_0, .inl (cI, 48, .inl (fun _ => 0))), (q20, .inr (5, [.ref q27_0, .int 8, .int 2, .int 0])), (q27_0, .inl (cI, 48, .inl (fun _ => 0))), (q34, .inr (5, [.ref q40_0, .int 4, .int 3, .int 0])), (q40_0, .inl (cI, 48, .inl (fun _ => 0)))] H := hP
  have hD : va_D A [(h0, .inr (6, [.ref q5, .ref q20, .null, .int 0, .int 0, .int 0, .int 0, .int 0, .int 0])), (q5, .inr (5, [.ref q13_0, .int 8, .int 6, .int 0])), (q13_0, .inl (cI, 48, .inl (fun _ => 0))), (q20, .inr (5, [.ref q27_0, .int 8, .int 2, .int 0])), (q27_0, .inl (cI, 48, .inl (fun _ => 0))), (q34, .inr (5, [.ref q40_0, .int 4, .int 3, .int 0])), (q40_0, .inl (cI, 48, .inl (fun _ => 0)))] := hD
  refine W.widen (k := 6) (n := 156) (by omega) (by omega) ?_
  refine va_putF (D := D) (ci := 6) (v := .ref q34) (ty := .object "NoFartherThanAThrow$Table") (C := RX6) (T := TX6) (N := 9) hx hb hT TW_X6 tyX6 tyX6_ok nmX6 hown hK hP hD hS 0 rfl rfl 2 (by decide) (hT (.fieldLink RX6 23 "NoFartherThanAThrow$Valley" "wants" "LNoFartherThanAThrow$Table;") (gIs_in (i := 143) (by decide +kernel))) (fun _ h9 => h9) rfl hin rfl (by decide +kernel) rfl rfl (Nat.le_of_ble_eq_true rfl) dX6_init_43 (fun H locs hP hD hS => ?_)
  have hP : va_P D vwCl [(h0, .inr (6, [.ref q5, .ref q20, .ref q34, .int 0, .int 0, .int 0, .int 0, .int 0, .int 0])), (q5, .inr (5, [.ref q13_0, .int 8, .int 6, .int 0])), (q13_0, .inl (cI, 48, .inl (fun _ => 0))), (q20, .inr (5, [.ref q27_0, .int 8, .int 2, .int 0])), (q27_0, .inl (cI, 48, .inl (fun _ => 0))), (q34, .inr (5, [.ref q40_0, .int 4, .int 3, .int 0])), (q40_0, .inl (cI, 48, .inl (fun _ => 0)))] H := hP
  have hD : va_D A [(h0, .inr (6, [.ref q5, .ref q20, .ref q34, .int 0, .int 0, .int 0, .int 0, .int 0, .int 0])), (q5, .inr (5, [.ref q13_0, .int 8, .int 6, .int 0])), (q13_0, .inl (cI, 48, .inl (fun _ => 0))), (q20, .inr (5, [.ref q27_0, .int 8, .int 2, .int 0])), (q27_0, .inl (cI, 48, .inl (fun _ => 0))), (q34, .inr (5, [.ref q40_0, .int 4, .int 3, .int 0])), (q40_0, .inl (cI, 48, .inl (fun _ => 0)))] := hD
  refine lv_aload_n hx hb dX6_init_46 rfl (lv_at hl 0 rfl) ?_
  refine lv_bipush (v := 60) hx hb dX6_init_47 (by decide) ?_
  refine va_put (D := D) (ci := 6) (v := .int 60) (ty := .int) (C := RX6) (T := TX6) (N := 9) hx hb hT TW_X6 tyX6 tyX6_ok nmX6 hown hK hP hD hS 0 rfl rfl 3 (by decide) (hT (.fieldLink RX6 26 "NoFartherThanAThrow$Valley" "length" "I") (gIs_in (i := 147) (by decide +kernel))) (fun _ h9 => h9) rfl (by decide +kernel) rfl rfl (Nat.le_of_ble_eq_true rfl) dX6_init_49 (fun H locs hP hD hS => ?_)
  have hP : va_P D vwCl [(h0, .inr (6, [.ref q5, .ref q20, .ref q34, .int 60, .int 0, .int 0, .int 0, .int 0, .int 0])), (q5, .inr (5, [.ref q13_0, .int 8, .int 6, .int 0])), (q13_0, .inl (cI, 48, .inl (fun _ => 0))), (q20, .inr (5, [.ref q27_0, .int 8, .int 2, .int 0])), (q27_0, .inl (cI, 48, .inl (fun _ => 0))), (q34, .inr (5, [.ref q40_0, .int 4, .int 3, .int 0])), (q40_0, .inl (cI, 48, .inl (fun _ => 0)))] H := hP
  have hD : va_D A [(h0, .inr (6, [.ref q5, .ref q20, .ref q34, .int 60, .int 0, .int 0, .int 0, .int 0, .int 0])), (q5, .inr (5, [.ref q13_0, .int 8, .int 6, .int 0])), (q13_0, .inl (cI, 48, .inl (fun _ => 0))), (q20, .inr (5, [.ref q27_0, .int 8, .int 2, .int 0])), (q27_0, .inl (cI, 48, .inl (fun _ => 0))), (q34, .inr (5, [.ref q40_0, .int 4, .int 3, .int 0])), (q40_0, .inl (cI, 48, .inl (fun _ => 0)))] := hD
  refine lv_aload_n hx hb dX6_init_52 rfl (lv_at hl 0 rfl) ?_
  refine lv_iconst (v := 1) hx hb dX6_init_53 (by decide) ?_
  refine va_put (D := D) (ci := 6) (v := .int 1) (ty := .int) (C := RX6) (T := TX6) (N := 9) hx hb hT TW_X6 tyX6 tyX6_ok nmX6 hown hK hP hD hS 0 rfl rfl 7 (by decide) (hT (.fieldLink RX6 30 "NoFartherThanAThrow$Valley" "seed" "I") (gIs_in (i := 161) (by decide +kernel))) (fun _ h9 => h9) rfl (by decide +kernel) rfl rfl (Nat.le_of_ble_eq_true rfl) dX6_init_54 (fun H locs hP hD hS => ?_)
  have hP : va_P D vwCl [(h0, .inr (6, [.ref q5, .ref q20, .ref q34, .int 60, .int 0, .int 0, .int 0, .int 1, .int 0])), (q5, .inr (5, [.ref q13_0, .int 8, .int 6, .int 0])), (q13_0, .inl (cI, 48, .inl (fun _ => 0))), (q20, .inr (5, [.ref q27_0, .int 8, .int 2, .int 0])), (q27_0, .inl (cI, 48, .inl (fun _ => 0))), (q34, .inr (5, [.ref q40_0, .int 4, .int 3, .int 0])), (q40_0, .inl (cI, 48, .inl (fun _ => 0)))] H := hP
  have hD : va_D A [(h0, .inr (6, [.ref q5, .ref q20, .ref q34, .int 60, .int 0, .int 0, .int 0, .int 1, .int 0])), (q5, .inr (5, [.ref q13_0, .int 8, .int 6, .int 0])), (q13_0, .inl (cI, 48, .inl (fun _ => 0))), (q20, .inr (5, [.ref q27_0, .int 8, .int 2, .int 0])), (q27_0, .inl (cI, 48, .inl (fun _ => 0))), (q34, .inr (5, [.ref q40_0, .int 4, .int 3, .int 0])), (q40_0, .inl (cI, 48, .inl (fun _ => 0)))] := hD
  exact W.vret hx hb hr (fun t ht hW => ⟨⟨(), rfl, trivial, q5, q13_0, q20, q27_0, q34, q40_0, by rw [ht]; exact hP, va_K.moved hW.alike hK, hD⟩, hS.F ht⟩) hS.2.2 dX6_init_57
set_option maxHeartbeats 4000000 in
set_option maxRecDepth 100000 in
theorem kX0_init (l : Launch) (D : va_G) (cI cJ cJJ : ClassId) (h0 sz : Nat)  : Met l yX0_init (.code yX0_init cX0_init 1 none :: TW) ({ frames := 2, cells := 1, slots := 20, locals := 40 }) (va_Pc [.ref h0] (fun U => U.heap.size = sz ∧ va_P D vwCl [(h0, .inr (0, [.null, .int 0, .int 0, .int 0, .int 0]))] U.heap ∧ va_K D vwCl [(cI, .int), (cJ, .long), (cJJ, .array .long)] U ∧ va_D (fun _ => True) [(h0, .inr (0, [.null, .int 0, .int 0, .int 0, .int 0]))])) (va_Qv (fun _ : Unit => True) (fun _ t => ∃ (q7 : Nat), va_P D vwCl [(h0, .inr (0, [.ref q7, .int 0, .int 0, .int 0, .int 0])), (q7, .inl (cI, 20, .inl (fun _ => 0)))] t.heap ∧ va_K D vwCl [(cI, .int), (cJ, .long), (cJJ, .array .long)] t ∧ va_D (va_A [(h0, .inr (0, [.null, .int 0, .int 0, .int 0, .int 0]))] sz) [(h0, .inr (0, [.ref q7, .int 0, .int 0, .int 0, .int 0])), (q7, .inl (cI, 20, .inl (fun _ => 0)))]) (va_A [(h0, .inr (0, [.null, .int 0, .int 0, .int 0, .int 0]))] sz)) 1 20 (va_A [(h0, .inr (0, [.null, .int 0, .int 0, .int 0, .int 0]))] sz) := by
  refine Met.ofW (cc := cX0_init) (maxL := 1) (ret := none) (by decide) rfl ?_
  intro p e s m args below meth c s₁ B hml hv
  obtain ⟨rfl, hsz, hP, hK, hD0⟩ := hv
  have hx := B.exec
  have hb := B.bytes
  have hr := B.returns
  have hts := atoms_spec (ws := .code yX0_init cX0_init 1 none :: TW) B.pre
  have hT : ∀ w ∈ TW, w.before _ s = true := fun w h => hts w (List.mem_cons_of_mem _ h)
  have hown : s.vm.findClass RX0 = some m.cls := findClass_of_methodNamed B.named
  have hlocks := B.notSynchronized
  have hin : meth.name = "<init>" := (name_of_methodNamed B.named B.method).1
  subst hsz
  have hD := hD0.self (sz := s.heap.size)
  generalize hAe : va_A [(h0, .inr (0, [.null, .int 0, .int 0, .int 0, .int 0]))] s.heap.size = A at hD ⊢
  have hA : ∀ q : Nat, s.heap.size ≤ q → A q := fun q h => by rw [← hAe]; exact Or.inr h
  have hS : va_S A s.heap s.heap [] := va_S.rf
  have hP : va_P D vwCl [(h0, .inr (0, [.null, .int 0, .int 0, .int 0, .int 0]))] s.heap := hP
  have hl := lv_entry ([.ref h0]) (n := 1) (Nat.le_of_ble_eq_true rfl)
  rw [lg_entry_eq]
  generalize (lg_sl ([.ref h0]) ++ List.replicate (1 - (lg_sl ([.ref h0])).length) Slot.unset).toArray = ls at hl ⊢
  have hl : lv_has ls 1 [(0, .ref h0)] := hl
  refine lv_aload_n hx hb dX0_init_0 rfl (lv_at hl 0 rfl) ?_
  refine W.objInit hx hb hown (hT (.methodLink RX0 3 objectInit) (gIs_in (i := 278) (by decide +kernel))) (hT (.instanceMethod objectInit) (gIs_in (i := 103) (by decide +kernel))) (hT (.code objectInit ⟨#[0xb1]⟩ 1 none) (gIs_in (i := 104) (by decide +kernel))) rfl (by rw [hml]; exact hl.1) rfl dX0_init_1 (Nat.le_of_ble_eq_true rfl) (Nat.le_of_ble_eq_true rfl) ?_
  refine W.eq (g2 := F0 m 4 ls []) rfl ?_
  refine lv_aload_n hx hb dX0_init_4 rfl (lv_at hl 0 rfl) ?_
  refine lv_bipush (v := 20) hx hb dX0_init_5 (by decide) ?_
  refine nw_I (n := 20) (N' := 20) hx hb (hT (.arrayClass .int) (gIs_in (i := 134) (by decide +kernel))) hK hP hD hS hA (by decide) rfl (Nat.le_of_ble_eq_true rfl) (Nat.le_of_ble_eq_true rfl) (Nat.le_of_ble_eq_true rfl) dX0_init_7 (fun q7 H hP hD hS => ?_)
  have hP : va_P D vwCl [(h0, .inr (0, [.null, .int 0, .int 0, .int 0, .int 0])), (q7, .inl (cI, 20, .inl (fun _ => 0)))] H := hP
  have hD : va_D A [(h0, .inr (0, [.null, .int 0, .int 0, .int 0, .int 0])), (q7, .inl (cI, 20, .inl (fun _ => 0)))] := hD
  refine W.widen (k := 1) (n := 20) (by omega) (by omega) ?_
  refine va_putF (D := D) (ci := 0) (v := .ref q7) (ty := .array .int) (C := RX0) (T := TX0) (N := 5) hx hb hT TW_X0 tyX0 tyX0_ok nmX0 hown hK hP hD hS 0 rfl rfl 0 (by decide) (hT (.fieldLink RX0 11 "NoFartherThanAThrow$Acts" "bodies" "[I") (gIs_in (i := 279) (by decide +kernel))) (fun _ h9 => h9) rfl hin rfl (by decide +kernel) rfl rfl (Nat.le_of_ble_eq_true rfl) dX0_init_9 (fun H locs hP hD hS => ?_)
  have hP : va_P D vwCl [(h0, .inr (0, [.ref q7, .int 0, .int 0, .int 0, .int 0])), (q7, .inl (cI, 20, .inl (fun _ => 0)))] H := hP
  have hD : va_D A [(h0, .inr (0, [.ref q7, .int 0, .int 0, .int 0, .int 0])), (q7, .inl (cI, 20, .inl (fun _ => 0)))] := hD
  exact W.vret hx hb hr (fun t ht hW => ⟨⟨(), rfl, trivial, q7, by rw [ht]; exact hP, va_K.moved hW.alike hK, hD⟩, hS.F ht⟩) hS.2.2 dX0_init_12
set_option maxHeartbeats 4000000 in
set_option maxRecDepth 100000 in
theorem kX1_init (l : Launch) (D : va_G) (cI cJ cJJ : ClassId) (h0 sz : Nat) (r1 r2 : Nat) : Met l yX1_init (.code yX1_init cX1_init 3 none :: TW) ({ frames := 2, cells := 1, slots := 160, locals := 40 }) (va_Pc [.ref h0, .ref r1, .ref r2] (fun U => U.heap.size = sz ∧ va_P D vwCl [(h0, .inr (1, [.null, .null, .null, .int 0, .int 0, .int 0, .int 0, .int 0]))] U.heap ∧ va_K D vwCl [(cI, .int), (cJ, .long), (cJJ, .array .long)] U ∧ va_D (fun _ => True) [(h0, .inr (1, [.null, .null, .null, .int 0, .int 0, .int 0, .int 0, .int 0]))])) (va_Qv (fun _ : Unit => True) (fun _ t => ∃ (q8 : Nat), va_P D vwCl [(h0, .inr (1, [.ref r1, .ref r2, .ref q8, .int 0, .int 0, .int 0, .int 0, .int 0])), (q8, .inl (cI, 160, .inl (fun _ => 0)))] t.heap ∧ va_K D vwCl [(cI, .int), (cJ, .long), (cJJ, .array .long)] t ∧ va_D (va_A [(h0, .inr (1, [.null, .null, .null, .int 0, .int 0, .int 0, .int 0, .int 0]))] sz) [(h0, .inr (1, [.ref r1, .ref r2, .ref q8, .int 0, .int 0, .int 0, .int 0, .int 0])), (q8, .inl (cI, 160, .inl (fun _ => 0)))]) (va_A [(h0, .inr (1, [.null, .null, .null, .int 0, .int 0, .int 0, .int 0, .int 0]))] sz)) 1 160 (va_A [(h0, .inr (1, [.null, .null, .null, .int 0, .int 0, .int 0, .int 0, .int 0]))] sz) := by
  refine Met.ofW (cc := cX1_init) (maxL := 3) (ret := none) (by decide) rfl ?_
  intro p e s m args below meth c s₁ B hml hv
  obtain ⟨rfl, hsz, hP, hK, hD0⟩ := hv
  have hx := B.exec
  have hb := B.bytes
  have hr := B.returns
  have hts := atoms_spec (ws := .code yX1_init cX1_init 3 none :: TW) B.pre
  have hT : ∀ w ∈ TW, w.before _ s = true := fun w h => hts w (List.mem_cons_of_mem _ h)
  have hown : s.vm.findClass RX1 = some m.cls := findClass_of_methodNamed B.named
  have hlocks := B.notSynchronized
  have hin : meth.name = "<init>" := (name_of_methodNamed B.named B.method).1
  subst hsz
  have hD := hD0.self (sz := s.heap.size)
  generalize hAe : va_A [(h0, .inr (1, [.null, .null, .null, .int 0, .int 0, .int 0, .int 0, .int 0]))] s.heap.size = A at hD ⊢
  have hA : ∀ q : Nat, s.heap.size ≤ q → A q := fun q h => by rw [← hAe]; exact Or.inr h
  have hS : va_S A s.heap s.heap [] := va_S.rf
  have hP : va_P D vwCl [(h0, .inr (1, [.null, .null, .null, .int 0, .int 0, .int 0, .int 0, .int 0]))] s.heap := hP
  have hl := lv_entry ([.ref h0, .ref r1, .ref r2]) (n := 3) (Nat.le_of_ble_eq_true rfl)
  rw [lg_entry_eq]
  generalize (lg_sl ([.ref h0, .ref r1, .ref r2]) ++ List.replicate (3 - (lg_sl ([.ref h0, .ref r1, .ref r2])).length) Slot.unset).toArray = ls at hl ⊢
  have hl : lv_has ls 3 [(0, .ref h0), (1, .ref r1), (2, .ref r2)] := hl
  refine lv_aload_n hx hb dX1_init_0 rfl (lv_at hl 0 rfl) ?_
  refine W.objInit hx hb hown (hT (.methodLink RX1 3 objectInit) (gIs_in (i := 208) (by decide +kernel))) (hT (.instanceMethod objectInit) (gIs_in (i := 103) (by decide +kernel))) (hT (.code objectInit ⟨#[0xb1]⟩ 1 none) (gIs_in (i := 104) (by decide +kernel))) rfl (by rw [hml]; exact hl.1) rfl dX1_init_1 (Nat.le_of_ble_eq_true rfl) (Nat.le_of_ble_eq_true rfl) ?_
  refine W.eq (g2 := F0 m 4 ls []) rfl ?_
  refine lv_aload_n hx hb dX1_init_4 rfl (lv_at hl 0 rfl) ?_
  refine lv_sipush (v := 160) hx hb dX1_init_5 (by decide) ?_
  refine nw_I (n := 160) (N' := 160) hx hb (hT (.arrayClass .int) (gIs_in (i := 134) (by decide +kernel))) hK hP hD hS hA (by decide) rfl (Nat.le_of_ble_eq_true rfl) (Nat.le_of_ble_eq_true rfl) (Nat.le_of_ble_eq_true rfl) dX1_init_8 (fun q8 H hP hD hS => ?_)
  have hP : va_P D vwCl [(h0, .inr (1, [.null, .null, .null, .int 0, .int 0, .int 0, .int 0, .int 0])), (q8, .inl (cI, 160, .inl (fun _ => 0)))] H := hP
  have hD : va_D A [(h0, .inr (1, [.null, .null, .null, .int 0, .int 0, .int 0, .int 0, .int 0])), (q8, .inl (cI, 160, .inl (fun _ => 0)))] := hD
  refine W.widen (k := 1) (n := 160) (by omega) (by omega) ?_
  refine va_putF (D := D) (ci := 1) (v := .ref q8) (ty := .array .int) (C := RX1) (T := TX1) (N := 8) hx hb hT TW_X1 tyX1 tyX1_ok nmX1 hown hK hP hD hS 0 rfl rfl 2 (by decide) (hT (.fieldLink RX1 11 "NoFartherThanAThrow$Reader" "text" "[I") (gIs_in (i := 211) (by decide +kernel))) (fun _ h9 => h9) rfl hin rfl (by decide +kernel) rfl rfl (Nat.le_of_ble_eq_true rfl) dX1_init_10 (fun H locs hP hD hS => ?_)
  have hP : va_P D vwCl [(h0, .inr (1, [.null, .null, .ref q8, .int 0, .int 0, .int 0, .int 0, .int 0])), (q8, .inl (cI, 160, .inl (fun _ => 0)))] H := hP
  have hD : va_D A [(h0, .inr (1, [.null, .null, .ref q8, .int 0, .int 0, .int 0, .int 0, .int 0])), (q8, .inl (cI, 160, .inl (fun _ => 0)))] := hD
  refine lv_aload_n hx hb dX1_init_13 rfl (lv_at hl 0 rfl) ?_
  refine lv_aload_n hx hb dX1_init_14 rfl (lv_at hl 1 rfl) ?_
  refine va_putF (D := D) (ci := 1) (v := .ref r1) (ty := .object "NoFartherThanAThrow$Shelves") (C := RX1) (T := TX1) (N := 8) hx hb hT TW_X1 tyX1 tyX1_ok nmX1 hown hK hP hD hS 0 rfl rfl 0 (by decide) (hT (.fieldLink RX1 17 "NoFartherThanAThrow$Reader" "shelves" "LNoFartherThanAThrow$Shelves;") (gIs_in (i := 209) (by decide +kernel))) (fun _ h9 => h9) rfl hin rfl (by decide +kernel) rfl rfl (Nat.le_of_ble_eq_true rfl) dX1_init_15 (fun H locs hP hD hS => ?_)
  have hP : va_P D vwCl [(h0, .inr (1, [.ref r1, .null, .ref q8, .int 0, .int 0, .int 0, .int 0, .int 0])), (q8, .inl (cI, 160, .inl (fun _ => 0)))] H := hP
  have hD : va_D A [(h0, .inr (1, [.ref r1, .null, .ref q8, .int 0, .int 0, .int 0, .int 0, .int 0])), (q8, .inl (cI, 160, .inl (fun _ => 0)))] := hD
  refine lv_aload_n hx hb dX1_init_18 rfl (lv_at hl 0 rfl) ?_
  refine lv_aload_n hx hb dX1_init_19 rfl (lv_at hl 2 rfl) ?_
  refine va_putF (D := D) (ci := 1) (v := .ref r2) (ty := .object "NoFartherThanAThrow$Valley") (C := RX1) (T := TX1) (N := 8) hx hb hT TW_X1 tyX1 tyX1_ok nmX1 hown hK hP hD hS 0 rfl rfl 1 (by decide) (hT (.fieldLink RX1 21 "NoFartherThanAThrow$Reader" "into" "LNoFartherThanAThrow$Valley;") (gIs_in (i := 210) (by decide +kernel))) (fun _ h9 => h9) rfl hin rfl (by decide +kernel) rfl rfl (Nat.le_of_ble_eq_true rfl) dX1_init_20 (fun H locs hP hD hS => ?_)
  have hP : va_P D vwCl [(h0, .inr (1, [.ref r1, .ref r2, .ref q8, .int 0, .int 0, .int 0, .int 0, .int 0])), (q8, .inl (cI, 160, .inl (fun _ => 0)))] H := hP
  have hD : va_D A [(h0, .inr (1, [.ref r1, .ref r2, .ref q8, .int 0, .int 0, .int 0, .int 0, .int 0])), (q8, .inl (cI, 160, .inl (fun _ => 0)))] := hD
  exact W.vret hx hb hr (fun t ht hW => ⟨⟨(), rfl, trivial, q8, by rw [ht]; exact hP, va_K.moved hW.alike hK, hD⟩, hS.F ht⟩) hS.2.2 dX1_init_23
set_option maxHeartbeats 4000000 in
set_option maxRecDepth 100000 in
theorem kX2_init (l : Launch) (D : va_G) (cI cJ cJJ : ClassId) (h0 sz : Nat) (r1 : Nat) : Met l yX2_init (.code yX2_init cX2_init 2 none :: TW) ({ frames := 2, cells := 2, slots := 264, locals := 40 }) (va_Pc [.ref h0, .ref r1] (fun U => U.heap.size = sz ∧ va_P D vwCl [(h0, .inr (2, [.null, .null, .null]))] U.heap ∧ va_K D vwCl [(cI, .int), (cJ, .long), (cJJ, .array .long)] U ∧ va_D (fun _ => True) [(h0, .inr (2, [.null, .null, .null]))])) (va_Qv (fun _ : Unit => True) (fun _ t => ∃ (q7 q16 : Nat), va_P D vwCl [(h0, .inr (2, [.ref r1, .ref q7, .ref q16])), (q7, .inl (cI, 8, .inl (fun _ => 0))), (q16, .inl (cI, 256, .inl (fun _ => 0)))] t.heap ∧ va_K D vwCl [(cI, .int), (cJ, .long), (cJJ, .array .long)] t ∧ va_D (va_A [(h0, .inr (2, [.null, .null, .null]))] sz) [(h0, .inr (2, [.ref r1, .ref q7, .ref q16])), (q7, .inl (cI, 8, .inl (fun _ => 0))), (q16, .inl (cI, 256, .inl (fun _ => 0)))]) (va_A [(h0, .inr (2, [.null, .null, .null]))] sz)) 2 264 (va_A [(h0, .inr (2, [.null, .null, .null]))] sz) := by
  refine Met.ofW (cc := cX2_init) (maxL := 2) (ret := none) (by decide) rfl ?_
  intro p e s m args below meth c s₁ B hml hv
  obtain ⟨rfl, hsz, hP, hK, hD0⟩ := hv
  have hx := B.exec
  have hb := B.bytes
  have hr := B.returns
  have hts := atoms_spec (ws := .code yX2_init cX2_init 2 none :: TW) B.pre
  have hT : ∀ w ∈ TW, w.before _ s = true := fun w h => hts w (List.mem_cons_of_mem _ h)
  have hown : s.vm.findClass RX2 = some m.cls := findClass_of_methodNamed B.named
  have hlocks := B.notSynchronized
  have hin : meth.name = "<init>" := (name_of_methodNamed B.named B.method).1
  subst hsz
  have hD := hD0.self (sz := s.heap.size)
  generalize hAe : va_A [(h0, .inr (2, [.null, .null, .null]))] s.heap.size = A at hD ⊢
  have hA : ∀ q : Nat, s.heap.size ≤ q → A q := fun q h => by rw [← hAe]; exact Or.inr h
  have hS : va_S A s.heap s.heap [] := va_S.rf
  have hP : va_P D vwCl [(h0, .inr (2, [.null, .null, .null]))] s.heap := hP
  have hl := lv_entry ([.ref h0, .ref r1]) (n := 2) (Nat.le_of_ble_eq_true rfl)
  rw [lg_entry_eq]
  generalize (lg_sl ([.ref h0, .ref r1]) ++ List.replicate (2 - (lg_sl ([.ref h0, .ref r1])).length) Slot.unset).toArray = ls at hl ⊢
  have hl : lv_has ls 2 [(0, .ref h0), (1, .ref r1)] := hl
  refine lv_aload_n hx hb dX2_init_0 rfl (lv_at hl 0 rfl) ?_
  refine W.objInit hx hb hown (hT (.methodLink RX2 3 objectInit) (gIs_in (i := 240) (by decide +kernel))) (hT (.instanceMethod objectInit) (gIs_in (i := 103) (by decide +kernel))) (hT (.code objectInit ⟨#[0xb1]⟩ 1 none) (gIs_in (i := 104) (by decide +kernel))) rfl (by rw [hml]; exact hl.1) rfl dX2_init_1 (Nat.le_of_ble_eq_true rfl) (Nat.le_of_ble_eq_true rfl) ?_
  refine W.eq (g2 := F0 m 4 ls []) rfl ?_
  refine lv_aload_n hx hb dX2_init_4 rfl (lv_at hl 0 rfl) ?_
  refine lv_bipush (v := 8) hx hb dX2_init_5 (by decide) ?_
  refine nw_I (n := 8) (N' := 8) hx hb (hT (.arrayClass .int) (gIs_in (i := 134) (by decide +kernel))) hK hP hD hS hA (by decide) rfl (Nat.le_of_ble_eq_true rfl) (Nat.le_of_ble_eq_true rfl) (Nat.le_of_ble_eq_true rfl) dX2_init_7 (fun q7 H hP hD hS => ?_)
  have hP : va_P D vwCl [(h0, .inr (2, [.null, .null, .null])), (q7, .inl (cI, 8, .inl (fun _ => 0)))] H := hP
  have hD : va_D A [(h0, .inr (2, [.null, .null, .null])), (q7, .inl (cI, 8, .inl (fun _ => 0)))] := hD
  refine W.widen (k := 1) (n := 8) (by omega) (by omega) ?_
  refine va_putF (D := D) (ci := 2) (v := .ref q7) (ty := .array .int) (C := RX2) (T := TX2) (N := 3) hx hb hT TW_X2 tyX2 tyX2_ok nmX2 hown hK hP hD hS 0 rfl rfl 1 (by decide) (hT (.fieldLink RX2 9 "NoFartherThanAThrow$Relay" "fars" "[I") (gIs_in (i := 242) (by decide +kernel))) (fun _ h9 => h9) rfl hin rfl (by decide +kernel) rfl rfl (Nat.le_of_ble_eq_true rfl) dX2_init_9 (fun H locs hP hD hS => ?_)
  have hP : va_P D vwCl [(h0, .inr (2, [.null, .ref q7, .null])), (q7, .inl (cI, 8, .inl (fun _ => 0)))] H := hP
  have hD : va_D A [(h0, .inr (2, [.null, .ref q7, .null])), (q7, .inl (cI, 8, .inl (fun _ => 0)))] := hD
  refine lv_aload_n hx hb dX2_init_12 rfl (lv_at hl 0 rfl) ?_
  refine lv_sipush (v := 256) hx hb dX2_init_13 (by decide) ?_
  refine nw_I (n := 256) (N' := 256) hx hb (hT (.arrayClass .int) (gIs_in (i := 134) (by decide +kernel))) hK hP hD hS hA (by decide) rfl (Nat.le_of_ble_eq_true rfl) (Nat.le_of_ble_eq_true rfl) (Nat.le_of_ble_eq_true rfl) dX2_init_16 (fun q16 H hP hD hS => ?_)
  have hP : va_P D vwCl [(h0, .inr (2, [.null, .ref q7, .null])), (q7, .inl (cI, 8, .inl (fun _ => 0))), (q16, .inl (cI, 256, .inl (fun _ => 0)))] H := hP
  have hD : va_D A [(h0, .inr (2, [.null, .ref q7, .null])), (q7, .inl (cI, 8, .inl (fun _ => 0))), (q16, .inl (cI, 256, .inl (fun _ => 0)))] := hD
  refine W.widen (k := 2) (n := 264) (by omega) (by omega) ?_
  refine va_putF (D := D) (ci := 2) (v := .ref q16) (ty := .array .int) (C := RX2) (T := TX2) (N := 3) hx hb hT TW_X2 tyX2 tyX2_ok nmX2 hown hK hP hD hS 0 rfl rfl 2 (by decide) (hT (.fieldLink RX2 15 "NoFartherThanAThrow$Relay" "ends" "[I") (gIs_in (i := 243) (by decide +kernel))) (fun _ h9 => h9) rfl hin rfl (by decide +kernel) rfl rfl (Nat.le_of_ble_eq_true rfl) dX2_init_18 (fun H locs hP hD hS => ?_)
  have hP : va_P D vwCl [(h0, .inr (2, [.null, .ref q7, .ref q16])), (q7, .inl (cI, 8, .inl (fun _ => 0))), (q16, .inl (cI, 256, .inl (fun _ => 0)))] H := hP
  have hD : va_D A [(h0, .inr (2, [.null, .ref q7, .ref q16])), (q7, .inl (cI, 8, .inl (fun _ => 0))), (q16, .inl (cI, 256, .inl (fun _ => 0)))] := hD
  refine lv_aload_n hx hb dX2_init_21 rfl (lv_at hl 0 rfl) ?_
  refine lv_aload_n hx hb dX2_init_22 rfl (lv_at hl 1 rfl) ?_
  refine va_putF (D := D) (ci := 2) (v := .ref r1) (ty := .object "NoFartherThanAThrow$Valley") (C := RX2) (T := TX2) (N := 3) hx hb hT TW_X2 tyX2 tyX2_ok nmX2 hown hK hP hD hS 0 rfl rfl 0 (by decide) (hT (.fieldLink RX2 18 "NoFartherThanAThrow$Relay" "valley" "LNoFartherThanAThrow$Valley;") (gIs_in (i := 241) (by decide +kernel))) (fun _ h9 => h9) rfl hin rfl (by decide +kernel) rfl rfl (Nat.le_of_ble_eq_true rfl) dX2_init_23 (fun H locs hP hD hS => ?_)
  have hP : va_P D vwCl [(h0, .inr (2, [.ref r1, .ref q7, .ref q16])), (q7, .inl (cI, 8, .inl (fun _ => 0))), (q16, .inl (cI, 256, .inl (fun _ => 0)))] H := hP
  have hD : va_D A [(h0, .inr (2, [.ref r1, .ref q7, .ref q16])), (q7, .inl (cI, 8, .inl (fun _ => 0))), (q16, .inl (cI, 256, .inl (fun _ => 0)))] := hD
  exact W.vret hx hb hr (fun t ht hW => ⟨⟨(), rfl, trivial, q7, q16, by rw [ht]; exact hP, va_K.moved hW.alike hK, hD⟩, hS.F ht⟩) hS.2.2 dX2_init_26
set_option maxHeartbeats 4000000 in
set_option maxRecDepth 100000 in
theorem kX3_init (l : Launch) (D : va_G) (cI cJ cJJ : ClassId) (h0 sz : Nat) (r1 r2 : Nat) : Met l yX3_init (.code yX3_init cX3_init 3 none :: TW) ({ frames := 2, cells := 2, slots := 512, locals := 40 }) (va_Pc [.ref h0, .ref r1, .ref r2] (fun U => U.heap.size = sz ∧ va_P D vwCl [(h0, .inr (3, [.null, .null, .null, .null, .int 0]))] U.heap ∧ va_K D vwCl [(cI, .int), (cJ, .long), (cJJ, .array .long)] U ∧ va_D (fun _ => True) [(h0, .inr (3, [.null, .null, .null, .null, .int 0]))])) (va_Qv (fun _ : Unit => True) (fun _ t => ∃ (q8 q17 : Nat), va_P D vwCl [(h0, .inr (3, [.ref r1, .ref r2, .ref q8, .ref q17, .int 0])), (q8, .inl (cI, 256, .inl (fun _ => 0))), (q17, .inl (cI, 256, .inl (fun _ => 0)))] t.heap ∧ va_K D vwCl [(cI, .int), (cJ, .long), (cJJ, .array .long)] t ∧ va_D (va_A [(h0, .inr (3, [.null, .null, .null, .null, .int 0]))] sz) [(h0, .inr (3, [.ref r1, .ref r2, .ref q8, .ref q17, .int 0])), (q8, .inl (cI, 256, .inl (fun _ => 0))), (q17, .inl (cI, 256, .inl (fun _ => 0)))]) (va_A [(h0, .inr (3, [.null, .null, .null, .null, .int 0]))] sz)) 2 512 (va_A [(h0, .inr (3, [.null, .null, .null, .null, .int 0]))] sz) := by
  refine Met.ofW (cc := cX3_init) (maxL := 3) (ret := none) (by decide) rfl ?_
  intro p e s m args below meth c s₁ B hml hv
  obtain ⟨rfl, hsz, hP, hK, hD0⟩ := hv
  have hx := B.exec
  have hb := B.bytes
  have hr := B.returns
  have hts := atoms_spec (ws := .code yX3_init cX3_init 3 none :: TW) B.pre
  have hT : ∀ w ∈ TW, w.before _ s = true := fun w h => hts w (List.mem_cons_of_mem _ h)
  have hown : s.vm.findClass RX3 = some m.cls := findClass_of_methodNamed B.named
  have hlocks := B.notSynchronized
  have hin : meth.name = "<init>" := (name_of_methodNamed B.named B.method).1
  subst hsz
  have hD := hD0.self (sz := s.heap.size)
  generalize hAe : va_A [(h0, .inr (3, [.null, .null, .null, .null, .int 0]))] s.heap.size = A at hD ⊢
  have hA : ∀ q : Nat, s.heap.size ≤ q → A q := fun q h => by rw [← hAe]; exact Or.inr h
  have hS : va_S A s.heap s.heap [] := va_S.rf
  have hP : va_P D vwCl [(h0, .inr (3, [.null, .null, .null, .null, .int 0]))] s.heap := hP
  have hl := lv_entry ([.ref h0, .ref r1, .ref r2]) (n := 3) (Nat.le_of_ble_eq_true rfl)
  rw [lg_entry_eq]
  generalize (lg_sl ([.ref h0, .ref r1, .ref r2]) ++ List.replicate (3 - (lg_sl ([.ref h0, .ref r1, .ref r2])).length) Slot.unset).toArray = ls at hl ⊢
  have hl : lv_has ls 3 [(0, .ref h0), (1, .ref r1), (2, .ref r2)] := hl
  refine lv_aload_n hx hb dX3_init_0 rfl (lv_at hl 0 rfl) ?_
  refine W.objInit hx hb hown (hT (.methodLink RX3 3 objectInit) (gIs_in (i := 256) (by decide +kernel))) (hT (.instanceMethod objectInit) (gIs_in (i := 103) (by decide +kernel))) (hT (.code objectInit ⟨#[0xb1]⟩ 1 none) (gIs_in (i := 104) (by decide +kernel))) rfl (by rw [hml]; exact hl.1) rfl dX3_init_1 (Nat.le_of_ble_eq_true rfl) (Nat.le_of_ble_eq_true rfl) ?_
  refine W.eq (g2 := F0 m 4 ls []) rfl ?_
  refine lv_aload_n hx hb dX3_init_4 rfl (lv_at hl 0 rfl) ?_
  refine lv_sipush (v := 256) hx hb dX3_init_5 (by decide) ?_
  refine nw_I (n := 256) (N' := 256) hx hb (hT (.arrayClass .int) (gIs_in (i := 134) (by decide +kernel))) hK hP hD hS hA (by decide) rfl (Nat.le_of_ble_eq_true rfl) (Nat.le_of_ble_eq_true rfl) (Nat.le_of_ble_eq_true rfl) dX3_init_8 (fun q8 H hP hD hS => ?_)
  have hP : va_P D vwCl [(h0, .inr (3, [.null, .null, .null, .null, .int 0])), (q8, .inl (cI, 256, .inl (fun _ => 0)))] H := hP
  have hD : va_D A [(h0, .inr (3, [.null, .null, .null, .null, .int 0])), (q8, .inl (cI, 256, .inl (fun _ => 0)))] := hD
  refine W.widen (k := 1) (n := 256) (by omega) (by omega) ?_
  refine va_putF (D := D) (ci := 3) (v := .ref q8) (ty := .array .int) (C := RX3) (T := TX3) (N := 5) hx hb hT TW_X3 tyX3 tyX3_ok nmX3 hown hK hP hD hS 0 rfl rfl 2 (by decide) (hT (.fieldLink RX3 9 "NoFartherThanAThrow$Sharing" "scores" "[I") (gIs_in (i := 259) (by decide +kernel))) (fun _ h9 => h9) rfl hin rfl (by decide +kernel) rfl rfl (Nat.le_of_ble_eq_true rfl) dX3_init_10 (fun H locs hP hD hS => ?_)
  have hP : va_P D vwCl [(h0, .inr (3, [.null, .null, .ref q8, .null, .int 0])), (q8, .inl (cI, 256, .inl (fun _ => 0)))] H := hP
  have hD : va_D A [(h0, .inr (3, [.null, .null, .ref q8, .null, .int 0])), (q8, .inl (cI, 256, .inl (fun _ => 0)))] := hD
  refine lv_aload_n hx hb dX3_init_13 rfl (lv_at hl 0 rfl) ?_
  refine lv_sipush (v := 256) hx hb dX3_init_14 (by decide) ?_
  refine nw_I (n := 256) (N' := 256) hx hb (hT (.arrayClass .int) (gIs_in (i := 134) (by decide +kernel))) hK hP hD hS hA (by decide) rfl (Nat.le_of_ble_eq_true rfl) (Nat.le_of_ble_eq_true rfl) (Nat.le_of_ble_eq_true rfl) dX3_init_17 (fun q17 H hP hD hS => ?_)
  have hP : va_P D vwCl [(h0, .inr (3, [.null, .null, .ref q8, .null, .int 0])), (q8, .inl (cI, 256, .inl (fun _ => 0))), (q17, .inl (cI, 256, .inl (fun _ => 0)))] H := hP
  have hD : va_D A [(h0, .inr (3, [.null, .null, .ref q8, .null, .int 0])), (q8, .inl (cI, 256, .inl (fun _ => 0))), (q17, .inl (cI, 256, .inl (fun _ => 0)))] := hD
  refine W.widen (k := 2) (n := 512) (by omega) (by omega) ?_
  refine va_putF (D := D) (ci := 3) (v := .ref q17) (ty := .array .int) (C := RX3) (T := TX3) (N := 5) hx hb hT TW_X3 tyX3 tyX3_ok nmX3 hown hK hP hD hS 0 rfl rfl 3 (by decide) (hT (.fieldLink RX3 15 "NoFartherThanAThrow$Sharing" "gains" "[I") (gIs_in (i := 260) (by decide +kernel))) (fun _ h9 => h9) rfl hin rfl (by decide +kernel) rfl rfl (Nat.le_of_ble_eq_true rfl) dX3_init_19 (fun H locs hP hD hS => ?_)
  have hP : va_P D vwCl [(h0, .inr (3, [.null, .null, .ref q8, .ref q17, .int 0])), (q8, .inl (cI, 256, .inl (fun _ => 0))), (q17, .inl (cI, 256, .inl (fun _ => 0)))] H := hP
  have hD : va_D A [(h0, .inr (3, [.null, .null, .ref q8, .ref q17, .int 0])), (q8, .inl (cI, 256, .inl (fun _ => 0))), (q17, .inl (cI, 256, .inl (fun _ => 0)))] := hD
  refine lv_aload_n hx hb dX3_init_22 rfl (lv_at hl 0 rfl) ?_
  refine lv_aload_n hx hb dX3_init_23 rfl (lv_at hl 1 rfl) ?_
  refine va_putF (D := D) (ci := 3) (v := .ref r1) (ty := .object "NoFartherThanAThrow$Valley") (C := RX3) (T := TX3) (N := 5) hx hb hT TW_X3 tyX3 tyX3_ok nmX3 hown hK hP hD hS 0 rfl rfl 0 (by decide) (hT (.fieldLink RX3 18 "NoFartherThanAThrow$Sharing" "valley" "LNoFartherThanAThrow$Valley;") (gIs_in (i := 257) (by decide +kernel))) (fun _ h9 => h9) rfl hin rfl (by decide +kernel) rfl rfl (Nat.le_of_ble_eq_true rfl) dX3_init_24 (fun H locs hP hD hS => ?_)
  have hP : va_P D vwCl [(h0, .inr (3, [.ref r1, .null, .ref q8, .ref q17, .int 0])), (q8, .inl (cI, 256, .inl (fun _ => 0))), (q17, .inl (cI, 256, .inl (fun _ => 0)))] H := hP
  have hD : va_D A [(h0, .inr (3, [.ref r1, .null, .ref q8, .ref q17, .int 0])), (q8, .inl (cI, 256, .inl (fun _ => 0))), (q17, .inl (cI, 256, .inl (fun _ => 0)))] := hD
  refine lv_aload_n hx hb dX3_init_27 rfl (lv_at hl 0 rfl) ?_
  refine lv_aload_n hx hb dX3_init_28 rfl (lv_at hl 2 rfl) ?_
  refine va_putF (D := D) (ci := 3) (v := .ref r2) (ty := .object "NoFartherThanAThrow$Relay") (C := RX3) (T := TX3) (N := 5) hx hb hT TW_X3 tyX3 tyX3_ok nmX3 hown hK hP hD hS 0 rfl rfl 1 (by decide) (hT (.fieldLink RX3 22 "NoFartherThanAThrow$Sharing" "relay" "LNoFartherThanAThrow$Relay;") (gIs_in (i := 258) (by decide +kernel))) (fun _ h9 => h9) rfl hin rfl (by decide +kernel) rfl rfl (Nat.le_of_ble_eq_true rfl) dX3_init_29 (fun H locs hP hD hS => ?_)
  have hP : va_P D vwCl [(h0, .inr (3, [.ref r1, .ref r2, .ref q8, .ref q17, .int 0])), (q8, .inl (cI, 256, .inl (fun _ => 0))), (q17, .inl (cI, 256, .inl (fun _ => 0)))] H := hP
  have hD : va_D A [(h0, .inr (3, [.ref r1, .ref r2, .ref q8, .ref q17, .int 0])), (q8, .inl (cI, 256, .inl (fun _ => 0))), (q17, .inl (cI, 256, .inl (fun _ => 0)))] := hD
  exact W.vret hx hb hr (fun t ht hW => ⟨⟨(), rfl, trivial, q8, q17, by rw [ht]; exact hP, va_K.moved hW.alike hK, hD⟩, hS.F ht⟩) hS.2.2 dX3_init_32
set_option maxHeartbeats 4000000 in
set_option maxRecDepth 100000 in
theorem kX4_init (l : Launch) (D : va_G) (cI cJ cJJ : ClassId) (h0 sz : Nat)  : Met l yX4_init (.code yX4_init cX4_init 1 none :: TW) ({ frames := 2, cells := 11, slots := 1304, locals := 40 }) (va_Pc [.ref h0] (fun U => U.heap.size = sz ∧ va_P D vwCl [(h0, .inr (4, [.null, .null, .null]))] U.heap ∧ va_K D vwCl [(cI, .int), (cJ, .long), (cJJ, .array .long)] U ∧ va_D (fun _ => True) [(h0, .inr (4, [.null, .null, .null]))] ∧ mnA U)) (va_Qv (fun _ : Unit => True) (fun _ t => ∃ (q7 q49 q60 : Nat), va_P D vwCl [(h0, .inr (4, [.ref q7, .ref q49, .ref q60])), (q7, .inl (cI, 8, .inl (kH 8))), (q49, .inl (cI, 8, .inl (fun _ => 0))), (q60, .inl (cJJ, 8, .inr (.inr (.inr (.inr (fun j => if j < 8 then some (q60 + 1 + j) else none)))))), ((q60 + 1 + 0), .inl (cJ, 160, .inr (.inl (fun _ => 0)))), ((q60 + 1 + 1), .inl (cJ, 160, .inr (.inl (fun _ => 0)))), ((q60 + 1 + 2), .inl (cJ, 160, .inr (.inl (fun _ => 0)))), ((q60 + 1 + 3), .inl (cJ, 160, .inr (.inl (fun _ => 0)))), ((q60 + 1 + 4), .inl (cJ, 160, .inr (.inl (fun _ => 0)))), ((q60 + 1 + 5), .inl (cJ, 160, .inr (.inl (fun _ => 0)))), ((q60 + 1 + 6), .inl (cJ, 160, .inr (.inl (fun _ => 0)))), ((q60 + 1 + 7), .inl (cJ, 160, .inr (.inl (fun _ => 0))))] t.heap ∧ va_K D vwCl [(cI, .int), (cJ, .long), (cJJ, .array .long)] t ∧ va_D (va_A [(h0, .inr (4, [.null, .null, .null]))] sz) [(h0, .inr (4, [.ref q7, .ref q49, .ref q60])), (q7, .inl (cI, 8, .inl (kH 8))), (q49, .inl (cI, 8, .inl (fun _ => 0))), (q60, .inl (cJJ, 8, .inr (.inr (.inr (.inr (fun j => if j < 8 then some (q60 + 1 + j) else none)))))), ((q60 + 1 + 0), .inl (cJ, 160, .inr (.inl (fun _ => 0)))), ((q60 + 1 + 1), .inl (cJ, 160, .inr (.inl (fun _ => 0)))), ((q60 + 1 + 2), .inl (cJ, 160, .inr (.inl (fun _ => 0)))), ((q60 + 1 + 3), .inl (cJ, 160, .inr (.inl (fun _ => 0)))), ((q60 + 1 + 4), .inl (cJ, 160, .inr (.inl (fun _ => 0)))), ((q60 + 1 + 5), .inl (cJ, 160, .inr (.inl (fun _ => 0)))), ((q60 + 1 + 6), .inl (cJ, 160, .inr (.inl (fun _ => 0)))), ((q60 + 1 + 7), .inl (cJ, 160, .inr (.inl (fun _ => 0))))]) (va_A [(h0, .inr (4, [.null, .null, .null]))] sz)) 11 1304 (va_A [(h0, .inr (4, [.null, .null, .null]))] sz) := by
  refine Met.ofW (cc := cX4_init) (maxL := 1) (ret := none) (by decide) rfl ?_
  intro p e s m args below meth c s₁ B hml hv
  obtain ⟨rfl, hsz, hP, hK, hD0, hX⟩ := hv
  have hx := B.exec
  have hb := B.bytes
  have hr := B.returns
  have hts := atoms_spec (ws := .code yX4_init cX4_init 1 none :: TW) B.pre
  have hT : ∀ w ∈ TW, w.before _ s = true := fun w h => hts w (List.mem_cons_of_mem _ h)
  have hown : s.vm.findClass RX4 = some m.cls := findClass_of_methodNamed B.named
  have hlocks := B.notSynchronized
  have hin : meth.name = "<init>" := (name_of_methodNamed B.named B.method).1
  subst hsz
  have hD := hD0.self (sz := s.heap.size)
  generalize hAe : va_A [(h0, .inr (4, [.null, .null, .null]))] s.heap.size = A at hD ⊢
  have hA : ∀ q : Nat, s.heap.size ≤ q → A q := fun q h => by rw [← hAe]; exact Or.inr h
  have hS : va_S A s.heap s.heap [] := va_S.rf
  have hP : va_P D vwCl [(h0, .inr (4, [.null, .null, .null]))] s.heap := hP
  have hl := lv_entry ([.ref h0]) (n := 1) (Nat.le_of_ble_eq_true rfl)
  rw [lg_entry_eq]
  generalize (lg_sl ([.ref h0]) ++ List.replicate (1 - (lg_sl ([.ref h0])).length) Slot.unset).toArray = ls at hl ⊢
  have hl : lv_has ls 1 [(0, .ref h0)] := hl
  refine lv_aload_n hx hb dX4_init_0 rfl (lv_at hl 0 rfl) ?_
  refine W.objInit hx hb hown (hT (.methodLink RX4 3 objectInit) (gIs_in (i := 189) (by decide +kernel))) (hT (.instanceMethod objectInit) (gIs_in (i := 103) (by decide +kernel))) (hT (.code objectInit ⟨#[0xb1]⟩ 1 none) (gIs_in (i := 104) (by decide +kernel))) rfl (by rw [hml]; exact hl.1) rfl dX4_init_1 (Nat.le_of_ble_eq_true rfl) (Nat.le_of_ble_eq_true rfl) ?_
  refine W.eq (g2 := F0 m 4 ls []) rfl ?_
  refine lv_aload_n hx hb dX4_init_4 rfl (lv_at hl 0 rfl) ?_
  refine lv_bipush (v := 8) hx hb dX4_init_5 (by decide) ?_
  refine nw_I (n := 8) (N' := 8) hx hb (hT (.arrayClass .int) (gIs_in (i := 134) (by decide +kernel))) hK hP hD hS hA (by decide) rfl (Nat.le_of_ble_eq_true rfl) (Nat.le_of_ble_eq_true rfl) (Nat.le_of_ble_eq_true rfl) dX4_init_7 (fun q7 H hP hD hS => ?_)
  have hP : va_P D vwCl [(h0, .inr (4, [.null, .null, .null])), (q7, .inl (cI, 8, .inl (fun _ => 0)))] H := hP
  have hD : va_D A [(h0, .inr (4, [.null, .null, .null])), (q7, .inl (cI, 8, .inl (fun _ => 0)))] := hD
  refine W.widen (k := 1) (n := 8) (by omega) (by omega) ?_
  refine lv_dup hx hb dX4_init_9 rfl ?_
  refine lv_iconst (v := 0) hx hb dX4_init_10 (by decide) ?_
  refine lv_iconst (v := -1) hx hb dX4_init_11 (by decide) ?_
  refine va_iast hx hb hK hP hD hS 1 0 rfl rfl (by unfold vp_in; decide) dX4_init_12 (fun H locs hP hD hS => ?_)
  have hP : va_P D vwCl [(h0, .inr (4, [.null, .null, .null])), (q7, .inl (cI, 8, .inl (kH 1)))] H := hP
  have hD : va_D A [(h0, .inr (4, [.null, .null, .null])), (q7, .inl (cI, 8, .inl (kH 1)))] := hD
  refine lv_dup hx hb dX4_init_13 rfl ?_
  refine lv_iconst (v := 1) hx hb dX4_init_14 (by decide) ?_
  refine lv_iconst (v := -1) hx hb dX4_init_15 (by decide) ?_
  refine va_iast hx hb hK hP hD hS 1 0 rfl rfl (by unfold vp_in; decide) dX4_init_16 (fun H locs hP hD hS => ?_)
  have hP : va_P D vwCl [(h0, .inr (4, [.null, .null, .null])), (q7, .inl (cI, 8, .inl (kH 2)))] H := hP
  have hD : va_D A [(h0, .inr (4, [.null, .null, .null])), (q7, .inl (cI, 8, .inl (kH 2)))] := hD
  refine lv_dup hx hb dX4_init_17 rfl ?_
  refine lv_iconst (v := 2) hx hb dX4_init_18 (by decide) ?_
  refine lv_iconst (v := -1) hx hb dX4_init_19 (by decide) ?_
  refine va_iast hx hb hK hP hD hS 1 0 rfl rfl (by unfold vp_in; decide) dX4_init_20 (fun H locs hP hD hS => ?_)
  have hP : va_P D vwCl [(h0, .inr (4, [.null, .null, .null])), (q7, .inl (cI, 8, .inl (kH 3)))] H := hP
  have hD : va_D A [(h0, .inr (4, [.null, .null, .null])), (q7, .inl (cI, 8, .inl (kH 3)))] := hD
  refine lv_dup hx hb dX4_init_21 rfl ?_
  refine lv_iconst (v := 3) hx hb dX4_init_22 (by decide) ?_
  refine lv_iconst (v := -1) hx hb dX4_init_23 (by decide) ?_
  refine va_iast hx hb hK hP hD hS 1 0 rfl rfl (by unfold vp_in; decide) dX4_init_24 (fun H locs hP hD hS => ?_)
  have hP : va_P D vwCl [(h0, .inr (4, [.null, .null, .null])), (q7, .inl (cI, 8, .inl (kH 4)))] H := hP
  have hD : va_D A [(h0, .inr (4, [.null, .null, .null])), (q7, .inl (cI, 8, .inl (kH 4)))] := hD
  refine lv_dup hx hb dX4_init_25 rfl ?_
  refine lv_iconst (v := 4) hx hb dX4_init_26 (by decide) ?_
  refine lv_iconst (v := -1) hx hb dX4_init_27 (by decide) ?_
  refine va_iast hx hb hK hP hD hS 1 0 rfl rfl (by unfold vp_in; decide) dX4_init_28 (fun H locs hP hD hS => ?_)
  have hP : va_P D vwCl [(h0, .inr (4, [.null, .null, .null])), (q7, .inl (cI, 8, .inl (kH 5)))] H := hP
  have hD : va_D A [(h0, .inr (4, [.null, .null, .null])), (q7, .inl (cI, 8, .inl (kH 5)))] := hD
  refine lv_dup hx hb dX4_init_29 rfl ?_
  refine lv_iconst (v := 5) hx hb dX4_init_30 (by decide) ?_
  refine lv_iconst (v := -1) hx hb dX4_init_31 (by decide) ?_
  refine va_iast hx hb hK hP hD hS 1 0 rfl rfl (by unfold vp_in; decide) dX4_init_32 (fun H locs hP hD hS => ?_)
  have hP : va_P D vwCl [(h0, .inr (4, [.null, .null, .null])), (q7, .inl (cI, 8, .inl (kH 6)))] H := hP
  have hD : va_D A [(h0, .inr (4, [.null, .null, .null])), (q7, .inl (cI, 8, .inl (kH 6)))] := hD
  refine lv_dup hx hb dX4_init_33 rfl ?_
  refine lv_bipush (v := 6) hx hb dX4_init_34 (by decide) ?_
  refine lv_iconst (v := -1) hx hb dX4_init_36 (by decide) ?_
  refine va_iast hx hb hK hP hD hS 1 0 rfl rfl (by unfold vp_in; decide) dX4_init_37 (fun H locs hP hD hS => ?_)
  have hP : va_P D vwCl [(h0, .inr (4, [.null, .null, .null])), (q7, .inl (cI, 8, .inl (kH 7)))] H := hP
  have hD : va_D A [(h0, .inr (4, [.null, .null, .null])), (q7, .inl (cI, 8, .inl (kH 7)))] := hD
  refine lv_dup hx hb dX4_init_38 rfl ?_
  refine lv_bipush (v := 7) hx hb dX4_init_39 (by decide) ?_
  refine lv_iconst (v := -1) hx hb dX4_init_41 (by decide) ?_
  refine va_iast hx hb hK hP hD hS 1 0 rfl rfl (by unfold vp_in; decide) dX4_init_42 (fun H locs hP hD hS => ?_)
  have hP : va_P D vwCl [(h0, .inr (4, [.null, .null, .null])), (q7, .inl (cI, 8, .inl (kH 8)))] H := hP
  have hD : va_D A [(h0, .inr (4, [.null, .null, .null])), (q7, .inl (cI, 8, .inl (kH 8)))] := hD
  refine va_putF (D := D) (ci := 4) (v := .ref q7) (ty := .array .int) (C := RX4) (T := TX4) (N := 3) hx hb hT TW_X4 tyX4 tyX4_ok nmX4 hown hK hP hD hS 0 rfl rfl 0 (by decide) (hT (.fieldLink RX4 9 "NoFartherThanAThrow$Shelves" "held" "[I") (gIs_in (i := 192) (by decide +kernel))) (fun _ h9 => h9) rfl hin rfl (by decide +kernel) rfl rfl (Nat.le_of_ble_eq_true rfl) dX4_init_43 (fun H locs hP hD hS => ?_)
  have hP : va_P D vwCl [(h0, .inr (4, [.ref q7, .null, .null])), (q7, .inl (cI, 8, .inl (kH 8)))] H := hP
  have hD : va_D A [(h0, .inr (4, [.ref q7, .null, .null])), (q7, .inl (cI, 8, .inl (kH 8)))] := hD
  refine lv_aload_n hx hb dX4_init_46 rfl (lv_at hl 0 rfl) ?_
  refine lv_bipush (v := 8) hx hb dX4_init_47 (by decide) ?_
  refine nw_I (n := 8) (N' := 8) hx hb (hT (.arrayClass .int) (gIs_in (i := 134) (by decide +kernel))) hK hP hD hS hA (by decide) rfl (Nat.le_of_ble_eq_true rfl) (Nat.le_of_ble_eq_true rfl) (Nat.le_of_ble_eq_true rfl) dX4_init_49 (fun q49 H hP hD hS => ?_)
  have hP : va_P D vwCl [(h0, .inr (4, [.ref q7, .null, .null])), (q7, .inl (cI, 8, .inl (kH 8))), (q49, .inl (cI, 8, .inl (fun _ => 0)))] H := hP
  have hD : va_D A [(h0, .inr (4, [.ref q7, .null, .null])), (q7, .inl (cI, 8, .inl (kH 8))), (q49, .inl (cI, 8, .inl (fun _ => 0)))] := hD
  refine W.widen (k := 2) (n := 16) (by omega) (by omega) ?_
  refine va_putF (D := D) (ci := 4) (v := .ref q49) (ty := .array .int) (C := RX4) (T := TX4) (N := 3) hx hb hT TW_X4 tyX4 tyX4_ok nmX4 hown hK hP hD hS 0 rfl rfl 1 (by decide) (hT (.fieldLink RX4 15 "NoFartherThanAThrow$Shelves" "sizes" "[I") (gIs_in (i := 193) (by decide +kernel))) (fun _ h9 => h9) rfl hin rfl (by decide +kernel) rfl rfl (Nat.le_of_ble_eq_true rfl) dX4_init_51 (fun H locs hP hD hS => ?_)
  have hP : va_P D vwCl [(h0, .inr (4, [.ref q7, .ref q49, .null])), (q7, .inl (cI, 8, .inl (kH 8))), (q49, .inl (cI, 8, .inl (fun _ => 0)))] H := hP
  have hD : va_D A [(h0, .inr (4, [.ref q7, .ref q49, .null])), (q7, .inl (cI, 8, .inl (kH 8))), (q49, .inl (cI, 8, .inl (fun _ => 0)))] := hD
  refine lv_aload_n hx hb dX4_init_54 rfl (lv_at hl 0 rfl) ?_
  refine lv_bipush (v := 8) hx hb dX4_init_55 (by decide) ?_
  refine lv_sipush (v := 160) hx hb dX4_init_57 (by decide) ?_
  refine mn_row hx hb hown (hT (.classLink RX4 18 "[[J") (gIs_in (i := 190) (by decide +kernel))) hX (hT (.arrayClass .long) (gIs_in (i := 202) (by decide +kernel))) hK hP hD hS hA 1 2 rfl rfl (Nat.le_of_ble_eq_true rfl) (Nat.le_of_ble_eq_true rfl) dX4_init_60 (fun q60 H hP hD hS => ?_)
  have hP : va_P D vwCl [(h0, .inr (4, [.ref q7, .ref q49, .null])), (q7, .inl (cI, 8, .inl (kH 8))), (q49, .inl (cI, 8, .inl (fun _ => 0))), (q60, .inl (cJJ, 8, .inr (.inr (.inr (.inr (fun j => if j < 8 then some (q60 + 1 + j) else none)))))), ((q60 + 1 + 0), .inl (cJ, 160, .inr (.inl (fun _ => 0)))), ((q60 + 1 + 1), .inl (cJ, 160, .inr (.inl (fun _ => 0)))), ((q60 + 1 + 2), .inl (cJ, 160, .inr (.inl (fun _ => 0)))), ((q60 + 1 + 3), .inl (cJ, 160, .inr (.inl (fun _ => 0)))), ((q60 + 1 + 4), .inl (cJ, 160, .inr (.inl (fun _ => 0)))), ((q60 + 1 + 5), .inl (cJ, 160, .inr (.inl (fun _ => 0)))), ((q60 + 1 + 6), .inl (cJ, 160, .inr (.inl (fun _ => 0)))), ((q60 + 1 + 7), .inl (cJ, 160, .inr (.inl (fun _ => 0))))] H := hP
  have hD : va_D A [(h0, .inr (4, [.ref q7, .ref q49, .null])), (q7, .inl (cI, 8, .inl (kH 8))), (q49, .inl (cI, 8, .inl (fun _ => 0))), (q60, .inl (cJJ, 8, .inr (.inr (.inr (.inr (fun j => if j < 8 then some (q60 + 1 + j) else none)))))), ((q60 + 1 + 0), .inl (cJ, 160, .inr (.inl (fun _ => 0)))), ((q60 + 1 + 1), .inl (cJ, 160, .inr (.inl (fun _ => 0)))), ((q60 + 1 + 2), .inl (cJ, 160, .inr (.inl (fun _ => 0)))), ((q60 + 1 + 3), .inl (cJ, 160, .inr (.inl (fun _ => 0)))), ((q60 + 1 + 4), .inl (cJ, 160, .inr (.inl (fun _ => 0)))), ((q60 + 1 + 5), .inl (cJ, 160, .inr (.inl (fun _ => 0)))), ((q60 + 1 + 6), .inl (cJ, 160, .inr (.inl (fun _ => 0)))), ((q60 + 1 + 7), .inl (cJ, 160, .inr (.inl (fun _ => 0))))] := hD
  refine W.widen (k := 11) (n := 1304) (by omega) (by omega) ?_
  refine va_putF (D := D) (ci := 4) (v := .ref q60) (ty := .array (.array .long)) (C := RX4) (T := TX4) (N := 3) hx hb hT TW_X4 tyX4 tyX4_ok nmX4 hown hK hP hD hS 0 rfl rfl 2 (by decide) (hT (.fieldLink RX4 20 "NoFartherThanAThrow$Shelves" "rows" "[[J") (gIs_in (i := 194) (by decide +kernel))) (fun _ h9 => h9) rfl hin rfl (by decide +kernel) rfl rfl (Nat.le_of_ble_eq_true rfl) dX4_init_64 (fun H locs hP hD hS => ?_)
  have hP : va_P D vwCl [(h0, .inr (4, [.ref q7, .ref q49, .ref q60])), (q7, .inl (cI, 8, .inl (kH 8))), (q49, .inl (cI, 8, .inl (fun _ => 0))), (q60, .inl (cJJ, 8, .inr (.inr (.inr (.inr (fun j => if j < 8 then some (q60 + 1 + j) else none)))))), ((q60 + 1 + 0), .inl (cJ, 160, .inr (.inl (fun _ => 0)))), ((q60 + 1 + 1), .inl (cJ, 160, .inr (.inl (fun _ => 0)))), ((q60 + 1 + 2), .inl (cJ, 160, .inr (.inl (fun _ => 0)))), ((q60 + 1 + 3), .inl (cJ, 160, .inr (.inl (fun _ => 0)))), ((q60 + 1 + 4), .inl (cJ, 160, .inr (.inl (fun _ => 0)))), ((q60 + 1 + 5), .inl (cJ, 160, .inr (.inl (fun _ => 0)))), ((q60 + 1 + 6), .inl (cJ, 160, .inr (.inl (fun _ => 0)))), ((q60 + 1 + 7), .inl (cJ, 160, .inr (.inl (fun _ => 0))))] H := hP
  have hD : va_D A [(h0, .inr (4, [.ref q7, .ref q49, .ref q60])), (q7, .inl (cI, 8, .inl (kH 8))), (q49, .inl (cI, 8, .inl (fun _ => 0))), (q60, .inl (cJJ, 8, .inr (.inr (.inr (.inr (fun j => if j < 8 then some (q60 + 1 + j) else none)))))), ((q60 + 1 + 0), .inl (cJ, 160, .inr (.inl (fun _ => 0)))), ((q60 + 1 + 1), .inl (cJ, 160, .inr (.inl (fun _ => 0)))), ((q60 + 1 + 2), .inl (cJ, 160, .inr (.inl (fun _ => 0)))), ((q60 + 1 + 3), .inl (cJ, 160, .inr (.inl (fun _ => 0)))), ((q60 + 1 + 4), .inl (cJ, 160, .inr (.inl (fun _ => 0)))), ((q60 + 1 + 5), .inl (cJ, 160, .inr (.inl (fun _ => 0)))), ((q60 + 1 + 6), .inl (cJ, 160, .inr (.inl (fun _ => 0)))), ((q60 + 1 + 7), .inl (cJ, 160, .inr (.inl (fun _ => 0))))] := hD
  exact W.vret hx hb hr (fun t ht hW => ⟨⟨(), rfl, trivial, q7, q49, q60, by rw [ht]; exact hP, va_K.moved hW.alike hK, hD⟩, hS.F ht⟩) hS.2.2 dX4_init_67

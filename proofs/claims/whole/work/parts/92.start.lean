/-! THE START: what the Statement gives of the statics, of the String constants, of the classes -/
def lwF : List Cond := flatC (Jvm.Cond.and given_1 narrow_1)
/-- what lies round the world, said of addresses E, apart from A -/
def stE (E : Nat → Nat) (A : Nat → Prop) (U : State) (H : Heap) : Prop := ((∀ s, s = 100 ∨ s = 101 ∨ s = 102 → va_Z (gStN s).1 (gStN s).2 "[I" (.ref (E s)) A U H ∧ va_T .int (E s) (gSta s).length (fun j => .int ((gSta s).getD j 0)) A U H) ∧ (vk_S 6 gSL gTxs (fun j => E (200 + j)) (fun j => E (210 + j)) A U H ∧ (∀ j, j < 6 → vk_R RX1 (gSi j) (gSt j) (E (200 + j)) U) ∧ va_Z "java/lang/String" "COMPACT_STRINGS" "Z" (.int 1) A U H ∧ ∃ v, (v = .null ∨ v = .ref (E 220)) ∧ va_Z "jdk/internal/util/Preconditions" "SIOOBE_FORMATTER" "Ljava/util/function/BiFunction;" v A U H)) ∧ ∀ w ∈ gNest, va_Nw w U
theorem vkS_cong {N : Nat} {len : List Nat} {byt : List (List Int32)} {a b a' b' : Nat → Nat} {A : Nat → Prop} {U : State} {H : Heap} (h : vk_S N len byt a b A U H) (e1 : ∀ i, i < N → a' i = a i) (e2 : ∀ i, i < N → b' i = b i) : vk_S N len byt a' b' A U H := by
  refine ⟨fun i hi => ?_, fun i j hi hj e => h.2 i j hi hj (by rw [← e1 i hi, ← e1 j hj]; exact e)⟩
  rw [e1 i hi, e2 i hi]
  exact h.1 i hi
theorem aAmb_of {E : Nat → Nat} {A : Nat → Prop} {g : aG} {U : State} {H : Heap} (h : stE E A U H) (hg : ∀ p, 78 ≤ p → g.1 p = E p) (hA : ∀ q, aA g q → A q) : aAmb g U H := by
  obtain ⟨⟨h1, h2, h3, h4, v, h5, h6⟩, h7⟩ := h
  refine ⟨⟨fun s hs => ?_, vkS_cong (h2.narrow hA) (fun i _ => hg (200 + i) (by omega)) (fun i _ => hg (210 + i) (by omega)), fun j hj => ?_, h4.narrow hA, v, ?_, h6.narrow hA⟩, h7⟩
  · rw [hg s (by omega)]
    exact ⟨(h1 s hs).1.narrow hA, (h1 s hs).2.narrow hA⟩
  · rw [hg (200 + j) (by omega)]
    exact h3 j hj
  · rw [hg 220 (by omega)]
    exact h5
def lwS (i : Nat) : Term := .string RX1 (gSi i)
theorem lwF_ar : ∀ s, s = 100 ∨ s = 101 ∨ s = 102 → (Cond.arrayOf (.static (gStN s).1 (gStN s).2 "[I") .int) ∈ lwF ∧ (Cond.eq (.length (.static (gStN s).1 (gStN s).2 "[I")) (.int (Int32.ofNat (gSta s).length))) ∈ lwF := by
  intro s hs
  rcases hs with rfl | rfl | rfl <;> decide +kernel
theorem lwF_el : ∀ s, s = 100 ∨ s = 101 ∨ s = 102 → ∀ j, j < (gSta s).length → (Cond.eq (.elem (.static (gStN s).1 (gStN s).2 "[I") (.int (Int32.ofNat j))) (.int ((gSta s).getD j 0))) ∈ lwF := by
  intro s hs
  rcases hs with rfl | rfl | rfl <;> decide +kernel
theorem lwF_s1 : ∀ i, i < 6 → (Cond.exactly (lwS i) "java/lang/String") ∈ lwF ∧ (Cond.eq (.field (lwS i) "java/lang/String" "coder" "B") (.int 0)) ∈ lwF ∧ (Cond.arrayOf (.field (lwS i) "java/lang/String" "value" "[B") .byte) ∈ lwF ∧ (Cond.eq (.length (.field (lwS i) "java/lang/String" "value" "[B")) (.int (Int32.ofNat (gSL.getD i 0)))) ∈ lwF := by decide +kernel
theorem lwF_s2 : ∀ i, i < 6 → ∀ j, j < gSL.getD i 0 → (Cond.eq (.elem (.field (lwS i) "java/lang/String" "value" "[B") (.int (Int32.ofNat j))) (.int ((gTxs.getD i []).getD j 0))) ∈ lwF := by decide +kernel
theorem lwF_s3 : ∀ i, i < 6 → ∀ j, j < 6 → i ≠ j → ((Cond.not (Cond.eq (lwS i) (lwS j))) ∈ lwF ∨ (Cond.not (Cond.eq (lwS j) (lwS i))) ∈ lwF) := by decide +kernel
theorem lwF_z : (Cond.eq (.static "java/lang/String" "COMPACT_STRINGS" "Z") (.int 1)) ∈ lwF ∧ (Cond.isRef (.static "jdk/internal/util/Preconditions" "SIOOBE_FORMATTER" "Ljava/util/function/BiFunction;")) ∈ lwF := by decide +kernel
theorem lwT_ls : ∀ s, s = 100 ∨ s = 101 ∨ s = 102 → (Cond.laysStatic (gStN s).1 (gStN s).2 "[I") ∈ lw_tbl ∧ (Cond.initialized (gStN s).1) ∈ lw_tbl := by
  intro s hs
  rcases hs with rfl | rfl | rfl
  · exact ⟨List.mem_of_getElem? (i := 439) (by decide +kernel), List.mem_of_getElem? (i := 81) (by decide +kernel)⟩
  · exact ⟨List.mem_of_getElem? (i := 1034) (by decide +kernel), List.mem_of_getElem? (i := 88) (by decide +kernel)⟩
  · exact ⟨List.mem_of_getElem? (i := 898) (by decide +kernel), List.mem_of_getElem? (i := 87) (by decide +kernel)⟩
theorem lwT_sr : ∀ i, i < 6 → lw_tbl[[607, 689, 714, 696, 702, 708].getD i 0]? = some (Cond.stringRef RX1 (gSi i) (gSt i)) := by decide +kernel
theorem lwT_nest : ∀ i, i < gNest.length → gNest[i]?.any (fun w => lw_tbl.contains w) = true := by decide +kernel
theorem gSL_lt : ∀ i : Nat, i < 6 → gSL.getD i 0 < 2 ^ 31 := by decide +kernel
theorem gSta_lt : ∀ s, s = 100 ∨ s = 101 ∨ s = 102 → (gSta s).length < 2 ^ 31 := by
  intro s hs
  rcases hs with rfl | rfl | rfl <;> decide +kernel
set_option maxHeartbeats 2000000 in
theorem lw_start {b : Nat} {s : State} (hts : ∀ w ∈ lw_tbl, w.before #[Value.ref b] s = true) (hgv : (Jvm.Cond.and given_1 narrow_1).before #[Value.ref b] s = true) : ∃ E : Nat → Nat, stE E (fun q => s.heap.size ≤ q) s s.heap := by
  have hA : ∀ a : Nat, a < s.heap.size → ¬ (fun q => s.heap.size ≤ q) a := fun a h => Nat.not_le.mpr h
  have hF : ∀ w ∈ lwF, w.before #[Value.ref b] s = true := flat_of_before _ hgv
  have hst : ∀ k, k = 100 ∨ k = 101 ∨ k = 102 → ∃ t : Nat, va_Z (gStN k).1 (gStN k).2 "[I" (.ref t) (fun q => s.heap.size ≤ q) s s.heap ∧ va_T .int t (gSta k).length (fun j => .int ((gSta k).getD j 0)) (fun q => s.heap.size ≤ q) s s.heap := by
    intro k hk
    obtain ⟨t, h1, h2⟩ := va_Tof (A := fun q => s.heap.size ≤ q) (f := fun j => .int ((gSta k).getD j 0)) (gSta_lt k hk) (hF _ (lwF_ar k hk).1) (va_eqt (hF _ (lwF_ar k hk).2)) (fun j hj => va_eqt (hF _ (lwF_el k hk j hj))) hA
    exact ⟨t, va_Zof (hts _ (lwT_ls k hk).1) (hts _ (lwT_ls k hk).2) h1 hA, h2⟩
  obtain ⟨t0, z0⟩ := hst 100 (by omega)
  obtain ⟨t1, z1⟩ := hst 101 (by omega)
  obtain ⟨t2, z2⟩ := hst 102 (by omega)
  obtain ⟨adK, adV, hS, hK⟩ := vk_Sof (args := #[Value.ref b]) (s := s) (N := 6) (tm := lwS) (len := gSL) (byt := gTxs) (A := fun q => s.heap.size ≤ q) gSL_lt (fun i hi => hF _ (lwF_s1 i hi).1) (fun i hi => hF _ (lwF_s1 i hi).2.1) (fun i hi => hF _ (lwF_s1 i hi).2.2.1) (fun i hi => hF _ (lwF_s1 i hi).2.2.2) (fun i hi j hj => hF _ (lwF_s2 i hi j hj)) (fun i j hi hj hne => (lwF_s3 i hi j hj hne).imp (fun h => hF _ h) (fun h => hF _ h)) hA
  have hz : va_Z "java/lang/String" "COMPACT_STRINGS" "Z" (.int 1) (fun q => s.heap.size ≤ q) s s.heap := va_Zof (hts _ (List.mem_of_getElem? (i := 622) (by decide +kernel))) (hts _ (List.mem_of_getElem? (i := 92) (by decide +kernel))) (va_eqi (hF _ lwF_z.1)) hA
  have hq := va_Zqof (A := fun q => s.heap.size ≤ q) (hts _ (List.mem_of_getElem? (a := Cond.laysStatic "jdk/internal/util/Preconditions" "SIOOBE_FORMATTER" "Ljava/util/function/BiFunction;") (i := 638) (by decide +kernel))) (hts _ (List.mem_of_getElem? (i := 94) (by decide +kernel))) (hF _ lwF_z.2) hA
  have hq2 : ∃ t : Nat, ∃ v, (v = Value.null ∨ v = .ref t) ∧ va_Z "jdk/internal/util/Preconditions" "SIOOBE_FORMATTER" "Ljava/util/function/BiFunction;" v (fun q => s.heap.size ≤ q) s s.heap := by
    rcases hq with h | ⟨t, h⟩
    · exact ⟨0, .null, Or.inl rfl, h⟩
    · exact ⟨t, .ref t, Or.inr rfl, h⟩
  obtain ⟨t3, v, hv, hzv⟩ := hq2
  have hN : ∀ w ∈ gNest, va_Nw w s := by
    intro w hw
    obtain ⟨i, hi⟩ := List.getElem?_of_mem hw
    have hl : i < gNest.length := (List.getElem?_eq_some_iff.mp hi).1
    have h1 := lwT_nest i hl
    rw [hi] at h1
    have h2 : w ∈ lw_tbl := by simpa using h1
    have h3 := gNest_is w hw
    have h4 := hts w h2
    cases w <;> first | exact va_Nw.of rfl h4 | (simp [isNestW] at h3; done)
  refine ⟨fun p => if p = 100 then t0 else if p = 101 then t1 else if p = 102 then t2 else if p < 210 then adK (p - 200) else if p < 220 then adV (p - 210) else t3, ⟨fun k hk => ?_, vkS_cong hS (fun i hi => ?_) (fun i hi => ?_), fun j hj => ?_, hz, v, hv, hzv⟩, hN⟩
  · rcases hk with rfl | rfl | rfl
    · exact z0
    · exact z1
    · exact z2
  · show (if 200 + i = 100 then t0 else if 200 + i = 101 then t1 else if 200 + i = 102 then t2 else if 200 + i < 210 then adK (200 + i - 200) else _) = adK i
    rw [if_neg (by omega), if_neg (by omega), if_neg (by omega), if_pos (by omega), show 200 + i - 200 = i by omega]
  · show (if 210 + i = 100 then t0 else if 210 + i = 101 then t1 else if 210 + i = 102 then t2 else if 210 + i < 210 then adK (210 + i - 200) else if 210 + i < 220 then adV (210 + i - 210) else t3) = adV i
    rw [if_neg (by omega), if_neg (by omega), if_neg (by omega), if_neg (by omega), if_pos (by omega), show 210 + i - 210 = i by omega]
  · have e : (if 200 + j = 100 then t0 else if 200 + j = 101 then t1 else if 200 + j = 102 then t2 else if 200 + j < 210 then adK (200 + j - 200) else if 200 + j < 220 then adV (200 + j - 210) else t3) = adK j := by
      rw [if_neg (by omega), if_neg (by omega), if_neg (by omega), if_pos (by omega), show 200 + j - 200 = j by omega]
    show vk_R RX1 (gSi j) (gSt j) (if 200 + j = 100 then t0 else if 200 + j = 101 then t1 else if 200 + j = 102 then t2 else if 200 + j < 210 then adK (200 + j - 200) else if 200 + j < 220 then adV (200 + j - 210) else t3) s
    rw [e]
    have h1 := hts _ (List.mem_of_getElem? (lwT_sr j hj))
    have h2 := hK j hj
    exact vk_R.of h1 h2
theorem lw_arr {args : Array Value} {s : State} {ty : FieldType} (h : (Cond.arrayClass ty).before args s = true) : ∃ cA, ArrOfT s cA ty ∧ s.vm.findClass ("[" ++ ty.toString) = some cA := by
  obtain ⟨cA, k, comp, h1, h2, h3⟩ := Cond.arrayClass_spec h
  exact ⟨cA, fun n z => ⟨fun x e => (by cases e), k, h2, comp, h3⟩, h1⟩
theorem lw_K {b : Nat} {s : State} (hts : ∀ w ∈ lw_tbl, w.before #[Value.ref b] s = true) : ∃ (D : va_G) (cI cJ cJJ : ClassId), va_K D vwCl [(cI, .int), (cJ, .long), (cJJ, .array .long)] s := by
  have hT : ∀ w ∈ TW, w.before #[Value.ref b] s = true := fun w h => hts w (List.mem_filter.mp h).1
  obtain ⟨c0, i0, k0⟩ := u_known (C := RX0) (T := TX0) (N := 5) (n := 5) hT TW_X0 (hts (.instantiable RX0 5) (List.mem_of_getElem? (i := 274) (by decide +kernel)))
  obtain ⟨c1, i1, k1⟩ := u_known (C := RX1) (T := TX1) (N := 8) (n := 8) hT TW_X1 (hts (.instantiable RX1 8) (List.mem_of_getElem? (i := 204) (by decide +kernel)))
  obtain ⟨c2, i2, k2⟩ := u_known (C := RX2) (T := TX2) (N := 3) (n := 3) hT TW_X2 (hts (.instantiable RX2 3) (List.mem_of_getElem? (i := 236) (by decide +kernel)))
  obtain ⟨c3, i3, k3⟩ := u_known (C := RX3) (T := TX3) (N := 5) (n := 5) hT TW_X3 (hts (.instantiable RX3 5) (List.mem_of_getElem? (i := 252) (by decide +kernel)))
  obtain ⟨c4, i4, k4⟩ := u_known (C := RX4) (T := TX4) (N := 3) (n := 3) hT TW_X4 (hts (.instantiable RX4 3) (List.mem_of_getElem? (i := 185) (by decide +kernel)))
  obtain ⟨c5, i5, k5⟩ := u_known (C := RX5) (T := TX5) (N := 4) (n := 4) hT TW_X5 (hts (.instantiable RX5 4) (List.mem_of_getElem? (i := 112) (by decide +kernel)))
  obtain ⟨c6, i6, k6⟩ := u_known (C := RX6) (T := TX6) (N := 9) (n := 9) hT TW_X6 (hts (.instantiable RX6 9) (List.mem_of_getElem? (i := 106) (by decide +kernel)))
  obtain ⟨c7, i7, k7⟩ := u_known (C := RX7) (T := TX7) (N := 11) (n := 11) hT TW_X7 (hts (.instantiable RX7 11) (List.mem_of_getElem? (i := 98) (by decide +kernel)))
  obtain ⟨c8, i8, k8⟩ := u_known (C := RX8) (T := TX8) (N := 50) (n := 50) hT TW_X8 (hts (.instantiable RX8 50) (List.mem_of_getElem? (i := 1065) (by decide +kernel)))
  obtain ⟨cI, aI, fI⟩ := lw_arr (hts (.arrayClass .int) (List.mem_of_getElem? (i := 134) (by decide +kernel)))
  obtain ⟨cJ, aJ, fJ⟩ := lw_arr (hts (.arrayClass .long) (List.mem_of_getElem? (i := 202) (by decide +kernel)))
  obtain ⟨comp, cJJ, kk, q1, q2, q3, q4⟩ := mn_over (hts (.arrayOver (.array .long)) (List.mem_of_getElem? (i := 191) (by decide +kernel)))
  refine ⟨(fun k => [c0, c1, c2, c3, c4, c5, c6, c7, c8].getD k c0, fun k => [i0, i1, i2, i3, i4, i5, i6, i7, i8].getD k i0), cI, cJ, cJJ, fun k q hq => ?_, fun k q hq => ?_⟩
  · match k, hq with
    | 0, hq => cases hq; exact k0
    | 1, hq => cases hq; exact k1
    | 2, hq => cases hq; exact k2
    | 3, hq => cases hq; exact k3
    | 4, hq => cases hq; exact k4
    | 5, hq => cases hq; exact k5
    | 6, hq => cases hq; exact k6
    | 7, hq => cases hq; exact k7
    | 8, hq => cases hq; exact k8
    | k + 9, hq => simp [vwCl] at hq
  · match k, hq with
    | 0, hq => cases hq; exact ⟨aI, fI⟩
    | 1, hq => cases hq; exact ⟨aJ, fJ⟩
    | 2, hq => cases hq; exact ⟨fun n z => ⟨fun x e => (by cases e), kk, q2, comp, q3⟩, by show s.vm.findClass ("[" ++ (FieldType.array .long).toString) = some cJJ; rw [mn_s2]; exact q4⟩
    | k + 3, hq => simp at hq

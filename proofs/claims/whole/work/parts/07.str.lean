/-! SOUNDNESS of String.length and String.charAt on the class's String constants: walks of the JDK's own methods -/
def sRm (n : Nat) : Room := { frames := n, cells := 0, slots := 0, locals := 40 * n }
def sCx (p : Program) (s : State) (m : MethodId) (args : Array Value) (meth : Method) (c : Code) (own : String) (cc : ByteArray) (ml : Nat) (rt : Option FieldType) (D : va_G) (g : aG) : Prop :=
  p.tables.exec = Jvm.exec ∧ c.code = cc ∧ c.maxLocals = ml ∧ s.vm.findClass own = some m.cls ∧ (∀ w ∈ TW, w.before args s = true) ∧ meth.sig.returnType = rt ∧ meth.locks = false ∧ va_K D vwCl (aTy g) s ∧ aAmb g s s.heap
theorem TJ_goodIn {w : Cond} (h : w ∈ TW) : GoodIn TW (w :: TW) := by
  intro v hv
  have hm : v ∈ TW := by
    rcases List.mem_cons.mp hv with rfl | hv
    · exact h
    · exact hv
  exact ⟨hm, TW_good v hm⟩
def aOne (w : hW) (v : Option Value) : aPost := fun r w' => r = v ∧ w' = w
theorem sMetOf {l : Launch} {D : va_G} {g : aG} {y : MethodName} {cc : ByteArray} {ml : Nat} {rt : Option FieldType} (hpl : plainName y.cls = true) {R : Room} {as : List Value} {w : hW} {Q : aPost} (hlen : (spv as).length ≤ ml)
    (walk : ∀ (p : Program) (e : Env) (s : State) (m : MethodId) (args : Array Value) (below : List Frame) (meth : Method) (c : Code) (ls : Array Slot), sCx p s m args meth c y.cls cc ml rt D g → va_P D vwCl (aWd g w) s.heap → va_D (aA g) (aWd g w) → lvR g ls ml (padL ml (spv as)) → W p l e R s m args below meth c s.heap [] 0 0 (MQ below (aQc D g Q) args s 0 0 (aA g)) (F0 m 0 ls [])) :
    Met l y (.code y cc ml rt :: TW) R (va_Pc (as.map (cv g)) (aPre D g w)) (aQc D g Q) 0 0 (aA g) := by
  refine Met.ofW (cc := cc) (maxL := ml) (ret := rt) hpl rfl ?_
  intro p e s m args below meth c s₁ B hml hv
  obtain ⟨rfl, hP, hK, hD, hA⟩ := hv
  have hts := atoms_spec (ws := .code y cc ml rt :: TW) B.pre
  have hown : s.vm.findClass y.cls = some m.cls := findClass_of_methodNamed B.named
  rw [lg_entry_eq]
  exact walk p e s m _ below meth c _ ⟨B.exec, B.bytes, hml, hown, fun w hw => hts w (List.mem_cons_of_mem _ hw), B.returns, B.notSynchronized, hK, hA⟩ hP hD (lvR_entry g as hlen)
theorem TJ_1 : Cond.code yJ0_length_8abf5 cJ0_length_8abf5 1 (some .int) ∈ TW := gIs_in (i := 616) (by decide +kernel)
theorem TJ_2 : Cond.code yJ0_coder_7d493 cJ0_coder_7d493 1 (some .byte) ∈ TW := gIs_in (i := 620) (by decide +kernel)
theorem TJ_3 : Cond.code yJ0_charAt_5068e cJ0_charAt_5068e 2 (some .char) ∈ TW := gIs_in (i := 626) (by decide +kernel)
theorem TJ_4 : Cond.code yJ0_isLatin1_aae02 cJ0_isLatin1_aae02 1 (some .boolean) ∈ TW := gIs_in (i := 630) (by decide +kernel)
theorem TJ_5 : Cond.code yJ1_charAt_3b067 cJ1_charAt_3b067 2 (some .char) ∈ TW := gIs_in (i := 633) (by decide +kernel)
theorem TJ_6 : Cond.code yJ0_checkIndex_df160 cJ0_checkIndex_df160 2 none ∈ TW := gIs_in (i := 636) (by decide +kernel)
theorem TJ_7 : Cond.code yJ3_checkIndex_8e157 cJ3_checkIndex_8e157 3 (some .int) ∈ TW := gIs_in (i := 641) (by decide +kernel)
theorem TJ_10 : Cond.initialized "java/lang/String" ∈ TW := gIs_in (i := 92) (by decide +kernel)
theorem TJ_11 : Cond.initialized "java/lang/StringLatin1" ∈ TW := gIs_in (i := 93) (by decide +kernel)
theorem TJ_12 : Cond.initialized "jdk/internal/util/Preconditions" ∈ TW := gIs_in (i := 94) (by decide +kernel)
theorem TJ_20 : Cond.instanceMethod yJ0_length_8abf5 ∈ TW := gIs_in (i := 614) (by decide +kernel)
theorem TJ_21 : Cond.selects RJ0 yJ0_length_8abf5 yJ0_length_8abf5 ∈ TW := gIs_in (i := 615) (by decide +kernel)
theorem TJ_22 : Cond.methodLink RJ0 335 yJ0_coder_7d493 ∈ TW := gIs_in (i := 617) (by decide +kernel)
theorem TJ_23 : Cond.instanceMethod yJ0_coder_7d493 ∈ TW := gIs_in (i := 618) (by decide +kernel)
theorem TJ_24 : Cond.selects RJ0 yJ0_coder_7d493 yJ0_coder_7d493 ∈ TW := gIs_in (i := 619) (by decide +kernel)
theorem TJ_25 : Cond.fieldLink RJ0 38 "java/lang/String" "COMPACT_STRINGS" "Z" ∈ TW := gIs_in (i := 621) (by decide +kernel)
theorem TJ_26 : Cond.instanceMethod yJ0_charAt_5068e ∈ TW := gIs_in (i := 624) (by decide +kernel)
theorem TJ_27 : Cond.selects RJ0 yJ0_charAt_5068e yJ0_charAt_5068e ∈ TW := gIs_in (i := 625) (by decide +kernel)
theorem TJ_28 : Cond.methodLink RJ0 492 yJ0_isLatin1_aae02 ∈ TW := gIs_in (i := 627) (by decide +kernel)
theorem TJ_29 : Cond.instanceMethod yJ0_isLatin1_aae02 ∈ TW := gIs_in (i := 628) (by decide +kernel)
theorem TJ_30 : Cond.selects RJ0 yJ0_isLatin1_aae02 yJ0_isLatin1_aae02 ∈ TW := gIs_in (i := 629) (by decide +kernel)
theorem TJ_31 : Cond.methodLink RJ0 495 yJ1_charAt_3b067 ∈ TW := gIs_in (i := 631) (by decide +kernel)
theorem TJ_32 : Cond.static yJ1_charAt_3b067 ∈ TW := gIs_in (i := 632) (by decide +kernel)
theorem TJ_33 : Cond.methodLink RJ1 9 yJ0_checkIndex_df160 ∈ TW := gIs_in (i := 634) (by decide +kernel)
theorem TJ_34 : Cond.static yJ0_checkIndex_df160 ∈ TW := gIs_in (i := 635) (by decide +kernel)
theorem TJ_35 : Cond.fieldLink RJ0 1053 "jdk/internal/util/Preconditions" "SIOOBE_FORMATTER" "Ljava/util/function/BiFunction;" ∈ TW := gIs_in (i := 637) (by decide +kernel)
theorem TJ_36 : Cond.methodLink RJ0 1059 yJ3_checkIndex_8e157 ∈ TW := gIs_in (i := 639) (by decide +kernel)
theorem TJ_37 : Cond.static yJ3_checkIndex_8e157 ∈ TW := gIs_in (i := 640) (by decide +kernel)
theorem TJ_40 : Cond.fieldLink RJ0 9 "java/lang/String" "value" "[B" ∈ TW := gIs_in (i := 1595) (by decide +kernel)
theorem TJ_41 : Cond.fieldLink RJ0 15 "java/lang/String" "coder" "B" ∈ TW := gIs_in (i := 1596) (by decide +kernel)
section STR
variable {l : Launch} {D : va_G} {g : aG} {w : hW}
/-- coder() -/
theorem sCoder {j : Nat} (hj : j < 6) : Met l yJ0_coder_7d493 (.code yJ0_coder_7d493 cJ0_coder_7d493 1 (some .byte) :: TW) (sRm 0) (va_Pc ([Value.ref (200 + j)].map (cv g)) (aPre D g w)) (aQc D g (aOne w (some (.int 0)))) 0 0 (aA g) := by
  refine sMetOf (by decide +kernel) (Nat.le_refl _) ?_
  intro p e s m args below meth c ls C hP hD hl
  obtain ⟨hx, hb, hml, hown, hts, hr, hlocks, hK, hAm⟩ := C
  obtain ⟨hS1, hS2, hS3, hS4⟩ := hAm.1.2
  have hS : va_S (aA g) s.heap s.heap [] := va_S.rf
  refine va_gets hx hb hS3 hS hown (hts _ TJ_25) (fun _ h => h) (show decode cJ0_coder_7d493 0 = .ok (.getstatic 38, 3) from by decide +kernel) ?_
  refine lv_if_eq (tgt := 13) hx hb (show decode cJ0_coder_7d493 3 = .ok (.ifCond .eq 10, 3) from by decide +kernel) rfl (fun h => absurd h (by decide)) (fun _ => ?_)
  refine lv_aload_n hx hb (show decode cJ0_coder_7d493 6 = .ok (.aload_n 0, 1) from by decide +kernel) rfl (hl.2.2.2 0 (.ref (200 + j)) rfl) ?_
  refine vk_getf hx hb (hS1.1 j hj).2.1 hS hown (hts _ TJ_41) (fun _ h => h) (show decode cJ0_coder_7d493 7 = .ok (.getfield 15, 3) from by decide +kernel) ?_
  refine lv_goto (tgt := 14) hx hb (show decode cJ0_coder_7d493 10 = .ok (.goto 4, 3) from by decide +kernel) rfl ?_
  exact W.zret hx hb hr rfl (fun t ht _ => ⟨⟨some (.int 0), w, rfl, ⟨rfl, rfl⟩, by rw [ht]; exact hP⟩, hS.F ht⟩) hS.2.2 (show decode cJ0_coder_7d493 14 = .ok (.ireturn, 1) from by decide +kernel) hlocks
/-- isLatin1() -/
theorem sLatin {j : Nat} (hj : j < 6) : Met l yJ0_isLatin1_aae02 (.code yJ0_isLatin1_aae02 cJ0_isLatin1_aae02 1 (some .boolean) :: TW) (sRm 0) (va_Pc ([Value.ref (200 + j)].map (cv g)) (aPre D g w)) (aQc D g (aOne w (some (.int 1)))) 0 0 (aA g) := by
  refine sMetOf (by decide +kernel) (Nat.le_refl _) ?_
  intro p e s m args below meth c ls C hP hD hl
  obtain ⟨hx, hb, hml, hown, hts, hr, hlocks, hK, hAm⟩ := C
  obtain ⟨hS1, hS2, hS3, hS4⟩ := hAm.1.2
  have hS : va_S (aA g) s.heap s.heap [] := va_S.rf
  refine va_gets hx hb hS3 hS hown (hts _ TJ_25) (fun _ h => h) (show decode cJ0_isLatin1_aae02 0 = .ok (.getstatic 38, 3) from by decide +kernel) ?_
  refine lv_if_eq (tgt := 17) hx hb (show decode cJ0_isLatin1_aae02 3 = .ok (.ifCond .eq 14, 3) from by decide +kernel) rfl (fun h => absurd h (by decide)) (fun _ => ?_)
  refine lv_aload_n hx hb (show decode cJ0_isLatin1_aae02 6 = .ok (.aload_n 0, 1) from by decide +kernel) rfl (hl.2.2.2 0 (.ref (200 + j)) rfl) ?_
  refine vk_getf hx hb (hS1.1 j hj).2.1 hS hown (hts _ TJ_41) (fun _ h => h) (show decode cJ0_isLatin1_aae02 7 = .ok (.getfield 15, 3) from by decide +kernel) ?_
  refine lv_if_ne (tgt := 17) hx hb (show decode cJ0_isLatin1_aae02 10 = .ok (.ifCond .ne 7, 3) from by decide +kernel) rfl (fun h => absurd rfl h) (fun _ => ?_)
  refine lv_iconst hx hb (show decode cJ0_isLatin1_aae02 13 = .ok (.iconst 1, 1) from by decide +kernel) rfl ?_
  refine lv_goto (tgt := 18) hx hb (show decode cJ0_isLatin1_aae02 14 = .ok (.goto 4, 3) from by decide +kernel) rfl ?_
  exact W.zret hx hb hr rfl (fun t ht _ => ⟨⟨some (.int 1), w, rfl, ⟨rfl, rfl⟩, by rw [ht]; exact hP⟩, hS.F ht⟩) hS.2.2 (show decode cJ0_isLatin1_aae02 18 = .ok (.ireturn, 1) from by decide +kernel) hlocks
theorem sc_len : ∀ j, j < 6 → gSL.getD j 0 = (gTxs.getD j []).length := by decide
theorem sc_len9 : ∀ j, j < 6 → (gTxs.getD j []).length < 9 := by decide
theorem sc_byte : ∀ j, j < 6 → ∀ k, k < (gTxs.getD j []).length → (((gTxs.getD j []).getD k 0 &&& 255).toUInt32 % 65536).toInt32 = (gTxs.getD j []).getD k 0 ∧ narrow .char (.int ((gTxs.getD j []).getD k 0)) = .int ((gTxs.getD j []).getD k 0) := by decide +kernel
theorem sc_ish : ∀ j, j < 6 → Int32.ofNat (gSL.getD j 0) >>> ((0 : Int32) &&& 31) = Int32.ofNat (gTxs.getD j []).length := by decide +kernel
/-- length() -/
theorem sLength {j : Nat} (hj : j < 6) : Met l yJ0_length_8abf5 (.code yJ0_length_8abf5 cJ0_length_8abf5 1 (some .int) :: TW) (sRm 1) (va_Pc ([Value.ref (200 + j)].map (cv g)) (aPre D g w)) (aQc D g (aOne w (some (.int (Int32.ofNat (gTxs.getD j []).length))))) 0 0 (aA g) := by
  refine sMetOf (by decide +kernel) (Nat.le_refl _) ?_
  intro p e s m args below meth c ls C hP hD hl
  obtain ⟨hx, hb, hml, hown, hts, hr, hlocks, hK, hAm⟩ := C
  obtain ⟨hS1, hS2, hS3, hS4⟩ := hAm.1.2
  have hS : va_S (aA g) s.heap s.heap [] := va_S.rf
  refine lv_aload_n hx hb (show decode cJ0_length_8abf5 0 = .ok (.aload_n 0, 1) from by decide +kernel) rfl (hl.2.2.2 0 (.ref (200 + j)) rfl) ?_
  refine vk_getf hx hb (hS1.1 j hj).2.2.1 hS hown (hts _ TJ_40) (fun _ h => h) (show decode cJ0_length_8abf5 1 = .ok (.getfield 9, 3) from by decide +kernel) ?_
  refine va_tlen hx hb (hS1.1 j hj).2.2.2 hS rfl (show decode cJ0_length_8abf5 4 = .ok (.arraylength, 1) from by decide +kernel) ?_
  refine lv_aload_n hx hb (show decode cJ0_length_8abf5 5 = .ok (.aload_n 0, 1) from by decide +kernel) rfl (hl.2.2.2 0 (.ref (200 + j)) rfl) ?_
  have cw : CallW (sRm 1) s args RJ0 RJ0 335 yJ0_coder_7d493 cJ0_coder_7d493 1 (some .byte) (.code yJ0_coder_7d493 cJ0_coder_7d493 1 (some .byte) :: TW) (sRm 0) 0 0 0 := ⟨callB_of 0 hts (TJ_goodIn TJ_2) rfl rfl rfl (hts _ TJ_10) (hts _ TJ_22) ⟨by decide, by decide, by decide +kernel⟩ ⟨by decide, by decide⟩, hts _ TJ_23, hts _ TJ_24⟩
  refine aCall (va_runV (As := []) (rest := [.int (Int32.ofNat (gSL.getD j 0))]) (C := RJ0) ⟨hx, hb, hml, hown, hts⟩ (sCoder (l := l) (D := D) (g := g) (w := w) hj) cw ⟨aBlind D g w _, vk_recv hS1 hj hS, fun U hU hW => ⟨rfl, aPreAt hP hK hD hAm hS U hU hW⟩⟩ rfl rfl hl.1 rfl (lv_room (by show 1 + 0 ≤ 8; omega)) (show decode cJ0_length_8abf5 6 = .ok (.invokevirtual 335, 3) from by decide +kernel) ⟨Nat.le_refl _, Nat.le_refl _⟩) hS (fun r0 w1 H1 locs1 h1 b1 b2 => ?_)
  obtain ⟨rfl, rfl⟩ := h1
  refine lv_ishr hx hb (show decode cJ0_length_8abf5 9 = .ok (.ishr, 1) from by decide +kernel) ?_
  rw [sc_ish j hj]
  exact W.iret hx hb hr (fun t ht _ => ⟨⟨some (.int (Int32.ofNat (gTxs.getD j []).length)), w1, rfl, ⟨rfl, rfl⟩, by rw [ht]; exact b1⟩, b2.F ht⟩) b2.2.2 (show decode cJ0_length_8abf5 10 = .ok (.ireturn, 1) from by decide +kernel) hlocks
/-- Preconditions.checkIndex -/
theorem sChk3 {i n : Int32} {fv : Value} (h0 : ¬ i < 0) (h1 : i < n) (hf : fv = .null ∨ fv = .ref 220) : Met l yJ3_checkIndex_8e157 (.code yJ3_checkIndex_8e157 cJ3_checkIndex_8e157 3 (some .int) :: TW) (sRm 0) (va_Pc ([Value.int i, .int n, fv].map (cv g)) (aPre D g w)) (aQc D g (aOne w (some (.int i)))) 0 0 (aA g) := by
  refine sMetOf (by decide +kernel) (by rcases hf with rfl | rfl <;> exact Nat.le_refl _) ?_
  intro p e s m args below meth c ls C hP hD hl
  obtain ⟨hx, hb, hml, hown, hts, hr, hlocks, hK, hAm⟩ := C
  have hS : va_S (aA g) s.heap s.heap [] := va_S.rf
  refine lv_iload_n hx hb (show decode cJ3_checkIndex_8e157 0 = .ok (.iload_n 0, 1) from by decide +kernel) rfl (hl.2.2.2 0 (.int i) (by rcases hf with rfl | rfl <;> rfl)) ?_
  refine lv_if_lt (tgt := 9) hx hb (show decode cJ3_checkIndex_8e157 1 = .ok (.ifCond .lt 8, 3) from by decide +kernel) rfl (fun h => absurd h h0) (fun _ => ?_)
  refine lv_iload_n hx hb (show decode cJ3_checkIndex_8e157 4 = .ok (.iload_n 0, 1) from by decide +kernel) rfl (hl.2.2.2 0 (.int i) (by rcases hf with rfl | rfl <;> rfl)) ?_
  refine lv_iload_n hx hb (show decode cJ3_checkIndex_8e157 5 = .ok (.iload_n 1, 1) from by decide +kernel) rfl (hl.2.2.2 1 (.int n) (by rcases hf with rfl | rfl <;> rfl)) ?_
  refine lv_icmp_lt (tgt := 16) hx hb (show decode cJ3_checkIndex_8e157 6 = .ok (.if_icmp .lt 10, 3) from by decide +kernel) rfl (fun _ => ?_) (fun h => absurd h1 h)
  refine lv_iload_n hx hb (show decode cJ3_checkIndex_8e157 16 = .ok (.iload_n 0, 1) from by decide +kernel) rfl (hl.2.2.2 0 (.int i) (by rcases hf with rfl | rfl <;> rfl)) ?_
  exact W.iret hx hb hr (fun t ht _ => ⟨⟨some (.int i), w, rfl, ⟨rfl, rfl⟩, by rw [ht]; exact hP⟩, hS.F ht⟩) hS.2.2 (show decode cJ3_checkIndex_8e157 17 = .ok (.ireturn, 1) from by decide +kernel) hlocks
/-- String.checkIndex -/
theorem sChk {i n : Int32} (h0 : ¬ i < 0) (h1 : i < n) : Met l yJ0_checkIndex_df160 (.code yJ0_checkIndex_df160 cJ0_checkIndex_df160 2 none :: TW) (sRm 1) (va_Pc ([Value.int i, .int n].map (cv g)) (aPre D g w)) (aQc D g (aOne w none)) 0 0 (aA g) := by
  refine sMetOf (by decide +kernel) (Nat.le_refl _) ?_
  intro p e s m args below meth c ls C hP hD hl
  obtain ⟨hx, hb, hml, hown, hts, hr, hlocks, hK, hAm⟩ := C
  obtain ⟨hS1, hS2, hS3, v, hv, hS4⟩ := hAm.1.2
  have hS : va_S (aA g) s.heap s.heap [] := va_S.rf
  obtain ⟨fv, hf, hfv⟩ : ∃ fv : Value, (fv = .null ∨ fv = .ref 220) ∧ cv g fv = v := by
    rcases hv with rfl | rfl
    · exact ⟨.null, Or.inl rfl, rfl⟩
    · exact ⟨.ref 220, Or.inr rfl, rfl⟩
  refine lv_iload_n hx hb (show decode cJ0_checkIndex_df160 0 = .ok (.iload_n 0, 1) from by decide +kernel) rfl (hl.2.2.2 0 (.int i) rfl) ?_
  refine lv_iload_n hx hb (show decode cJ0_checkIndex_df160 1 = .ok (.iload_n 1, 1) from by decide +kernel) rfl (hl.2.2.2 1 (.int n) rfl) ?_
  refine va_gets hx hb hS4 hS hown (hts _ TJ_35) (fun _ h => h) (show decode cJ0_checkIndex_df160 2 = .ok (.getstatic 1053, 3) from by decide +kernel) ?_
  have cb : CallB (sRm 1) s args RJ0 1059 yJ3_checkIndex_8e157 cJ3_checkIndex_8e157 3 (some .int) (.code yJ3_checkIndex_8e157 cJ3_checkIndex_8e157 3 (some .int) :: TW) (sRm 0) 0 0 3 := callB_of 3 hts (TJ_goodIn TJ_7) rfl rfl rfl (hts _ TJ_12) (hts _ TJ_36) ⟨by decide, by decide, by decide +kernel⟩ ⟨by decide, by decide⟩
  subst hfv
  refine aCall (va_runS (As := [Value.int i, .int n, fv].map (cv g)) (rest := []) ⟨hx, hb, hml, hown, hts⟩ (sChk3 (l := l) (D := D) (g := g) (w := w) h0 h1 hf) ⟨cb, hts _ TJ_37⟩ ⟨aBlind D g w _, fun U hU hW => ⟨rfl, aPreAt hP hK hD hAm hS U hU hW⟩⟩ rfl rfl hl.1 rfl (lv_room (by decide)) (show decode cJ0_checkIndex_df160 5 = .ok (.invokestatic 1059, 3) from by decide +kernel) ⟨Nat.le_refl _, Nat.le_refl _⟩) hS (fun r0 w1 H1 locs1 h1 b1 b2 => ?_)
  obtain ⟨rfl, rfl⟩ := h1
  refine lv_pop hx hb (show decode cJ0_checkIndex_df160 8 = .ok (.pop, 1) from by decide +kernel) rfl ?_
  exact W.vret hx hb hr (fun t ht _ => ⟨⟨none, w1, rfl, ⟨rfl, rfl⟩, by rw [ht]; exact b1⟩, b2.F ht⟩) b2.2.2 (show decode cJ0_checkIndex_df160 9 = .ok (.return_, 1) from by decide +kernel) hlocks
/-- StringLatin1.charAt -/
theorem sChar1 {j : Nat} {i : Int32} (hj : j < 6) (hi : inb i (gTxs.getD j []).length) : Met l yJ1_charAt_3b067 (.code yJ1_charAt_3b067 cJ1_charAt_3b067 2 (some .char) :: TW) (sRm 2) (va_Pc ([Value.ref (210 + j), .int i].map (cv g)) (aPre D g w)) (aQc D g (aOne w (some (.int ((gTxs.getD j []).getD i.toNatClampNeg 0))))) 0 0 (aA g) := by
  refine sMetOf (by decide +kernel) (Nat.le_refl _) ?_
  intro p e s m args below meth c ls C hP hD hl
  obtain ⟨hx, hb, hml, hown, hts, hr, hlocks, hK, hAm⟩ := C
  obtain ⟨hS1, hS2, hS3, v, hv, hS4⟩ := hAm.1.2
  have hS : va_S (aA g) s.heap s.heap [] := va_S.rf
  have hL := sc_len j hj
  have hL9 : (gTxs.getD j []).length < 9 := sc_len9 j hj
  have hc : i.toNatClampNeg = i.toInt.toNat := rfl
  have z : (0 : Int32).toInt = 0 := rfl
  have h0 : ¬ i < 0 := by rw [Int32.lt_iff_toInt_lt, z]; have := hi.1; omega
  have h1 : i < Int32.ofNat (gSL.getD j 0) := by
    rw [Int32.lt_iff_toInt_lt, hL, Int32.toInt_ofNat_of_lt (by omega)]
    exact hi.2
  obtain ⟨e1, e2⟩ := sc_byte j hj i.toNatClampNeg (by have := hi.1; have := hi.2; omega)
  refine lv_iload_n hx hb (show decode cJ1_charAt_3b067 0 = .ok (.iload_n 1, 1) from by decide +kernel) rfl (hl.2.2.2 1 (.int i) rfl) ?_
  refine lv_aload_n hx hb (show decode cJ1_charAt_3b067 1 = .ok (.aload_n 0, 1) from by decide +kernel) rfl (hl.2.2.2 0 (.ref (210 + j)) rfl) ?_
  refine va_tlen hx hb (hS1.1 j hj).2.2.2 hS rfl (show decode cJ1_charAt_3b067 2 = .ok (.arraylength, 1) from by decide +kernel) ?_
  have cb : CallB (sRm 2) s args RJ1 9 yJ0_checkIndex_df160 cJ0_checkIndex_df160 2 none (.code yJ0_checkIndex_df160 cJ0_checkIndex_df160 2 none :: TW) (sRm 1) 0 0 2 := callB_of 2 hts (TJ_goodIn TJ_6) rfl rfl rfl (hts _ TJ_10) (hts _ TJ_33) ⟨by decide, by decide, by decide +kernel⟩ ⟨by decide, by decide⟩
  refine aCall (va_runS (As := [Value.int i, .int (Int32.ofNat (gSL.getD j 0))].map (cv g)) (rest := []) ⟨hx, hb, hml, hown, hts⟩ (sChk (l := l) (D := D) (g := g) (w := w) h0 h1) ⟨cb, hts _ TJ_34⟩ ⟨aBlind D g w _, fun U hU hW => ⟨rfl, aPreAt hP hK hD hAm hS U hU hW⟩⟩ rfl rfl hl.1 rfl (lv_room (by decide)) (show decode cJ1_charAt_3b067 3 = .ok (.invokestatic 9, 3) from by decide +kernel) ⟨Nat.le_refl _, Nat.le_refl _⟩) hS (fun r0 w1 H1 locs1 h1 b1 b2 => ?_)
  obtain ⟨rfl, rfl⟩ := h1
  refine lv_aload_n hx hb (show decode cJ1_charAt_3b067 6 = .ok (.aload_n 0, 1) from by decide +kernel) rfl (hl.2.2.2 0 (.ref (210 + j)) rfl) ?_
  refine lv_iload_n hx hb (show decode cJ1_charAt_3b067 7 = .ok (.iload_n 1, 1) from by decide +kernel) rfl (hl.2.2.2 1 (.int i) rfl) ?_
  refine va_tb hx hb (hS1.1 j hj).2.2.2 b2 (by rw [hL]; exact inb_in hi) rfl (show decode cJ1_charAt_3b067 8 = .ok (.baload, 1) from by decide +kernel) ?_
  refine lv_sipush hx hb (show decode cJ1_charAt_3b067 9 = .ok (.sipush 255, 3) from by decide +kernel) rfl ?_
  refine lv_iand hx hb (show decode cJ1_charAt_3b067 12 = .ok (.iand, 1) from by decide +kernel) ?_
  refine lv_i2c hx hb (show decode cJ1_charAt_3b067 13 = .ok (.i2c, 1) from by decide +kernel) e1 ?_
  exact W.zret hx hb hr e2 (fun t ht _ => ⟨⟨some (.int ((gTxs.getD j []).getD i.toNatClampNeg 0)), w1, rfl, ⟨rfl, rfl⟩, by rw [ht]; exact b1⟩, b2.F ht⟩) b2.2.2 (show decode cJ1_charAt_3b067 14 = .ok (.ireturn, 1) from by decide +kernel) hlocks
/-- String.charAt -/
theorem sChar {j : Nat} {i : Int32} (hj : j < 6) (hi : inb i (gTxs.getD j []).length) : Met l yJ0_charAt_5068e (.code yJ0_charAt_5068e cJ0_charAt_5068e 2 (some .char) :: TW) (sRm 3) (va_Pc ([Value.ref (200 + j), .int i].map (cv g)) (aPre D g w)) (aQc D g (aOne w (some (.int ((gTxs.getD j []).getD i.toNatClampNeg 0))))) 0 0 (aA g) := by
  refine sMetOf (by decide +kernel) (Nat.le_refl _) ?_
  intro p e s m args below meth c ls C hP hD hl
  obtain ⟨hx, hb, hml, hown, hts, hr, hlocks, hK, hAm⟩ := C
  obtain ⟨hS1, hS2, hS3, v, hv, hS4⟩ := hAm.1.2
  have hS : va_S (aA g) s.heap s.heap [] := va_S.rf
  have hc : i.toNatClampNeg = i.toInt.toNat := rfl
  obtain ⟨e1, e2⟩ := sc_byte j hj i.toNatClampNeg (by have := hi.1; have := hi.2; omega)
  refine lv_aload_n hx hb (show decode cJ0_charAt_5068e 0 = .ok (.aload_n 0, 1) from by decide +kernel) rfl (hl.2.2.2 0 (.ref (200 + j)) rfl) ?_
  have cw : CallW (sRm 3) s args RJ0 RJ0 492 yJ0_isLatin1_aae02 cJ0_isLatin1_aae02 1 (some .boolean) (.code yJ0_isLatin1_aae02 cJ0_isLatin1_aae02 1 (some .boolean) :: TW) (sRm 0) 0 0 0 := ⟨callB_of 0 hts (TJ_goodIn TJ_4) rfl rfl rfl (hts _ TJ_10) (hts _ TJ_28) ⟨by decide, by decide, by decide +kernel⟩ ⟨by decide, by decide⟩, hts _ TJ_29, hts _ TJ_30⟩
  refine aCall (va_runV (As := []) (rest := []) (C := RJ0) ⟨hx, hb, hml, hown, hts⟩ (sLatin (l := l) (D := D) (g := g) (w := w) hj) cw ⟨aBlind D g w _, vk_recv hS1 hj hS, fun U hU hW => ⟨rfl, aPreAt hP hK hD hAm hS U hU hW⟩⟩ rfl rfl hl.1 rfl (lv_room (by decide)) (show decode cJ0_charAt_5068e 1 = .ok (.invokevirtual 492, 3) from by decide +kernel) ⟨Nat.le_refl _, Nat.le_refl _⟩) hS (fun r0 w1 H1 locs1 h1 b1 b2 => ?_)
  obtain ⟨rfl, rfl⟩ := h1
  refine lv_if_eq (tgt := 16) hx hb (show decode cJ0_charAt_5068e 4 = .ok (.ifCond .eq 12, 3) from by decide +kernel) rfl (fun h => absurd h (by decide)) (fun _ => ?_)
  refine lv_aload_n hx hb (show decode cJ0_charAt_5068e 7 = .ok (.aload_n 0, 1) from by decide +kernel) rfl (hl.2.2.2 0 (.ref (200 + j)) rfl) ?_
  refine vk_getf hx hb (hS1.1 j hj).2.2.1 b2 hown (hts _ TJ_40) (fun _ h => h) (show decode cJ0_charAt_5068e 8 = .ok (.getfield 9, 3) from by decide +kernel) ?_
  refine lv_iload_n hx hb (show decode cJ0_charAt_5068e 11 = .ok (.iload_n 1, 1) from by decide +kernel) rfl (hl.2.2.2 1 (.int i) rfl) ?_
  have cb : CallB (sRm 3) s args RJ0 495 yJ1_charAt_3b067 cJ1_charAt_3b067 2 (some .char) (.code yJ1_charAt_3b067 cJ1_charAt_3b067 2 (some .char) :: TW) (sRm 2) 0 0 2 := callB_of 2 hts (TJ_goodIn TJ_5) rfl rfl rfl (hts _ TJ_11) (hts _ TJ_31) ⟨by decide, by decide, by decide +kernel⟩ ⟨by decide, by decide⟩
  refine aCall (va_runS (As := [Value.ref (210 + j), .int i].map (cv g)) (rest := []) ⟨hx, hb, hml, hown, hts⟩ (sChar1 (l := l) (D := D) (g := g) (w := w1) hj hi) ⟨cb, hts _ TJ_32⟩ ⟨aBlind D g w1 _, fun U hU hW => ⟨rfl, aPreAt b1 hK hD hAm b2 U hU hW⟩⟩ rfl rfl hl.1 rfl (lv_room (by decide)) (show decode cJ0_charAt_5068e 12 = .ok (.invokestatic 495, 3) from by decide +kernel) ⟨Nat.le_refl _, Nat.le_refl _⟩) b2 (fun r0 w2 H2 locs2 h2 c1 c2 => ?_)
  obtain ⟨rfl, rfl⟩ := h2
  exact W.zret hx hb hr e2 (fun t ht _ => ⟨⟨some (.int ((gTxs.getD j []).getD i.toNatClampNeg 0)), w2, rfl, ⟨rfl, rfl⟩, by rw [ht]; exact c1⟩, c2.F ht⟩) c2.2.2 (show decode cJ0_charAt_5068e 15 = .ok (.ireturn, 1) from by decide +kernel) hlocks
end STR
section STS
variable {p : Program} {l : Launch} {e : Env} {R : Room} {s : State} {m : MethodId} {args : Array Value} {below : List Frame} {meth : Method} {c : Code} {H : Heap} {locs : List Loc} {Qf : State → Prop}
variable {D : va_G} {g : aG} {k pc : Nat} {L0 : aL} {ls : Array Slot} {rest : List Value} {w : hW}
theorem aLdcS {j i : Nat} (C : aCx p s m args meth c k D g) (hj : j < 6) (e1 : gOw k = 1) (e2 : i = gSi j) (hdg : decode (gCd k) pc = .ok (.ldc i, 2)) (kk : W p l e R s m args below meth c H locs 0 0 Qf (F0 m (pc + 2) ls (.ref (g.1 (200 + j)) :: rest))) : W p l e R s m args below meth c H locs 0 0 Qf (F0 m pc ls rest) := by
  obtain ⟨hx, hb, hml, hown, hts, hr, hlocks, hK, hAm⟩ := C
  rw [e1] at hown
  subst e2
  exact va_ldcS hx hb (own := RX1) hown (hAm.1.2.2.1 j hj) hdg kk
theorem aSLen {d i q na c' : Nat} {r : List Value} {tx : List Int32} (C : aCx p s m args meth c k D g) (hck : ∃ pp, ckC (gOw k, i, 8, c', na, pp) = true) (ht : gTx q = some tx) (hP : va_P D vwCl (aWd g w) H) (hD : va_D (aA g) (aWd g w)) (hS : va_S (aA g) s.heap H locs) (hl : lvR g ls (gML k) L0) (hcat : catS r ≤ 8) (hdg : decode (gCd k) pc = .ok (.invokevirtual i, 3))
    (kk : ∀ (H1 : Heap) (locs1 : List Loc), va_P D vwCl (aWd g w) H1 → va_S (aA g) s.heap H1 locs1 → W p l e (aRm d) s m args below meth c H1 locs1 0 0 Qf (F0 m (pc + 3) ls (.int (Int32.ofNat tx.length) :: r.map (cv g)))) : W p l e (aRm d) s m args below meth c H locs 0 0 Qf (F0 m pc ls (.ref (g.1 q) :: r.map (cv g))) := by
  obtain ⟨hx, hb, hml, hown, hts, hr, hlocks, hK, hAm⟩ := C
  obtain ⟨pp, hck⟩ := hck
  obtain ⟨j, hj, rfl, rfl⟩ := gTx_spec ht
  have cw : CallW (aRm d) s args (gCn (gOw k)) RJ0 i yJ0_length_8abf5 cJ0_length_8abf5 1 (some .int) (.code yJ0_length_8abf5 cJ0_length_8abf5 1 (some .int) :: TW) (sRm 1) 0 0 0 := ⟨callB_of 0 hts (TJ_goodIn TJ_1) rfl rfl rfl (hts _ TJ_10) (hts _ (gIs_in hck)) ⟨by decide, by decide, by decide +kernel⟩ ⟨by show 1 + 1 ≤ d + 5; omega, by show 8 + (1 + 11) + 40 * 1 ≤ 100 * (d + 5); omega⟩, hts _ TJ_20, hts _ TJ_21⟩
  refine aCall (va_runV (As := []) (rest := r.map (cv g)) (C := RJ0) ⟨hx, hb, hml, hown, hts⟩ (sLength (l := l) (D := D) (g := g) (w := w) hj) cw ⟨aBlind D g w _, vk_recv hAm.1.2.1 hj hS, fun U hU hW => ⟨rfl, aPreAt hP hK hD hAm hS U hU hW⟩⟩ rfl rfl hl.1 rfl (lv_room (by rw [catS_sum]; exact hcat)) hdg ⟨Nat.le_refl _, Nat.le_refl _⟩) hS (fun r0 w1 H1 locs1 h1 b1 b2 => ?_)
  obtain ⟨rfl, rfl⟩ := h1
  exact kk H1 locs1 b1 b2
theorem aSChr {d i q na c' : Nat} {x : Int32} {r : List Value} {tx : List Int32} (C : aCx p s m args meth c k D g) (hck : ∃ pp, ckC (gOw k, i, 9, c', na, pp) = true) (ht : gTx q = some tx) (hin : inb x tx.length) (hP : va_P D vwCl (aWd g w) H) (hD : va_D (aA g) (aWd g w)) (hS : va_S (aA g) s.heap H locs) (hl : lvR g ls (gML k) L0) (hcat : catS r ≤ 8) (hdg : decode (gCd k) pc = .ok (.invokevirtual i, 3))
    (kk : ∀ (H1 : Heap) (locs1 : List Loc), va_P D vwCl (aWd g w) H1 → va_S (aA g) s.heap H1 locs1 → W p l e (aRm d) s m args below meth c H1 locs1 0 0 Qf (F0 m (pc + 3) ls (.int (tx.getD x.toNatClampNeg 0) :: r.map (cv g)))) : W p l e (aRm d) s m args below meth c H locs 0 0 Qf (F0 m pc ls (.int x :: .ref (g.1 q) :: r.map (cv g))) := by
  obtain ⟨hx, hb, hml, hown, hts, hr, hlocks, hK, hAm⟩ := C
  obtain ⟨pp, hck⟩ := hck
  obtain ⟨j, hj, rfl, rfl⟩ := gTx_spec ht
  have cw : CallW (aRm d) s args (gCn (gOw k)) RJ0 i yJ0_charAt_5068e cJ0_charAt_5068e 2 (some .char) (.code yJ0_charAt_5068e cJ0_charAt_5068e 2 (some .char) :: TW) (sRm 3) 0 0 1 := ⟨callB_of 1 hts (TJ_goodIn TJ_3) rfl rfl rfl (hts _ TJ_10) (hts _ (gIs_in hck)) ⟨by decide, by decide, by decide +kernel⟩ ⟨by show 3 + 1 ≤ d + 5; omega, by show 8 + (2 + 11) + 40 * 3 ≤ 100 * (d + 5); omega⟩, hts _ TJ_26, hts _ TJ_27⟩
  refine aCall (va_runV (As := [Value.int x]) (rest := r.map (cv g)) (C := RJ0) ⟨hx, hb, hml, hown, hts⟩ (sChar (l := l) (D := D) (g := g) (w := w) hj hin) cw ⟨aBlind D g w _, vk_recv hAm.1.2.1 hj hS, fun U hU hW => ⟨rfl, aPreAt hP hK hD hAm hS U hU hW⟩⟩ rfl rfl hl.1 rfl (lv_room (by rw [catS_sum]; exact hcat)) hdg ⟨Nat.le_refl _, Nat.le_refl _⟩) hS (fun r0 w1 H1 locs1 h1 b1 b2 => ?_)
  obtain ⟨rfl, rfl⟩ := h1
  exact kk H1 locs1 b1 b2
end STS

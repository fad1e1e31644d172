/-! SOUNDNESS of String.length and String.charAt on the class's String constants: walks of the JDK's own methods -/
def sRm (n : Nat) : Room := { frames := n, cells := 0, slots := 0, locals := 40 * n }
def sCx (p : Program) (s : State) (m : MethodId) (args : Array Value) (meth : Method) (c : Code) (own : String) (cc : ByteArray) (ml : Nat) (rt : Option FieldType) (D : va_G) (g : aG) : Prop :=
  p.tables.exec = Jvm.exec ∧ c.code = cc ∧ c.maxLocals = ml ∧ s.vm.findClass own = some m.cls ∧ (∀ w ∈ TW, w.before args s = true) ∧ meth.sig.returnType = rt ∧ meth.locks = false ∧ va_K D vwCl (aTy g) s ∧ aAmb g s s.heap
theorem TJ_goodIn {w : Cond} (h : w ∈ TW) : GoodIn TW (w :: TW) := by
  intro v hv
  have hm : v ∈ TW := by
    rcases List.mem_cons.mp hv with rfl | hv
    · exact h
    · exact hv
  exact ⟨hm, TW_good v hm⟩
def aOne (w : hW) (v : Option Value) : aPost := fun r w' => r = v ∧ w' = w
theorem sMetOf {l : Launch} {D : va_G} {g : aG} {y : MethodName} {cc : ByteArray} {ml : Nat} {rt : Option FieldType} (hpl : plainName y.cls = true) {R : Room} {as : List Value} {w : hW} {Q : aPost} (hlen : (spv as).length ≤ ml)
    (walk : ∀ (p : Program) (e : Env) (s : State) (m : MethodId) (args : Array Value) (below : List Frame) (meth : Method) (c : Code) (ls : Array Slot), sCx p s m args meth c y.cls cc ml rt D g → va_P D vwCl (aWd g w) s.heap → va_D (aA g) (aWd g w) → lvR g ls ml (padL ml (spv as)) → W p l e R s m args below meth c s.heap [] 0 0 (MQ below (aQc D g Q) args s 0 0 (aA g)) (F0 m 0 ls [])) :
    Met l y (.code y cc ml rt :: TW) R (va_Pc (as.map (cv g)) (aPre D g w)) (aQc D g Q) 0 0 (aA g) := by
  refine Met.ofW (cc := cc) (maxL := ml) (ret := rt) hpl rfl ?_
  intro p e s m args below meth c s₁ B hml hv
  obtain ⟨rfl, hP, hK, hD, hA⟩ := hv
  have hts := atoms_spec (ws := .code y cc ml rt :: TW) B.pre
  have hown : s.vm.findClass y.cls = some m.cls := findClass_of_methodNamed B.named
  rw [lg_entry_eq]
  exact walk p e s m _ below meth c _ ⟨B.exec, B.bytes, hml, hown, fun w hw => hts w (List.mem_cons_of_mem _ hw), B.returns, B.notSynchronized, hK, hA⟩ hP hD (lvR_entry g as hlen)
theorem TJ_1 : Cond.code yJ0_length_8abf5 cJ0_length_8abf5 1 (some .int) ∈ TW := gIs_in (i := 616) (by decide +kernel)
theorem TJ_2 : Cond.code yJ0_coder_7d493 cJ0_coder_7d493 1 (some .byte) ∈ TW := gIs_in (i := 620) (by decide +kernel)
theorem TJ_3 : Cond.code yJ0_charAt_5068e cJ0_charAt_5068e 2 (some .char) ∈ TW := gIs_in (i := 626) (by decide +kernel)
theorem TJ_4 : Cond.code yJ0_isLatin1_aae02 cJ0_isLatin1_aae02 1 (some .boolean) ∈ TW := gIs_in (i := 630) (by decide +kernel)
theorem TJ_5 : Cond.code yJ1_charAt_3b067 cJ1_charAt_3b067 2 (some .char) ∈ TW := gIs_in (i := 633) (by decide +kernel)
theorem TJ_6 : Cond.code yJ0_checkIndex_df160 cJ0_checkIndex_df160 2 none ∈ TW := gIs_in (i := 636) (by decide +kernel)
theorem TJ_7 : Cond.code yJ3_checkIndex_8e157 cJ3_checkIndex_8e157 3 (some .int) ∈ TW := gIs_in (i := 641) (by decide +kernel)
theorem TJ_10 : Cond.initialized "java/lang/String" ∈ TW := gIs_in (i := 92) (by decide +kernel)
theorem TJ_11 : Cond.initialized "java/lang/StringLatin1" ∈ TW := gIs_in (i := 93) (by decide +kernel)
theorem TJ_12 : Cond.initialized "jdk/internal/util/Preconditions" ∈ TW := gIs_in (i := 94) (by decide +kernel)
theorem TJ_20 : Cond.instanceMethod yJ0_length_8abf5 ∈ TW := gIs_in (i := 614) (by decide +kernel)
theorem TJ_21 : Cond.selects RJ0 yJ0_length_8abf5 yJ0_length_8abf5 ∈ TW := gIs_in (i := 615) (by decide +kernel)
theorem TJ_22 : Cond.methodLink RJ0 335 yJ0_coder_7d493 ∈ TW := gIs_in (i := 617) (by decide +kernel)
theorem TJ_23 : Cond.instanceMethod yJ0_coder_7d493 ∈ TW := gIs_in (i := 618) (by decide +kernel)
theorem TJ_24 : Cond.selects RJ0 yJ0_coder_7d493 yJ0_coder_7d493 ∈ TW := gIs_in (i := 619) (by decide +kernel)
theorem TJ_25 : Cond.fieldLink RJ0 38 "java/lang/String" "COMPACT_STRINGS" "Z" ∈ TW := gIs_in (i := 621) (by decide +kernel)
theorem TJ_26 : Cond.instanceMethod yJ0_charAt_5068e ∈ TW := gIs_in (i := 624) (by decide +kernel)
theorem TJ_27 : Cond.selects RJ0 yJ0_charAt_5068e yJ0_charAt_5068e ∈ TW := gIs_in (i := 625) (by decide +kernel)
theorem TJ_28 : Cond.methodLink RJ0 492 yJ0_isLatin1_aae02 ∈ TW := gIs_in (i := 627) (by decide +kernel)
theorem TJ_29 : Cond.instanceMethod yJ0_isLatin1_aae02 ∈ TW := gIs_in (i := 628) (by decide +kernel)
theorem TJ_30 : Cond.selects RJ0 yJ0_isLatin1_aae02 yJ0_isLatin1_aae02 ∈ TW := gIs_in (i := 629) (by decide +kernel)
theorem TJ_31 : Cond.methodLink RJ0 495 yJ1_charAt_3b067 ∈ TW := gIs_in (i := 631) (by decide +kernel)
theorem TJ_32 : Cond.static yJ1_charAt_3b067 ∈ TW := gIs_in (i := 632) (by decide +kernel)
theorem TJ_33 : Cond.methodLink RJ1 9 yJ0_checkIndex_df160 ∈ TW := gIs_in (i := 634) (by decide +kernel)
theorem TJ_34 : Cond.static yJ0_checkIndex_df160 ∈ TW := gIs_in (i := 635) (by decide +kernel)
theorem TJ_35 : Cond.fieldLink RJ0 1053 "jdk/internal/util/Preconditions" "SIOOBE_FORMATTER" "Ljava/util/function/BiFunction;" ∈ TW := gIs_in (i := 637) (by decide +kernel)
theorem TJ_36 : Cond.methodLink RJ0 1059 yJ3_checkIndex_8e157 ∈ TW := gIs_in (i := 639) (by decide +kernel)
theorem TJ_37 : Cond.static yJ3_checkIndex_8e157 ∈ TW := gIs_in (i := 640) (by decide +kernel)
theorem TJ_40 : Cond.fieldLink RJ0 9 "java/lang/String" "value" "[B" ∈ TW := gIs_in (i := 1595) (by decide +kernel)
theorem TJ_41 : Cond.fieldLink RJ0 15 "java/lang/String" "coder" "B" ∈ TW := gIs_in (i := 1596) (by decide +kernel)
section STR
variable {l : Launch} {D : va_G} {g : aG} {w : hW}
/-- coder() -/
theorem sCoder {j : Nat} (hj : j < 6) : Met l yJ0_coder_7d493 (.code yJ0_coder_7d493 cJ0_coder_7d493 1 (some .byte) :: TW) (sRm 0) (va_Pc ([Value.ref (200 + j)].map (cv g)) (aPre D g w)) (aQc D g (aOne w (some (.int 0)))) 0 0 (aA g) := by
  refine sMetOf (by decide +kernel) (Nat.le_refl _) ?_
  intro p e s m args below meth c ls C hP hD hl
  obtain ⟨hx, hb, hml, hown, hts, hr, hlocks, hK, hAm⟩ := C
  obtain ⟨hS1, hS2, hS3, hS4⟩ := hAm.1.2
  have hS : va_S (aA g) s.heap s.heap [] := va_S.rf
  refine va_gets hx hb hS3 hS hown (hts _ TJ_25) (fun _ h => h) (show decode cJ0_coder_7d493 0 = .ok (.getstatic 38, 3) from by decide +kernel) ?_
  refine lv_if_eq (tgt := 13) hx hb (show decode cJ0_coder_7d493 3 = .ok (.ifCond .eq 10, 3) from by decide +kernel) rfl (fun h => absurd h (by decide)) (fun _ => ?_)
  refine lv_aload_n hx hb (show decode cJ0_coder_7d493 6 = .ok (.aload_n 0, 1) from by decide +kernel) rfl (hl.2.2.2 0 (.ref (200 + j)) rfl) ?_
  refine vk_getf hx hb (hS1.1 j hj).2.1 hS hown (hts _ TJ_41) (fun _ h => h) (show decode cJ0_coder_7d493 7 = .ok (.getfield 15, 3) from by decide +kernel) ?_
  refine lv_goto (tgt := 14) hx hb (show decode cJ0_coder_7d493 10 = .ok (.goto 4, 3) from by decide +kernel) rfl ?_
  exact W.zret hx hb hr rfl (fun t ht _ => ⟨⟨some (.int 0), w, rfl, ⟨rfl, rfl⟩, by rw [ht]; exact hP⟩, hS.F ht⟩) hS.2.2 (show decode cJ0_coder_7d493 14 = .ok (.ireturn, 1) from by decide +kernel) hlocks
/-- isLatin1() -/
theorem sLatin {j : Nat} (hj : j < 6) : Met l yJ0_isLatin1_aae02 (.code yJ0_isLatin1_aae02 cJ0_isLatin1_aae02 1 (some .boolean) :: TW) (sRm 0) (va_Pc ([Value.ref (200 + j)].map (cv g)) (aPre D g w)) (aQc D g (aOne w (some (.int 1)))) 0 0 (aA g) := by
  refine sMetOf (by decide +kernel) (Nat.le_refl _) ?_
  intro p e s m args below meth c ls C hP hD hl
  obtain ⟨hx, hb, hml, hown, hts, hr, hlocks, hK, hAm⟩ := C
  obtain ⟨hS1, hS2, hS3, hS4⟩ := hAm.1.2
  have hS : va_S (aA g) s.heap s.heap [] := va_S.rf
  refine va_gets hx hb hS3 hS hown (hts _ TJ_25) (fun _ h => h) (show decode cJ0_isLatin1_aae02 0 = .ok (.getstatic 38, 3) from by decide +kernel) ?_
  refine lv_if_eq (tgt := 17) hx hb (show decode cJ0_isLatin1_aae02 3 = .ok (.ifCond .eq 14, 3) from by decide +kernel) rfl (fun h => absurd h (by decide)) (fun _ => ?_)
  refine lv_aload_n hx hb (show decode cJ0_isLatin1_aae02 6 = .ok (.aload_n 0, 1) from by decide +kernel) rfl (hl.2.2.2 0 (.ref (200 + j)) rfl) ?_
  refine vk_getf hx hb (hS1.1 j hj).2.1 hS hown (hts _ TJ_41) (fun _ h => h) (show decode cJ0_isLatin1_aae02 7 = .ok (.getfield 15, 3) from by decide +kernel) ?_
  refine lv_if_ne (tgt := 17) hx hb (show decode cJ0_isLatin1_aae02 10 = .ok (.ifCond .ne 7, 3) from by decide +kernel) rfl (fun h => absurd rfl h) (fun _ => ?_)
  refine lv_iconst hx hb (show decode cJ0_isLatin1_aae02 13 = .ok (.iconst 1, 1) from by decide +kernel) rfl ?_
  refine lv_goto (tgt := 18) hx hb (show decode cJ0_isLatin1_aae02 14 = .ok (.goto 4, 3) from by decide +kernel) rfl ?_
  exact W.zret hx hb hr rfl (fun t ht _ => ⟨⟨some (.int 1), w, rfl, ⟨rfl, rfl⟩, by rw [ht]; exact hP⟩, hS.F ht⟩) hS.2.2 (show decode cJ0_isLatin1_aae02 18 = .ok (.ireturn, 1) from by decide +kernel) hlocks
end STR

-- ===== PART A: goes FIRST, ahead of the names: the tables' words, and 'selects' of the private methods out of them =====
/-- a private method of a class that the tables say can be made, by its rows of tables_1 -/
def lw_okq (q : MethodName × Nat) : Prop := (q.1.cls ≠ "java/lang/invoke/MethodHandle" ∧ q.1.cls ≠ "java/lang/invoke/VarHandle") ∧ Cond.instantiable q.1.cls q.2 ∈ tables_1 ∧ Cond.privateMethod q.1 ∈ tables_1 ∧ Cond.instanceMethod q.1 ∈ tables_1
theorem lw_p0 : lw_okq (⟨"NoFartherThanAThrow", "refuse", "(I)I"⟩, 11) := ⟨⟨by decide +kernel, by decide +kernel⟩, List.mem_of_getElem? (i := 18) (by decide +kernel), List.mem_of_getElem? (i := 259) (by decide +kernel), List.mem_of_getElem? (i := 260) (by decide +kernel)⟩
theorem lw_p1 : lw_okq (⟨"NoFartherThanAThrow$Shelves", "isThing", "(I)Z"⟩, 3) := ⟨⟨by decide +kernel, by decide +kernel⟩, List.mem_of_getElem? (i := 105) (by decide +kernel), List.mem_of_getElem? (i := 284) (by decide +kernel), List.mem_of_getElem? (i := 285) (by decide +kernel)⟩
theorem lw_p2 : lw_okq (⟨"NoFartherThanAThrow$Valley", "isTold", "(II)Z"⟩, 9) := ⟨⟨by decide +kernel, by decide +kernel⟩, List.mem_of_getElem? (i := 26) (by decide +kernel), List.mem_of_getElem? (i := 460) (by decide +kernel), List.mem_of_getElem? (i := 461) (by decide +kernel)⟩
theorem lw_p3 : lw_okq (⟨"NoFartherThanAThrow$Reader", "readItem", "()V"⟩, 8) := ⟨⟨by decide +kernel, by decide +kernel⟩, List.mem_of_getElem? (i := 124) (by decide +kernel), List.mem_of_getElem? (i := 516) (by decide +kernel), List.mem_of_getElem? (i := 517) (by decide +kernel)⟩
theorem lw_p4 : lw_okq (⟨"NoFartherThanAThrow$Reader", "letter", "(I)I"⟩, 8) := ⟨⟨by decide +kernel, by decide +kernel⟩, List.mem_of_getElem? (i := 124) (by decide +kernel), List.mem_of_getElem? (i := 520) (by decide +kernel), List.mem_of_getElem? (i := 521) (by decide +kernel)⟩
theorem lw_p5 : lw_okq (⟨"NoFartherThanAThrow$Reader", "readThing", "()V"⟩, 8) := ⟨⟨by decide +kernel, by decide +kernel⟩, List.mem_of_getElem? (i := 124) (by decide +kernel), List.mem_of_getElem? (i := 524) (by decide +kernel), List.mem_of_getElem? (i := 525) (by decide +kernel)⟩
theorem lw_p6 : lw_okq (⟨"NoFartherThanAThrow$Reader", "expectWord", "(Ljava/lang/String;Z)V"⟩, 8) := ⟨⟨by decide +kernel, by decide +kernel⟩, List.mem_of_getElem? (i := 124) (by decide +kernel), List.mem_of_getElem? (i := 530) (by decide +kernel), List.mem_of_getElem? (i := 531) (by decide +kernel)⟩
theorem lw_p7 : lw_okq (⟨"NoFartherThanAThrow$Reader", "expect", "(C)V"⟩, 8) := ⟨⟨by decide +kernel, by decide +kernel⟩, List.mem_of_getElem? (i := 124) (by decide +kernel), List.mem_of_getElem? (i := 582) (by decide +kernel), List.mem_of_getElem? (i := 583) (by decide +kernel)⟩
theorem lw_p8 : lw_okq (⟨"NoFartherThanAThrow$Reader", "fail", "(I)V"⟩, 8) := ⟨⟨by decide +kernel, by decide +kernel⟩, List.mem_of_getElem? (i := 124) (by decide +kernel), List.mem_of_getElem? (i := 586) (by decide +kernel), List.mem_of_getElem? (i := 587) (by decide +kernel)⟩
theorem lw_p9 : lw_okq (⟨"NoFartherThanAThrow$Reader", "number", "()I"⟩, 8) := ⟨⟨by decide +kernel, by decide +kernel⟩, List.mem_of_getElem? (i := 124) (by decide +kernel), List.mem_of_getElem? (i := 590) (by decide +kernel), List.mem_of_getElem? (i := 591) (by decide +kernel)⟩
theorem lw_p10 : lw_okq (⟨"NoFartherThanAThrow$Reader", "must", "(Z)V"⟩, 8) := ⟨⟨by decide +kernel, by decide +kernel⟩, List.mem_of_getElem? (i := 124) (by decide +kernel), List.mem_of_getElem? (i := 598) (by decide +kernel), List.mem_of_getElem? (i := 599) (by decide +kernel)⟩
theorem lw_p11 : lw_okq (⟨"NoFartherThanAThrow$Reader", "readMan", "()V"⟩, 8) := ⟨⟨by decide +kernel, by decide +kernel⟩, List.mem_of_getElem? (i := 124) (by decide +kernel), List.mem_of_getElem? (i := 606) (by decide +kernel), List.mem_of_getElem? (i := 607) (by decide +kernel)⟩
theorem lw_p12 : lw_okq (⟨"NoFartherThanAThrow$Reader", "readLong", "()V"⟩, 8) := ⟨⟨by decide +kernel, by decide +kernel⟩, List.mem_of_getElem? (i := 124) (by decide +kernel), List.mem_of_getElem? (i := 613) (by decide +kernel), List.mem_of_getElem? (i := 614) (by decide +kernel)⟩
theorem lw_p13 : lw_okq (⟨"NoFartherThanAThrow$Reader", "readRiver", "()V"⟩, 8) := ⟨⟨by decide +kernel, by decide +kernel⟩, List.mem_of_getElem? (i := 124) (by decide +kernel), List.mem_of_getElem? (i := 619) (by decide +kernel), List.mem_of_getElem? (i := 620) (by decide +kernel)⟩
theorem lw_p14 : lw_okq (⟨"NoFartherThanAThrow$Reader", "readWind", "()V"⟩, 8) := ⟨⟨by decide +kernel, by decide +kernel⟩, List.mem_of_getElem? (i := 124) (by decide +kernel), List.mem_of_getElem? (i := 625) (by decide +kernel), List.mem_of_getElem? (i := 626) (by decide +kernel)⟩
theorem lw_p15 : lw_okq (⟨"NoFartherThanAThrow$Reader", "readWant", "()V"⟩, 8) := ⟨⟨by decide +kernel, by decide +kernel⟩, List.mem_of_getElem? (i := 124) (by decide +kernel), List.mem_of_getElem? (i := 631) (by decide +kernel), List.mem_of_getElem? (i := 632) (by decide +kernel)⟩
def lw_privs_1 : List (MethodName × Nat) := [(⟨"NoFartherThanAThrow", "refuse", "(I)I"⟩, 11), (⟨"NoFartherThanAThrow$Shelves", "isThing", "(I)Z"⟩, 3), (⟨"NoFartherThanAThrow$Valley", "isTold", "(II)Z"⟩, 9), (⟨"NoFartherThanAThrow$Reader", "readItem", "()V"⟩, 8), (⟨"NoFartherThanAThrow$Reader", "letter", "(I)I"⟩, 8), (⟨"NoFartherThanAThrow$Reader", "readThing", "()V"⟩, 8), (⟨"NoFartherThanAThrow$Reader", "expectWord", "(Ljava/lang/String;Z)V"⟩, 8), (⟨"NoFartherThanAThrow$Reader", "expect", "(C)V"⟩, 8), (⟨"NoFartherThanAThrow$Reader", "fail", "(I)V"⟩, 8), (⟨"NoFartherThanAThrow$Reader", "number", "()I"⟩, 8), (⟨"NoFartherThanAThrow$Reader", "must", "(Z)V"⟩, 8), (⟨"NoFartherThanAThrow$Reader", "readMan", "()V"⟩, 8), (⟨"NoFartherThanAThrow$Reader", "readLong", "()V"⟩, 8), (⟨"NoFartherThanAThrow$Reader", "readRiver", "()V"⟩, 8), (⟨"NoFartherThanAThrow$Reader", "readWind", "()V"⟩, 8), (⟨"NoFartherThanAThrow$Reader", "readWant", "()V"⟩, 8)]
theorem lw_r1 : ∀ q ∈ lw_privs_1, lw_okq q := List.forall_mem_cons.mpr ⟨lw_p0, List.forall_mem_cons.mpr ⟨lw_p1, List.forall_mem_cons.mpr ⟨lw_p2, List.forall_mem_cons.mpr ⟨lw_p3, List.forall_mem_cons.mpr ⟨lw_p4, List.forall_mem_cons.mpr ⟨lw_p5, List.forall_mem_cons.mpr ⟨lw_p6, List.forall_mem_cons.mpr ⟨lw_p7, List.forall_mem_cons.mpr ⟨lw_p8, List.forall_mem_cons.mpr ⟨lw_p9, List.forall_mem_cons.mpr ⟨lw_p10, List.forall_mem_cons.mpr ⟨lw_p11, List.forall_mem_cons.mpr ⟨lw_p12, List.forall_mem_cons.mpr ⟨lw_p13, List.forall_mem_cons.mpr ⟨lw_p14, List.forall_mem_cons.mpr ⟨lw_p15, fun _ h => absurd h List.not_mem_nil⟩⟩⟩⟩⟩⟩⟩⟩⟩⟩⟩⟩⟩⟩⟩⟩
theorem lw_p16 : lw_okq (⟨"NoFartherThanAThrow$Valley", "moveOn", "(III)V"⟩, 9) := ⟨⟨by decide +kernel, by decide +kernel⟩, List.mem_of_getElem? (i := 26) (by decide +kernel), List.mem_of_getElem? (i := 684) (by decide +kernel), List.mem_of_getElem? (i := 685) (by decide +kernel)⟩
theorem lw_p17 : lw_okq (⟨"NoFartherThanAThrow", "firstThatCant", "(III)I"⟩, 11) := ⟨⟨by decide +kernel, by decide +kernel⟩, List.mem_of_getElem? (i := 18) (by decide +kernel), List.mem_of_getElem? (i := 695) (by decide +kernel), List.mem_of_getElem? (i := 696) (by decide +kernel)⟩
theorem lw_p18 : lw_okq (⟨"NoFartherThanAThrow$Relay", "measure", "(I)V"⟩, 3) := ⟨⟨by decide +kernel, by decide +kernel⟩, List.mem_of_getElem? (i := 156) (by decide +kernel), List.mem_of_getElem? (i := 715) (by decide +kernel), List.mem_of_getElem? (i := 716) (by decide +kernel)⟩
theorem lw_p19 : lw_okq (⟨"NoFartherThanAThrow$Relay", "fill", "(III)I"⟩, 3) := ⟨⟨by decide +kernel, by decide +kernel⟩, List.mem_of_getElem? (i := 156) (by decide +kernel), List.mem_of_getElem? (i := 721) (by decide +kernel), List.mem_of_getElem? (i := 722) (by decide +kernel)⟩
theorem lw_p20 : lw_okq (⟨"NoFartherThanAThrow$Relay", "farthestEnd", "(II)I"⟩, 3) := ⟨⟨by decide +kernel, by decide +kernel⟩, List.mem_of_getElem? (i := 156) (by decide +kernel), List.mem_of_getElem? (i := 725) (by decide +kernel), List.mem_of_getElem? (i := 726) (by decide +kernel)⟩
theorem lw_p21 : lw_okq (⟨"NoFartherThanAThrow$Relay", "onward", "(III)I"⟩, 3) := ⟨⟨by decide +kernel, by decide +kernel⟩, List.mem_of_getElem? (i := 156) (by decide +kernel), List.mem_of_getElem? (i := 733) (by decide +kernel), List.mem_of_getElem? (i := 734) (by decide +kernel)⟩
theorem lw_p22 : lw_okq (⟨"NoFartherThanAThrow$Relay", "firstThatDoes", "(III)I"⟩, 3) := ⟨⟨by decide +kernel, by decide +kernel⟩, List.mem_of_getElem? (i := 156) (by decide +kernel), List.mem_of_getElem? (i := 774) (by decide +kernel), List.mem_of_getElem? (i := 775) (by decide +kernel)⟩
theorem lw_p23 : lw_okq (⟨"NoFartherThanAThrow", "refuseApart", "(I)I"⟩, 11) := ⟨⟨by decide +kernel, by decide +kernel⟩, List.mem_of_getElem? (i := 18) (by decide +kernel), List.mem_of_getElem? (i := 782) (by decide +kernel), List.mem_of_getElem? (i := 783) (by decide +kernel)⟩
theorem lw_p24 : lw_okq (⟨"NoFartherThanAThrow$Relay", "farthestBut", "(I)I"⟩, 3) := ⟨⟨by decide +kernel, by decide +kernel⟩, List.mem_of_getElem? (i := 156) (by decide +kernel), List.mem_of_getElem? (i := 791) (by decide +kernel), List.mem_of_getElem? (i := 792) (by decide +kernel)⟩
theorem lw_p25 : lw_okq (⟨"NoFartherThanAThrow$Sharing", "findGains", "(II)Z"⟩, 5) := ⟨⟨by decide +kernel, by decide +kernel⟩, List.mem_of_getElem? (i := 172) (by decide +kernel), List.mem_of_getElem? (i := 807) (by decide +kernel), List.mem_of_getElem? (i := 808) (by decide +kernel)⟩
theorem lw_p26 : lw_okq (⟨"NoFartherThanAThrow$Sharing", "shareOut", "(I)V"⟩, 5) := ⟨⟨by decide +kernel, by decide +kernel⟩, List.mem_of_getElem? (i := 172) (by decide +kernel), List.mem_of_getElem? (i := 820) (by decide +kernel), List.mem_of_getElem? (i := 821) (by decide +kernel)⟩
theorem lw_p27 : lw_okq (⟨"NoFartherThanAThrow$Relay", "doesWith", "(IIIII)Z"⟩, 3) := ⟨⟨by decide +kernel, by decide +kernel⟩, List.mem_of_getElem? (i := 156) (by decide +kernel), List.mem_of_getElem? (i := 862) (by decide +kernel), List.mem_of_getElem? (i := 863) (by decide +kernel)⟩
theorem lw_p28 : lw_okq (⟨"NoFartherThanAThrow$Valley", "draw", "(I)I"⟩, 9) := ⟨⟨by decide +kernel, by decide +kernel⟩, List.mem_of_getElem? (i := 26) (by decide +kernel), List.mem_of_getElem? (i := 904) (by decide +kernel), List.mem_of_getElem? (i := 905) (by decide +kernel)⟩
theorem lw_p29 : lw_okq (⟨"NoFartherThanAThrow$Acts", "run", "(IIII)I"⟩, 5) := ⟨⟨by decide +kernel, by decide +kernel⟩, List.mem_of_getElem? (i := 194) (by decide +kernel), List.mem_of_getElem? (i := 943) (by decide +kernel), List.mem_of_getElem? (i := 944) (by decide +kernel)⟩
theorem lw_p30 : lw_okq (⟨"NoFartherThanAThrow$Acts", "begin", "(I)V"⟩, 5) := ⟨⟨by decide +kernel, by decide +kernel⟩, List.mem_of_getElem? (i := 194) (by decide +kernel), List.mem_of_getElem? (i := 957) (by decide +kernel), List.mem_of_getElem? (i := 958) (by decide +kernel)⟩
theorem lw_p31 : lw_okq (⟨"NoFartherThanAThrowModel", "isShelf", "(I)Z"⟩, 50) := ⟨⟨by decide +kernel, by decide +kernel⟩, List.mem_of_getElem? (i := 985) (by decide +kernel), List.mem_of_getElem? (i := 1146) (by decide +kernel), List.mem_of_getElem? (i := 1147) (by decide +kernel)⟩
def lw_privs_2 : List (MethodName × Nat) := [(⟨"NoFartherThanAThrow$Valley", "moveOn", "(III)V"⟩, 9), (⟨"NoFartherThanAThrow", "firstThatCant", "(III)I"⟩, 11), (⟨"NoFartherThanAThrow$Relay", "measure", "(I)V"⟩, 3), (⟨"NoFartherThanAThrow$Relay", "fill", "(III)I"⟩, 3), (⟨"NoFartherThanAThrow$Relay", "farthestEnd", "(II)I"⟩, 3), (⟨"NoFartherThanAThrow$Relay", "onward", "(III)I"⟩, 3), (⟨"NoFartherThanAThrow$Relay", "firstThatDoes", "(III)I"⟩, 3), (⟨"NoFartherThanAThrow", "refuseApart", "(I)I"⟩, 11), (⟨"NoFartherThanAThrow$Relay", "farthestBut", "(I)I"⟩, 3), (⟨"NoFartherThanAThrow$Sharing", "findGains", "(II)Z"⟩, 5), (⟨"NoFartherThanAThrow$Sharing", "shareOut", "(I)V"⟩, 5), (⟨"NoFartherThanAThrow$Relay", "doesWith", "(IIIII)Z"⟩, 3), (⟨"NoFartherThanAThrow$Valley", "draw", "(I)I"⟩, 9), (⟨"NoFartherThanAThrow$Acts", "run", "(IIII)I"⟩, 5), (⟨"NoFartherThanAThrow$Acts", "begin", "(I)V"⟩, 5), (⟨"NoFartherThanAThrowModel", "isShelf", "(I)Z"⟩, 50)]
theorem lw_r2 : ∀ q ∈ lw_privs_2, lw_okq q := List.forall_mem_cons.mpr ⟨lw_p16, List.forall_mem_cons.mpr ⟨lw_p17, List.forall_mem_cons.mpr ⟨lw_p18, List.forall_mem_cons.mpr ⟨lw_p19, List.forall_mem_cons.mpr ⟨lw_p20, List.forall_mem_cons.mpr ⟨lw_p21, List.forall_mem_cons.mpr ⟨lw_p22, List.forall_mem_cons.mpr ⟨lw_p23, List.forall_mem_cons.mpr ⟨lw_p24, List.forall_mem_cons.mpr ⟨lw_p25, List.forall_mem_cons.mpr ⟨lw_p26, List.forall_mem_cons.mpr ⟨lw_p27, List.forall_mem_cons.mpr ⟨lw_p28, List.forall_mem_cons.mpr ⟨lw_p29, List.forall_mem_cons.mpr ⟨lw_p30, List.forall_mem_cons.mpr ⟨lw_p31, fun _ h => absurd h List.not_mem_nil⟩⟩⟩⟩⟩⟩⟩⟩⟩⟩⟩⟩⟩⟩⟩⟩
theorem lw_p32 : lw_okq (⟨"NoFartherThanAThrowModel", "no", "(I)I"⟩, 50) := ⟨⟨by decide +kernel, by decide +kernel⟩, List.mem_of_getElem? (i := 985) (by decide +kernel), List.mem_of_getElem? (i := 1150) (by decide +kernel), List.mem_of_getElem? (i := 1151) (by decide +kernel)⟩
theorem lw_p33 : lw_okq (⟨"NoFartherThanAThrowModel", "isThing", "(I)Z"⟩, 50) := ⟨⟨by decide +kernel, by decide +kernel⟩, List.mem_of_getElem? (i := 985) (by decide +kernel), List.mem_of_getElem? (i := 1170) (by decide +kernel), List.mem_of_getElem? (i := 1171) (by decide +kernel)⟩
theorem lw_p34 : lw_okq (⟨"NoFartherThanAThrowModel", "farBy", "(II)I"⟩, 50) := ⟨⟨by decide +kernel, by decide +kernel⟩, List.mem_of_getElem? (i := 985) (by decide +kernel), List.mem_of_getElem? (i := 1182) (by decide +kernel), List.mem_of_getElem? (i := 1183) (by decide +kernel)⟩
theorem lw_p35 : lw_okq (⟨"NoFartherThanAThrowModel", "low", "(II)I"⟩, 50) := ⟨⟨by decide +kernel, by decide +kernel⟩, List.mem_of_getElem? (i := 985) (by decide +kernel), List.mem_of_getElem? (i := 1186) (by decide +kernel), List.mem_of_getElem? (i := 1187) (by decide +kernel)⟩
theorem lw_p36 : lw_okq (⟨"NoFartherThanAThrowModel", "isStep", "(I)Z"⟩, 50) := ⟨⟨by decide +kernel, by decide +kernel⟩, List.mem_of_getElem? (i := 985) (by decide +kernel), List.mem_of_getElem? (i := 1194) (by decide +kernel), List.mem_of_getElem? (i := 1195) (by decide +kernel)⟩
theorem lw_p37 : lw_okq (⟨"NoFartherThanAThrowModel", "isWet", "(I)Z"⟩, 50) := ⟨⟨by decide +kernel, by decide +kernel⟩, List.mem_of_getElem? (i := 985) (by decide +kernel), List.mem_of_getElem? (i := 1198) (by decide +kernel), List.mem_of_getElem? (i := 1199) (by decide +kernel)⟩
theorem lw_p38 : lw_okq (⟨"NoFartherThanAThrowModel", "things", "(IIII)I"⟩, 50) := ⟨⟨by decide +kernel, by decide +kernel⟩, List.mem_of_getElem? (i := 985) (by decide +kernel), List.mem_of_getElem? (i := 1202) (by decide +kernel), List.mem_of_getElem? (i := 1203) (by decide +kernel)⟩
theorem lw_p39 : lw_okq (⟨"NoFartherThanAThrowModel", "men", "(I)I"⟩, 50) := ⟨⟨by decide +kernel, by decide +kernel⟩, List.mem_of_getElem? (i := 985) (by decide +kernel), List.mem_of_getElem? (i := 1210) (by decide +kernel), List.mem_of_getElem? (i := 1211) (by decide +kernel)⟩
theorem lw_p40 : lw_okq (⟨"NoFartherThanAThrowModel", "wants", "(I)I"⟩, 50) := ⟨⟨by decide +kernel, by decide +kernel⟩, List.mem_of_getElem? (i := 985) (by decide +kernel), List.mem_of_getElem? (i := 1218) (by decide +kernel), List.mem_of_getElem? (i := 1219) (by decide +kernel)⟩
theorem lw_p41 : lw_okq (⟨"NoFartherThanAThrowModel", "intAt", "(II)I"⟩, 50) := ⟨⟨by decide +kernel, by decide +kernel⟩, List.mem_of_getElem? (i := 985) (by decide +kernel), List.mem_of_getElem? (i := 1222) (by decide +kernel), List.mem_of_getElem? (i := 1223) (by decide +kernel)⟩
theorem lw_p42 : lw_okq (⟨"NoFartherThanAThrowModel", "wanted", "(III)I"⟩, 50) := ⟨⟨by decide +kernel, by decide +kernel⟩, List.mem_of_getElem? (i := 985) (by decide +kernel), List.mem_of_getElem? (i := 1230) (by decide +kernel), List.mem_of_getElem? (i := 1231) (by decide +kernel)⟩
theorem lw_p43 : lw_okq (⟨"NoFartherThanAThrowModel", "isLong", "(I)Z"⟩, 50) := ⟨⟨by decide +kernel, by decide +kernel⟩, List.mem_of_getElem? (i := 985) (by decide +kernel), List.mem_of_getElem? (i := 1238) (by decide +kernel), List.mem_of_getElem? (i := 1239) (by decide +kernel)⟩
theorem lw_p44 : lw_okq (⟨"NoFartherThanAThrowModel", "isRiver", "(II)Z"⟩, 50) := ⟨⟨by decide +kernel, by decide +kernel⟩, List.mem_of_getElem? (i := 985) (by decide +kernel), List.mem_of_getElem? (i := 1246) (by decide +kernel), List.mem_of_getElem? (i := 1247) (by decide +kernel)⟩
theorem lw_p45 : lw_okq (⟨"NoFartherThanAThrowModel", "isMan", "(I)Z"⟩, 50) := ⟨⟨by decide +kernel, by decide +kernel⟩, List.mem_of_getElem? (i := 985) (by decide +kernel), List.mem_of_getElem? (i := 1258) (by decide +kernel), List.mem_of_getElem? (i := 1259) (by decide +kernel)⟩
theorem lw_p46 : lw_okq (⟨"NoFartherThanAThrowModel", "all", "([IZ)V"⟩, 50) := ⟨⟨by decide +kernel, by decide +kernel⟩, List.mem_of_getElem? (i := 985) (by decide +kernel), List.mem_of_getElem? (i := 1270) (by decide +kernel), List.mem_of_getElem? (i := 1271) (by decide +kernel)⟩
theorem lw_p47 : lw_okq (⟨"NoFartherThanAThrowModel", "keeps", "([II[IIZ)I"⟩, 50) := ⟨⟨by decide +kernel, by decide +kernel⟩, List.mem_of_getElem? (i := 985) (by decide +kernel), List.mem_of_getElem? (i := 1274) (by decide +kernel), List.mem_of_getElem? (i := 1275) (by decide +kernel)⟩
def lw_privs_3 : List (MethodName × Nat) := [(⟨"NoFartherThanAThrowModel", "no", "(I)I"⟩, 50), (⟨"NoFartherThanAThrowModel", "isThing", "(I)Z"⟩, 50), (⟨"NoFartherThanAThrowModel", "farBy", "(II)I"⟩, 50), (⟨"NoFartherThanAThrowModel", "low", "(II)I"⟩, 50), (⟨"NoFartherThanAThrowModel", "isStep", "(I)Z"⟩, 50), (⟨"NoFartherThanAThrowModel", "isWet", "(I)Z"⟩, 50), (⟨"NoFartherThanAThrowModel", "things", "(IIII)I"⟩, 50), (⟨"NoFartherThanAThrowModel", "men", "(I)I"⟩, 50), (⟨"NoFartherThanAThrowModel", "wants", "(I)I"⟩, 50), (⟨"NoFartherThanAThrowModel", "intAt", "(II)I"⟩, 50), (⟨"NoFartherThanAThrowModel", "wanted", "(III)I"⟩, 50), (⟨"NoFartherThanAThrowModel", "isLong", "(I)Z"⟩, 50), (⟨"NoFartherThanAThrowModel", "isRiver", "(II)Z"⟩, 50), (⟨"NoFartherThanAThrowModel", "isMan", "(I)Z"⟩, 50), (⟨"NoFartherThanAThrowModel", "all", "([IZ)V"⟩, 50), (⟨"NoFartherThanAThrowModel", "keeps", "([II[IIZ)I"⟩, 50)]
theorem lw_r3 : ∀ q ∈ lw_privs_3, lw_okq q := List.forall_mem_cons.mpr ⟨lw_p32, List.forall_mem_cons.mpr ⟨lw_p33, List.forall_mem_cons.mpr ⟨lw_p34, List.forall_mem_cons.mpr ⟨lw_p35, List.forall_mem_cons.mpr ⟨lw_p36, List.forall_mem_cons.mpr ⟨lw_p37, List.forall_mem_cons.mpr ⟨lw_p38, List.forall_mem_cons.mpr ⟨lw_p39, List.forall_mem_cons.mpr ⟨lw_p40, List.forall_mem_cons.mpr ⟨lw_p41, List.forall_mem_cons.mpr ⟨lw_p42, List.forall_mem_cons.mpr ⟨lw_p43, List.forall_mem_cons.mpr ⟨lw_p44, List.forall_mem_cons.mpr ⟨lw_p45, List.forall_mem_cons.mpr ⟨lw_p46, List.forall_mem_cons.mpr ⟨lw_p47, fun _ h => absurd h List.not_mem_nil⟩⟩⟩⟩⟩⟩⟩⟩⟩⟩⟩⟩⟩⟩⟩⟩
theorem lw_p48 : lw_okq (⟨"NoFartherThanAThrowModel", "item", "()Z"⟩, 50) := ⟨⟨by decide +kernel, by decide +kernel⟩, List.mem_of_getElem? (i := 985) (by decide +kernel), List.mem_of_getElem? (i := 1278) (by decide +kernel), List.mem_of_getElem? (i := 1279) (by decide +kernel)⟩
theorem lw_p49 : lw_okq (⟨"NoFartherThanAThrowModel", "isWordAt", "(I)Z"⟩, 50) := ⟨⟨by decide +kernel, by decide +kernel⟩, List.mem_of_getElem? (i := 985) (by decide +kernel), List.mem_of_getElem? (i := 1282) (by decide +kernel), List.mem_of_getElem? (i := 1283) (by decide +kernel)⟩
theorem lw_p50 : lw_okq (⟨"NoFartherThanAThrowModel", "isFull", "(I)Z"⟩, 50) := ⟨⟨by decide +kernel, by decide +kernel⟩, List.mem_of_getElem? (i := 985) (by decide +kernel), List.mem_of_getElem? (i := 1286) (by decide +kernel), List.mem_of_getElem? (i := 1287) (by decide +kernel)⟩
theorem lw_p51 : lw_okq (⟨"NoFartherThanAThrowModel", "wrong", "(I)Z"⟩, 50) := ⟨⟨by decide +kernel, by decide +kernel⟩, List.mem_of_getElem? (i := 985) (by decide +kernel), List.mem_of_getElem? (i := 1290) (by decide +kernel), List.mem_of_getElem? (i := 1291) (by decide +kernel)⟩
theorem lw_p52 : lw_okq (⟨"NoFartherThanAThrowModel", "word", "()I"⟩, 50) := ⟨⟨by decide +kernel, by decide +kernel⟩, List.mem_of_getElem? (i := 985) (by decide +kernel), List.mem_of_getElem? (i := 1294) (by decide +kernel), List.mem_of_getElem? (i := 1295) (by decide +kernel)⟩
theorem lw_p53 : lw_okq (⟨"NoFartherThanAThrowModel", "number", "(II)Z"⟩, 50) := ⟨⟨by decide +kernel, by decide +kernel⟩, List.mem_of_getElem? (i := 985) (by decide +kernel), List.mem_of_getElem? (i := 1298) (by decide +kernel), List.mem_of_getElem? (i := 1299) (by decide +kernel)⟩
theorem lw_p54 : lw_okq (⟨"NoFartherThanAThrowModel", "isDigit", "()Z"⟩, 50) := ⟨⟨by decide +kernel, by decide +kernel⟩, List.mem_of_getElem? (i := 985) (by decide +kernel), List.mem_of_getElem? (i := 1302) (by decide +kernel), List.mem_of_getElem? (i := 1303) (by decide +kernel)⟩
theorem lw_p55 : lw_okq (⟨"NoFartherThanAThrowModel", "isFit", "(II)Z"⟩, 50) := ⟨⟨by decide +kernel, by decide +kernel⟩, List.mem_of_getElem? (i := 985) (by decide +kernel), List.mem_of_getElem? (i := 1306) (by decide +kernel), List.mem_of_getElem? (i := 1307) (by decide +kernel)⟩
theorem lw_p56 : lw_okq (⟨"NoFartherThanAThrowModel", "farOf", "(II)I"⟩, 50) := ⟨⟨by decide +kernel, by decide +kernel⟩, List.mem_of_getElem? (i := 985) (by decide +kernel), List.mem_of_getElem? (i := 1318) (by decide +kernel), List.mem_of_getElem? (i := 1319) (by decide +kernel)⟩
theorem lw_p57 : lw_okq (⟨"NoFartherThanAThrowModel", "near", "(I)I"⟩, 50) := ⟨⟨by decide +kernel, by decide +kernel⟩, List.mem_of_getElem? (i := 985) (by decide +kernel), List.mem_of_getElem? (i := 1326) (by decide +kernel), List.mem_of_getElem? (i := 1327) (by decide +kernel)⟩
theorem lw_p58 : lw_okq (⟨"NoFartherThanAThrowModel", "wrongBy", "(III)I"⟩, 50) := ⟨⟨by decide +kernel, by decide +kernel⟩, List.mem_of_getElem? (i := 985) (by decide +kernel), List.mem_of_getElem? (i := 1330) (by decide +kernel), List.mem_of_getElem? (i := 1331) (by decide +kernel)⟩
theorem lw_p59 : lw_okq (⟨"NoFartherThanAThrowModel", "carries", "(III)V"⟩, 50) := ⟨⟨by decide +kernel, by decide +kernel⟩, List.mem_of_getElem? (i := 985) (by decide +kernel), List.mem_of_getElem? (i := 1338) (by decide +kernel), List.mem_of_getElem? (i := 1339) (by decide +kernel)⟩
theorem lw_p60 : lw_okq (⟨"NoFartherThanAThrowModel", "tires", "(II)V"⟩, 50) := ⟨⟨by decide +kernel, by decide +kernel⟩, List.mem_of_getElem? (i := 985) (by decide +kernel), List.mem_of_getElem? (i := 1342) (by decide +kernel), List.mem_of_getElem? (i := 1343) (by decide +kernel)⟩
theorem lw_p61 : lw_okq (⟨"NoFartherThanAThrowModel", "isSet", "(I)Z"⟩, 50) := ⟨⟨by decide +kernel, by decide +kernel⟩, List.mem_of_getElem? (i := 985) (by decide +kernel), List.mem_of_getElem? (i := 1354) (by decide +kernel), List.mem_of_getElem? (i := 1355) (by decide +kernel)⟩
theorem lw_p62 : lw_okq (⟨"NoFartherThanAThrowModel", "rowsFor", "(II)V"⟩, 50) := ⟨⟨by decide +kernel, by decide +kernel⟩, List.mem_of_getElem? (i := 985) (by decide +kernel), List.mem_of_getElem? (i := 1358) (by decide +kernel), List.mem_of_getElem? (i := 1359) (by decide +kernel)⟩
theorem lw_p63 : lw_okq (⟨"NoFartherThanAThrowModel", "rows", "(III)V"⟩, 50) := ⟨⟨by decide +kernel, by decide +kernel⟩, List.mem_of_getElem? (i := 985) (by decide +kernel), List.mem_of_getElem? (i := 1362) (by decide +kernel), List.mem_of_getElem? (i := 1363) (by decide +kernel)⟩
def lw_privs_4 : List (MethodName × Nat) := [(⟨"NoFartherThanAThrowModel", "item", "()Z"⟩, 50), (⟨"NoFartherThanAThrowModel", "isWordAt", "(I)Z"⟩, 50), (⟨"NoFartherThanAThrowModel", "isFull", "(I)Z"⟩, 50), (⟨"NoFartherThanAThrowModel", "wrong", "(I)Z"⟩, 50), (⟨"NoFartherThanAThrowModel", "word", "()I"⟩, 50), (⟨"NoFartherThanAThrowModel", "number", "(II)Z"⟩, 50), (⟨"NoFartherThanAThrowModel", "isDigit", "()Z"⟩, 50), (⟨"NoFartherThanAThrowModel", "isFit", "(II)Z"⟩, 50), (⟨"NoFartherThanAThrowModel", "farOf", "(II)I"⟩, 50), (⟨"NoFartherThanAThrowModel", "near", "(I)I"⟩, 50), (⟨"NoFartherThanAThrowModel", "wrongBy", "(III)I"⟩, 50), (⟨"NoFartherThanAThrowModel", "carries", "(III)V"⟩, 50), (⟨"NoFartherThanAThrowModel", "tires", "(II)V"⟩, 50), (⟨"NoFartherThanAThrowModel", "isSet", "(I)Z"⟩, 50), (⟨"NoFartherThanAThrowModel", "rowsFor", "(II)V"⟩, 50), (⟨"NoFartherThanAThrowModel", "rows", "(III)V"⟩, 50)]
theorem lw_r4 : ∀ q ∈ lw_privs_4, lw_okq q := List.forall_mem_cons.mpr ⟨lw_p48, List.forall_mem_cons.mpr ⟨lw_p49, List.forall_mem_cons.mpr ⟨lw_p50, List.forall_mem_cons.mpr ⟨lw_p51, List.forall_mem_cons.mpr ⟨lw_p52, List.forall_mem_cons.mpr ⟨lw_p53, List.forall_mem_cons.mpr ⟨lw_p54, List.forall_mem_cons.mpr ⟨lw_p55, List.forall_mem_cons.mpr ⟨lw_p56, List.forall_mem_cons.mpr ⟨lw_p57, List.forall_mem_cons.mpr ⟨lw_p58, List.forall_mem_cons.mpr ⟨lw_p59, List.forall_mem_cons.mpr ⟨lw_p60, List.forall_mem_cons.mpr ⟨lw_p61, List.forall_mem_cons.mpr ⟨lw_p62, List.forall_mem_cons.mpr ⟨lw_p63, fun _ h => absurd h List.not_mem_nil⟩⟩⟩⟩⟩⟩⟩⟩⟩⟩⟩⟩⟩⟩⟩⟩
theorem lw_p64 : lw_okq (⟨"NoFartherThanAThrowModel", "goes", "(III)I"⟩, 50) := ⟨⟨by decide +kernel, by decide +kernel⟩, List.mem_of_getElem? (i := 985) (by decide +kernel), List.mem_of_getElem? (i := 1366) (by decide +kernel), List.mem_of_getElem? (i := 1367) (by decide +kernel)⟩
theorem lw_p65 : lw_okq (⟨"NoFartherThanAThrowModel", "isOnward", "(II)Z"⟩, 50) := ⟨⟨by decide +kernel, by decide +kernel⟩, List.mem_of_getElem? (i := 985) (by decide +kernel), List.mem_of_getElem? (i := 1374) (by decide +kernel), List.mem_of_getElem? (i := 1375) (by decide +kernel)⟩
theorem lw_p66 : lw_okq (⟨"NoFartherThanAThrowModel", "count", "(I)I"⟩, 50) := ⟨⟨by decide +kernel, by decide +kernel⟩, List.mem_of_getElem? (i := 985) (by decide +kernel), List.mem_of_getElem? (i := 1382) (by decide +kernel), List.mem_of_getElem? (i := 1383) (by decide +kernel)⟩
theorem lw_p67 : lw_okq (⟨"NoFartherThanAThrowModel", "noTen", "(I)I"⟩, 50) := ⟨⟨by decide +kernel, by decide +kernel⟩, List.mem_of_getElem? (i := 985) (by decide +kernel), List.mem_of_getElem? (i := 1394) (by decide +kernel), List.mem_of_getElem? (i := 1395) (by decide +kernel)⟩
theorem lw_p68 : lw_okq (⟨"NoFartherThanAThrowModel", "shareAll", "()V"⟩, 50) := ⟨⟨by decide +kernel, by decide +kernel⟩, List.mem_of_getElem? (i := 985) (by decide +kernel), List.mem_of_getElem? (i := 1402) (by decide +kernel), List.mem_of_getElem? (i := 1403) (by decide +kernel)⟩
theorem lw_p69 : lw_okq (⟨"NoFartherThanAThrowModel", "shares", "(I)V"⟩, 50) := ⟨⟨by decide +kernel, by decide +kernel⟩, List.mem_of_getElem? (i := 985) (by decide +kernel), List.mem_of_getElem? (i := 1406) (by decide +kernel), List.mem_of_getElem? (i := 1407) (by decide +kernel)⟩
theorem lw_p70 : lw_okq (⟨"NoFartherThanAThrowModel", "worthOf", "()I"⟩, 50) := ⟨⟨by decide +kernel, by decide +kernel⟩, List.mem_of_getElem? (i := 985) (by decide +kernel), List.mem_of_getElem? (i := 1410) (by decide +kernel), List.mem_of_getElem? (i := 1411) (by decide +kernel)⟩
theorem lw_p71 : lw_okq (⟨"NoFartherThanAThrowModel", "isFar", "(I)Z"⟩, 50) := ⟨⟨by decide +kernel, by decide +kernel⟩, List.mem_of_getElem? (i := 985) (by decide +kernel), List.mem_of_getElem? (i := 1434) (by decide +kernel), List.mem_of_getElem? (i := 1435) (by decide +kernel)⟩
theorem lw_p72 : lw_okq (⟨"NoFartherThanAThrowModel", "caughtBy", "(III)I"⟩, 50) := ⟨⟨by decide +kernel, by decide +kernel⟩, List.mem_of_getElem? (i := 985) (by decide +kernel), List.mem_of_getElem? (i := 1438) (by decide +kernel), List.mem_of_getElem? (i := 1439) (by decide +kernel)⟩
theorem lw_p73 : lw_okq (⟨"NoFartherThanAThrowModel", "meanOf", "(III)I"⟩, 50) := ⟨⟨by decide +kernel, by decide +kernel⟩, List.mem_of_getElem? (i := 985) (by decide +kernel), List.mem_of_getElem? (i := 1446) (by decide +kernel), List.mem_of_getElem? (i := 1447) (by decide +kernel)⟩
theorem lw_p74 : lw_okq (⟨"NoFartherThanAThrowModel", "isThrow", "(III)Z"⟩, 50) := ⟨⟨by decide +kernel, by decide +kernel⟩, List.mem_of_getElem? (i := 985) (by decide +kernel), List.mem_of_getElem? (i := 1450) (by decide +kernel), List.mem_of_getElem? (i := 1451) (by decide +kernel)⟩
theorem lw_p75 : lw_okq (⟨"NoFartherThanAThrowModel", "draw", "(I)I"⟩, 50) := ⟨⟨by decide +kernel, by decide +kernel⟩, List.mem_of_getElem? (i := 985) (by decide +kernel), List.mem_of_getElem? (i := 1462) (by decide +kernel), List.mem_of_getElem? (i := 1463) (by decide +kernel)⟩
theorem lw_p76 : lw_okq (⟨"NoFartherThanAThrowModel", "going", "(II)I"⟩, 50) := ⟨⟨by decide +kernel, by decide +kernel⟩, List.mem_of_getElem? (i := 985) (by decide +kernel), List.mem_of_getElem? (i := 1483) (by decide +kernel), List.mem_of_getElem? (i := 1484) (by decide +kernel)⟩
theorem lw_p77 : lw_okq (⟨"NoFartherThanAThrowModel", "body", "(I)V"⟩, 50) := ⟨⟨by decide +kernel, by decide +kernel⟩, List.mem_of_getElem? (i := 985) (by decide +kernel), List.mem_of_getElem? (i := 1487) (by decide +kernel), List.mem_of_getElem? (i := 1488) (by decide +kernel)⟩
theorem lw_p78 : lw_okq (⟨"NoFartherThanAThrowModel", "resting", "(II)I"⟩, 50) := ⟨⟨by decide +kernel, by decide +kernel⟩, List.mem_of_getElem? (i := 985) (by decide +kernel), List.mem_of_getElem? (i := 1491) (by decide +kernel), List.mem_of_getElem? (i := 1492) (by decide +kernel)⟩
theorem lw_p79 : lw_okq (⟨"NoFartherThanAThrowModel", "falling", "(II)I"⟩, 50) := ⟨⟨by decide +kernel, by decide +kernel⟩, List.mem_of_getElem? (i := 985) (by decide +kernel), List.mem_of_getElem? (i := 1495) (by decide +kernel), List.mem_of_getElem? (i := 1496) (by decide +kernel)⟩
def lw_privs_5 : List (MethodName × Nat) := [(⟨"NoFartherThanAThrowModel", "goes", "(III)I"⟩, 50), (⟨"NoFartherThanAThrowModel", "isOnward", "(II)Z"⟩, 50), (⟨"NoFartherThanAThrowModel", "count", "(I)I"⟩, 50), (⟨"NoFartherThanAThrowModel", "noTen", "(I)I"⟩, 50), (⟨"NoFartherThanAThrowModel", "shareAll", "()V"⟩, 50), (⟨"NoFartherThanAThrowModel", "shares", "(I)V"⟩, 50), (⟨"NoFartherThanAThrowModel", "worthOf", "()I"⟩, 50), (⟨"NoFartherThanAThrowModel", "isFar", "(I)Z"⟩, 50), (⟨"NoFartherThanAThrowModel", "caughtBy", "(III)I"⟩, 50), (⟨"NoFartherThanAThrowModel", "meanOf", "(III)I"⟩, 50), (⟨"NoFartherThanAThrowModel", "isThrow", "(III)Z"⟩, 50), (⟨"NoFartherThanAThrowModel", "draw", "(I)I"⟩, 50), (⟨"NoFartherThanAThrowModel", "going", "(II)I"⟩, 50), (⟨"NoFartherThanAThrowModel", "body", "(I)V"⟩, 50), (⟨"NoFartherThanAThrowModel", "resting", "(II)I"⟩, 50), (⟨"NoFartherThanAThrowModel", "falling", "(II)I"⟩, 50)]
theorem lw_r5 : ∀ q ∈ lw_privs_5, lw_okq q := List.forall_mem_cons.mpr ⟨lw_p64, List.forall_mem_cons.mpr ⟨lw_p65, List.forall_mem_cons.mpr ⟨lw_p66, List.forall_mem_cons.mpr ⟨lw_p67, List.forall_mem_cons.mpr ⟨lw_p68, List.forall_mem_cons.mpr ⟨lw_p69, List.forall_mem_cons.mpr ⟨lw_p70, List.forall_mem_cons.mpr ⟨lw_p71, List.forall_mem_cons.mpr ⟨lw_p72, List.forall_mem_cons.mpr ⟨lw_p73, List.forall_mem_cons.mpr ⟨lw_p74, List.forall_mem_cons.mpr ⟨lw_p75, List.forall_mem_cons.mpr ⟨lw_p76, List.forall_mem_cons.mpr ⟨lw_p77, List.forall_mem_cons.mpr ⟨lw_p78, List.forall_mem_cons.mpr ⟨lw_p79, fun _ h => absurd h List.not_mem_nil⟩⟩⟩⟩⟩⟩⟩⟩⟩⟩⟩⟩⟩⟩⟩⟩
def lw_privs : List (MethodName × Nat) := lw_privs_1 ++ (lw_privs_2 ++ (lw_privs_3 ++ (lw_privs_4 ++ (lw_privs_5))))
def lw_tbl : List Cond := k2_sels lw_privs ++ tables_1
theorem lw_privs_ok : ∀ q ∈ lw_privs, lw_okq q := by
  show ∀ q ∈ lw_privs_1 ++ (lw_privs_2 ++ (lw_privs_3 ++ (lw_privs_4 ++ (lw_privs_5)))), lw_okq q
  exact List.forall_mem_append.mpr ⟨lw_r1, List.forall_mem_append.mpr ⟨lw_r2, List.forall_mem_append.mpr ⟨lw_r3, List.forall_mem_append.mpr ⟨lw_r4, lw_r5⟩⟩⟩⟩
-- names
/-! ===== BEGIN printed: names, fields, word lists, decode rows ===== -/
def RX0 : String := "NoFartherThanAThrow$Acts"
def TX0 : u_T := fun k => match k with
  | 0 => ("NoFartherThanAThrow$Acts", "bodies", "[I", true)
  | 1 => ("NoFartherThanAThrow$Acts", "ran", "I", false)
  | 2 => ("NoFartherThanAThrow$Acts", "number", "I", false)
  | 3 => ("NoFartherThanAThrow$Acts", "kind", "I", false)
  | _ => ("NoFartherThanAThrow$Acts", "weight", "I", false)
def tyX0 : Nat → FieldType := fun k => match k with
  | 0 => .array .int
  | 1 => .int
  | 2 => .int
  | 3 => .int
  | _ => .int
abbrev wsX00 : List Cond := u_ws RX0 TX0 5
theorem nmX0 : ∀ a, a < 5 → ∀ b, b < 5 → a ≠ b → (TX0 a).2.1 ≠ (TX0 b).2.1 := by decide +kernel
theorem tyX0_ok : ∀ k, k < 5 → parseFieldDescriptor (TX0 k).2.2.1 = some (tyX0 k) := by decide +kernel
abbrev cX0_init : ByteArray := prog_2_method_1_code
def yX0_init : MethodName := ⟨RX0, "<init>", "()V"⟩
abbrev cX0_forget : ByteArray := prog_2_method_2_code
def yX0_forget : MethodName := ⟨RX0, "forget", "()V"⟩
abbrev cX0_bodyThatRan : ByteArray := prog_2_method_3_code
def yX0_bodyThatRan : MethodName := ⟨RX0, "bodyThatRan", "(I)I"⟩
abbrev cX0_perform : ByteArray := prog_2_method_4_code
def yX0_perform : MethodName := ⟨RX0, "perform", "(IIIII)I"⟩
abbrev cX0_begin : ByteArray := prog_2_method_5_code
def yX0_begin : MethodName := ⟨RX0, "begin", "(I)V"⟩
abbrev cX0_homeOf : ByteArray := prog_2_method_6_code
def yX0_homeOf : MethodName := ⟨RX0, "homeOf", "(II)I"⟩
abbrev cX0_bodyAt : ByteArray := prog_2_method_7_code
def yX0_bodyAt : MethodName := ⟨RX0, "bodyAt", "(II)I"⟩
abbrev cX0_run : ByteArray := prog_2_method_8_code
def yX0_run : MethodName := ⟨RX0, "run", "(IIII)I"⟩
def RX1 : String := "NoFartherThanAThrow$Reader"
def TX1 : u_T := fun k => match k with
  | 0 => ("NoFartherThanAThrow$Reader", "shelves", "LNoFartherThanAThrow$Shelves;", true)
  | 1 => ("NoFartherThanAThrow$Reader", "into", "LNoFartherThanAThrow$Valley;", true)
  | 2 => ("NoFartherThanAThrow$Reader", "text", "[I", true)
  | 3 => ("NoFartherThanAThrow$Reader", "size", "I", false)
  | 4 => ("NoFartherThanAThrow$Reader", "at", "I", false)
  | 5 => ("NoFartherThanAThrow$Reader", "numberAt", "I", false)
  | 6 => ("NoFartherThanAThrow$Reader", "firstFault", "I", false)
  | _ => ("NoFartherThanAThrow$Reader", "items", "I", false)
def tyX1 : Nat → FieldType := fun k => match k with
  | 0 => .object "NoFartherThanAThrow$Shelves"
  | 1 => .object "NoFartherThanAThrow$Valley"
  | 2 => .array .int
  | 3 => .int
  | 4 => .int
  | 5 => .int
  | 6 => .int
  | _ => .int
abbrev wsX10 : List Cond := u_ws RX1 TX1 8
theorem nmX1 : ∀ a, a < 8 → ∀ b, b < 8 → a ≠ b → (TX1 a).2.1 ≠ (TX1 b).2.1 := by decide +kernel
theorem tyX1_ok : ∀ k, k < 8 → parseFieldDescriptor (TX1 k).2.2.1 = some (tyX1 k) := by decide +kernel
abbrev cX1_init : ByteArray := prog_3_method_1_code
def yX1_init : MethodName := ⟨RX1, "<init>", "(LNoFartherThanAThrow$Shelves;LNoFartherThanAThrow$Valley;)V"⟩
abbrev cX1_read : ByteArray := prog_3_method_2_code
def yX1_read : MethodName := ⟨RX1, "read", "(I)I"⟩
abbrev cX1_readItem : ByteArray := prog_3_method_3_code
def yX1_readItem : MethodName := ⟨RX1, "readItem", "()V"⟩
abbrev cX1_readThing : ByteArray := prog_3_method_4_code
def yX1_readThing : MethodName := ⟨RX1, "readThing", "()V"⟩
abbrev cX1_readMan : ByteArray := prog_3_method_5_code
def yX1_readMan : MethodName := ⟨RX1, "readMan", "()V"⟩
abbrev cX1_readWant : ByteArray := prog_3_method_6_code
def yX1_readWant : MethodName := ⟨RX1, "readWant", "()V"⟩
abbrev cX1_readLong : ByteArray := prog_3_method_7_code
def yX1_readLong : MethodName := ⟨RX1, "readLong", "()V"⟩
abbrev cX1_readRiver : ByteArray := prog_3_method_8_code
def yX1_readRiver : MethodName := ⟨RX1, "readRiver", "()V"⟩
abbrev cX1_readWind : ByteArray := prog_3_method_9_code
def yX1_readWind : MethodName := ⟨RX1, "readWind", "()V"⟩
abbrev cX1_expectWord : ByteArray := prog_3_method_10_code
def yX1_expectWord : MethodName := ⟨RX1, "expectWord", "(Ljava/lang/String;Z)V"⟩
abbrev cX1_number : ByteArray := prog_3_method_11_code
def yX1_number : MethodName := ⟨RX1, "number", "()I"⟩
abbrev cX1_must : ByteArray := prog_3_method_12_code
def yX1_must : MethodName := ⟨RX1, "must", "(Z)V"⟩
abbrev cX1_expect : ByteArray := prog_3_method_13_code
def yX1_expect : MethodName := ⟨RX1, "expect", "(C)V"⟩
abbrev cX1_fail : ByteArray := prog_3_method_14_code
def yX1_fail : MethodName := ⟨RX1, "fail", "(I)V"⟩
abbrev cX1_letter : ByteArray := prog_3_method_15_code
def yX1_letter : MethodName := ⟨RX1, "letter", "(I)I"⟩
abbrev cX1_isDigit : ByteArray := prog_3_method_16_code
def yX1_isDigit : MethodName := ⟨RX1, "isDigit", "(I)Z"⟩
def RX2 : String := "NoFartherThanAThrow$Relay"
def TX2 : u_T := fun k => match k with
  | 0 => ("NoFartherThanAThrow$Relay", "valley", "LNoFartherThanAThrow$Valley;", true)
  | 1 => ("NoFartherThanAThrow$Relay", "fars", "[I", true)
  | _ => ("NoFartherThanAThrow$Relay", "ends", "[I", true)
def tyX2 : Nat → FieldType := fun k => match k with
  | 0 => .object "NoFartherThanAThrow$Valley"
  | 1 => .array .int
  | _ => .array .int
abbrev wsX20 : List Cond := u_ws RX2 TX2 3
theorem nmX2 : ∀ a, a < 3 → ∀ b, b < 3 → a ≠ b → (TX2 a).2.1 ≠ (TX2 b).2.1 := by decide +kernel
theorem tyX2_ok : ∀ k, k < 3 → parseFieldDescriptor (TX2 k).2.2.1 = some (tyX2 k) := by decide +kernel
abbrev cX2_init : ByteArray := prog_4_method_1_code
def yX2_init : MethodName := ⟨RX2, "<init>", "(LNoFartherThanAThrow$Valley;)V"⟩
abbrev cX2_endOf : ByteArray := prog_4_method_2_code
def yX2_endOf : MethodName := ⟨RX2, "endOf", "(III)I"⟩
abbrev cX2_endFound : ByteArray := prog_4_method_3_code
def yX2_endFound : MethodName := ⟨RX2, "endFound", "(I)I"⟩
abbrev cX2_leastSet : ByteArray := prog_4_method_4_code
def yX2_leastSet : MethodName := ⟨RX2, "leastSet", "(II)I"⟩
abbrev cX2_placed : ByteArray := prog_4_method_5_code
def yX2_placed : MethodName := ⟨RX2, "placed", "(IIII)I"⟩
abbrev cX2_firstThatDoes : ByteArray := prog_4_method_6_code
def yX2_firstThatDoes : MethodName := ⟨RX2, "firstThatDoes", "(III)I"⟩
abbrev cX2_fewestCarries : ByteArray := prog_4_method_7_code
def yX2_fewestCarries : MethodName := ⟨RX2, "fewestCarries", "(II)I"⟩
abbrev cX2_farthestBut : ByteArray := prog_4_method_8_code
def yX2_farthestBut : MethodName := ⟨RX2, "farthestBut", "(I)I"⟩
abbrev cX2_equalsNeeded : ByteArray := prog_4_method_9_code
def yX2_equalsNeeded : MethodName := ⟨RX2, "equalsNeeded", "(III)I"⟩
abbrev cX2_leastMissed : ByteArray := prog_4_method_10_code
def yX2_leastMissed : MethodName := ⟨RX2, "leastMissed", "(II)I"⟩
abbrev cX2_strengthNeeded : ByteArray := prog_4_method_11_code
def yX2_strengthNeeded : MethodName := ⟨RX2, "strengthNeeded", "(IIII)I"⟩
abbrev cX2_doesWith : ByteArray := prog_4_method_12_code
def yX2_doesWith : MethodName := ⟨RX2, "doesWith", "(IIIII)Z"⟩
abbrev cX2_measure : ByteArray := prog_4_method_13_code
def yX2_measure : MethodName := ⟨RX2, "measure", "(I)V"⟩
abbrev cX2_fill : ByteArray := prog_4_method_14_code
def yX2_fill : MethodName := ⟨RX2, "fill", "(III)I"⟩
abbrev cX2_farthestEnd : ByteArray := prog_4_method_15_code
def yX2_farthestEnd : MethodName := ⟨RX2, "farthestEnd", "(II)I"⟩
abbrev cX2_onward : ByteArray := prog_4_method_16_code
def yX2_onward : MethodName := ⟨RX2, "onward", "(III)I"⟩
def RX3 : String := "NoFartherThanAThrow$Sharing"
def TX3 : u_T := fun k => match k with
  | 0 => ("NoFartherThanAThrow$Sharing", "valley", "LNoFartherThanAThrow$Valley;", true)
  | 1 => ("NoFartherThanAThrow$Sharing", "relay", "LNoFartherThanAThrow$Relay;", true)
  | 2 => ("NoFartherThanAThrow$Sharing", "scores", "[I", true)
  | 3 => ("NoFartherThanAThrow$Sharing", "gains", "[I", true)
  | _ => ("NoFartherThanAThrow$Sharing", "score", "I", false)
def tyX3 : Nat → FieldType := fun k => match k with
  | 0 => .object "NoFartherThanAThrow$Valley"
  | 1 => .object "NoFartherThanAThrow$Relay"
  | 2 => .array .int
  | 3 => .array .int
  | _ => .int
abbrev wsX30 : List Cond := u_ws RX3 TX3 5
theorem nmX3 : ∀ a, a < 5 → ∀ b, b < 5 → a ≠ b → (TX3 a).2.1 ≠ (TX3 b).2.1 := by decide +kernel
theorem tyX3_ok : ∀ k, k < 5 → parseFieldDescriptor (TX3 k).2.2.1 = some (tyX3 k) := by decide +kernel
abbrev cX3_init : ByteArray := prog_5_method_1_code
def yX3_init : MethodName := ⟨RX3, "<init>", "(LNoFartherThanAThrow$Valley;LNoFartherThanAThrow$Relay;)V"⟩
abbrev cX3_share : ByteArray := prog_5_method_2_code
def yX3_share : MethodName := ⟨RX3, "share", "()V"⟩
abbrev cX3_worthMet : ByteArray := prog_5_method_3_code
def yX3_worthMet : MethodName := ⟨RX3, "worthMet", "()I"⟩
abbrev cX3_wantFor : ByteArray := prog_5_method_4_code
def yX3_wantFor : MethodName := ⟨RX3, "wantFor", "(I)I"⟩
abbrev cX3_findGains : ByteArray := prog_5_method_5_code
def yX3_findGains : MethodName := ⟨RX3, "findGains", "(II)Z"⟩
abbrev cX3_digitsOf : ByteArray := prog_5_method_6_code
def yX3_digitsOf : MethodName := ⟨RX3, "digitsOf", "(I)I"⟩
abbrev cX3_shareOut : ByteArray := prog_5_method_7_code
def yX3_shareOut : MethodName := ⟨RX3, "shareOut", "(I)V"⟩
def RX4 : String := "NoFartherThanAThrow$Shelves"
def TX4 : u_T := fun k => match k with
  | 0 => ("NoFartherThanAThrow$Shelves", "held", "[I", true)
  | 1 => ("NoFartherThanAThrow$Shelves", "sizes", "[I", true)
  | _ => ("NoFartherThanAThrow$Shelves", "rows", "[[J", true)
def tyX4 : Nat → FieldType := fun k => match k with
  | 0 => .array .int
  | 1 => .array .int
  | _ => .array (.array .long)
abbrev wsX40 : List Cond := u_ws RX4 TX4 3
theorem nmX4 : ∀ a, a < 3 → ∀ b, b < 3 → a ≠ b → (TX4 a).2.1 ≠ (TX4 b).2.1 := by decide +kernel
theorem tyX4_ok : ∀ k, k < 3 → parseFieldDescriptor (TX4 k).2.2.1 = some (tyX4 k) := by decide +kernel
abbrev cX4_init : ByteArray := prog_6_method_1_code
def yX4_init : MethodName := ⟨RX4, "<init>", "()V"⟩
abbrev cX4_has : ByteArray := prog_6_method_2_code
def yX4_has : MethodName := ⟨RX4, "has", "(I)Z"⟩
abbrev cX4_content : ByteArray := prog_6_method_3_code
def yX4_content : MethodName := ⟨RX4, "content", "(I)I"⟩
abbrev cX4_isRow : ByteArray := prog_6_method_4_code
def yX4_isRow : MethodName := ⟨RX4, "isRow", "(I)Z"⟩
abbrev cX4_isThing : ByteArray := prog_6_method_5_code
def yX4_isThing : MethodName := ⟨RX4, "isThing", "(I)Z"⟩
abbrev cX4_noRow : ByteArray := prog_6_method_6_code
def yX4_noRow : MethodName := ⟨RX4, "noRow", "(I)I"⟩
abbrev cX4_noTwoRows : ByteArray := prog_6_method_7_code
def yX4_noTwoRows : MethodName := ⟨RX4, "noTwoRows", "(II)I"⟩
abbrev cX4_sizeOf : ByteArray := prog_6_method_8_code
def yX4_sizeOf : MethodName := ⟨RX4, "sizeOf", "(I)I"⟩
abbrev cX4_spans : ByteArray := prog_6_method_9_code
def yX4_spans : MethodName := ⟨RX4, "spans", "(III)Z"⟩
abbrev cX4_makeRow : ByteArray := prog_6_method_10_code
def yX4_makeRow : MethodName := ⟨RX4, "makeRow", "(III)V"⟩
abbrev cX4_hold : ByteArray := prog_6_method_11_code
def yX4_hold : MethodName := ⟨RX4, "hold", "(II)V"⟩
abbrev cX4_put : ByteArray := prog_6_method_12_code
def yX4_put : MethodName := ⟨RX4, "put", "(IIJ)V"⟩
abbrev cX4_lowest : ByteArray := prog_6_method_13_code
def yX4_lowest : MethodName := ⟨RX4, "lowest", "(IJ)J"⟩
abbrev cX4_longAt : ByteArray := prog_6_method_14_code
def yX4_longAt : MethodName := ⟨RX4, "longAt", "(II)J"⟩
abbrev cX4_intAt : ByteArray := prog_6_method_15_code
def yX4_intAt : MethodName := ⟨RX4, "intAt", "(II)I"⟩
abbrev cX4_bring : ByteArray := prog_6_method_16_code
def yX4_bring : MethodName := ⟨RX4, "bring", "(IIIII)V"⟩
abbrev cX4_dropThingsFrom : ByteArray := prog_6_method_17_code
def yX4_dropThingsFrom : MethodName := ⟨RX4, "dropThingsFrom", "(I)V"⟩
def RX5 : String := "NoFartherThanAThrow$Table"
def TX5 : u_T := fun k => match k with
  | 0 => ("NoFartherThanAThrow$Table", "cells", "[I", true)
  | 1 => ("NoFartherThanAThrow$Table", "room", "I", true)
  | 2 => ("NoFartherThanAThrow$Table", "width", "I", true)
  | _ => ("NoFartherThanAThrow$Table", "size", "I", false)
def tyX5 : Nat → FieldType := fun k => match k with
  | 0 => .array .int
  | 1 => .int
  | 2 => .int
  | _ => .int
abbrev wsX50 : List Cond := u_ws RX5 TX5 4
theorem nmX5 : ∀ a, a < 4 → ∀ b, b < 4 → a ≠ b → (TX5 a).2.1 ≠ (TX5 b).2.1 := by decide +kernel
theorem tyX5_ok : ∀ k, k < 4 → parseFieldDescriptor (TX5 k).2.2.1 = some (tyX5 k) := by decide +kernel
abbrev cX5_init : ByteArray := prog_7_method_1_code
def yX5_init : MethodName := ⟨RX5, "<init>", "(II)V"⟩
abbrev cX5_has : ByteArray := prog_7_method_2_code
def yX5_has : MethodName := ⟨RX5, "has", "(I)Z"⟩
abbrev cX5_isFull : ByteArray := prog_7_method_3_code
def yX5_isFull : MethodName := ⟨RX5, "isFull", "()Z"⟩
abbrev cX5_hasCell : ByteArray := prog_7_method_4_code
def yX5_hasCell : MethodName := ⟨RX5, "hasCell", "(II)Z"⟩
abbrev cX5_cell : ByteArray := prog_7_method_5_code
def yX5_cell : MethodName := ⟨RX5, "cell", "(II)I"⟩
abbrev cX5_put : ByteArray := prog_7_method_6_code
def yX5_put : MethodName := ⟨RX5, "put", "(III)V"⟩
abbrev cX5_append : ByteArray := prog_7_method_7_code
def yX5_append : MethodName := ⟨RX5, "append", "()I"⟩
abbrev cX5_takeOver : ByteArray := prog_7_method_8_code
def yX5_takeOver : MethodName := ⟨RX5, "takeOver", "(LNoFartherThanAThrow$Table;)V"⟩
def RX6 : String := "NoFartherThanAThrow$Valley"
def TX6 : u_T := fun k => match k with
  | 0 => ("NoFartherThanAThrow$Valley", "things", "LNoFartherThanAThrow$Table;", true)
  | 1 => ("NoFartherThanAThrow$Valley", "people", "LNoFartherThanAThrow$Table;", true)
  | 2 => ("NoFartherThanAThrow$Valley", "wants", "LNoFartherThanAThrow$Table;", true)
  | 3 => ("NoFartherThanAThrow$Valley", "length", "I", false)
  | 4 => ("NoFartherThanAThrow$Valley", "from", "I", false)
  | 5 => ("NoFartherThanAThrow$Valley", "to", "I", false)
  | 6 => ("NoFartherThanAThrow$Valley", "wind", "I", false)
  | 7 => ("NoFartherThanAThrow$Valley", "seed", "I", false)
  | _ => ("NoFartherThanAThrow$Valley", "moves", "I", false)
def tyX6 : Nat → FieldType := fun k => match k with
  | 0 => .object "NoFartherThanAThrow$Table"
  | 1 => .object "NoFartherThanAThrow$Table"
  | 2 => .object "NoFartherThanAThrow$Table"
  | 3 => .int
  | 4 => .int
  | 5 => .int
  | 6 => .int
  | 7 => .int
  | _ => .int
abbrev wsX60 : List Cond := u_ws RX6 TX6 9
theorem nmX6 : ∀ a, a < 9 → ∀ b, b < 9 → a ≠ b → (TX6 a).2.1 ≠ (TX6 b).2.1 := by decide +kernel
theorem tyX6_ok : ∀ k, k < 9 → parseFieldDescriptor (TX6 k).2.2.1 = some (tyX6 k) := by decide +kernel
abbrev cX6_init : ByteArray := prog_8_method_1_code
def yX6_init : MethodName := ⟨RX6, "<init>", "()V"⟩
abbrev cX6_takeOver : ByteArray := prog_8_method_2_code
def yX6_takeOver : MethodName := ⟨RX6, "takeOver", "(LNoFartherThanAThrow$Valley;)V"⟩
abbrev cX6_addThing : ByteArray := prog_8_method_3_code
def yX6_addThing : MethodName := ⟨RX6, "addThing", "(IIII)I"⟩
abbrev cX6_addMan : ByteArray := prog_8_method_4_code
def yX6_addMan : MethodName := ⟨RX6, "addMan", "(I)I"⟩
abbrev cX6_addWant : ByteArray := prog_8_method_5_code
def yX6_addWant : MethodName := ⟨RX6, "addWant", "(III)I"⟩
abbrev cX6_hasBoth : ByteArray := prog_8_method_6_code
def yX6_hasBoth : MethodName := ⟨RX6, "hasBoth", "(II)Z"⟩
abbrev cX6_isSet : ByteArray := prog_8_method_7_code
def yX6_isSet : MethodName := ⟨RX6, "isSet", "(I)Z"⟩
abbrev cX6_everybody : ByteArray := prog_8_method_8_code
def yX6_everybody : MethodName := ⟨RX6, "everybody", "()I"⟩
abbrev cX6_stepOf : ByteArray := prog_8_method_9_code
def yX6_stepOf : MethodName := ⟨RX6, "stepOf", "(I)I"⟩
abbrev cX6_isThere : ByteArray := prog_8_method_10_code
def yX6_isThere : MethodName := ⟨RX6, "isThere", "(I)Z"⟩
abbrev cX6_inRiver : ByteArray := prog_8_method_11_code
def yX6_inRiver : MethodName := ⟨RX6, "inRiver", "(I)Z"⟩
abbrev cX6_mayStand : ByteArray := prog_8_method_12_code
def yX6_mayStand : MethodName := ⟨RX6, "mayStand", "(I)Z"⟩
abbrev cX6_isOnward : ByteArray := prog_8_method_13_code
def yX6_isOnward : MethodName := ⟨RX6, "isOnward", "(II)Z"⟩
abbrev cX6_mayBeLong : ByteArray := prog_8_method_14_code
def yX6_mayBeLong : MethodName := ⟨RX6, "mayBeLong", "(I)Z"⟩
abbrev cX6_mayBeRiver : ByteArray := prog_8_method_15_code
def yX6_mayBeRiver : MethodName := ⟨RX6, "mayBeRiver", "(II)Z"⟩
abbrev cX6_isTold : ByteArray := prog_8_method_16_code
def yX6_isTold : MethodName := ⟨RX6, "isTold", "(II)Z"⟩
abbrev cX6_strengthLeft : ByteArray := prog_8_method_17_code
def yX6_strengthLeft : MethodName := ⟨RX6, "strengthLeft", "(II)I"⟩
abbrev cX6_reachOf : ByteArray := prog_8_method_18_code
def yX6_reachOf : MethodName := ⟨RX6, "reachOf", "(II)I"⟩
abbrev cX6_reach : ByteArray := prog_8_method_19_code
def yX6_reach : MethodName := ⟨RX6, "reach", "(II)I"⟩
abbrev cX6_can : ByteArray := prog_8_method_20_code
def yX6_can : MethodName := ⟨RX6, "can", "(II)I"⟩
abbrev cX6_capped : ByteArray := prog_8_method_21_code
def yX6_capped : MethodName := ⟨RX6, "capped", "(I)I"⟩
abbrev cX6_byRoundedUp : ByteArray := prog_8_method_22_code
def yX6_byRoundedUp : MethodName := ⟨RX6, "byRoundedUp", "(II)I"⟩
abbrev cX6_word : ByteArray := prog_8_method_23_code
def yX6_word : MethodName := ⟨RX6, "word", "(II)I"⟩
abbrev cX6_whyNot : ByteArray := prog_8_method_24_code
def yX6_whyNot : MethodName := ⟨RX6, "whyNot", "(III)I"⟩
abbrev cX6_bring : ByteArray := prog_8_method_25_code
def yX6_bring : MethodName := ⟨RX6, "bring", "(III)V"⟩
abbrev cX6_moveOn : ByteArray := prog_8_method_26_code
def yX6_moveOn : MethodName := ⟨RX6, "moveOn", "(III)V"⟩
abbrev cX6_caughtTenths : ByteArray := prog_8_method_27_code
def yX6_caughtTenths : MethodName := ⟨RX6, "caughtTenths", "(III)I"⟩
abbrev cX6_mayBeThrown : ByteArray := prog_8_method_28_code
def yX6_mayBeThrown : MethodName := ⟨RX6, "mayBeThrown", "(III)Z"⟩
abbrev cX6_meanWorth : ByteArray := prog_8_method_29_code
def yX6_meanWorth : MethodName := ⟨RX6, "meanWorth", "(III)I"⟩
abbrev cX6_fling : ByteArray := prog_8_method_30_code
def yX6_fling : MethodName := ⟨RX6, "fling", "(III)Z"⟩
abbrev cX6_draw : ByteArray := prog_8_method_31_code
def yX6_draw : MethodName := ⟨RX6, "draw", "(I)I"⟩
abbrev cX6_cutUp : ByteArray := prog_8_method_32_code
def yX6_cutUp : MethodName := ⟨RX6, "cutUp", "(I)V"⟩
abbrev cX6_sleep : ByteArray := prog_8_method_33_code
def yX6_sleep : MethodName := ⟨RX6, "sleep", "()I"⟩
def RX7 : String := "NoFartherThanAThrow"
def TX7 : u_T := fun k => match k with
  | 0 => ("NoFartherThanAThrow", "refusals", "[I", true)
  | 1 => ("NoFartherThanAThrow", "now", "LNoFartherThanAThrow$Valley;", true)
  | 2 => ("NoFartherThanAThrow", "kept", "LNoFartherThanAThrow$Valley;", true)
  | 3 => ("NoFartherThanAThrow", "scratch", "LNoFartherThanAThrow$Valley;", true)
  | 4 => ("NoFartherThanAThrow", "shelves", "LNoFartherThanAThrow$Shelves;", true)
  | 5 => ("NoFartherThanAThrow", "reader", "LNoFartherThanAThrow$Reader;", true)
  | 6 => ("NoFartherThanAThrow", "relay", "LNoFartherThanAThrow$Relay;", true)
  | 7 => ("NoFartherThanAThrow", "sharing", "LNoFartherThanAThrow$Sharing;", true)
  | 8 => ("NoFartherThanAThrow", "acts", "LNoFartherThanAThrow$Acts;", true)
  | 9 => ("NoFartherThanAThrow", "hasImage", "Z", false)
  | _ => ("NoFartherThanAThrow", "latestFault", "I", false)
def tyX7 : Nat → FieldType := fun k => match k with
  | 0 => .array .int
  | 1 => .object "NoFartherThanAThrow$Valley"
  | 2 => .object "NoFartherThanAThrow$Valley"
  | 3 => .object "NoFartherThanAThrow$Valley"
  | 4 => .object "NoFartherThanAThrow$Shelves"
  | 5 => .object "NoFartherThanAThrow$Reader"
  | 6 => .object "NoFartherThanAThrow$Relay"
  | 7 => .object "NoFartherThanAThrow$Sharing"
  | 8 => .object "NoFartherThanAThrow$Acts"
  | 9 => .boolean
  | _ => .int
abbrev wsX70 : List Cond := u_ws RX7 TX7 11
theorem nmX7 : ∀ a, a < 11 → ∀ b, b < 11 → a ≠ b → (TX7 a).2.1 ≠ (TX7 b).2.1 := by decide +kernel
theorem tyX7_ok : ∀ k, k < 11 → parseFieldDescriptor (TX7 k).2.2.1 = some (tyX7 k) := by decide +kernel
abbrev cX7_init : ByteArray := prog_1_method_1_code
def yX7_init : MethodName := ⟨RX7, "<init>", "()V"⟩
abbrev cX7_row : ByteArray := prog_1_method_2_code
def yX7_row : MethodName := ⟨RX7, "row", "(III)I"⟩
abbrev cX7_set : ByteArray := prog_1_method_3_code
def yX7_set : MethodName := ⟨RX7, "set", "(IIJ)I"⟩
abbrev cX7_copy : ByteArray := prog_1_method_4_code
def yX7_copy : MethodName := ⟨RX7, "copy", "(IIIII)I"⟩
abbrev cX7_element : ByteArray := prog_1_method_5_code
def yX7_element : MethodName := ⟨RX7, "element", "(II)J"⟩
abbrev cX7_show : ByteArray := prog_1_method_6_code
def yX7_show : MethodName := ⟨RX7, "show", "(II)I"⟩
abbrev cX7_holds : ByteArray := prog_1_method_7_code
def yX7_holds : MethodName := ⟨RX7, "holds", "(I)I"⟩
abbrev cX7_says : ByteArray := prog_1_method_8_code
def yX7_says : MethodName := ⟨RX7, "says", "(II)I"⟩
abbrev cX7_thing : ByteArray := prog_1_method_9_code
def yX7_thing : MethodName := ⟨RX7, "thing", "(IIII)I"⟩
abbrev cX7_man : ByteArray := prog_1_method_10_code
def yX7_man : MethodName := ⟨RX7, "man", "(I)I"⟩
abbrev cX7_men : ByteArray := prog_1_method_11_code
def yX7_men : MethodName := ⟨RX7, "men", "(III)I"⟩
abbrev cX7_want : ByteArray := prog_1_method_12_code
def yX7_want : MethodName := ⟨RX7, "want", "(III)I"⟩
abbrev cX7_ask : ByteArray := prog_1_method_13_code
def yX7_ask : MethodName := ⟨RX7, "ask", "(II)I"⟩
abbrev cX7_river : ByteArray := prog_1_method_14_code
def yX7_river : MethodName := ⟨RX7, "river", "(II)I"⟩
abbrev cX7_thingOf : ByteArray := prog_1_method_15_code
def yX7_thingOf : MethodName := ⟨RX7, "thingOf", "(II)I"⟩
abbrev cX7_manOf : ByteArray := prog_1_method_16_code
def yX7_manOf : MethodName := ⟨RX7, "manOf", "(II)I"⟩
abbrev cX7_wantOf : ByteArray := prog_1_method_17_code
def yX7_wantOf : MethodName := ⟨RX7, "wantOf", "(II)I"⟩
abbrev cX7_valley : ByteArray := prog_1_method_18_code
def yX7_valley : MethodName := ⟨RX7, "valley", "(I)I"⟩
abbrev cX7_fault : ByteArray := prog_1_method_19_code
def yX7_fault : MethodName := ⟨RX7, "fault", "()I"⟩
abbrev cX7_far : ByteArray := prog_1_method_20_code
def yX7_far : MethodName := ⟨RX7, "far", "(II)I"⟩
abbrev cX7_wrong : ByteArray := prog_1_method_21_code
def yX7_wrong : MethodName := ⟨RX7, "wrong", "(III)I"⟩
abbrev cX7_carry : ByteArray := prog_1_method_22_code
def yX7_carry : MethodName := ⟨RX7, "carry", "(III)I"⟩
abbrev cX7_judge : ByteArray := prog_1_method_23_code
def yX7_judge : MethodName := ⟨RX7, "judge", "(III)I"⟩
abbrev cX7_firstThatCant : ByteArray := prog_1_method_24_code
def yX7_firstThatCant : MethodName := ⟨RX7, "firstThatCant", "(III)I"⟩
abbrev cX7_end : ByteArray := prog_1_method_25_code
def yX7_end : MethodName := ⟨RX7, "end", "(II)I"⟩
abbrev cX7_does : ByteArray := prog_1_method_26_code
def yX7_does : MethodName := ⟨RX7, "does", "(III)I"⟩
abbrev cX7_fewest : ByteArray := prog_1_method_27_code
def yX7_fewest : MethodName := ⟨RX7, "fewest", "(II)I"⟩
abbrev cX7_order : ByteArray := prog_1_method_28_code
def yX7_order : MethodName := ⟨RX7, "order", "(IIII)I"⟩
abbrev cX7_handovers : ByteArray := prog_1_method_29_code
def yX7_handovers : MethodName := ⟨RX7, "handovers", "(II)I"⟩
abbrev cX7_shared : ByteArray := prog_1_method_30_code
def yX7_shared : MethodName := ⟨RX7, "shared", "()I"⟩
abbrev cX7_given : ByteArray := prog_1_method_31_code
def yX7_given : MethodName := ⟨RX7, "given", "(I)I"⟩
abbrev cX7_mill : ByteArray := prog_1_method_32_code
def yX7_mill : MethodName := ⟨RX7, "mill", "(III)I"⟩
abbrev cX7_weakest : ByteArray := prog_1_method_33_code
def yX7_weakest : MethodName := ⟨RX7, "weakest", "(II)I"⟩
abbrev cX7_helps : ByteArray := prog_1_method_34_code
def yX7_helps : MethodName := ⟨RX7, "helps", "(IIII)I"⟩
abbrev cX7_caught : ByteArray := prog_1_method_35_code
def yX7_caught : MethodName := ⟨RX7, "caught", "(III)I"⟩
abbrev cX7_mean : ByteArray := prog_1_method_36_code
def yX7_mean : MethodName := ⟨RX7, "mean", "(III)I"⟩
abbrev cX7_cast : ByteArray := prog_1_method_37_code
def yX7_cast : MethodName := ⟨RX7, "cast", "(II)I"⟩
abbrev cX7_toss : ByteArray := prog_1_method_38_code
def yX7_toss : MethodName := ⟨RX7, "toss", "(III)I"⟩
abbrev cX7_part : ByteArray := prog_1_method_39_code
def yX7_part : MethodName := ⟨RX7, "part", "(I)I"⟩
abbrev cX7_night : ByteArray := prog_1_method_40_code
def yX7_night : MethodName := ⟨RX7, "night", "()I"⟩
abbrev cX7_seed : ByteArray := prog_1_method_41_code
def yX7_seed : MethodName := ⟨RX7, "seed", "(I)I"⟩
abbrev cX7_act : ByteArray := prog_1_method_42_code
def yX7_act : MethodName := ⟨RX7, "act", "(III)I"⟩
abbrev cX7_trace : ByteArray := prog_1_method_43_code
def yX7_trace : MethodName := ⟨RX7, "trace", "(I)I"⟩
abbrev cX7_image : ByteArray := prog_1_method_44_code
def yX7_image : MethodName := ⟨RX7, "image", "()I"⟩
abbrev cX7_restore : ByteArray := prog_1_method_45_code
def yX7_restore : MethodName := ⟨RX7, "restore", "()I"⟩
abbrev cX7_status : ByteArray := prog_1_method_46_code
def yX7_status : MethodName := ⟨RX7, "status", "(I)I"⟩
abbrev cX7_refuse : ByteArray := prog_1_method_47_code
def yX7_refuse : MethodName := ⟨RX7, "refuse", "(I)I"⟩
abbrev cX7_refuseApart : ByteArray := prog_1_method_48_code
def yX7_refuseApart : MethodName := ⟨RX7, "refuseApart", "(I)I"⟩
abbrev cX7_isKind : ByteArray := prog_1_method_49_code
def yX7_isKind : MethodName := ⟨RX7, "isKind", "(I)Z"⟩
abbrev cX7_isUnder : ByteArray := prog_1_method_50_code
def yX7_isUnder : MethodName := ⟨RX7, "isUnder", "(II)Z"⟩
abbrev cX7_isWeight : ByteArray := prog_1_method_51_code
def yX7_isWeight : MethodName := ⟨RX7, "isWeight", "(I)Z"⟩
abbrev cX7_isExtra : ByteArray := prog_1_method_52_code
def yX7_isExtra : MethodName := ⟨RX7, "isExtra", "(I)Z"⟩
abbrev cX7_isStrength : ByteArray := prog_1_method_53_code
def yX7_isStrength : MethodName := ⟨RX7, "isStrength", "(I)Z"⟩
abbrev cX7_isWorth : ByteArray := prog_1_method_54_code
def yX7_isWorth : MethodName := ⟨RX7, "isWorth", "(I)Z"⟩
abbrev cX7_isWind : ByteArray := prog_1_method_55_code
def yX7_isWind : MethodName := ⟨RX7, "isWind", "(I)Z"⟩
abbrev cX7_isThrow : ByteArray := prog_1_method_56_code
def yX7_isThrow : MethodName := ⟨RX7, "isThrow", "(I)Z"⟩
def RX8 : String := "NoFartherThanAThrowModel"
def TX8 : u_T := fun k => match k with
  | 0 => ("NoFartherThanAThrowModel", "things", "I", false)
  | 1 => ("NoFartherThanAThrowModel", "people", "I", false)
  | 2 => ("NoFartherThanAThrowModel", "wants", "I", false)
  | 3 => ("NoFartherThanAThrowModel", "along", "I", false)
  | 4 => ("NoFartherThanAThrowModel", "riverFrom", "I", false)
  | 5 => ("NoFartherThanAThrowModel", "riverTo", "I", false)
  | 6 => ("NoFartherThanAThrowModel", "wind", "I", false)
  | 7 => ("NoFartherThanAThrowModel", "seed", "I", false)
  | 8 => ("NoFartherThanAThrowModel", "done", "I", false)
  | 9 => ("NoFartherThanAThrowModel", "fault", "I", false)
  | 10 => ("NoFartherThanAThrowModel", "refused", "[I", true)
  | 11 => ("NoFartherThanAThrowModel", "kind", "[I", true)
  | 12 => ("NoFartherThanAThrowModel", "weight", "[I", true)
  | 13 => ("NoFartherThanAThrowModel", "extra", "[I", true)
  | 14 => ("NoFartherThanAThrowModel", "step", "[I", true)
  | 15 => ("NoFartherThanAThrowModel", "had", "[I", true)
  | 16 => ("NoFartherThanAThrowModel", "broken", "[I", true)
  | 17 => ("NoFartherThanAThrowModel", "strength", "[I", true)
  | 18 => ("NoFartherThanAThrowModel", "tired", "[I", true)
  | 19 => ("NoFartherThanAThrowModel", "wThing", "[I", true)
  | 20 => ("NoFartherThanAThrowModel", "wStep", "[I", true)
  | 21 => ("NoFartherThanAThrowModel", "wWorth", "[I", true)
  | 22 => ("NoFartherThanAThrowModel", "held", "[I", true)
  | 23 => ("NoFartherThanAThrowModel", "sort", "[I", true)
  | 24 => ("NoFartherThanAThrowModel", "size", "[I", true)
  | 25 => ("NoFartherThanAThrowModel", "shown", "[I", true)
  | 26 => ("NoFartherThanAThrowModel", "cells", "[J", true)
  | 27 => ("NoFartherThanAThrowModel", "carried", "[J", true)
  | 28 => ("NoFartherThanAThrowModel", "words", "[I", true)
  | 29 => ("NoFartherThanAThrowModel", "tell", "[I", true)
  | 30 => ("NoFartherThanAThrowModel", "base", "I", false)
  | 31 => ("NoFartherThanAThrowModel", "at", "I", false)
  | 32 => ("NoFartherThanAThrowModel", "end", "I", false)
  | 33 => ("NoFartherThanAThrowModel", "told", "I", false)
  | 34 => ("NoFartherThanAThrowModel", "wrongAt", "I", false)
  | 35 => ("NoFartherThanAThrowModel", "was", "[I", true)
  | 36 => ("NoFartherThanAThrowModel", "kept", "[I", true)
  | 37 => ("NoFartherThanAThrowModel", "aside", "[I", true)
  | 38 => ("NoFartherThanAThrowModel", "ends", "[I", true)
  | 39 => ("NoFartherThanAThrowModel", "fars", "[I", true)
  | 40 => ("NoFartherThanAThrowModel", "now", "[I", true)
  | 41 => ("NoFartherThanAThrowModel", "then", "[I", true)
  | 42 => ("NoFartherThanAThrowModel", "brings", "[I", true)
  | 43 => ("NoFartherThanAThrowModel", "sets", "[I", true)
  | 44 => ("NoFartherThanAThrowModel", "gives", "[I", true)
  | 45 => ("NoFartherThanAThrowModel", "best", "[I", true)
  | 46 => ("NoFartherThanAThrowModel", "bestWorth", "I", false)
  | 47 => ("NoFartherThanAThrowModel", "trace", "[I", true)
  | 48 => ("NoFartherThanAThrowModel", "ran", "I", false)
  | _ => ("NoFartherThanAThrowModel", "isKept", "Z", false)
def tyX8 : Nat → FieldType := fun k => match k with
  | 0 => .int
  | 1 => .int
  | 2 => .int
  | 3 => .int
  | 4 => .int
  | 5 => .int
  | 6 => .int
  | 7 => .int
  | 8 => .int
  | 9 => .int
  | 10 => .array .int
  | 11 => .array .int
  | 12 => .array .int
  | 13 => .array .int
  | 14 => .array .int
  | 15 => .array .int
  | 16 => .array .int
  | 17 => .array .int
  | 18 => .array .int
  | 19 => .array .int
  | 20 => .array .int
  | 21 => .array .int
  | 22 => .array .int
  | 23 => .array .int
  | 24 => .array .int
  | 25 => .array .int
  | 26 => .array .long
  | 27 => .array .long
  | 28 => .array .int
  | 29 => .array .int
  | 30 => .int
  | 31 => .int
  | 32 => .int
  | 33 => .int
  | 34 => .int
  | 35 => .array .int
  | 36 => .array .int
  | 37 => .array .int
  | 38 => .array .int
  | 39 => .array .int
  | 40 => .array .int
  | 41 => .array .int
  | 42 => .array .int
  | 43 => .array .int
  | 44 => .array .int
  | 45 => .array .int
  | 46 => .int
  | 47 => .array .int
  | 48 => .int
  | _ => .boolean
abbrev wsX80 : List Cond := u_ws RX8 TX8 50
theorem nmX8 : ∀ a, a < 50 → ∀ b, b < 50 → a ≠ b → (TX8 a).2.1 ≠ (TX8 b).2.1 := by decide +kernel
theorem tyX8_ok : ∀ k, k < 50 → parseFieldDescriptor (TX8 k).2.2.1 = some (tyX8 k) := by decide +kernel
abbrev cX8_init : ByteArray := prog_10_method_1_code
def yX8_init : MethodName := ⟨RX8, "<init>", "()V"⟩
abbrev cX8_no : ByteArray := prog_10_method_2_code
def yX8_no : MethodName := ⟨RX8, "no", "(I)I"⟩
abbrev cX8_noTen : ByteArray := prog_10_method_3_code
def yX8_noTen : MethodName := ⟨RX8, "noTen", "(I)I"⟩
abbrev cX8_isShelf : ByteArray := prog_10_method_4_code
def yX8_isShelf : MethodName := ⟨RX8, "isShelf", "(I)Z"⟩
abbrev cX8_isThing : ByteArray := prog_10_method_5_code
def yX8_isThing : MethodName := ⟨RX8, "isThing", "(I)Z"⟩
abbrev cX8_isMan : ByteArray := prog_10_method_6_code
def yX8_isMan : MethodName := ⟨RX8, "isMan", "(I)Z"⟩
abbrev cX8_isSet : ByteArray := prog_10_method_7_code
def yX8_isSet : MethodName := ⟨RX8, "isSet", "(I)Z"⟩
abbrev cX8_isWet : ByteArray := prog_10_method_8_code
def yX8_isWet : MethodName := ⟨RX8, "isWet", "(I)Z"⟩
abbrev cX8_isStep : ByteArray := prog_10_method_9_code
def yX8_isStep : MethodName := ⟨RX8, "isStep", "(I)Z"⟩
abbrev cX8_row : ByteArray := prog_10_method_10_code
def yX8_row : MethodName := ⟨RX8, "row", "(III)I"⟩
abbrev cX8_set : ByteArray := prog_10_method_11_code
def yX8_set : MethodName := ⟨RX8, "set", "(IIJ)I"⟩
abbrev cX8_copy : ByteArray := prog_10_method_12_code
def yX8_copy : MethodName := ⟨RX8, "copy", "(IIIII)I"⟩
abbrev cX8_element : ByteArray := prog_10_method_13_code
def yX8_element : MethodName := ⟨RX8, "element", "(II)J"⟩
abbrev cX8_show : ByteArray := prog_10_method_14_code
def yX8_show : MethodName := ⟨RX8, "show", "(II)I"⟩
abbrev cX8_holds : ByteArray := prog_10_method_15_code
def yX8_holds : MethodName := ⟨RX8, "holds", "(I)I"⟩
abbrev cX8_says : ByteArray := prog_10_method_16_code
def yX8_says : MethodName := ⟨RX8, "says", "(II)I"⟩
abbrev cX8_wants : ByteArray := prog_10_method_17_code
def yX8_wants : MethodName := ⟨RX8, "wants", "(I)I"⟩
abbrev cX8_intAt : ByteArray := prog_10_method_18_code
def yX8_intAt : MethodName := ⟨RX8, "intAt", "(II)I"⟩
abbrev cX8_things : ByteArray := prog_10_method_19_code
def yX8_things : MethodName := ⟨RX8, "things", "(IIII)I"⟩
abbrev cX8_thing : ByteArray := prog_10_method_20_code
def yX8_thing : MethodName := ⟨RX8, "thing", "(IIII)I"⟩
abbrev cX8_men : ByteArray := prog_10_method_21_code
def yX8_men : MethodName := ⟨RX8, "men", "(I)I"⟩
abbrev cX8_man : ByteArray := prog_10_method_22_code
def yX8_man : MethodName := ⟨RX8, "man", "(I)I"⟩
abbrev cX8_men_ : ByteArray := prog_10_method_23_code
def yX8_men_ : MethodName := ⟨RX8, "men", "(III)I"⟩
abbrev cX8_wanted : ByteArray := prog_10_method_24_code
def yX8_wanted : MethodName := ⟨RX8, "wanted", "(III)I"⟩
abbrev cX8_want : ByteArray := prog_10_method_25_code
def yX8_want : MethodName := ⟨RX8, "want", "(III)I"⟩
abbrev cX8_isLong : ByteArray := prog_10_method_26_code
def yX8_isLong : MethodName := ⟨RX8, "isLong", "(I)Z"⟩
abbrev cX8_isRiver : ByteArray := prog_10_method_27_code
def yX8_isRiver : MethodName := ⟨RX8, "isRiver", "(II)Z"⟩
abbrev cX8_ask : ByteArray := prog_10_method_28_code
def yX8_ask : MethodName := ⟨RX8, "ask", "(II)I"⟩
abbrev cX8_river : ByteArray := prog_10_method_29_code
def yX8_river : MethodName := ⟨RX8, "river", "(II)I"⟩
abbrev cX8_thingOf : ByteArray := prog_10_method_30_code
def yX8_thingOf : MethodName := ⟨RX8, "thingOf", "(II)I"⟩
abbrev cX8_manOf : ByteArray := prog_10_method_31_code
def yX8_manOf : MethodName := ⟨RX8, "manOf", "(II)I"⟩
abbrev cX8_wantOf : ByteArray := prog_10_method_32_code
def yX8_wantOf : MethodName := ⟨RX8, "wantOf", "(II)I"⟩
abbrev cX8_wrong : ByteArray := prog_10_method_33_code
def yX8_wrong : MethodName := ⟨RX8, "wrong", "(I)Z"⟩
abbrev cX8_word : ByteArray := prog_10_method_34_code
def yX8_word : MethodName := ⟨RX8, "word", "()I"⟩
abbrev cX8_isDigit : ByteArray := prog_10_method_35_code
def yX8_isDigit : MethodName := ⟨RX8, "isDigit", "()Z"⟩
abbrev cX8_number : ByteArray := prog_10_method_36_code
def yX8_number : MethodName := ⟨RX8, "number", "(II)Z"⟩
abbrev cX8_isFit : ByteArray := prog_10_method_37_code
def yX8_isFit : MethodName := ⟨RX8, "isFit", "(II)Z"⟩
abbrev cX8_isFull : ByteArray := prog_10_method_38_code
def yX8_isFull : MethodName := ⟨RX8, "isFull", "(I)Z"⟩
abbrev cX8_isWordAt : ByteArray := prog_10_method_39_code
def yX8_isWordAt : MethodName := ⟨RX8, "isWordAt", "(I)Z"⟩
abbrev cX8_item : ByteArray := prog_10_method_40_code
def yX8_item : MethodName := ⟨RX8, "item", "()Z"⟩
abbrev cX8_keeps : ByteArray := prog_10_method_41_code
def yX8_keeps : MethodName := ⟨RX8, "keeps", "([II[IIZ)I"⟩
abbrev cX8_all : ByteArray := prog_10_method_42_code
def yX8_all : MethodName := ⟨RX8, "all", "([IZ)V"⟩
abbrev cX8_valley : ByteArray := prog_10_method_43_code
def yX8_valley : MethodName := ⟨RX8, "valley", "(I)I"⟩
abbrev cX8_fault : ByteArray := prog_10_method_44_code
def yX8_fault : MethodName := ⟨RX8, "fault", "()I"⟩
abbrev cX8_low : ByteArray := prog_10_method_45_code
def yX8_low : MethodName := ⟨RX8, "low", "(II)I"⟩
abbrev cX8_farBy : ByteArray := prog_10_method_46_code
def yX8_farBy : MethodName := ⟨RX8, "farBy", "(II)I"⟩
abbrev cX8_farOf : ByteArray := prog_10_method_47_code
def yX8_farOf : MethodName := ⟨RX8, "farOf", "(II)I"⟩
abbrev cX8_far : ByteArray := prog_10_method_48_code
def yX8_far : MethodName := ⟨RX8, "far", "(II)I"⟩
abbrev cX8_wrongBy : ByteArray := prog_10_method_49_code
def yX8_wrongBy : MethodName := ⟨RX8, "wrongBy", "(III)I"⟩
abbrev cX8_wrong_ : ByteArray := prog_10_method_50_code
def yX8_wrong_ : MethodName := ⟨RX8, "wrong", "(III)I"⟩
abbrev cX8_near : ByteArray := prog_10_method_51_code
def yX8_near : MethodName := ⟨RX8, "near", "(I)I"⟩
abbrev cX8_tires : ByteArray := prog_10_method_52_code
def yX8_tires : MethodName := ⟨RX8, "tires", "(II)V"⟩
abbrev cX8_carries : ByteArray := prog_10_method_53_code
def yX8_carries : MethodName := ⟨RX8, "carries", "(III)V"⟩
abbrev cX8_carry : ByteArray := prog_10_method_54_code
def yX8_carry : MethodName := ⟨RX8, "carry", "(III)I"⟩
abbrev cX8_judge : ByteArray := prog_10_method_55_code
def yX8_judge : MethodName := ⟨RX8, "judge", "(III)I"⟩
abbrev cX8_goes : ByteArray := prog_10_method_56_code
def yX8_goes : MethodName := ⟨RX8, "goes", "(III)I"⟩
abbrev cX8_rows : ByteArray := prog_10_method_57_code
def yX8_rows : MethodName := ⟨RX8, "rows", "(III)V"⟩
abbrev cX8_rowsFor : ByteArray := prog_10_method_58_code
def yX8_rowsFor : MethodName := ⟨RX8, "rowsFor", "(II)V"⟩
abbrev cX8_end : ByteArray := prog_10_method_59_code
def yX8_end : MethodName := ⟨RX8, "end", "(II)I"⟩
abbrev cX8_isOnward : ByteArray := prog_10_method_60_code
def yX8_isOnward : MethodName := ⟨RX8, "isOnward", "(II)Z"⟩
abbrev cX8_does : ByteArray := prog_10_method_61_code
def yX8_does : MethodName := ⟨RX8, "does", "(III)I"⟩
abbrev cX8_count : ByteArray := prog_10_method_62_code
def yX8_count : MethodName := ⟨RX8, "count", "(I)I"⟩
abbrev cX8_fewest : ByteArray := prog_10_method_63_code
def yX8_fewest : MethodName := ⟨RX8, "fewest", "(II)I"⟩
abbrev cX8_order : ByteArray := prog_10_method_64_code
def yX8_order : MethodName := ⟨RX8, "order", "(IIII)I"⟩
abbrev cX8_handovers : ByteArray := prog_10_method_65_code
def yX8_handovers : MethodName := ⟨RX8, "handovers", "(II)I"⟩
abbrev cX8_worthOf : ByteArray := prog_10_method_66_code
def yX8_worthOf : MethodName := ⟨RX8, "worthOf", "()I"⟩
abbrev cX8_shares : ByteArray := prog_10_method_67_code
def yX8_shares : MethodName := ⟨RX8, "shares", "(I)V"⟩
abbrev cX8_shareAll : ByteArray := prog_10_method_68_code
def yX8_shareAll : MethodName := ⟨RX8, "shareAll", "()V"⟩
abbrev cX8_shared : ByteArray := prog_10_method_69_code
def yX8_shared : MethodName := ⟨RX8, "shared", "()I"⟩
abbrev cX8_given : ByteArray := prog_10_method_70_code
def yX8_given : MethodName := ⟨RX8, "given", "(I)I"⟩
abbrev cX8_mill : ByteArray := prog_10_method_71_code
def yX8_mill : MethodName := ⟨RX8, "mill", "(III)I"⟩
abbrev cX8_weakest : ByteArray := prog_10_method_72_code
def yX8_weakest : MethodName := ⟨RX8, "weakest", "(II)I"⟩
abbrev cX8_helps : ByteArray := prog_10_method_73_code
def yX8_helps : MethodName := ⟨RX8, "helps", "(IIII)I"⟩
abbrev cX8_caughtBy : ByteArray := prog_10_method_74_code
def yX8_caughtBy : MethodName := ⟨RX8, "caughtBy", "(III)I"⟩
abbrev cX8_isThrow : ByteArray := prog_10_method_75_code
def yX8_isThrow : MethodName := ⟨RX8, "isThrow", "(III)Z"⟩
abbrev cX8_isFar : ByteArray := prog_10_method_76_code
def yX8_isFar : MethodName := ⟨RX8, "isFar", "(I)Z"⟩
abbrev cX8_caught : ByteArray := prog_10_method_77_code
def yX8_caught : MethodName := ⟨RX8, "caught", "(III)I"⟩
abbrev cX8_meanOf : ByteArray := prog_10_method_78_code
def yX8_meanOf : MethodName := ⟨RX8, "meanOf", "(III)I"⟩
abbrev cX8_mean : ByteArray := prog_10_method_79_code
def yX8_mean : MethodName := ⟨RX8, "mean", "(III)I"⟩
abbrev cX8_cast : ByteArray := prog_10_method_80_code
def yX8_cast : MethodName := ⟨RX8, "cast", "(II)I"⟩
abbrev cX8_draw : ByteArray := prog_10_method_81_code
def yX8_draw : MethodName := ⟨RX8, "draw", "(I)I"⟩
abbrev cX8_toss : ByteArray := prog_10_method_82_code
def yX8_toss : MethodName := ⟨RX8, "toss", "(III)I"⟩
abbrev cX8_part : ByteArray := prog_10_method_83_code
def yX8_part : MethodName := ⟨RX8, "part", "(I)I"⟩
abbrev cX8_night : ByteArray := prog_10_method_84_code
def yX8_night : MethodName := ⟨RX8, "night", "()I"⟩
abbrev cX8_seed : ByteArray := prog_10_method_85_code
def yX8_seed : MethodName := ⟨RX8, "seed", "(I)I"⟩
abbrev cX8_body : ByteArray := prog_10_method_86_code
def yX8_body : MethodName := ⟨RX8, "body", "(I)V"⟩
abbrev cX8_going : ByteArray := prog_10_method_87_code
def yX8_going : MethodName := ⟨RX8, "going", "(II)I"⟩
abbrev cX8_resting : ByteArray := prog_10_method_88_code
def yX8_resting : MethodName := ⟨RX8, "resting", "(II)I"⟩
abbrev cX8_falling : ByteArray := prog_10_method_89_code
def yX8_falling : MethodName := ⟨RX8, "falling", "(II)I"⟩
abbrev cX8_act : ByteArray := prog_10_method_90_code
def yX8_act : MethodName := ⟨RX8, "act", "(III)I"⟩
abbrev cX8_trace : ByteArray := prog_10_method_91_code
def yX8_trace : MethodName := ⟨RX8, "trace", "(I)I"⟩
abbrev cX8_image : ByteArray := prog_10_method_92_code
def yX8_image : MethodName := ⟨RX8, "image", "()I"⟩
abbrev cX8_restore : ByteArray := prog_10_method_93_code
def yX8_restore : MethodName := ⟨RX8, "restore", "()I"⟩
abbrev cX8_status : ByteArray := prog_10_method_94_code
def yX8_status : MethodName := ⟨RX8, "status", "(I)I"⟩
def RJ6 : String := "java/lang/Integer"
def TJ6 : u_T := fun k => match k with
  | _ => ("", "", "", false)
def tyJ6 : Nat → FieldType := fun k => match k with
  | _ => .int
abbrev wsJ60 : List Cond := u_ws RJ6 TJ6 0
theorem nmJ6 : ∀ a, a < 0 → ∀ b, b < 0 → a ≠ b → (TJ6 a).2.1 ≠ (TJ6 b).2.1 := by decide +kernel
theorem tyJ6_ok : ∀ k, k < 0 → parseFieldDescriptor (TJ6 k).2.2.1 = some (tyJ6 k) := by decide +kernel
abbrev cJ6_bitCount_0f7a4 : ByteArray := prog_11_method_49_code
def yJ6_bitCount_0f7a4 : MethodName := ⟨RJ6, "bitCount", "(I)I"⟩
def RJ9 : String := "java/lang/Math"
def TJ9 : u_T := fun k => match k with
  | _ => ("", "", "", false)
def tyJ9 : Nat → FieldType := fun k => match k with
  | _ => .int
abbrev wsJ90 : List Cond := u_ws RJ9 TJ9 0
theorem nmJ9 : ∀ a, a < 0 → ∀ b, b < 0 → a ≠ b → (TJ9 a).2.1 ≠ (TJ9 b).2.1 := by decide +kernel
theorem tyJ9_ok : ∀ k, k < 0 → parseFieldDescriptor (TJ9 k).2.2.1 = some (tyJ9 k) := by decide +kernel
abbrev cJ9_abs_0f7a4 : ByteArray := prog_12_method_59_code
def yJ9_abs_0f7a4 : MethodName := ⟨RJ9, "abs", "(I)I"⟩
abbrev cJ9_max_7cf53 : ByteArray := prog_12_method_65_code
def yJ9_max_7cf53 : MethodName := ⟨RJ9, "max", "(II)I"⟩
abbrev cJ9_min_7cf53 : ByteArray := prog_12_method_69_code
def yJ9_min_7cf53 : MethodName := ⟨RJ9, "min", "(II)I"⟩
def RJ0 : String := "java/lang/String"
def TJ0 : u_T := fun k => match k with
  | _ => ("", "", "", false)
def tyJ0 : Nat → FieldType := fun k => match k with
  | _ => .int
abbrev wsJ00 : List Cond := u_ws RJ0 TJ0 0
theorem nmJ0 : ∀ a, a < 0 → ∀ b, b < 0 → a ≠ b → (TJ0 a).2.1 ≠ (TJ0 b).2.1 := by decide +kernel
theorem tyJ0_ok : ∀ k, k < 0 → parseFieldDescriptor (TJ0 k).2.2.1 = some (tyJ0 k) := by decide +kernel
abbrev cJ0_length_8abf5 : ByteArray := prog_13_method_54_code
def yJ0_length_8abf5 : MethodName := ⟨RJ0, "length", "()I"⟩
abbrev cJ0_charAt_5068e : ByteArray := prog_13_method_56_code
def yJ0_charAt_5068e : MethodName := ⟨RJ0, "charAt", "(I)C"⟩
abbrev cJ0_coder_7d493 : ByteArray := prog_13_method_152_code
def yJ0_coder_7d493 : MethodName := ⟨RJ0, "coder", "()B"⟩
abbrev cJ0_isLatin1_aae02 : ByteArray := prog_13_method_154_code
def yJ0_isLatin1_aae02 : MethodName := ⟨RJ0, "isLatin1", "()Z"⟩
abbrev cJ0_checkIndex_df160 : ByteArray := prog_13_method_155_code
def yJ0_checkIndex_df160 : MethodName := ⟨RJ0, "checkIndex", "(II)V"⟩
def RJ1 : String := "java/lang/StringLatin1"
def TJ1 : u_T := fun k => match k with
  | _ => ("", "", "", false)
def tyJ1 : Nat → FieldType := fun k => match k with
  | _ => .int
abbrev wsJ10 : List Cond := u_ws RJ1 TJ1 0
theorem nmJ1 : ∀ a, a < 0 → ∀ b, b < 0 → a ≠ b → (TJ1 a).2.1 ≠ (TJ1 b).2.1 := by decide +kernel
theorem tyJ1_ok : ∀ k, k < 0 → parseFieldDescriptor (TJ1 k).2.2.1 = some (tyJ1 k) := by decide +kernel
abbrev cJ1_charAt_3b067 : ByteArray := prog_14_method_2_code
def yJ1_charAt_3b067 : MethodName := ⟨RJ1, "charAt", "([BI)C"⟩
def RJ2 : String := "java/lang/StringUTF16"
def TJ2 : u_T := fun k => match k with
  | _ => ("", "", "", false)
def tyJ2 : Nat → FieldType := fun k => match k with
  | _ => .int
abbrev wsJ20 : List Cond := u_ws RJ2 TJ2 0
theorem nmJ2 : ∀ a, a < 0 → ∀ b, b < 0 → a ≠ b → (TJ2 a).2.1 ≠ (TJ2 b).2.1 := by decide +kernel
theorem tyJ2_ok : ∀ k, k < 0 → parseFieldDescriptor (TJ2 k).2.2.1 = some (tyJ2 k) := by decide +kernel
abbrev cJ2_getChar_3b067 : ByteArray := prog_15_method_5_code
def yJ2_getChar_3b067 : MethodName := ⟨RJ2, "getChar", "([BI)C"⟩
abbrev cJ2_length_9d52b : ByteArray := prog_15_method_6_code
def yJ2_length_9d52b : MethodName := ⟨RJ2, "length", "([B)I"⟩
abbrev cJ2_charAt_3b067 : ByteArray := prog_15_method_83_code
def yJ2_charAt_3b067 : MethodName := ⟨RJ2, "charAt", "([BI)C"⟩
abbrev cJ2_checkIndex_2214a : ByteArray := prog_15_method_91_code
def yJ2_checkIndex_2214a : MethodName := ⟨RJ2, "checkIndex", "(I[B)V"⟩
def RJ10 : String := "java/lang/System"
def TJ10 : u_T := fun k => match k with
  | _ => ("", "", "", false)
def tyJ10 : Nat → FieldType := fun k => match k with
  | _ => .int
abbrev wsJ100 : List Cond := u_ws RJ10 TJ10 0
theorem nmJ10 : ∀ a, a < 0 → ∀ b, b < 0 → a ≠ b → (TJ10 a).2.1 ≠ (TJ10 b).2.1 := by decide +kernel
theorem tyJ10_ok : ∀ k, k < 0 → parseFieldDescriptor (TJ10 k).2.2.1 = some (tyJ10 k) := by decide +kernel
def RJ3 : String := "jdk/internal/util/Preconditions"
def TJ3 : u_T := fun k => match k with
  | _ => ("", "", "", false)
def tyJ3 : Nat → FieldType := fun k => match k with
  | _ => .int
abbrev wsJ30 : List Cond := u_ws RJ3 TJ3 0
theorem nmJ3 : ∀ a, a < 0 → ∀ b, b < 0 → a ≠ b → (TJ3 a).2.1 ≠ (TJ3 b).2.1 := by decide +kernel
theorem tyJ3_ok : ∀ k, k < 0 → parseFieldDescriptor (TJ3 k).2.2.1 = some (tyJ3 k) := by decide +kernel
abbrev cJ3_checkIndex_8e157 : ByteArray := prog_17_method_11_code
def yJ3_checkIndex_8e157 : MethodName := ⟨RJ3, "checkIndex", "(IILjava/util/function/BiFunction;)I"⟩
def RL : String := "NoFartherThanAThrowLaw"
abbrev cL_law : ByteArray := code
def yL_law : MethodName := ⟨RL, "law", "([I)Z"⟩
abbrev vwCl : List vw_C := [(RX0, TX0, 5), (RX1, TX1, 8), (RX2, TX2, 3), (RX3, TX3, 5), (RX4, TX4, 3), (RX5, TX5, 4), (RX6, TX6, 9), (RX7, TX7, 11), (RX8, TX8, 50)]

/-! MAKING: eight rows of 160 longs by one instruction -/
def mnO (c : ClassId) (h i : Nat) : Cell := arrV c 8 (fun j => va_rf (if j < i then some (h + 1 + j) else none))
def mnI (d : ClassId) : Cell := arrV d 160 (fun _ => .long 0)
def mnF (s : State) (c d : ClassId) : Nat → State
  | 0 => s.pushCell (mnO c s.heap.size 0)
  | i + 1 => ((mnF s c d i).pushCell (mnI d)).setCell s.heap.size (mnO c s.heap.size (i + 1))
theorem mnO_st {c : ClassId} {h i : Nat} : (mnO c h i).setSlot i (.ref (h + 1 + i)) = mnO c h (i + 1) := by
  unfold mnO
  rw [arrV_store]
  refine congrArg (arrV c 8) (funext fun j => ?_)
  by_cases e : j = i
  · subst e
    simp [updV, va_rf]
  · by_cases h2 : j < i
    · simp [updV, e, h2, Nat.lt_succ_of_lt h2]
    · simp [updV, e, h2, show ¬ j < i + 1 by omega]
theorem mnO_sz {c : ClassId} {h i : Nat} : (mnO c h i).slots.size = 8 := arrV_size _ _ _
theorem mnI_sz {d : ClassId} : (mnI d).slots.size = 160 := arrV_size _ _ _
theorem mnF_facts (s : State) (c d : ClassId) : ∀ i, (mnF s c d i).heap.size = s.heap.size + 1 + i ∧ (mnF s c d i).heap[s.heap.size]? = some (mnO c s.heap.size i) ∧ (mnF s c d i).vm = s.vm ∧ (mnF s c d i).slotsUsed = s.slotsUsed + 8 + i * 160
  | 0 => ⟨by simp [mnF], by simp [mnF], rfl, by simp [mnF, mnO_sz]⟩
  | i + 1 => by
    obtain ⟨h1, h2, h3, h4⟩ := mnF_facts s c d i
    have hlt : s.heap.size < (mnF s c d i).heap.size := by omega
    have hb : ((mnF s c d i).pushCell (mnI d)).heap[s.heap.size]? = some (mnO c s.heap.size i) := by rw [State.heap_pushCell_of_lt (h := hlt)]; exact h2
    refine ⟨?_, State.heap_setCell_self hb, by simp [mnF, h3], ?_⟩
    · simp [mnF, State.setCell, h1]; omega
    · simp [mnF, h4, mnI_sz, Nat.succ_mul]; omega
theorem mnF_top (s : State) (f : JFrame) (c d : ClassId) : ∀ i, mnF (s.setTop f) c d i = (mnF s c d i).setTop f
  | 0 => rfl
  | i + 1 => by simp only [mnF, mnF_top s f c d i, State.heap_setTop, State.pushCell_setTop, State.setCell_setTop]
theorem mnF_old (s : State) (c d : ClassId) {a : Addr} (ha : a < s.heap.size) : ∀ i, (mnF s c d i).heap[a]? = s.heap[a]?
  | 0 => State.heap_pushCell_of_lt _ _ ha
  | i + 1 => by
    have f1 := (mnF_facts s c d i).1
    have hlt : a < (mnF s c d i).heap.size := Nat.lt_of_lt_of_le ha (by rw [f1]; omega)
    show (((mnF s c d i).pushCell (mnI d)).setCell s.heap.size _).heap[a]? = _
    rw [State.heap_setCell_other (Nat.ne_of_gt ha), State.heap_pushCell_of_lt (h := hlt)]
    exact mnF_old s c d ha i
theorem mnF_in (s : State) (c d : ClassId) : ∀ i j, j < i → (mnF s c d i).heap[s.heap.size + 1 + j]? = some (mnI d)
  | 0, _, h => absurd h (Nat.not_lt_zero _)
  | i + 1, j, h => by
    have f1 := (mnF_facts s c d i).1
    show (((mnF s c d i).pushCell (mnI d)).setCell s.heap.size _).heap[s.heap.size + 1 + j]? = _
    rw [State.heap_setCell_other (show s.heap.size ≠ s.heap.size + 1 + j by omega)]
    rcases Nat.lt_or_ge j i with hj | hj
    · have hlt : s.heap.size + 1 + j < (mnF s c d i).heap.size := by rw [f1]; omega
      rw [State.heap_pushCell_of_lt (h := hlt)]
      exact mnF_in s c d i j hj
    · have e : j = i := by omega
      subst e
      rw [← f1]
      exact State.heap_pushCell_size _ _
section
variable {E : CtlPost} {e : Env} {d : Bool} {acts : List Action} {s : State}
theorem mn_new {c comp : ClassId} {k : Class} {type : FieldType} {len : Nat} {init : Value} (hk : s.vm.classes[c]? = some k) (hkind : k.kind = .array comp type) (hlimit : ¬ len > e.platform.arrayLengthLimit) (hheap : ¬ len * componentBytes type > e.platform.maxHeapBytes) (hfit : fits type init = true) (hdef : init.isDefault = true) {Q : Addr → Pre} (h1 : s.heap.size < e.platform.maxCells) (h2 : s.slotsUsed + len ≤ e.platform.maxSlots) (hq : Q s.heap.size d acts (s.pushCell (arrV c len (fun _ => init)))) : Jvm.Sem.wp (Jvm.newArray c len init) Q E e d acts s := by
  have hfits : ∀ i v, (Array.replicate len init)[i]? = some v → s.fitsSlot c .none i v = true := by
    intro i v hv
    simp only [Array.getElem?_replicate] at hv
    split at hv
    · cases hv; simp [State.fitsSlot, State.slotType?, hk, hkind, hfit]
    · cases hv
  have hda : allocActs (Array.replicate len init) s.heap.size acts = acts := by
    have hall : ((Array.replicate len init).all (·.isDefault)) = true := by
      rw [Array.all_replicate]; split <;> simp [hdef]
    unfold allocActs; rw [if_pos hall]
  rw [← arrV_new] at hq
  simp only [Jvm.newArray, Jvm.arrayFits, wp_bind', W.ask, W.ite, hlimit, if_false, wp_pure', W.theClass, hk, hkind, hheap, W.alloc, W.stop, Option.some.injEq, exists_eq_left', Array.size_replicate, hda]
  rw [if_neg (by omega)]
  exact ⟨h1, h2, hfits, hq⟩
theorem mn_make {c comp cc : ClassId} {k kc : Class} (hk : s.vm.classes[c]? = some k) (hkind : k.kind = .array comp (.array .long)) (hkc : s.vm.classes[comp]? = some kc) (hkindc : kc.kind = .array cc .long) (hl : 160 ≤ e.platform.arrayLengthLimit) (hh : 160 * 8 ≤ e.platform.maxHeapBytes) (hc : s.heap.size + 9 ≤ e.platform.maxCells) (hs : s.slotsUsed + 1288 ≤ e.platform.maxSlots) {Q : Addr → Pre} (hq : ∀ d' acts', Q s.heap.size d' acts' (mnF s c comp 8)) : Jvm.Sem.wp (multianewarray.make c [8, 160]) Q E e d acts s := by
  have n8 : ¬ ((8 : Int32) < 0) := by decide
  have n160 : ¬ ((160 : Int32) < 0) := by decide
  have c8 : (8 : Int32).toNatClampNeg = 8 := rfl
  have c160 : (160 : Int32).toNatClampNeg = 160 := rfl
  have hfind : ([(160 : Int32)].find? (· < 0)) = none := by decide
  have b4 : componentBytes (.array .long) = 4 := rfl
  have b8 : componentBytes .long = 8 := rfl
  have e0 : arrV c 8 (fun _ => Value.null) = mnO c s.heap.size 0 := by
    unfold mnO
    exact congrArg (arrV c 8) (funext fun j => by rw [if_neg (Nat.not_lt_zero _)]; rfl)
  rw [multianewarray.make]
  simp only [wp_bind', W.ite, n8, if_false, wp_pure', W.theClass, hk, hkind, Option.some.injEq, exists_eq_left', c8]
  refine mn_new hk hkind (by omega) (by rw [b4]; omega) rfl rfl (by omega) (by omega) ?_
  simp only [hfind]
  rw [ite_self, wp_bind', Std.Legacy.Range.forIn_eq_forIn_range']
  have hsz : ([:8] : Std.Legacy.Range).size = 8 := by simp [Std.Legacy.Range.size]
  rw [hsz]
  show Jvm.Sem.wp (forIn (List.range' 0 8 1) PUnit.unit _) _ E e d acts _
  refine wp_forIn_inv (fun rest s' => ∃ i, i ≤ 8 ∧ rest = List.range' i (8 - i) ∧ s' = mnF s c comp i) _ _ ⟨0, Nat.zero_le _, rfl, by rw [e0]; rfl⟩ ?_ ?_
  · rintro x rest s' d' acts' Q' ⟨i, hi, hl', rfl⟩ hnext
    have hlt : i < 8 := by
      rcases Nat.lt_or_ge i 8 with h | h
      · exact h
      · rw [show 8 - i = 0 from by omega] at hl'; simp at hl'
    obtain ⟨rfl, hrest⟩ : x = i ∧ rest = List.range' (i + 1) (8 - (i + 1)) := by
      rw [show 8 - i = (8 - (i + 1)) + 1 from by omega, List.range'_succ] at hl'
      exact ⟨(List.cons.inj hl').1, (List.cons.inj hl').2⟩
    obtain ⟨f1, f2, f3, f4⟩ := mnF_facts s c comp x
    have hlt0 : s.heap.size < (mnF s c comp x).heap.size := by rw [f1]; omega
    simp only [wp_bind']
    rw [multianewarray.make]
    simp only [wp_bind', W.ite, n160, if_false, wp_pure', W.theClass, f3, hkc, hkindc, Option.some.injEq, exists_eq_left', c160]
    refine mn_new (by rw [f3]; exact hkc) hkindc (by omega) (by rw [b8]; omega) rfl rfl (by rw [f1]; omega) (by rw [f4]; omega) ?_
    simp only [wp_bind', W.writeLoc, wp_pure']
    refine ⟨mnO c s.heap.size x, ?_, ?_, by rw [mnO_sz]; exact hlt, ?_, hnext _ _ _ ⟨x + 1, hlt, hrest, ?_⟩⟩
    · rw [State.heap_pushCell_of_lt (h := hlt0)]; exact f2
    · show VmData.none ≠ _
      simp
    · show State.fitsSlot _ c .none x (.ref _) = true
      simp [State.fitsSlot, State.slotType?, f3, hk, hkind, fits]
    · rw [f1, mnO_st]
      rfl
  · rintro s' d' acts' ⟨i, hi, hl', rfl⟩
    have hiN : i = 8 := by
      rcases Nat.lt_or_ge i 8 with h | h
      · rw [show 8 - i = (8 - (i + 1)) + 1 from by omega, List.range'_succ] at hl'; cases hl'
      · omega
    subst hiN
    simp only [wp_pure']
    exact hq _ _
end
theorem mn_s1 : (FieldType.array .long).toString = "[J" := by decide +kernel
theorem mn_s2 : "[" ++ (FieldType.array .long).toString = "[[J" := by decide +kernel
theorem mn_s3 : "[" ++ (FieldType.long).toString = "[J" := by decide +kernel
/-- what is known of the class of long[][] -/
def mnA (s : State) : Prop := ∃ comp c k, s.vm.findClass "[J" = some comp ∧ s.vm.classes[c]? = some k ∧ k.kind = .array comp (.array .long) ∧ s.vm.findClass "[[J" = some c
theorem mnA.moved {u U : State} (hvm : u.vm.Alike U.vm) (h : mnA u) : mnA U := by
  obtain ⟨comp, c, k, h1, h2, h3, h4⟩ := h
  obtain ⟨k', hk', he⟩ := hvm.2.2 _ _ h2
  exact ⟨comp, c, k', by rw [hvm.findClass]; exact h1, hk', by rw [he]; exact h3, by rw [hvm.findClass]; exact h4⟩
theorem mn_over {args : Array Value} {s : State} (h : (Cond.arrayOver (.array .long)).before args s = true) : mnA s := by
  have h : Cond.holds args s none s [] (Cond.arrayOver (.array .long)) = true := h
  have e2 : "[" ++ "[J" = "[[J" := by decide +kernel
  simp only [Cond.holds, Cond.value, beq_iff_eq, mn_s1, e2] at h
  cases hc : s.vm.findClass "[J" with
  | none => simp [hc] at h
  | some comp =>
    simp only [hc, Option.bind_some, Option.bind_eq_some_iff, Option.map_eq_some_iff] at h
    obtain ⟨c, hi, k, hk, hb⟩ := h
    obtain ⟨hlt, hp, -⟩ := Array.findIdx?_eq_some_iff_getElem.mp hi
    have hkk : s.vm.classes[c] = k := (Array.getElem?_eq_some_iff.mp hk).2
    rw [hkk] at hp
    cases hkind : k.kind with
    | array component ty =>
      rw [hkind] at hb hp
      simp at hb hp
      exact ⟨comp, c, k, hc, hk, by rw [hkind, hp, hb.1], hb.2⟩
    | _ => rw [hkind] at hb; simp at hb
section
variable {p : Program} {l : Launch} {e : Env} {R : Room} {s : State} {m : MethodId} {args : Array Value} {below : List Frame} {meth : Method} {c : Code} {T : State} {locs : List Loc} {cells slots : Nat}
theorem mn_filled (X : Stand p l e R s m args below meth c T locs cells slots) (cA comp : ClassId) : ∀ i, Stand p l e R s m args below meth c (mnF T cA comp i) (locs ++ (List.range i).map fun j => ⟨T.heap.size, j⟩) (cells + 1 + i) (slots + 8 + i * 160)
  | 0 => by
    have h := X.pushed (mnO cA T.heap.size 0)
    rw [mnO_sz] at h
    simpa [mnF] using h
  | i + 1 => by
    have Xi := mn_filled X cA comp i
    obtain ⟨f1, f2, f3, f4⟩ := mnF_facts T cA comp i
    have hlt0 : T.heap.size < (mnF T cA comp i).heap.size := by rw [f1]; omega
    have hcell : ((mnF T cA comp i).pushCell (mnI comp)).heap[T.heap.size]? = some (mnO cA T.heap.size i) := by rw [State.heap_pushCell_of_lt (h := hlt0)]; exact f2
    have h := (Xi.pushed (mnI comp)).stored hcell i (.ref (T.heap.size + 1 + i))
    rw [mnI_sz, mnO_st] at h
    have e2 : (locs ++ (List.range (i + 1)).map fun j => (⟨T.heap.size, j⟩ : Loc)) = (locs ++ (List.range i).map fun j => (⟨T.heap.size, j⟩ : Loc)) ++ [⟨T.heap.size, i⟩] := by simp [List.range_succ, List.append_assoc]
    have e3 : slots + 8 + (i + 1) * 160 = slots + 8 + i * 160 + 160 := by omega
    rw [e2, e3]
    exact h
theorem mn_step (X : Stand p l e R s m args below meth c T locs cells slots) (hexec : p.tables.exec = Jvm.exec) {own : String} {index : Nat} (hown : s.vm.findClass own = some m.cls) (hclink : (Cond.classLink own index "[[J").before args s = true) (hover : mnA s) (harr : (Cond.arrayClass .long).before args s = true) {g : JFrame} (hg : g.method = m) (hdg : decode c.code g.pc = .ok (.multianewarray index 2, 4)) {rest : List Value} (hstack : g.stack = .int 160 :: .int 8 :: rest) (hcells : cells + 9 ≤ R.cells) (hslots : slots + 1288 ≤ R.slots) :
    ∃ (vm₁ : Vm) (cA comp : ClassId), s.vm.findClass "[[J" = some cA ∧ s.vm.findClass "[J" = some comp ∧ Stand p l e R s m args below meth c (mnF (T.setVm vm₁) cA comp 8) locs (cells + 9) (slots + 1288) ∧
      ∀ target, Steps p.tables e below ((mnF (T.setVm vm₁) cA comp 8).setTop { g with pc := g.pc + 4, stack := .ref T.heap.size :: rest }) target → Steps p.tables e below (T.setTop g) target := by
  subst hg
  have hpl : e.platform.magicAccessors = ({} : Platform).magicAccessors := by rw [X.admits.platform]
  obtain ⟨comp, cA, kA, hcomp, hkA, hkindA, hnameA⟩ := hover
  obtain ⟨comp', kC, cc, hcomp', hkC, hkindC⟩ := Cond.arrayClass_spec harr
  have hcomp' : s.vm.findClass "[J" = some comp' := by rw [← mn_s3]; exact hcomp'
  have ecomp : comp' = comp := Option.some.inj (hcomp'.symm.trans hcomp)
  subst ecomp
  obtain ⟨c0, hfc0, hcl⟩ := Cond.classLink_spec hown hclink e.platform hpl
  cases hnameA.symm.trans hfc0
  obtain ⟨hg₁, hwarm₁, hready₁⟩ := State.classEntry (e := e) X.warmed hcl
  generalize T.vm.noted g.method.cls index (.cls cA) = vm₁ at hg₁ hwarm₁ hready₁
  have hal : s.vm.Alike vm₁ := hwarm₁.alike
  obtain ⟨kA₁, hkA₁, heA⟩ := hal.2.2 _ _ hkA
  obtain ⟨kC₁, hkC₁, heC⟩ := hal.2.2 _ _ hkC
  have hkindA₁ : kA₁.kind = .array comp' (.array .long) := by rw [heA]; exact hkindA
  have hkindC₁ : kC₁.kind = .array cc .long := by rw [heC]; exact hkindC
  have X₁ := X.noted hwarm₁
  obtain ⟨hr1, hr2⟩ := X.roomAbove hcells hslots
  have XF := mn_filled X₁ cA comp' 8
  have XG : Stand p l e R s g.method args below meth c (mnF (T.setVm vm₁) cA comp' 8) locs (cells + 9) (slots + 1288) := XF.dropFresh (fun x hx => by
    obtain ⟨j, -, rfl⟩ := List.mem_map.mp hx
    exact X.heapGrown)
  refine ⟨vm₁, cA, comp', hnameA, hcomp, XG, fun target hrest => ?_⟩
  have hl : 160 ≤ e.platform.arrayLengthLimit := by rw [Launch.admits_arrayLengthLimit X.admits]; omega
  have hh : 160 * 8 ≤ e.platform.maxHeapBytes := by rw [Launch.admits_maxHeapBytes X.admits]; omega
  jvm_step X.here [hexec, hdg]
  simp only [multianewarray.sem, wp_bind', W.resolveClassAt_links (State.method?_setTop g X.here.top) hg₁]
  rw [W.popN, if_neg (by decide)]
  refine ⟨g, State.topJava?_setTop' (s := T.setVm vm₁) g X.here.top, [.int 8, .int 160], rest, rfl, hstack, ?_⟩
  simp only [List.mapM_cons, List.mapM_nil, wp_bind', wp_pure']
  refine mn_make (k := kA₁) (kc := kC₁) (comp := comp') (cc := cc) hkA₁ hkindA₁ hkC₁ hkindC₁ hl hh (by show T.heap.size + _ ≤ _; omega) (by show T.slotsUsed + _ ≤ _; omega) (fun d' acts' => ?_)
  have eS : ((T.setTop g).setVm vm₁).setTop { g with stack := rest } = (T.setVm vm₁).setTop { g with stack := rest } := by
    show ((T.setVm vm₁).setTop g).setTop _ = _
    rw [State.setTop_setTop]
  rw [eS, mnF_top]
  simp only [wp_bind', W.mark, W.pushRef, State.topJava?_setTop' _ XF.here.top, Option.some.injEq, exists_eq_left', State.setTop_setTop, State.heap_setTop]
  intro acts
  simp [jvm, XF.here.top]
  exact hrest
end
theorem mn_D {A : Nat → Prop} {D : va_G} {cl : List vw_C} {ws L : va_W} {H : Heap} (hP : va_P D cl ws H) (hD : va_D A ws) (hA : ∀ q, H.size ≤ q → A q) (hL : ∀ (k : Nat) (x : Nat × va_E), L[k]? = some x → x.1 = H.size + k) : va_D A (ws ++ L) := by
  have get : ∀ (i : Nat) (x : Nat × va_E), (ws ++ L)[i]? = some x → (i < ws.length ∧ ws[i]? = some x ∧ x.1 < H.size) ∨ (ws.length ≤ i ∧ x.1 = H.size + (i - ws.length)) := by
    intro i x hi
    by_cases h : i < ws.length
    · rw [List.getElem?_append_left h] at hi
      exact Or.inl ⟨h, hi, (hP i x hi).lt⟩
    · rw [List.getElem?_append_right (by omega)] at hi
      exact Or.inr ⟨by omega, hL _ x hi⟩
  refine ⟨fun i j x y hi hj e => ?_, fun i x hi => ?_⟩
  · rcases get i x hi with ⟨a1, a2, a3⟩ | ⟨a1, a2⟩
    · rcases get j y hj with ⟨b1, b2, b3⟩ | ⟨b1, b2⟩
      · exact hD.1 i j x y a2 b2 e
      · omega
    · rcases get j y hj with ⟨b1, b2, b3⟩ | ⟨b1, b2⟩
      · omega
      · omega
  · rcases get i x hi with ⟨a1, a2, a3⟩ | ⟨a1, a2⟩
    · exact hD.2 i x a2
    · exact hA _ (by omega)
def mnW (cJ cJJ : ClassId) (q : Nat) : va_W := (q, .inl (cJJ, 8, .inr (.inr (.inr (.inr (fun j => if j < 8 then some (q + 1 + j) else none)))))) :: (List.range 8).map (fun j => (q + 1 + j, .inl (cJ, 160, .inr (.inl (fun _ => 0)))))
theorem mnW_at (cJ cJJ : ClassId) (q k : Nat) (x : Nat × va_E) (h : (mnW cJ cJJ q)[k]? = some x) : x.1 = q + k ∧ (k = 0 ∧ x.2 = .inl (cJJ, 8, .inr (.inr (.inr (.inr (fun j => if j < 8 then some (q + 1 + j) else none))))) ∨ ∃ j, k = j + 1 ∧ j < 8 ∧ x.2 = .inl (cJ, 160, .inr (.inl (fun _ => 0)))) := by
  cases k with
  | zero =>
    cases h
    exact ⟨rfl, Or.inl ⟨rfl, rfl⟩⟩
  | succ k =>
    have h : ((List.range 8).map (fun j => ((q + 1 + j, .inl (cJ, 160, .inr (.inl (fun _ => 0)))) : Nat × va_E)))[k]? = some x := h
    rw [List.getElem?_map] at h
    by_cases hk : k < 8
    · rw [List.getElem?_range hk] at h
      cases h
      exact ⟨by show q + 1 + k = q + (k + 1); omega, Or.inr ⟨k, rfl, hk, rfl⟩⟩
    · rw [List.getElem?_eq_none (by rw [List.length_range]; omega)] at h
      cases h
section
variable {p : Program} {l : Launch} {e : Env} {R : Room} {s : State} {m : MethodId} {args : Array Value} {below : List Frame} {meth : Method} {c : Code} {H : Heap} {locs : List Loc} {cells slots : Nat} {Q : State → Prop}
variable {cc : ByteArray} {pc : Nat} {ls : Array Slot} {rest : List Value} {D : va_G} {cl : List vw_C} {A : Nat → Prop} {tys : List (ClassId × FieldType)} {ws : va_W} {H0 : Heap}
theorem mn_row (hexec : p.tables.exec = Jvm.exec) (hb : c.code = cc) {own : String} {index : Nat} (hown : s.vm.findClass own = some m.cls) (hclink : (Cond.classLink own index "[[J").before args s = true) (hover : mnA s) (harr : (Cond.arrayClass .long).before args s = true) (hK : va_K D cl tys s) (hP : va_P D cl ws H) (hD : va_D A ws) (hS : va_S A H0 H locs) (hA : ∀ q, H0.size ≤ q → A q) (t1 t2 : Nat) {cJ cJJ : ClassId} (ht1 : tys[t1]? = some (cJ, .long)) (ht2 : tys[t2]? = some (cJJ, .array .long)) (hcells : cells + 9 ≤ R.cells) (hslots : slots + 1288 ≤ R.slots) (hdg : decode cc pc = .ok (.multianewarray index 2, 4))
    (kk : ∀ (q : Nat) (H1 : Heap), va_P D cl (ws ++ mnW cJ cJJ q) H1 → va_D A (ws ++ mnW cJ cJJ q) → va_S A H0 H1 locs → W p l e R s m args below meth c H1 locs (cells + 9) (slots + 1288) Q (F0 m (pc + 4) ls (.ref q :: rest))) : W p l e R s m args below meth c H locs cells slots Q (F0 m pc ls (.int 160 :: .int 8 :: rest)) := by
  intro T hT Xs
  obtain ⟨vm₁, cA, comp, fA, fC, X', step⟩ := mn_step Xs hexec hown hclink hover harr (g := F0 m pc ls (.int 160 :: .int 8 :: rest)) rfl (by rw [hb]; exact hdg) rfl hcells hslots
  have r1 : s.vm.findClass "[J" = some cJ := by have h := (hK.2 t1 _ ht1).2; rw [← mn_s3]; exact h
  have r2 : s.vm.findClass "[[J" = some cJJ := by have h := (hK.2 t2 _ ht2).2; rw [← mn_s2]; exact h
  cases r1.symm.trans fC
  cases r2.symm.trans fA
  have hTh : (T.setVm vm₁).heap = H := hT
  obtain ⟨f1, f2, -, -⟩ := mnF_facts (T.setVm vm₁) cJJ cJ 8
  have hold : ∀ x : Nat, x < H.size → (mnF (T.setVm vm₁) cJJ cJ 8).heap[x]? = H[x]? := fun x hx => by
    have := mnF_old (T.setVm vm₁) cJJ cJ (a := x) (by rw [hTh]; exact hx) 8
    rw [hTh] at this
    exact this
  have hrow : ∀ j : Nat, j < 8 → (mnF (T.setVm vm₁) cJJ cJ 8).heap[H.size + 1 + j]? = some (mnI cJ) := fun j hj => by
    have := mnF_in (T.setVm vm₁) cJJ cJ 8 j hj
    rw [hTh] at this
    exact this
  rw [hTh] at f1 f2
  generalize hF : mnF (T.setVm vm₁) cJJ cJ 8 = F at X' step f1 f2 hold hrow
  have hP0 : va_P D cl ws F.heap := hP.kept (fun k x hx => hold x.1 ((hP k x hx).lt))
  have hP1 : va_P D cl (ws ++ mnW cJ cJJ H.size) F.heap := hP0.app (fun k x hx => by
    obtain ⟨e1, ⟨e2, e3⟩ | ⟨j, e2, e3, e4⟩⟩ := mnW_at cJ cJJ H.size k x hx
    · unfold va_at
      rw [e3, e1, e2]
      exact f2
    · unfold va_at
      rw [e4, e1, e2, show H.size + (j + 1) = H.size + 1 + j by omega]
      exact hrow j e3)
  have hD1 : va_D A (ws ++ mnW cJ cJJ H.size) := mn_D hP hD (fun q hq => hA q (Nat.le_trans hS.1 hq)) (fun k x hx => (mnW_at cJ cJJ H.size k x hx).1)
  have hS1 : va_S A H0 F.heap locs := ⟨Nat.le_trans hS.1 (by omega), fun x h1 h2 => (hold x (Nat.lt_of_lt_of_le h1 hS.1)).trans (hS.2.1 x h1 h2), hS.2.2⟩
  obtain ⟨t, a1, a2⟩ := kk H.size F.heap hP1 hD1 hS1 F rfl X'
  refine ⟨t, step t ?_, a2⟩
  rw [hT]
  exact a1
end

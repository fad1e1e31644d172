/-! THE WORLD OF PLACES on a heap: g gives each place its address, and the classes of int[], long[] and long[][] -/
abbrev aG : Type := (Nat → Nat) × ClassId × ClassId × ClassId
def cv (g : aG) : Value → Value
  | .ref p => .ref (g.1 p)
  | v => v
theorem cv_cat (g : aG) (v : Value) : (cv g v).category = v.category := by cases v <;> rfl
def aFs (a : Nat → Nat) (f : Nat → Int32) : List (Option Nat) → Nat → List Value
  | [], _ => []
  | none :: l, j => .int (f j) :: aFs a f l (j + 1)
  | some q :: l, j => .ref (a q) :: aFs a f l (j + 1)
def aFv (a : Nat → Nat) (f : Nat → Int32) (j : Nat) : Option Nat → Value
  | none => .int (f j)
  | some q => .ref (a q)
theorem aFs_get (a : Nat → Nat) (f : Nat → Int32) : ∀ (l : List (Option Nat)) (j k : Nat), (aFs a f l j)[k]? = l[k]?.map (aFv a f (j + k))
  | [], j, k => by simp [aFs]
  | o :: l, j, 0 => by cases o <;> simp [aFs, aFv]
  | o :: l, j, k + 1 => by
    have e : j + 1 + k = j + (k + 1) := by omega
    cases o <;> (simp only [aFs, List.getElem?_cons_succ]; rw [aFs_get a f l (j + 1) k, e])
theorem aFs_len (a : Nat → Nat) (f : Nat → Int32) : ∀ (l : List (Option Nat)) (j : Nat), (aFs a f l j).length = l.length
  | [], j => rfl
  | o :: l, j => by cases o <;> simp [aFs, aFs_len a f l (j + 1)]
def aCell (g : aG) (w : hW) (p : Nat) : Nat × Nat × List (Option Nat) → va_E
  | (0, n, l) => .inr (n, aFs g.1 (w.1 p) l 0)
  | (1, n, _) => .inl (g.2.1, n, .inl (w.1 p))
  | (2, n, _) => .inl (g.2.2.1, n, .inr (.inl (w.2 p)))
  | (_, n, l) => .inl (g.2.2.2, n, .inr (.inr (.inr (.inr (fun j => (l.getD j none).map g.1)))))
theorem aCell_cong (g : aG) {w w' : hW} {p : Nat} (h1 : w'.1 p = w.1 p) (h2 : w'.2 p = w.2 p) (s : Nat × Nat × List (Option Nat)) : aCell g w' p s = aCell g w p s := by
  obtain ⟨t, n, l⟩ := s
  unfold aCell
  rw [h1, h2]
def aWs (g : aG) (w : hW) : List (Nat × Nat × List (Option Nat)) → Nat → va_W
  | [], _ => []
  | s :: r, p => (g.1 p, aCell g w p s) :: aWs g w r (p + 1)
theorem aWs_get (g : aG) (w : hW) : ∀ (l : List (Nat × Nat × List (Option Nat))) (p k : Nat), (aWs g w l p)[k]? = l[k]?.map (fun s => (g.1 (p + k), aCell g w (p + k) s))
  | [], p, k => by simp [aWs]
  | s :: l, p, 0 => by simp [aWs]
  | s :: l, p, k + 1 => by
    have e : p + 1 + k = p + (k + 1) := by omega
    simp only [aWs, List.getElem?_cons_succ]
    rw [aWs_get g w l (p + 1) k, e]
def aWd (g : aG) (w : hW) : va_W := aWs g w gSh 0
theorem aWd_get (g : aG) (w : hW) (k : Nat) : (aWd g w)[k]? = gSh[k]?.map (fun s => (g.1 k, aCell g w k s)) := by
  unfold aWd
  rw [aWs_get, Nat.zero_add]
theorem aWd_at (g : aG) (w : hW) {p : Nat} {s : Nat × Nat × List (Option Nat)} (h : gSh[p]? = some s) : (aWd g w)[p]? = some (g.1 p, aCell g w p s) := by
  rw [aWd_get, h]; rfl
theorem aWd_set (g : aG) {w w' : hW} {p : Nat} {s : Nat × Nat × List (Option Nat)} {e : va_E} (h : gSh[p]? = some s) (he : aCell g w' p s = e) (ho : ∀ q, q ≠ p → w'.1 q = w.1 q ∧ w'.2 q = w.2 q) : (aWd g w).set p (g.1 p, e) = aWd g w' := by
  apply List.ext_getElem?
  intro k
  rw [List.getElem?_set, aWd_get g w', aWd_get g w]
  by_cases hk : p = k
  · subst hk
    have hl : p < (aWd g w).length := (List.getElem?_eq_some_iff.mp (aWd_at g w h)).1
    rw [if_pos rfl, if_pos hl, h, ← he]
    rfl
  · rw [if_neg hk]
    cases hq : gSh[k]? with
    | none => rfl
    | some s2 =>
      obtain ⟨h1, h2⟩ := ho k (fun e => hk e.symm)
      simp only [Option.map_some, aCell_cong g h1 h2]
def aA (g : aG) : Nat → Prop := fun q => ∃ p, p < 78 ∧ q = g.1 p
def aTy (g : aG) : List (ClassId × FieldType) := [(g.2.1, .int), (g.2.2.1, .long), (g.2.2.2, .array .long)]
/-- the String constants -/
def gSi (j : Nat) : Nat := [83, 126, 137, 152, 160, 172].getD j 0
def gSt (j : Nat) : String := ["thing", "man", "want", "long", "river", "wind"].getD j ""
def gSL : List Nat := [5, 3, 4, 4, 5, 4]
def aStr (g : aG) (U : State) (H : Heap) : Prop := vk_S 6 gSL gTxs (fun j => g.1 (200 + j)) (fun j => g.1 (210 + j)) (aA g) U H ∧ (∀ j, j < 6 → vk_R RX1 (gSi j) (gSt j) (g.1 (200 + j)) U) ∧ va_Z "java/lang/String" "COMPACT_STRINGS" "Z" (.int 1) (aA g) U H ∧ ∃ v, (v = .null ∨ v = .ref (g.1 220)) ∧ va_Z "jdk/internal/util/Preconditions" "SIOOBE_FORMATTER" "Ljava/util/function/BiFunction;" v (aA g) U H
/-- what lies round the world: the class's three constant arrays, its String constants, and the links to nest mates' members -/
def aAmb (g : aG) (U : State) (H : Heap) : Prop := ((∀ s, s = 100 ∨ s = 101 ∨ s = 102 → va_Z (gStN s).1 (gStN s).2 "[I" (.ref (g.1 s)) (aA g) U H ∧ va_T .int (g.1 s) (gSta s).length (fun j => .int ((gSta s).getD j 0)) (aA g) U H) ∧ aStr g U H) ∧ ∀ w ∈ gNest, va_Nw w U
def isNestW : Cond → Bool
  | .fieldLinkNest .. => true
  | .methodLinkNest .. => true
  | _ => false
theorem gNest_is : ∀ w ∈ gNest, isNestW w = true := by
  have h : gNest.all isNestW = true := by decide +kernel
  exact fun w hw => List.all_eq_true.mp h w hw
theorem aStr.warm {g : aG} {s U : State} {H : Heap} (hW : s.WarmedH U.vm) (h : aStr g s H) : aStr g U H := by
  obtain ⟨h1, h2, h3, v, h4, h5⟩ := h
  exact ⟨h1.moved hW.alike, fun j hj => (h2 j hj).warm hW, h3.moved hW.alike, v, h4, h5.moved hW.alike⟩
theorem aStr.same {g : aG} {u U : State} {H : Heap} (hv : u.vm = U.vm) (h : aStr g u H) : aStr g U H := by
  have ha : u.vm.Alike U.vm := by rw [hv]; exact Vm.Alike.refl _
  obtain ⟨h1, h2, h3, v, h4, h5⟩ := h
  exact ⟨h1.moved ha, fun j hj => (h2 j hj).same hv.symm, h3.moved ha, v, h4, h5.moved ha⟩
theorem aStr.kept {g : aG} {U : State} {H H1 : Heap} (h : aStr g U H) (hq : ∀ a : Nat, a < H.size → ¬ aA g a → H1[a]? = H[a]?) : aStr g U H1 := by
  obtain ⟨h1, h2, h3, v, h4, h5⟩ := h
  exact ⟨h1.kept hq, h2, h3.kept hq, v, h4, h5.kept hq⟩
theorem aAmb.warm {g : aG} {s U : State} {H : Heap} (hW : s.WarmedH U.vm) (h : aAmb g s H) : aAmb g U H := by
  refine ⟨⟨fun i hi => ⟨(h.1.1 i hi).1.moved hW.alike, (h.1.1 i hi).2.moved hW.alike⟩, h.1.2.warm hW⟩, fun w hw => ?_⟩
  have h1 := gNest_is w hw
  have h2 := h.2 w hw
  cases w <;> first | exact h2.warmF hW | exact h2.warmM hW | (simp [isNestW] at h1; done)
theorem aAmb.same {g : aG} {u U : State} {H : Heap} (hv : u.vm = U.vm) (h : aAmb g u H) : aAmb g U H := by
  have ha : u.vm.Alike U.vm := by rw [hv]; exact Vm.Alike.refl _
  refine ⟨⟨fun i hi => ⟨(h.1.1 i hi).1.moved ha, (h.1.1 i hi).2.moved ha⟩, h.1.2.same hv⟩, fun w hw => ?_⟩
  have h1 := gNest_is w hw
  have h2 := h.2 w hw
  cases w <;> first | exact h2.same rfl hv | (simp [isNestW] at h1; done)
theorem aAmb.kept {g : aG} {U : State} {H H1 : Heap} (h : aAmb g U H) (hq : ∀ a : Nat, a < H.size → ¬ aA g a → H1[a]? = H[a]?) : aAmb g U H1 := ⟨⟨fun i hi => ⟨(h.1.1 i hi).1.kept hq, (h.1.1 i hi).2.kept hq⟩, h.1.2.kept hq⟩, h.2⟩
/-- a method's start -/
def aPre (D : va_G) (g : aG) (w : hW) (U : State) : Prop := va_P D vwCl (aWd g w) U.heap ∧ va_K D vwCl (aTy g) U ∧ va_D (aA g) (aWd g w) ∧ aAmb g U U.heap
/-- its end -/
def aQc (D : va_G) (g : aG) (Q : aPost) : Array Value → State → Outcome → State → Prop := fun _ st oc t => (∃ (r : Option Value) (w : hW), oc = .returned (r.map (cv g)) ∧ Q r w ∧ va_P D vwCl (aWd g w) t.heap) ∧ va_F (aA g) st t
def aRm (d : Nat) : Room := { frames := d + 5, cells := 0, slots := 0, locals := 100 * (d + 5) }
theorem aWd_D {A : Nat → Prop} {g : aG} {w : hW} (w' : hW) (h : va_D A (aWd g w)) : va_D A (aWd g w') := by
  refine ⟨fun i j p q hi hj e => ?_, fun k q hk => ?_⟩
  · rw [aWd_get] at hi hj
    cases h1 : gSh[i]? with
    | none => rw [h1] at hi; cases hi
    | some s1 => cases h2 : gSh[j]? with
      | none => rw [h2] at hj; cases hj
      | some s2 =>
        rw [h1] at hi; rw [h2] at hj
        cases hi; cases hj
        exact h.1 i j _ _ (aWd_at g w h1) (aWd_at g w h2) e
  · rw [aWd_get] at hk
    cases h1 : gSh[k]? with
    | none => rw [h1] at hk; cases hk
    | some s1 =>
      rw [h1] at hk; cases hk
      have h3 := h.2 k _ (aWd_at g w h1)
      exact h3
/-! the locals -/
theorem aLd_get : ∀ (L : aL) (i : Nat), aLd L i = (L[i]?).join
  | [], i => by simp [aLd]
  | x :: L, 0 => by simp [aLd]
  | x :: L, i + 1 => by simp only [aLd, List.getElem?_cons_succ]; exact aLd_get L i
theorem aLd_set (L : aL) (i j : Nat) (x : Option Value) : aLd (L.set i x) j = if i = j then (if i < L.length then x else none) else aLd L j := by
  rw [aLd_get, aLd_get, List.getElem?_set]
  by_cases h : i = j
  · subst h
    by_cases h2 : i < L.length
    · rw [if_pos rfl, if_pos rfl, if_pos h2, if_pos h2]; rfl
    · rw [if_pos rfl, if_pos rfl, if_neg h2, if_neg h2]; rfl
  · rw [if_neg h, if_neg h]
def lvR (g : aG) (ls : Array Slot) (n : Nat) (L : aL) : Prop := ls.size = n ∧ lv_wf ls ∧ L.length = n ∧ ∀ i v, aLd L i = some v → ls[i]? = some (.val (cv g v))
def prs (g : aG) (L : aL) : List (Nat × Value) := (List.range L.length).filterMap (fun i => (aLd L i).map (fun v => (i, cv g v)))
theorem aLd_lt {L : aL} {i : Nat} {v : Value} (h : aLd L i = some v) : i < L.length := by
  rw [aLd_get] at h
  rcases Nat.lt_or_ge i L.length with h1 | h1
  · exact h1
  · rw [List.getElem?_eq_none h1] at h; cases h
theorem prs_in {g : aG} {L : aL} {i : Nat} {v : Value} (h : aLd L i = some v) : (i, cv g v) ∈ prs g L := by
  refine List.mem_filterMap.mpr ⟨i, List.mem_range.mpr (aLd_lt h), ?_⟩
  rw [h]; rfl
theorem lvR.has {g : aG} {ls : Array Slot} {n : Nat} {L : aL} (h : lvR g ls n L) : lv_has ls n (prs g L) := by
  refine ⟨h.1, h.2.1, fun q hq => ?_⟩
  obtain ⟨i, -, hi⟩ := List.mem_filterMap.mp hq
  cases hv : aLd L i with
  | none => rw [hv] at hi; cases hi
  | some v =>
    rw [hv] at hi
    cases hi
    exact h.2.2.2 i v hv
theorem okSt_lt {L : aL} {i : Nat} (h : okSt L i = true) : i < L.length := by
  unfold okSt at h
  rw [Bool.and_eq_true, decide_eq_true_eq] at h
  exact h.1
theorem okSt_prev {L : aL} {j : Nat} (h : okSt L (j + 1) = true) {u : Value} (hu : aLd L j = some u) : u.category ≠ 2 := by
  unfold okSt at h
  rw [Bool.and_eq_true] at h
  have h2 : okP (aLd L j) = true := h.2
  rw [hu] at h2
  cases u <;> simp_all [Value.category, okP]
theorem lvR.st1 {g : aG} {ls ls' : Array Slot} {n : Nat} {L : aL} (h : lvR g ls n L) {i : Nat} {v : Value} (ho : okSt L i = true) (h' : lv_has ls' n ((i, cv g v) :: (prs g L).filter (fun q => !(q.1 == i) && !(q.1 + 1 == i && q.2.category == 2)))) : lvR g ls' n (L.set i (some v)) := by
  refine ⟨h'.1, h'.2.1, by rw [List.length_set]; exact h.2.2.1, fun j u hj => ?_⟩
  rw [aLd_set, if_pos (okSt_lt ho)] at hj
  by_cases e : i = j
  · rw [if_pos e] at hj
    cases hj
    rw [← e]
    exact h'.2.2 _ List.mem_cons_self
  · rw [if_neg e] at hj
    refine h'.2.2 (j, cv g u) (List.mem_cons_of_mem _ (List.mem_filter.mpr ⟨prs_in hj, ?_⟩))
    have h1 : (j == i) = false := by simp; omega
    by_cases e2 : j + 1 = i
    · have h2 : ((cv g u).category == 2) = false := by
        rw [cv_cat]
        have h3 := okSt_prev (L := L) (j := j) (by rw [e2]; exact ho) hj
        simp [h3]
      simp [h1, h2]
    · have h2 : (j + 1 == i) = false := by simp; omega
      simp [h1, h2]
theorem lvR.st2 {g : aG} {ls ls' : Array Slot} {n : Nat} {L : aL} (h : lvR g ls n L) {i : Nat} {v : Value} (ho : okSt L i = true) (h' : lv_has ls' n ((i, cv g v) :: (prs g L).filter (fun q => !(q.1 == i) && (!(q.1 == i + 1) && !(q.1 + 1 == i && q.2.category == 2))))) : lvR g ls' n ((L.set i (some v)).set (i + 1) none) := by
  refine ⟨h'.1, h'.2.1, by rw [List.length_set, List.length_set]; exact h.2.2.1, fun j u hj => ?_⟩
  rw [aLd_set, aLd_set, if_pos (okSt_lt ho)] at hj
  by_cases e0 : i + 1 = j
  · rw [if_pos e0] at hj
    split at hj <;> cases hj
  · rw [if_neg e0] at hj
    by_cases e : i = j
    · rw [if_pos e] at hj
      cases hj
      rw [← e]
      exact h'.2.2 _ List.mem_cons_self
    · rw [if_neg e] at hj
      refine h'.2.2 (j, cv g u) (List.mem_cons_of_mem _ (List.mem_filter.mpr ⟨prs_in hj, ?_⟩))
      have h1 : (j == i) = false := by simp; omega
      have h3 : (j == i + 1) = false := by simp; omega
      by_cases e2 : j + 1 = i
      · have h2 : ((cv g u).category == 2) = false := by
          rw [cv_cat]
          have h3 := okSt_prev (L := L) (j := j) (by rw [e2]; exact ho) hj
          simp [h3]
        simp [h1, h2, h3]
      · have h2 : (j + 1 == i) = false := by simp; omega
        simp [h1, h2, h3]
def slO (g : aG) : Option Value → Slot
  | some v => .val (cv g v)
  | none => .second
theorem spv_sl (g : aG) : ∀ vs : List Value, lg_sl (vs.map (cv g)) = (spv vs).map (slO g)
  | [] => rfl
  | v :: vs => by
    have ih := spv_sl g vs
    unfold lg_sl at ih ⊢
    rw [List.map_cons, List.flatMap_cons, ih]
    cases v <;> rfl
theorem padL_eq : ∀ (n : Nat) (L : aL), L.length ≤ n → padL n L = L ++ List.replicate (n - L.length) none
  | 0, [], _ => rfl
  | n + 1, [], _ => by
    rw [padL, padL_eq n [] (Nat.zero_le _)]
    simp [List.replicate_succ]
  | n + 1, x :: L, h => by
    rw [padL, padL_eq n L (by simpa using h)]
    simp
theorem lvR_entry (g : aG) (vs : List Value) {n : Nat} (h : (spv vs).length ≤ n) : lvR g ((lg_sl (vs.map (cv g)) ++ List.replicate (n - (lg_sl (vs.map (cv g))).length) Slot.unset).toArray) n (padL n (spv vs)) := by
  have hl : (lg_sl (vs.map (cv g))).length ≤ n := by rw [spv_sl, List.length_map]; exact h
  obtain ⟨h1, h2, -⟩ := lv_entry (vs.map (cv g)) hl
  refine ⟨h1, h2, by rw [padL_eq _ _ h]; simp; omega, fun i v hv => ?_⟩
  rw [padL_eq _ _ h, aLd_get] at hv
  rw [List.getElem?_toArray, spv_sl]
  rcases Nat.lt_or_ge i (spv vs).length with hi | hi
  · rw [List.getElem?_append_left hi] at hv
    rw [List.getElem?_append_left (by rw [List.length_map]; exact hi), List.getElem?_map]
    cases hx : (spv vs)[i]? with
    | none => rw [hx] at hv; cases hv
    | some o =>
      rw [hx] at hv
      cases o with
      | none => cases hv
      | some u => cases hv; rfl
  · rw [List.getElem?_append_right hi] at hv
    rcases Nat.lt_or_ge (i - (spv vs).length) (n - (spv vs).length) with h3 | h3
    · rw [List.getElem?_replicate_of_lt h3] at hv; cases hv
    · rw [List.getElem?_eq_none (by simpa using h3)] at hv; cases hv

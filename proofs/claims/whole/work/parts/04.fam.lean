/-! THE ABSTRACT MACHINE IS DETERMINISTIC, and more steps do no harm: 'Fam F G': F is of no world at all, or says exactly that its end is so; and from some number of steps on G says the same. -/
def Fam (F : aPost → Prop) (G : Nat → aPost → Prop) : Prop := (∀ Q, ¬ F Q) ∨ ∃ (r : Option Value) (w : hW) (n : Nat), ∀ Q, (F Q ↔ Q r w) ∧ ∀ m, n ≤ m → (G m Q ↔ Q r w)
theorem famNo {G : Nat → aPost → Prop} : Fam (fun _ => False) G := Or.inl fun _ h => h
theorem famRet (r : Option Value) (w : hW) : Fam (fun Q => Q r w) (fun _ Q => Q r w) := Or.inr ⟨r, w, 0, fun _ => ⟨Iff.rfl, fun _ _ => Iff.rfl⟩⟩
theorem famAnd {c : Prop} {F : aPost → Prop} {G : Nat → aPost → Prop} (h : Fam F G) : Fam (fun Q => c ∧ F Q) (fun m Q => c ∧ G m Q) := by
  by_cases hc : c
  · rcases h with h | ⟨r, w, n, h⟩
    · exact Or.inl fun Q hQ => h Q hQ.2
    · exact Or.inr ⟨r, w, n, fun Q => ⟨⟨fun a => (h Q).1.mp a.2, fun a => ⟨hc, (h Q).1.mpr a⟩⟩, fun m hm => ⟨fun a => ((h Q).2 m hm).mp a.2, fun a => ⟨hc, ((h Q).2 m hm).mpr a⟩⟩⟩⟩
  · exact Or.inl fun Q hQ => hc hQ.1
theorem famIte {c : Prop} [Decidable c] {F F2 : aPost → Prop} {G G2 : Nat → aPost → Prop} (h : Fam F G) (h2 : Fam F2 G2) : Fam (fun Q => if c then F Q else F2 Q) (fun m Q => if c then G m Q else G2 m Q) := by
  by_cases hc : c
  · simp only [if_pos hc]; exact h
  · simp only [if_neg hc]; exact h2
theorem famBind {F : aPost → Prop} {F' : Nat → aPost → Prop} {g : Option Value → hW → aPost → Prop} {g' : Nat → Option Value → hW → aPost → Prop} (h : Fam F F') (hg : ∀ v w, Fam (g v w) (fun m => g' m v w)) : Fam (fun Q => F (fun v w => g v w Q)) (fun m Q => F' m (fun v w => g' m v w Q)) := by
  rcases h with h | ⟨r, w, n, h⟩
  · exact Or.inl fun Q hQ => h _ hQ
  · rcases hg r w with h2 | ⟨r2, w2, n2, h2⟩
    · exact Or.inl fun Q hQ => h2 Q ((h _).1.mp hQ)
    · exact Or.inr ⟨r2, w2, max n n2, fun Q => ⟨(h _).1.trans (h2 Q).1, fun m hm => ((h _).2 m (Nat.le_trans (Nat.le_max_left _ _) hm)).trans ((h2 Q).2 m (Nat.le_trans (Nat.le_max_right _ _) hm))⟩⟩
theorem famSI {st : List Value} {f : aPost → Int32 → List Value → Prop} {f' : Nat → aPost → Int32 → List Value → Prop} (h : ∀ x r, Fam (fun Q => f Q x r) (fun m Q => f' m Q x r)) : Fam (fun Q => sI st (f Q)) (fun m Q => sI st (f' m Q)) := by
  rcases st with _ | ⟨v, r⟩
  · exact famNo
  · cases v <;> first | exact h _ _ | exact famNo
theorem famSJ {st : List Value} {f : aPost → Int64 → List Value → Prop} {f' : Nat → aPost → Int64 → List Value → Prop} (h : ∀ x r, Fam (fun Q => f Q x r) (fun m Q => f' m Q x r)) : Fam (fun Q => sJ st (f Q)) (fun m Q => sJ st (f' m Q)) := by
  rcases st with _ | ⟨v, r⟩
  · exact famNo
  · cases v <;> first | exact h _ _ | exact famNo
theorem famSR {st : List Value} {f : aPost → Nat → List Value → Prop} {f' : Nat → aPost → Nat → List Value → Prop} (h : ∀ x r, Fam (fun Q => f Q x r) (fun m Q => f' m Q x r)) : Fam (fun Q => sR st (f Q)) (fun m Q => sR st (f' m Q)) := by
  rcases st with _ | ⟨v, r⟩
  · exact famNo
  · cases v <;> first | exact h _ _ | exact famNo
theorem famOO {α : Type} {o : Option α} {f : aPost → α → Prop} {f' : Nat → aPost → α → Prop} (h : ∀ x, Fam (fun Q => f Q x) (fun m Q => f' m Q x)) : Fam (fun Q => oo o (f Q)) (fun m Q => oo o (f' m Q)) := by
  cases o
  · exact famNo
  · exact h _
theorem famLdI {L : aL} {i : Nat} {f : aPost → Int32 → Prop} {f' : Nat → aPost → Int32 → Prop} (h : ∀ x, Fam (fun Q => f Q x) (fun m Q => f' m Q x)) : Fam (fun Q => ldI L i (f Q)) (fun m Q => ldI L i (f' m Q)) := by
  unfold ldI
  rcases aLd L i with _ | v
  · exact famNo
  · cases v <;> first | exact h _ | exact famNo
theorem famLdJ {L : aL} {i : Nat} {f : aPost → Int64 → Prop} {f' : Nat → aPost → Int64 → Prop} (h : ∀ x, Fam (fun Q => f Q x) (fun m Q => f' m Q x)) : Fam (fun Q => ldJ L i (f Q)) (fun m Q => ldJ L i (f' m Q)) := by
  unfold ldJ
  rcases aLd L i with _ | v
  · exact famNo
  · cases v <;> first | exact h _ | exact famNo
theorem famLdR {L : aL} {i : Nat} {f : aPost → Nat → Prop} {f' : Nat → aPost → Nat → Prop} (h : ∀ x, Fam (fun Q => f Q x) (fun m Q => f' m Q x)) : Fam (fun Q => ldR L i (f Q)) (fun m Q => ldR L i (f' m Q)) := by
  unfold ldR
  rcases aLd L i with _ | v
  · exact famNo
  · cases v <;> first | exact h _ | exact famNo
theorem famJmp {pc : Nat} {off : Int} {f : aPost → Nat → Prop} {f' : Nat → aPost → Nat → Prop} (h : ∀ x, Fam (fun Q => f Q x) (fun m Q => f' m Q x)) : Fam (fun Q => jmp pc off (f Q)) (fun m Q => jmp pc off (f' m Q)) := famAnd (h _)
theorem famSwT {x : Int32} {d : Int} {f : aPost → Int → Prop} {f' : Nat → aPost → Int → Prop} (h : ∀ x, Fam (fun Q => f Q x) (fun m Q => f' m Q x)) : ∀ (os : List Int) (lo : Int), Fam (fun Q => swT x (f Q) d lo os) (fun m Q => swT x (f' m Q) d lo os)
  | [], _ => h _
  | _ :: os, lo => famIte (h _) (famSwT h os (lo + 1))
theorem famSwL {x : Int32} {d : Int} {f : aPost → Int → Prop} {f' : Nat → aPost → Int → Prop} (h : ∀ x, Fam (fun Q => f Q x) (fun m Q => f' m Q x)) : ∀ (os : List (Int × Int)), Fam (fun Q => swL x (f Q) d os) (fun m Q => swL x (f' m Q) d os)
  | [] => h _
  | (_, _) :: os => famIte (h _) (famSwL h os)
theorem famPop {f : aPost → List Value → List Value → Prop} {f' : Nat → aPost → List Value → List Value → Prop} (h : ∀ x y, Fam (fun Q => f Q x y) (fun m Q => f' m Q x y)) : ∀ (n : Nat) (st as : List Value), Fam (fun Q => popA n st as (f Q)) (fun m Q => popA n st as (f' m Q))
  | 0, _, _ => h _ _
  | n + 1, v :: st, as => famPop h n st (v :: as)
  | _ + 1, [], _ => famNo
theorem famCpy {p q : Nat} {sp dp n : Int32} {w : hW} {f : aPost → hW → Prop} {f' : Nat → aPost → hW → Prop} (h : ∀ x, Fam (fun Q => f Q x) (fun m Q => f' m Q x)) : Fam (fun Q => cpyA p q sp dp n w (f Q)) (fun m Q => cpyA p q sp dp n w (f' m Q)) := by
  unfold cpyA
  split
  · exact famAnd (h _)
  · exact famAnd (h _)
  · exact famNo
theorem famRetI {k : Nat} {x : Int32} {w : hW} : Fam (fun Q => retI k x Q w) (fun _ Q => retI k x Q w) := by
  unfold retI
  split
  · exact famRet _ _
  · exact famAnd (famRet _ _)
  · exact famNo
section FAM
variable {nx : Nat → aL → List Value → hW → aPost → Prop} {nx' : Nat → Nat → aL → List Value → hW → aPost → Prop} {cl : Nat → aL → hW → aPost → Prop} {cl' : Nat → Nat → aL → hW → aPost → Prop}
theorem famDoC (hnx : ∀ pc L st w, Fam (nx pc L st w) (fun m => nx' m pc L st w)) (hcl : ∀ c L w, Fam (cl c L w) (fun m => cl' m c L w)) {pc : Nat} {L : aL} {st : List Value} {w : hW} {o : Option (Nat × Nat × Nat)} : Fam (fun Q => doC nx cl Q pc L st w o) (fun m Q => doC (nx' m) (cl' m) Q pc L st w o) := by
  unfold doC
  split
  · exact famPop (fun _ _ => famSR fun _ _ => famAnd (famAnd (famAnd (famAnd (famBind (hcl _ _ _) fun _ _ => hnx _ _ _ _))))) _ _ _
  · exact famPop (fun _ _ => famAnd (famAnd (famAnd (famBind (hcl _ _ _) fun _ _ => hnx _ _ _ _)))) _ _ _
  · exact famPop (fun _ _ => famAnd (famAnd (famAnd (famBind (hcl _ _ _) fun _ _ => hnx _ _ _ _)))) _ _ _
  · exact famSI fun _ _ => famSI fun _ _ => famAnd (hnx _ _ _ _)
  · exact famSI fun _ _ => famSI fun _ _ => famAnd (hnx _ _ _ _)
  · exact famSI fun _ _ => famAnd (hnx _ _ _ _)
  · exact famSI fun _ _ => famSI fun _ _ => famSR fun _ _ => famSI fun _ _ => famSR fun _ _ => famAnd (famCpy fun _ => hnx _ _ _ _)
  · exact famSR fun _ _ => famOO fun _ => famAnd (hnx _ _ _ _)
  · exact famSI fun _ _ => famSR fun _ _ => famOO fun _ => famAnd (hnx _ _ _ _)
  · exact famNo
set_option maxHeartbeats 4000000 in
theorem famStI (hnx : ∀ pc L st w, Fam (nx pc L st w) (fun m => nx' m pc L st w)) (hcl : ∀ c L w, Fam (cl c L w) (fun m => cl' m c L w)) {k pc : Nat} {L : aL} {st : List Value} {w : hW} {len : Nat} {i : Instr} : Fam (fun Q => stI nx cl Q k pc L st w len i) (fun m Q => stI (nx' m) (cl' m) Q k pc L st w len i) := by
  cases i with
  | iconst n => exact famAnd (hnx _ _ _ _)
  | bipush n => exact famAnd (hnx _ _ _ _)
  | sipush n => exact famAnd (hnx _ _ _ _)
  | lconst n => exact famAnd (hnx _ _ _ _)
  | ldc n => exact famAnd (famOO fun _ => hnx _ _ _ _)
  | ldc_w n => exact famAnd (famOO fun _ => hnx _ _ _ _)
  | ldc2_w n => exact famAnd (famOO fun _ => hnx _ _ _ _)
  | iload_n n => exact famAnd (famLdI fun _ => hnx _ _ _ _)
  | iload n => exact famAnd (famLdI fun _ => hnx _ _ _ _)
  | lload_n n => exact famAnd (famLdJ fun _ => hnx _ _ _ _)
  | lload n => exact famAnd (famLdJ fun _ => hnx _ _ _ _)
  | aload_n n => exact famAnd (famLdR fun _ => hnx _ _ _ _)
  | aload n => exact famAnd (famLdR fun _ => hnx _ _ _ _)
  | istore_n n => exact famAnd (famSI fun _ _ => famAnd (hnx _ _ _ _))
  | istore n => exact famAnd (famSI fun _ _ => famAnd (hnx _ _ _ _))
  | lstore n => exact famAnd (famSJ fun _ _ => famAnd (hnx _ _ _ _))
  | iinc n c => exact famAnd (famLdI fun _ => famAnd (hnx _ _ _ _))
  | iadd => exact famAnd (famSI fun _ _ => famSI fun _ _ => hnx _ _ _ _)
  | isub => exact famAnd (famSI fun _ _ => famSI fun _ _ => hnx _ _ _ _)
  | imul => exact famAnd (famSI fun _ _ => famSI fun _ _ => hnx _ _ _ _)
  | iand => exact famAnd (famSI fun _ _ => famSI fun _ _ => hnx _ _ _ _)
  | ior => exact famAnd (famSI fun _ _ => famSI fun _ _ => hnx _ _ _ _)
  | ixor => exact famAnd (famSI fun _ _ => famSI fun _ _ => hnx _ _ _ _)
  | idiv => exact famAnd (famSI fun _ _ => famSI fun _ _ => famAnd (hnx _ _ _ _))
  | irem => exact famAnd (famSI fun _ _ => famSI fun _ _ => famAnd (hnx _ _ _ _))
  | ineg => exact famAnd (famSI fun _ _ => hnx _ _ _ _)
  | ishl => exact famAnd (famSI fun _ _ => famSI fun _ _ => hnx _ _ _ _)
  | ishr => exact famAnd (famSI fun _ _ => famSI fun _ _ => hnx _ _ _ _)
  | iushr => exact famAnd (famSI fun _ _ => famSI fun _ _ => hnx _ _ _ _)
  | i2l => exact famAnd (famSI fun _ _ => hnx _ _ _ _)
  | l2i => exact famAnd (famSJ fun _ _ => hnx _ _ _ _)
  | i2b => exact famAnd (famSI fun _ _ => hnx _ _ _ _)
  | i2s => exact famAnd (famSI fun _ _ => hnx _ _ _ _)
  | ladd => exact famAnd (famSJ fun _ _ => famSJ fun _ _ => hnx _ _ _ _)
  | lmul => exact famAnd (famSJ fun _ _ => famSJ fun _ _ => hnx _ _ _ _)
  | land => exact famAnd (famSJ fun _ _ => famSJ fun _ _ => hnx _ _ _ _)
  | lor => exact famAnd (famSJ fun _ _ => famSJ fun _ _ => hnx _ _ _ _)
  | lshl => exact famAnd (famSI fun _ _ => famSJ fun _ _ => hnx _ _ _ _)
  | lcmp => exact famAnd (famSJ fun _ _ => famSJ fun _ _ => hnx _ _ _ _)
  | dup =>
    rcases st with _ | ⟨a, r⟩
    · exact famAnd famNo
    · exact famAnd (famAnd (hnx _ _ _ _))
  | pop =>
    rcases st with _ | ⟨a, r⟩
    · exact famAnd famNo
    · exact famAnd (famAnd (hnx _ _ _ _))
  | dup_x1 =>
    rcases st with _ | ⟨a, _ | ⟨b, r⟩⟩
    · exact famAnd famNo
    · exact famAnd famNo
    · exact famAnd (famAnd (hnx _ _ _ _))
  | dup2 =>
    rcases st with _ | ⟨a, _ | ⟨b, r⟩⟩
    · exact famAnd famNo
    · exact famAnd famNo
    · exact famAnd (famAnd (hnx _ _ _ _))
  | ifCond c off => cases c <;> exact famAnd (famSI fun _ _ => famJmp fun _ => famIte (hnx _ _ _ _) (hnx _ _ _ _))
  | if_icmp c off => cases c <;> exact famAnd (famSI fun _ _ => famSI fun _ _ => famJmp fun _ => famIte (hnx _ _ _ _) (hnx _ _ _ _))
  | goto off => exact famAnd (famJmp fun _ => hnx _ _ _ _)
  | tableswitch d lo hi os => exact famSI fun _ _ => famAnd (famSwT (fun _ => famJmp fun _ => hnx _ _ _ _) _ _)
  | lookupswitch d ps => exact famSI fun _ _ => famAnd (famSwL (fun _ => famJmp fun _ => hnx _ _ _ _) _)
  | getfield i => exact famAnd (famSR fun _ _ => famOO fun q => by cases q <;> exact hnx _ _ _ _)
  | putfield i => exact famAnd (famSI fun _ _ => famSR fun _ _ => famOO fun q => famAnd (hnx _ _ _ _))
  | getstatic i => exact famAnd (famOO fun q => hnx _ _ _ _)
  | iaload => exact famAnd (famSI fun _ _ => famSR fun _ _ => famOO fun q => famAnd (by split <;> first | exact hnx _ _ _ _ | exact famNo))
  | iastore => exact famAnd (famSI fun _ _ => famSI fun _ _ => famSR fun _ _ => famOO fun q => famAnd (hnx _ _ _ _))
  | laload => exact famAnd (famSI fun _ _ => famSR fun _ _ => famOO fun q => famAnd (hnx _ _ _ _))
  | lastore => exact famAnd (famSJ fun _ _ => famSI fun _ _ => famSR fun _ _ => famOO fun q => famAnd (hnx _ _ _ _))
  | aaload => exact famAnd (famSI fun _ _ => famSR fun _ _ => famOO fun q => famAnd (hnx _ _ _ _))
  | arraylength => exact famAnd (famSR fun _ _ => famOO fun q => hnx _ _ _ _)
  | invokevirtual i => exact famAnd (famAnd (famDoC hnx hcl))
  | invokestatic i => exact famAnd (famAnd (famDoC hnx hcl))
  | ireturn =>
    rcases st with _ | ⟨a, _ | ⟨b, r⟩⟩
    · exact famAnd famNo
    · cases a <;> first | exact famAnd famRetI | exact famAnd famNo
    · cases a <;> exact famAnd famNo
  | lreturn =>
    rcases st with _ | ⟨a, _ | ⟨b, r⟩⟩
    · exact famAnd famNo
    · cases a <;> first | exact famAnd (famAnd (famRet _ _)) | exact famAnd famNo
    · cases a <;> exact famAnd famNo
  | return_ =>
    rcases st with _ | ⟨a, r⟩
    · exact famAnd (famAnd (famRet _ _))
    · exact famAnd famNo
  | _ => exact famNo
end FAM
theorem wp_fam : ∀ (n d k pc : Nat) (L : aL) (st : List Value) (w : hW) (d' : Nat), d ≤ d' → Fam (wp d n k pc L st w) (fun m => wp d' m k pc L st w)
  | 0, _, _, _, _, _, _, _, _ => famNo
  | n + 1, d, k, pc, L, st, w, d', hd => by
    have h : Fam (fun Q => wp d (n + 1) k pc L st w Q) (fun m Q => wp d' (m + 1) k pc L st w Q) := by
      refine famOO fun q => famStI (fun pc' L' st' w' => wp_fam n d k pc' L' st' w' d' hd) (fun c L' w' => ?_)
      cases d with
      | zero => exact famNo
      | succ d1 => cases d' with
        | zero => exact absurd hd (by omega)
        | succ d2 => exact wp_fam n d1 c 0 L' [] w' d2 (by omega)
    rcases h with h | ⟨r, w2, m0, h⟩
    · exact Or.inl h
    · refine Or.inr ⟨r, w2, m0 + 1, fun Q => ⟨(h Q).1, fun m hm => ?_⟩⟩
      obtain ⟨m1, rfl⟩ : ∃ m1, m = m1 + 1 := ⟨m - 1, by omega⟩
      exact (h Q).2 m1 (by omega)
theorem Tr_fam (d k pc : Nat) (L : aL) (st : List Value) (w : hW) : Fam (Tr d k pc L st w) (fun m => wp d m k pc L st w) := by
  by_cases h : ∃ n Q, wp d n k pc L st w Q
  · obtain ⟨n, Q0, h0⟩ := h
    rcases wp_fam n d k pc L st w d (Nat.le_refl _) with h1 | ⟨r, w2, m0, h1⟩
    · exact absurd h0 (h1 Q0)
    · refine Or.inr ⟨r, w2, m0, fun Q => ⟨⟨fun ⟨n2, h2⟩ => ?_, fun hq => ⟨m0, ((h1 Q).2 m0 (Nat.le_refl _)).mpr hq⟩⟩, (h1 Q).2⟩⟩
      rcases wp_fam n2 d k pc L st w d (Nat.le_refl _) with h3 | ⟨r3, w3, m3, h3⟩
      · exact absurd h2 (h3 Q)
      · have e1 := ((h1 Q).2 (max m0 m3) (Nat.le_max_left _ _))
        have e2 := ((h3 Q).2 (max m0 m3) (Nat.le_max_right _ _))
        exact e1.mp (e2.mpr ((h3 Q).1.mp h2))
  · exact Or.inl fun Q ⟨n, hn⟩ => h ⟨n, Q, hn⟩
/-- from a state with depth d there is an end, or none: with more depth the same -/
theorem Tr_deep {d k pc : Nat} {L : aL} {st : List Value} {w : hW} {Q : aPost} (d' : Nat) (hd : d ≤ d') (h : Tr d k pc L st w Q) : Tr d' k pc L st w Q := by
  obtain ⟨n, hn⟩ := h
  rcases wp_fam n d k pc L st w d' hd with h1 | ⟨r, w2, m0, h1⟩
  · exact absurd hn (h1 Q)
  · exact ⟨m0, ((h1 Q).2 m0 (Nat.le_refl _)).mpr ((h1 Q).1.mp hn)⟩
def TrC (d c : Nat) (L : aL) (w : hW) (Q : aPost) : Prop := match d with
  | 0 => False
  | d' + 1 => Tr d' c 0 L [] w Q
/-- ONE STEP -/
theorem Tr_step (d k pc : Nat) (L : aL) (st : List Value) (w : hW) (Q : aPost) : Tr d k pc L st w Q ↔ oo (ins k pc) fun q => stI (fun pc' L' st' w' Q' => Tr d k pc' L' st' w' Q') (TrC d) Q k pc L st w q.2 q.1 := by
  constructor
  · rintro ⟨n, h⟩
    cases n with
    | zero => exact absurd h id
    | succ n =>
      have hf : Fam (fun Q => wp d (n + 1) k pc L st w Q) (fun _ Q => oo (ins k pc) fun q => stI (fun pc' L' st' w' Q' => Tr d k pc' L' st' w' Q') (TrC d) Q k pc L st w q.2 q.1) := by
        have toTr : ∀ (d n k pc : Nat) (L : aL) (st : List Value) (w : hW), Fam (wp d n k pc L st w) (fun _ => Tr d k pc L st w) := by
          intro d n k pc L st w
          rcases wp_fam n d k pc L st w d (Nat.le_refl _) with h1 | ⟨r, w2, m0, h1⟩
          · exact Or.inl h1
          · rcases Tr_fam d k pc L st w with h2 | ⟨r2, w3, m2, h2⟩
            · exact Or.inl fun Q hQ => h2 Q ⟨n, hQ⟩
            · refine Or.inr ⟨r, w2, 0, fun Q => ⟨(h1 Q).1, fun _ _ => ?_⟩⟩
              exact (h2 Q).1.trans (((h2 Q).2 (max m0 m2) (Nat.le_max_right _ _)).symm.trans ((h1 Q).2 (max m0 m2) (Nat.le_max_left _ _)))
        refine famOO fun q => famStI (fun pc' L' st' w' => toTr d n k pc' L' st' w') (fun c L' w' => ?_)
        cases d with
        | zero => exact famNo
        | succ d1 => exact toTr d1 n c 0 L' [] w'
      rcases hf with h1 | ⟨r, w2, m0, h1⟩
      · exact absurd h (h1 Q)
      · exact ((h1 Q).2 m0 (Nat.le_refl _)).mpr ((h1 Q).1.mp h)
  · intro h
    have hf : Fam (fun Q => oo (ins k pc) fun q => stI (fun pc' L' st' w' Q' => Tr d k pc' L' st' w' Q') (TrC d) Q k pc L st w q.2 q.1) (fun m Q => wp d (m + 1) k pc L st w Q) := by
      refine famOO fun q => famStI (fun pc' L' st' w' => Tr_fam d k pc' L' st' w') (fun c L' w' => ?_)
      cases d with
      | zero => exact famNo
      | succ d1 => exact Tr_fam d1 c 0 L' [] w'
    rcases hf with h1 | ⟨r, w2, m0, h1⟩
    · exact absurd h (h1 Q)
    · exact ⟨m0 + 1, ((h1 Q).2 m0 (Nat.le_refl _)).mpr ((h1 Q).1.mp h)⟩
/-- a known end is the only one -/
theorem Tr_iff {d k pc : Nat} {L : aL} {st : List Value} {w : hW} {r : Option Value} {w' : hW} (h : Tr d k pc L st w (fun v u => v = r ∧ u = w')) (Q : aPost) : Tr d k pc L st w Q ↔ Q r w' := by
  rcases Tr_fam d k pc L st w with h1 | ⟨r2, w2, m0, h1⟩
  · exact absurd h (h1 _)
  · obtain ⟨e1, e2⟩ := (h1 _).1.mp h
    rw [(h1 Q).1, e1, e2]

/-! SOUNDNESS: every step, and so every run -/
theorem ins_spec {k pc : Nat} {q : Instr × Nat} (h : ins k pc = some q) : decode (gCd k) pc = .ok q := by
  unfold ins at h
  split at h
  · rename_i q' hq
    cases h
    exact hq
  · cases h
def wpC (d n c : Nat) (L : aL) (w : hW) (Q : aPost) : Prop := match d with
  | 0 => False
  | d' + 1 => wp d' n c 0 L [] w Q
theorem wp_succ {d n k pc : Nat} {L : aL} {st : List Value} {w : hW} {Q : aPost} (h : wp d (n + 1) k pc L st w Q) : ∃ (i : Instr) (len : Nat), decode (gCd k) pc = .ok (i, len) ∧ stI (fun pc' L' st' w' Q' => wp d n k pc' L' st' w' Q') (fun c L' w' Q' => wpC d n c L' w' Q') Q k pc L st w len i := by
  obtain ⟨⟨i, len⟩, h1, h2⟩ := oo_spec (h : oo (ins k pc) _)
  exact ⟨i, len, ins_spec h1, h2⟩
set_option maxHeartbeats 8000000 in
set_option maxRecDepth 100000 in
theorem aStep {l : Launch} {D : va_G} {g : aG} {n : Nat} (ih : aSd l D g n) : aSd l D g (n + 1) := by
  intro d k hk p e s m args below meth c C Q pc L st w H locs ls hP hD hS hl hw
  obtain ⟨hx, hb, hml, hown, hts, hr, hlocks, hK, hAm⟩ := id C
  have go : ∀ {pc' : Nat} {L' : aL} {st' : List Value} {w' : hW} {H' : Heap} {locs' : List Loc} {ls' : Array Slot}, wp d n k pc' L' st' w' Q → va_P D vwCl (aWd g w') H' → va_S (aA g) s.heap H' locs' → lvR g ls' (gML k) L' → W p l e (aRm d) s m args below meth c H' locs' 0 0 (MQ below (aQc D g Q) args s 0 0 (aA g)) (F0 m pc' ls' (st'.map (cv g))) :=
    fun h hP hS hl => ih d k hk p e s m args below meth c C Q _ _ _ _ _ _ _ hP (aWd_D _ hD) hS hl h
  have hq : ∀ {r : Option Value}, Q r w → ∀ t : State, t.heap = H → aQc D g Q args s (.returned (r.map (cv g))) t := fun h t ht => ⟨⟨_, w, rfl, h, by rw [ht]; exact hP⟩, hS.F ht⟩
  obtain ⟨i, len, hdg, h⟩ := wp_succ hw
  clear hw
  cases i with
  | iconst v =>
    obtain ⟨rfl, h⟩ := h
    have t := go h hP hS hl
    exact lv_iconst hx hb hdg rfl t
  | bipush v =>
    obtain ⟨rfl, h⟩ := h
    have t := go h hP hS hl
    exact lv_bipush hx hb hdg rfl t
  | sipush v =>
    obtain ⟨rfl, h⟩ := h
    have t := go h hP hS hl
    exact lv_sipush hx hb hdg rfl t
  | lconst v =>
    obtain ⟨rfl, h⟩ := h
    have t := go h hP hS hl
    exact lv_lconst hx hb hdg rfl t
  | ldc v =>
    obtain ⟨rfl, h⟩ := h
    obtain ⟨x, hc, h⟩ := oo_spec h
    have t := go h hP hS hl
    rcases gLdc_spec hc with ⟨y, hv, hc2⟩ | ⟨j, hj, hv, e1, e2⟩
    · subst hv
      exact lv_ldc hx hb hown (hts _ (gCon_spec hc2)) hdg t
    · subst hv
      exact aLdcS C hj e1 e2 hdg t
  | ldc_w v =>
    obtain ⟨rfl, h⟩ := h
    obtain ⟨x, hc, h⟩ := oo_spec h
    have t := go h hP hS hl
    exact lv_ldcw hx hb hown (hts _ (gCon_spec hc)) hdg t
  | ldc2_w v =>
    obtain ⟨rfl, h⟩ := h
    obtain ⟨x, hc, h⟩ := oo_spec h
    have t := go h hP hS hl
    exact lv_ldc2 hx hb hown (hts _ (gCoL_spec hc)) hdg t
  | iload_n v =>
    obtain ⟨rfl, h⟩ := h
    obtain ⟨x, hc, h⟩ := ldI_spec h
    have t := go h hP hS hl
    exact lv_iload_n hx hb hdg rfl (hl.2.2.2 _ _ hc) t
  | lload_n v =>
    obtain ⟨rfl, h⟩ := h
    obtain ⟨x, hc, h⟩ := ldJ_spec h
    have t := go h hP hS hl
    exact lv_lload_n hx hb hdg rfl (hl.2.2.2 _ _ hc) t
  | aload_n v =>
    obtain ⟨rfl, h⟩ := h
    obtain ⟨x, hc, h⟩ := ldR_spec h
    have t := go h hP hS hl
    exact lv_aload_n hx hb hdg rfl (hl.2.2.2 _ _ hc) t
  | iload v =>
    obtain ⟨rfl, h⟩ := h
    obtain ⟨x, hc, h⟩ := ldI_spec h
    have t := go h hP hS hl
    exact lv_iload hx hb hdg (hl.2.2.2 _ _ hc) t
  | lload v =>
    obtain ⟨rfl, h⟩ := h
    obtain ⟨x, hc, h⟩ := ldJ_spec h
    have t := go h hP hS hl
    exact lv_lload hx hb hdg (hl.2.2.2 _ _ hc) t
  | aload v =>
    obtain ⟨rfl, h⟩ := h
    obtain ⟨x, hc, h⟩ := ldR_spec h
    have t := go h hP hS hl
    exact lv_aload hx hb hdg (hl.2.2.2 _ _ hc) t
  | istore_n v =>
    obtain ⟨rfl, h⟩ := h
    obtain ⟨x, r, hst, ho, h2⟩ := sI_spec h
    clear h; subst hst; revert h2; intro h
    exact lv_istore_n hx hb hdg rfl hl.has (by rw [← hl.2.2.1]; exact okSt_lt ho) rfl (fun ls2 h2 => go h hP hS (hl.st1 (v := .int x) ho h2))
  | istore v =>
    obtain ⟨rfl, h⟩ := h
    obtain ⟨x, r, hst, ho, h2⟩ := sI_spec h
    clear h; subst hst; revert h2; intro h
    exact lv_istore hx hb hdg hl.has (by rw [← hl.2.2.1]; exact okSt_lt ho) rfl (fun ls2 h2 => go h hP hS (hl.st1 (v := .int x) ho h2))
  | lstore v =>
    obtain ⟨rfl, h⟩ := h
    obtain ⟨x, r, hst, ⟨ho, ho2⟩, h2⟩ := sJ_spec h
    clear h; subst hst; revert h2; intro h
    exact lv_lstore hx hb hdg hl.has (by rw [← hl.2.2.1]; exact ho2) rfl (fun ls2 h2 => go h hP hS (hl.st2 (v := .long x) ho h2))
  | iinc v n =>
    obtain ⟨rfl, h⟩ := h
    obtain ⟨x, hc, ho, h⟩ := ldI_spec h
    obtain ⟨q, hq2⟩ := List.getElem?_of_mem (prs_in (g := g) hc)
    exact lv_iinc hx hb hdg hl.has hq2 rfl (by rw [← hl.2.2.1]; exact okSt_lt ho) rfl (fun ls2 h2 => go h hP hS (hl.st1 (v := .int (x + Int32.ofInt n)) ho h2))
  | iadd =>
    obtain ⟨rfl, h⟩ := h
    obtain ⟨y, r, hst, h2⟩ := sI_spec h
    clear h; subst hst; revert h2; intro h
    obtain ⟨x, r, hst, h2⟩ := sI_spec h
    clear h; subst hst; revert h2; intro h
    have t := go h hP hS hl
    exact lv_iadd hx hb hdg t
  | isub =>
    obtain ⟨rfl, h⟩ := h
    obtain ⟨y, r, hst, h2⟩ := sI_spec h
    clear h; subst hst; revert h2; intro h
    obtain ⟨x, r, hst, h2⟩ := sI_spec h
    clear h; subst hst; revert h2; intro h
    have t := go h hP hS hl
    exact lv_isub hx hb hdg t
  | imul =>
    obtain ⟨rfl, h⟩ := h
    obtain ⟨y, r, hst, h2⟩ := sI_spec h
    clear h; subst hst; revert h2; intro h
    obtain ⟨x, r, hst, h2⟩ := sI_spec h
    clear h; subst hst; revert h2; intro h
    have t := go h hP hS hl
    exact lv_imul hx hb hdg t
  | iand =>
    obtain ⟨rfl, h⟩ := h
    obtain ⟨y, r, hst, h2⟩ := sI_spec h
    clear h; subst hst; revert h2; intro h
    obtain ⟨x, r, hst, h2⟩ := sI_spec h
    clear h; subst hst; revert h2; intro h
    have t := go h hP hS hl
    exact lv_iand hx hb hdg t
  | ior =>
    obtain ⟨rfl, h⟩ := h
    obtain ⟨y, r, hst, h2⟩ := sI_spec h
    clear h; subst hst; revert h2; intro h
    obtain ⟨x, r, hst, h2⟩ := sI_spec h
    clear h; subst hst; revert h2; intro h
    have t := go h hP hS hl
    exact lv_ior hx hb hdg t
  | ixor =>
    obtain ⟨rfl, h⟩ := h
    obtain ⟨y, r, hst, h2⟩ := sI_spec h
    clear h; subst hst; revert h2; intro h
    obtain ⟨x, r, hst, h2⟩ := sI_spec h
    clear h; subst hst; revert h2; intro h
    have t := go h hP hS hl
    exact lv_ixor hx hb hdg t
  | ishl =>
    obtain ⟨rfl, h⟩ := h
    obtain ⟨y, r, hst, h2⟩ := sI_spec h
    clear h; subst hst; revert h2; intro h
    obtain ⟨x, r, hst, h2⟩ := sI_spec h
    clear h; subst hst; revert h2; intro h
    have t := go h hP hS hl
    exact lv_ishl hx hb hdg t
  | ishr =>
    obtain ⟨rfl, h⟩ := h
    obtain ⟨y, r, hst, h2⟩ := sI_spec h
    clear h; subst hst; revert h2; intro h
    obtain ⟨x, r, hst, h2⟩ := sI_spec h
    clear h; subst hst; revert h2; intro h
    have t := go h hP hS hl
    exact lv_ishr hx hb hdg t
  | idiv =>
    obtain ⟨rfl, h⟩ := h
    obtain ⟨y, r, hst, h2⟩ := sI_spec h
    clear h; subst hst; revert h2; intro h
    obtain ⟨x, r, hst, hne, h2⟩ := sI_spec h
    clear h; subst hst; revert h2; intro h
    have t := go h hP hS hl
    exact lv_idiv hx hb hdg hne t
  | irem =>
    obtain ⟨rfl, h⟩ := h
    obtain ⟨y, r, hst, h2⟩ := sI_spec h
    clear h; subst hst; revert h2; intro h
    obtain ⟨x, r, hst, hne, h2⟩ := sI_spec h
    clear h; subst hst; revert h2; intro h
    have t := go h hP hS hl
    exact lv_irem hx hb hdg hne t
  | ineg =>
    obtain ⟨rfl, h⟩ := h
    obtain ⟨x, r, hst, h2⟩ := sI_spec h
    clear h; subst hst; revert h2; intro h
    have t := go h hP hS hl
    exact lv_ineg hx hb hdg t
  | iushr =>
    obtain ⟨rfl, h⟩ := h
    obtain ⟨y, r, hst, h2⟩ := sI_spec h
    clear h; subst hst; revert h2; intro h
    obtain ⟨x, r, hst, h2⟩ := sI_spec h
    clear h; subst hst; revert h2; intro h
    have t := go h hP hS hl
    exact lv_iushr hx hb hdg rfl t
  | i2l =>
    obtain ⟨rfl, h⟩ := h
    obtain ⟨x, r, hst, h2⟩ := sI_spec h
    clear h; subst hst; revert h2; intro h
    have t := go h hP hS hl
    exact lv_i2l hx hb hdg rfl t
  | l2i =>
    obtain ⟨rfl, h⟩ := h
    obtain ⟨x, r, hst, h2⟩ := sJ_spec h
    clear h; subst hst; revert h2; intro h
    have t := go h hP hS hl
    exact lv_l2i hx hb hdg rfl t
  | i2b =>
    obtain ⟨rfl, h⟩ := h
    obtain ⟨x, r, hst, h2⟩ := sI_spec h
    clear h; subst hst; revert h2; intro h
    have t := go h hP hS hl
    exact lv_i2b hx hb hdg rfl t
  | i2s =>
    obtain ⟨rfl, h⟩ := h
    obtain ⟨x, r, hst, h2⟩ := sI_spec h
    clear h; subst hst; revert h2; intro h
    have t := go h hP hS hl
    exact lv_i2s hx hb hdg rfl t
  | ladd =>
    obtain ⟨rfl, h⟩ := h
    obtain ⟨y, r, hst, h2⟩ := sJ_spec h
    clear h; subst hst; revert h2; intro h
    obtain ⟨x, r, hst, h2⟩ := sJ_spec h
    clear h; subst hst; revert h2; intro h
    have t := go h hP hS hl
    exact lv_ladd hx hb hdg t
  | lmul =>
    obtain ⟨rfl, h⟩ := h
    obtain ⟨y, r, hst, h2⟩ := sJ_spec h
    clear h; subst hst; revert h2; intro h
    obtain ⟨x, r, hst, h2⟩ := sJ_spec h
    clear h; subst hst; revert h2; intro h
    have t := go h hP hS hl
    exact lv_lmul hx hb hdg t
  | land =>
    obtain ⟨rfl, h⟩ := h
    obtain ⟨y, r, hst, h2⟩ := sJ_spec h
    clear h; subst hst; revert h2; intro h
    obtain ⟨x, r, hst, h2⟩ := sJ_spec h
    clear h; subst hst; revert h2; intro h
    have t := go h hP hS hl
    exact lv_land hx hb hdg t
  | lor =>
    obtain ⟨rfl, h⟩ := h
    obtain ⟨y, r, hst, h2⟩ := sJ_spec h
    clear h; subst hst; revert h2; intro h
    obtain ⟨x, r, hst, h2⟩ := sJ_spec h
    clear h; subst hst; revert h2; intro h
    have t := go h hP hS hl
    exact lv_lor hx hb hdg t
  | lshl =>
    obtain ⟨rfl, h⟩ := h
    obtain ⟨y, r, hst, h2⟩ := sI_spec h
    clear h; subst hst; revert h2; intro h
    obtain ⟨x, r, hst, h2⟩ := sJ_spec h
    clear h; subst hst; revert h2; intro h
    have t := go h hP hS hl
    exact lv_lshl hx hb hdg rfl t
  | lcmp =>
    obtain ⟨rfl, h⟩ := h
    obtain ⟨y, r, hst, h2⟩ := sJ_spec h
    clear h; subst hst; revert h2; intro h
    obtain ⟨x, r, hst, h2⟩ := sJ_spec h
    clear h; subst hst; revert h2; intro h
    have t := go h hP hS hl
    exact W.lcmp hx hb hdg t
  | dup =>
    obtain ⟨rfl, h⟩ := h
    rcases st with _ | ⟨v, r⟩
    · exact False.elim h
    · obtain ⟨hc, h⟩ := h
      have t := go h hP hS hl
      exact lv_dup hx hb hdg (by rw [cv_cat]; exact hc) t
  | pop =>
    obtain ⟨rfl, h⟩ := h
    rcases st with _ | ⟨v, r⟩
    · exact False.elim h
    · obtain ⟨hc, h⟩ := h
      have t := go h hP hS hl
      exact lv_pop hx hb hdg (by rw [cv_cat]; exact hc) t
  | dup_x1 =>
    obtain ⟨rfl, h⟩ := h
    rcases st with _ | ⟨v, _ | ⟨v2, r⟩⟩
    · exact False.elim h
    · exact False.elim h
    · obtain ⟨⟨hc, hc2⟩, h⟩ := h
      have t := go h hP hS hl
      exact lv_dup_x1 hx hb hdg (by rw [cv_cat]; exact hc) (by rw [cv_cat]; exact hc2) t
  | dup2 =>
    obtain ⟨rfl, h⟩ := h
    rcases st with _ | ⟨v, _ | ⟨v2, r⟩⟩
    · exact False.elim h
    · exact False.elim h
    · obtain ⟨⟨hc, hc2⟩, h⟩ := h
      have t := go h hP hS hl
      exact lv_dup2_11 hx hb hdg (by rw [cv_cat]; exact hc) (by rw [cv_cat]; exact hc2) t
  | ifCond cd off =>
    cases cd with
    | eq =>
      obtain ⟨rfl, h⟩ := h
      obtain ⟨x, r, hst, h2⟩ := sI_spec h
      clear h; subst hst; revert h2; intro h
      obtain ⟨t, ht, h⟩ := jmp_spec h
      exact lv_if_eq hx hb hdg ht (fun c1 => by rw [if_pos c1] at h; exact go h hP hS hl) (fun c1 => by rw [if_neg c1] at h; exact go h hP hS hl)
    | ne =>
      obtain ⟨rfl, h⟩ := h
      obtain ⟨x, r, hst, h2⟩ := sI_spec h
      clear h; subst hst; revert h2; intro h
      obtain ⟨t, ht, h⟩ := jmp_spec h
      exact lv_if_ne hx hb hdg ht (fun c1 => by rw [if_neg c1] at h; exact go h hP hS hl) (fun c1 => by rw [if_pos c1] at h; exact go h hP hS hl)
    | lt =>
      obtain ⟨rfl, h⟩ := h
      obtain ⟨x, r, hst, h2⟩ := sI_spec h
      clear h; subst hst; revert h2; intro h
      obtain ⟨t, ht, h⟩ := jmp_spec h
      exact lv_if_lt hx hb hdg ht (fun c1 => by rw [if_pos c1] at h; exact go h hP hS hl) (fun c1 => by rw [if_neg c1] at h; exact go h hP hS hl)
    | ge =>
      obtain ⟨rfl, h⟩ := h
      obtain ⟨x, r, hst, h2⟩ := sI_spec h
      clear h; subst hst; revert h2; intro h
      obtain ⟨t, ht, h⟩ := jmp_spec h
      exact lv_if_ge hx hb hdg ht (fun c1 => by rw [if_neg (Int32.not_lt.mpr c1)] at h; exact go h hP hS hl) (fun c1 => by rw [if_pos (Int32.not_le.mp c1)] at h; exact go h hP hS hl)
    | gt =>
      obtain ⟨rfl, h⟩ := h
      obtain ⟨x, r, hst, h2⟩ := sI_spec h
      clear h; subst hst; revert h2; intro h
      obtain ⟨t, ht, h⟩ := jmp_spec h
      exact lv_if_gt hx hb hdg ht (fun c1 => by rw [if_pos c1] at h; exact go h hP hS hl) (fun c1 => by rw [if_neg c1] at h; exact go h hP hS hl)
    | le =>
      obtain ⟨rfl, h⟩ := h
      obtain ⟨x, r, hst, h2⟩ := sI_spec h
      clear h; subst hst; revert h2; intro h
      obtain ⟨t, ht, h⟩ := jmp_spec h
      exact lv_if_le hx hb hdg ht (fun c1 => by rw [if_neg (Int32.not_lt.mpr c1)] at h; exact go h hP hS hl) (fun c1 => by rw [if_pos (Int32.not_le.mp c1)] at h; exact go h hP hS hl)
  | if_icmp cd off =>
    cases cd with
    | eq =>
      obtain ⟨rfl, h⟩ := h
      obtain ⟨y, r, hst, h2⟩ := sI_spec h
      clear h; subst hst; revert h2; intro h
      obtain ⟨x, r, hst, h2⟩ := sI_spec h
      clear h; subst hst; revert h2; intro h
      obtain ⟨t, ht, h⟩ := jmp_spec h
      exact lv_icmp_eq hx hb hdg ht (fun c1 => by rw [if_pos c1] at h; exact go h hP hS hl) (fun c1 => by rw [if_neg c1] at h; exact go h hP hS hl)
    | ne =>
      obtain ⟨rfl, h⟩ := h
      obtain ⟨y, r, hst, h2⟩ := sI_spec h
      clear h; subst hst; revert h2; intro h
      obtain ⟨x, r, hst, h2⟩ := sI_spec h
      clear h; subst hst; revert h2; intro h
      obtain ⟨t, ht, h⟩ := jmp_spec h
      exact lv_icmp_ne hx hb hdg ht (fun c1 => by rw [if_neg c1] at h; exact go h hP hS hl) (fun c1 => by rw [if_pos c1] at h; exact go h hP hS hl)
    | lt =>
      obtain ⟨rfl, h⟩ := h
      obtain ⟨y, r, hst, h2⟩ := sI_spec h
      clear h; subst hst; revert h2; intro h
      obtain ⟨x, r, hst, h2⟩ := sI_spec h
      clear h; subst hst; revert h2; intro h
      obtain ⟨t, ht, h⟩ := jmp_spec h
      exact lv_icmp_lt hx hb hdg ht (fun c1 => by rw [if_pos c1] at h; exact go h hP hS hl) (fun c1 => by rw [if_neg c1] at h; exact go h hP hS hl)
    | ge =>
      obtain ⟨rfl, h⟩ := h
      obtain ⟨y, r, hst, h2⟩ := sI_spec h
      clear h; subst hst; revert h2; intro h
      obtain ⟨x, r, hst, h2⟩ := sI_spec h
      clear h; subst hst; revert h2; intro h
      obtain ⟨t, ht, h⟩ := jmp_spec h
      exact lv_icmp_ge hx hb hdg ht (fun c1 => by rw [if_neg (Int32.not_lt.mpr c1)] at h; exact go h hP hS hl) (fun c1 => by rw [if_pos (Int32.not_le.mp c1)] at h; exact go h hP hS hl)
    | gt =>
      obtain ⟨rfl, h⟩ := h
      obtain ⟨y, r, hst, h2⟩ := sI_spec h
      clear h; subst hst; revert h2; intro h
      obtain ⟨x, r, hst, h2⟩ := sI_spec h
      clear h; subst hst; revert h2; intro h
      obtain ⟨t, ht, h⟩ := jmp_spec h
      exact lv_icmp_gt hx hb hdg ht (fun c1 => by rw [if_pos c1] at h; exact go h hP hS hl) (fun c1 => by rw [if_neg c1] at h; exact go h hP hS hl)
    | le =>
      obtain ⟨rfl, h⟩ := h
      obtain ⟨y, r, hst, h2⟩ := sI_spec h
      clear h; subst hst; revert h2; intro h
      obtain ⟨x, r, hst, h2⟩ := sI_spec h
      clear h; subst hst; revert h2; intro h
      obtain ⟨t, ht, h⟩ := jmp_spec h
      exact lv_icmp_le hx hb hdg ht (fun c1 => by rw [if_neg (Int32.not_lt.mpr c1)] at h; exact go h hP hS hl) (fun c1 => by rw [if_pos (Int32.not_le.mp c1)] at h; exact go h hP hS hl)
  | goto off =>
    obtain ⟨rfl, h⟩ := h
    obtain ⟨t, ht, h⟩ := jmp_spec h
    exact lv_goto hx hb hdg ht (go h hP hS hl)
  | tableswitch df lo hi offs =>
    obtain ⟨x, r, hst, ⟨c1, c2, c3⟩, h2⟩ := sI_spec h
    clear h; subst hst; revert h2; intro h
    obtain ⟨s1, s2⟩ := swT_spec _ _ h c1 (by omega)
    by_cases c4 : x.toInt < lo ∨ hi < x.toInt
    · obtain ⟨t, ht, h⟩ := jmp_spec (s1 (by omega))
      exact lv_tableOut hx hb hdg c4 ht (go h hP hS hl)
    · have c5 : (x.toInt - lo).toNat < offs.toList.length := by omega
      obtain ⟨t, ht, h⟩ := jmp_spec (s2 (x.toInt - lo).toNat _ (List.getElem?_eq_getElem c5) (by omega))
      exact lv_tableIn hx hb hdg (fun z => c4 (Or.inl z)) (fun z => c4 (Or.inr z)) (by rw [← Array.getElem?_toList]; exact List.getElem?_eq_getElem c5) ht (go h hP hS hl)
  | lookupswitch df ps =>
    obtain ⟨x, r, hst, ⟨c1, c2⟩, h2⟩ := sI_spec h
    clear h; subst hst; revert h2; intro h
    obtain ⟨t, ht, h⟩ := jmp_spec (swL_spec _ h c2)
    exact lv_lookup hx hb hdg c1 rfl ht (go h hP hS hl)
  | getfield i =>
    obtain ⟨rfl, h⟩ := h
    obtain ⟨q, r, hst, h2⟩ := sR_spec h
    clear h; subst hst; revert h2; intro h
    obtain ⟨v, hv, h⟩ := oo_spec h
    refine aGet C hv hP hdg ?_
    cases v with
    | inl j => exact go h hP hS hl
    | inr j => exact go h hP hS hl
  | putfield i =>
    obtain ⟨rfl, h⟩ := h
    obtain ⟨x, r, hst, h2⟩ := sI_spec h
    clear h; subst hst; revert h2; intro h
    obtain ⟨q, r, hst, h2⟩ := sR_spec h
    clear h; subst hst; revert h2; intro h
    obtain ⟨v, hv, hx2, h⟩ := oo_spec h
    exact aPut C hv hx2 hP hD hS hdg (fun H1 locs1 b1 b2 => go h b1 b2 hl)
  | getstatic i =>
    obtain ⟨rfl, h⟩ := h
    obtain ⟨q, hv, h⟩ := oo_spec h
    have t := go h hP hS hl
    exact aStat C hv hS hdg t
  | iaload =>
    obtain ⟨rfl, h⟩ := h
    obtain ⟨i, r, hst, h2⟩ := sI_spec h
    clear h; subst hst; revert h2; intro h
    obtain ⟨q, r, hst, h2⟩ := sR_spec h
    clear h; subst hst; revert h2; intro h
    obtain ⟨⟨t1, t2⟩, hv, hin, h⟩ := oo_spec h
    dsimp only at h
    split at h
    · have t := go h hP hS hl
      exact aIald C hv hin (Or.inl ⟨rfl, rfl⟩) hP hS hdg t
    · have t := go h hP hS hl
      exact aIald C hv hin (Or.inr ⟨rfl, rfl⟩) hP hS hdg t
    · exact False.elim h
  | iastore =>
    obtain ⟨rfl, h⟩ := h
    obtain ⟨x, r, hst, h2⟩ := sI_spec h
    clear h; subst hst; revert h2; intro h
    obtain ⟨i, r, hst, h2⟩ := sI_spec h
    clear h; subst hst; revert h2; intro h
    obtain ⟨q, r, hst, h2⟩ := sR_spec h
    clear h; subst hst; revert h2; intro h
    obtain ⟨t, hv, ⟨ht, hin⟩, h⟩ := oo_spec h
    exact aIast C hv ht hin hP hD hS hdg (fun H1 locs1 b1 b2 => go h b1 b2 hl)
  | laload =>
    obtain ⟨rfl, h⟩ := h
    obtain ⟨i, r, hst, h2⟩ := sI_spec h
    clear h; subst hst; revert h2; intro h
    obtain ⟨q, r, hst, h2⟩ := sR_spec h
    clear h; subst hst; revert h2; intro h
    obtain ⟨t, hv, ⟨ht, hin⟩, h⟩ := oo_spec h
    have t9 := go h hP hS hl
    exact aLald C hv ht hin hP hdg t9
  | lastore =>
    obtain ⟨rfl, h⟩ := h
    obtain ⟨x, r, hst, h2⟩ := sJ_spec h
    clear h; subst hst; revert h2; intro h
    obtain ⟨i, r, hst, h2⟩ := sI_spec h
    clear h; subst hst; revert h2; intro h
    obtain ⟨q, r, hst, h2⟩ := sR_spec h
    clear h; subst hst; revert h2; intro h
    obtain ⟨t, hv, ⟨ht, hin⟩, h⟩ := oo_spec h
    exact aLast C hv ht hin hP hD hS hdg (fun H1 locs1 b1 b2 => go h b1 b2 hl)
  | aaload =>
    obtain ⟨rfl, h⟩ := h
    obtain ⟨i, r, hst, h2⟩ := sI_spec h
    clear h; subst hst; revert h2; intro h
    obtain ⟨q, r, hst, h2⟩ := sR_spec h
    clear h; subst hst; revert h2; intro h
    obtain ⟨t, hv, hin, h⟩ := oo_spec h
    have t9 := go h hP hS hl
    exact aAald C hv hin hP hdg t9
  | arraylength =>
    obtain ⟨rfl, h⟩ := h
    obtain ⟨q, r, hst, h2⟩ := sR_spec h
    clear h; subst hst; revert h2; intro h
    obtain ⟨t, hv, h⟩ := oo_spec h
    have t9 := go h hP hS hl
    exact aLen C hv hP hS hdg t9
  | invokevirtual i =>
    obtain ⟨rfl, h0, h⟩ := h
    rcases hc : gCall (gOw k) i with _ | ⟨kd, c2, na⟩
    · rw [hc] at h; exact False.elim h
    · rcases h0 _ hc with e0 | e0 | e0
      · have e0 : kd = 0 := e0
        subst e0
        rw [hc] at h
        obtain ⟨bs, r, hst, hn, h2⟩ := popA_spec _ _ _ h
        clear h; subst hst; revert h2; intro h
        rw [List.append_nil] at h
        obtain ⟨q, r, hst, hrc, hcat, hlen, hna, h2⟩ := sR_spec h
        clear h; subst hst; revert h2; intro h
        cases d with
        | zero => exact False.elim h
        | succ d =>
          rw [List.map_append, List.map_reverse, List.map_cons]
          refine aCallV ih C (gCall_spec hc) hP hD hS hl hrc hcat hlen hna h hdg (fun r0 w1 H1 locs1 h1 b1 b2 => ?_)
          have t := go h1 b1 b2 hl
          rw [List.map_append] at t
          cases r0 <;> exact t
      · have e0 : kd = 8 := e0
        subst e0
        rw [hc] at h
        obtain ⟨q, r, hst, h2⟩ := sR_spec h
        clear h; subst hst; revert h2; intro h
        obtain ⟨tx, ht, hcat, h⟩ := oo_spec h
        exact aSLen C (gCall_spec hc) ht hP hD hS hl hcat hdg (fun H1 locs1 b1 b2 => go h b1 b2 hl)
      · have e0 : kd = 9 := e0
        subst e0
        rw [hc] at h
        obtain ⟨x, r, hst, h2⟩ := sI_spec h
        clear h; subst hst; revert h2; intro h
        obtain ⟨q, r, hst, h2⟩ := sR_spec h
        clear h; subst hst; revert h2; intro h
        obtain ⟨tx, ht, ⟨hcat, hin⟩, h⟩ := oo_spec h
        exact aSChr C (gCall_spec hc) ht hin hP hD hS hl hcat hdg (fun H1 locs1 b1 b2 => go h b1 b2 hl)
  | invokestatic i =>
    obtain ⟨rfl, h0, h⟩ := h
    rcases hc : gCall (gOw k) i with _ | ⟨kd, c2, na⟩
    · rw [hc] at h; exact False.elim h
    · have e9 : kd < 8 := (h0 _ hc).2
      have e0 : kd ≠ 0 := (h0 _ hc).1
      obtain ⟨pp, hck⟩ := gCall_spec hc
      rw [hc] at h
      match kd, e0, e9, hck, h with
      | 0, e0, _, _, _ => exact absurd rfl e0
      | 1, _, _, hck, h =>
        obtain ⟨bs, r, hst, hn, h2⟩ := popA_spec _ _ _ h
        clear h; subst hst; revert h2; intro h
        rw [List.append_nil] at h
        obtain ⟨hcat, hlen, hna, h⟩ := h
        cases d with
        | zero => exact False.elim h
        | succ d =>
          rw [List.map_append, List.map_reverse]
          refine aCallS ih C ⟨pp, hck⟩ hP hD hS hl hcat hlen hna h hdg (fun r0 w1 H1 locs1 h1 b1 b2 => ?_)
          have t := go h1 b1 b2 hl
          rw [List.map_append] at t
          cases r0 <;> exact t
      | 2, _, _, hck, h => exact False.elim h
      | 3, _, _, hck, h =>
        obtain ⟨bs, r, hst, hn, h2⟩ := popA_spec _ _ _ h
        clear h; subst hst; revert h2; intro h
        rw [List.append_nil] at h
        obtain ⟨hcat, hlen, hna, h⟩ := h
        cases d with
        | zero => exact False.elim h
        | succ d =>
          rw [List.map_append, List.map_reverse]
          refine aCallN ih C ⟨pp, hck⟩ hP hD hS hl hcat hlen hna h hdg (fun r0 w1 H1 locs1 h1 b1 b2 => ?_)
          have t := go h1 b1 b2 hl
          rw [List.map_append] at t
          cases r0 <;> exact t
      | 4, _, _, hck, h =>
        obtain ⟨y, r, hst, h2⟩ := sI_spec h
        clear h; subst hst; revert h2; intro h
        obtain ⟨x, r, hst, hcat, h2⟩ := sI_spec h
        clear h; subst hst; revert h2; intro h
        have t := go h hP hS hl
        exact va_mmin hx hb (by rw [hml]; exact hl.1.symm) hown (hts _ (gIs_in (w := .methodLink (gCn (gOw k)) i Lib.Math.min.name) hck)) (hts _ TW_smin) (hts _ TW_imath) (hts _ TW_cmin) (by show 1 ≤ d + 5; omega) (by rw [catS_sum]; show _ ≤ 100 * (d + 5); omega) (Nat.le_refl _) (Nat.le_refl _) hdg t
      | 5, _, _, hck, h =>
        obtain ⟨y, r, hst, h2⟩ := sI_spec h
        clear h; subst hst; revert h2; intro h
        obtain ⟨x, r, hst, hcat, h2⟩ := sI_spec h
        clear h; subst hst; revert h2; intro h
        have t := go h hP hS hl
        exact va_mmax hx hb (by rw [hml]; exact hl.1.symm) hown (hts _ (gIs_in (w := .methodLink (gCn (gOw k)) i Lib.Math.max.name) hck)) (hts _ TW_smax) (hts _ TW_imath) (hts _ TW_cmax) (by show 1 ≤ d + 5; omega) (by rw [catS_sum]; show _ ≤ 100 * (d + 5); omega) (Nat.le_refl _) (Nat.le_refl _) hdg t
      | 6, _, _, hck, h =>
        obtain ⟨x, r, hst, hcat, h2⟩ := sI_spec h
        clear h; subst hst; revert h2; intro h
        have t := go h hP hS hl
        exact va_mabs hx hb (by rw [hml]; exact hl.1.symm) hown (hts _ (gIs_in (w := .methodLink (gCn (gOw k)) i Lib.Math.abs.name) hck)) (hts _ TW_sabs) (hts _ TW_imath) (hts _ TW_cabs) (by show 1 ≤ d + 5; omega) (by rw [catS_sum]; show _ ≤ 100 * (d + 5); omega) (Nat.le_refl _) (Nat.le_refl _) hdg t
      | 7, _, _, hck, h =>
        obtain ⟨n1, r, hst, h2⟩ := sI_spec h
        clear h; subst hst; revert h2; intro h
        obtain ⟨dp, r, hst, h2⟩ := sI_spec h
        clear h; subst hst; revert h2; intro h
        obtain ⟨q1, r, hst, h2⟩ := sR_spec h
        clear h; subst hst; revert h2; intro h
        obtain ⟨sp, r, hst, h2⟩ := sI_spec h
        clear h; subst hst; revert h2; intro h
        obtain ⟨q0, r, hst, hcat, h2⟩ := sR_spec h
        clear h; subst hst; revert h2; intro h
        exact aCpy C ⟨na, c2, pp, hck⟩ hP hD hS hl hcat h hdg (fun w1 H1 locs1 h1 b1 b2 => go h1 b1 b2 hl)
      | kd + 8, _, e9, hck, h => exact absurd e9 (by omega)
  | ireturn =>
    obtain ⟨rfl, h⟩ := h
    rcases st with _ | ⟨v, _ | ⟨v2, r⟩⟩
    · exact False.elim h
    · cases v with
      | int x =>
        have h : retI k x Q w := h
        unfold retI at h
        split at h
        · rename_i hrt
          exact W.iret hx hb (hr.trans hrt) (fun t ht _ => hq h t ht) hS.2.2 hdg hlocks
        · rename_i hrt
          have hn : narrow .boolean (.int x) = .int x := by rcases h.1 with rfl | rfl <;> rfl
          exact W.zret hx hb (hr.trans hrt) hn (fun t ht _ => hq h.2 t ht) hS.2.2 hdg hlocks
        · exact False.elim h
      | _ => exact False.elim h
    · cases v <;> exact False.elim h
  | lreturn =>
    obtain ⟨rfl, h⟩ := h
    rcases st with _ | ⟨v, _ | ⟨v2, r⟩⟩
    · exact False.elim h
    · cases v with
      | long x => exact W.lret hx hb (hr.trans h.1) (fun t ht _ => hq h.2 t ht) hS.2.2 hdg hlocks
      | _ => exact False.elim h
    · cases v <;> exact False.elim h
  | return_ =>
    obtain ⟨rfl, h⟩ := h
    rcases st with _ | ⟨v, r⟩
    · exact W.vret hx hb (hr.trans h.1) (fun t ht _ => hq h.2 t ht) hS.2.2 hdg hlocks
    · exact False.elim h
  | _ => exact False.elim h
theorem aAll (l : Launch) (D : va_G) (g : aG) : ∀ n : Nat, aSd l D g n
  | 0 => fun _ _ _ _ _ _ _ _ _ _ _ _ _ _ _ _ _ _ _ _ _ _ _ _ h => False.elim h
  | n + 1 => aStep (aAll l D g n)
/-- A METHOD'S CONTRACT out of the abstract machine -/
theorem aMet {l : Launch} {D : va_G} {g : aG} {d k : Nat} (hk : k < 247) {as : List Value} {w : hW} {Q : aPost} (hlen : (spv as).length ≤ gML k) (hw : Tr d k 0 (padL (gML k) (spv as)) [] w Q) : Met l (gY k) (.code (gY k) (gCd k) (gML k) (gRt k) :: TW) (aRm d) (va_Pc (as.map (cv g)) (aPre D g w)) (aQc D g Q) 0 0 (aA g) := by
  obtain ⟨n, hn⟩ := hw
  exact aMetOf (aAll l D g n) hk hlen hn

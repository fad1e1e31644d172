/-! THE TWO SIDES ALIKE: handovers: the farthest but the last one, and the best that each could have come to -/
section
variable {p u p' u' : hW} {b : Nat}
theorem fb_p {F : Nat → Int32} {had : Int32} : ∀ (m i : Nat) (best most : Int32), (fbL F had i m best most = best ∧ ∀ j, i ≤ j → j < i + m → nI j ≠ had → (F j).toInt ≤ most.toInt) ∨ ∃ j, i ≤ j ∧ j < i + m ∧ fbL F had i m best most = nI j ∧ nI j ≠ had ∧ most.toInt < (F j).toInt ∧ ∀ k, i ≤ k → k < i + m → nI k ≠ had → (F k).toInt ≤ (F j).toInt
  | 0, i, best, most => Or.inl ⟨rfl, fun j h1 h2 => by omega⟩
  | m + 1, i, best, most => by
    unfold fbL
    by_cases c : nI i = had
    · rw [if_pos c]
      rcases fb_p m (i + 1) best most with ⟨a1, a2⟩ | ⟨j, a1, a2, a3, a4, a5, a6⟩
      · refine Or.inl ⟨a1, fun j h1 h2 h3 => ?_⟩
        by_cases e : j = i
        · exact absurd (by rw [e]; exact c) h3
        · exact a2 j (by omega) (by omega) h3
      · refine Or.inr ⟨j, by omega, by omega, a3, a4, a5, fun k h1 h2 h3 => ?_⟩
        by_cases e : k = i
        · exact absurd (by rw [e]; exact c) h3
        · exact a6 k (by omega) (by omega) h3
    · rw [if_neg c]
      by_cases c2 : most < F i
      · rw [if_pos c2]
        rw [i32_lt] at c2
        rcases fb_p m (i + 1) (nI i) (F i) with ⟨a1, a2⟩ | ⟨j, a1, a2, a3, a4, a5, a6⟩
        · refine Or.inr ⟨i, by omega, by omega, a1, c, c2, fun k h1 h2 h3 => ?_⟩
          by_cases e : k = i
          · rw [e]; exact Int.le_refl _
          · exact a2 k (by omega) (by omega) h3
        · refine Or.inr ⟨j, by omega, by omega, a3, a4, by omega, fun k h1 h2 h3 => ?_⟩
          by_cases e : k = i
          · rw [e]; omega
          · exact a6 k (by omega) (by omega) h3
      · rw [if_neg c2]
        rw [i32_lt] at c2
        rcases fb_p m (i + 1) best most with ⟨a1, a2⟩ | ⟨j, a1, a2, a3, a4, a5, a6⟩
        · refine Or.inl ⟨a1, fun j h1 h2 h3 => ?_⟩
          by_cases e : j = i
          · rw [e]; omega
          · exact a2 j (by omega) (by omega) h3
        · refine Or.inr ⟨j, by omega, by omega, a3, a4, a5, fun k h1 h2 h3 => ?_⟩
          by_cases e : k = i
          · rw [e]; omega
          · exact a6 k (by omega) (by omega) h3
theorem fb_c {F F' : Nat → Int32} {had : Int32} : ∀ (m i : Nat) (best most : Int32), (∀ j, i ≤ j → j < i + m → F j = F' j) → fbL F had i m best most = fbL F' had i m best most
  | 0, _, _, _, _ => rfl
  | m + 1, i, best, most, h => by
    unfold fbL
    rw [h i (by omega) (by omega), fb_c m (i + 1) _ _ (fun j h1 h2 => h j (by omega) (by omega)), fb_c m (i + 1) _ _ (fun j h1 h2 => h j (by omega) (by omega))]
theorem fc_c {F F' : Nat → Int32} {n : Nat} {to : Int32} (h8 : n ≤ 8) (h : ∀ j, j < n → F j = F' j) : ∀ (m c : Nat) (x had : Int32), fcL F n to c m x had = fcL F' n to c m x had
  | 0, _, _, _ => rfl
  | m + 1, c, x, had => by
    unfold fcL
    rw [fb_c (F := F) (F' := F') n 0 _ _ (fun j _ h2 => h j (by omega))]
    rcases fb_p (F := F') (had := had) n 0 (-1) 0 with ⟨a1, -⟩ | ⟨j, a1, a2, a3, -⟩
    · rw [a1, if_pos rfl, if_pos rfl]
    · have nn : nI j ≠ -1 := by rw [Ne, i32_eq, nI_toInt (by omega), i32_m1]; omega
      rw [a3, if_neg nn, if_neg nn, nI_cl (by omega), h j (by omega), fc_c h8 h m (c + 1)]
theorem hoI_p {V : Nat → Int32} {f : Int32} {m : Nat} (hf : 0 ≤ f.toInt ∧ f.toInt ≤ 99) : ∀ (r l : Nat) (q : Int32), (∀ l', l ≤ l' → l' < l + r → -1 ≤ (V l').toInt ∧ (V l').toInt ≤ 1000) → q.toInt ≤ (hoI V f m l r q).toInt ∧ (∀ l', l ≤ l' → l' < l + r → l' ≠ m → V l' ≠ -1 → (V l').toInt + f.toInt ≤ (hoI V f m l r q).toInt) ∧ (hoI V f m l r q = q ∨ ∃ l', l ≤ l' ∧ l' < l + r ∧ l' ≠ m ∧ V l' ≠ -1 ∧ (hoI V f m l r q).toInt = (V l').toInt + f.toInt)
  | 0, l, q, _ => ⟨Int.le_refl _, fun l' h1 h2 => by omega, Or.inl rfl⟩
  | r + 1, l, q, h => by
    unfold hoI
    have h' : ∀ l', l + 1 ≤ l' → l' < l + 1 + r → -1 ≤ (V l').toInt ∧ (V l').toInt ≤ 1000 := fun l' h1 h2 => h l' (by omega) (by omega)
    have hl := h l (by omega) (by omega)
    have ad := i32_add (a := V l) (b := f) (by omega) (by omega)
    have skip : ((l = m ∨ V l = -1 ∨ (V l).toInt + f.toInt ≤ q.toInt)) → q.toInt ≤ (hoI V f m (l + 1) r q).toInt ∧ (∀ l', l ≤ l' → l' < l + (r + 1) → l' ≠ m → V l' ≠ -1 → (V l').toInt + f.toInt ≤ (hoI V f m (l + 1) r q).toInt) ∧ (hoI V f m (l + 1) r q = q ∨ ∃ l', l ≤ l' ∧ l' < l + (r + 1) ∧ l' ≠ m ∧ V l' ≠ -1 ∧ (hoI V f m (l + 1) r q).toInt = (V l').toInt + f.toInt) := by
      intro hs
      obtain ⟨a1, a2, a3⟩ := hoI_p (m := m) hf r (l + 1) q h'
      refine ⟨a1, fun l' h1 h2 h3 h4 => ?_, ?_⟩
      · by_cases e : l' = l
        · rcases hs with hs | hs | hs
          · exact absurd (e.trans hs) h3
          · exact absurd (by rw [e]; exact hs) h4
          · rw [e]; omega
        · exact a2 l' (by omega) (by omega) h3 h4
      · rcases a3 with a3 | ⟨l', b1, b2, b3, b4, b5⟩
        · exact Or.inl a3
        · exact Or.inr ⟨l', by omega, by omega, b3, b4, b5⟩
    by_cases c1 : l = m
    · rw [if_pos c1]
      exact skip (Or.inl c1)
    · rw [if_neg c1]
      by_cases c2 : V l = -1
      · rw [if_pos c2]
        exact skip (Or.inr (Or.inl c2))
      · rw [if_neg c2]
        by_cases c3 : q < V l + f
        · rw [if_pos c3]
          rw [i32_lt, ad] at c3
          obtain ⟨a1, a2, a3⟩ := hoI_p (m := m) hf r (l + 1) (V l + f) h'
          rw [ad] at a1
          refine ⟨by omega, fun l' h1 h2 h3 h4 => ?_, ?_⟩
          · by_cases e : l' = l
            · rw [e]; exact a1
            · exact a2 l' (by omega) (by omega) h3 h4
          · rcases a3 with a3 | ⟨l', b1, b2, b3, b4, b5⟩
            · exact Or.inr ⟨l, by omega, by omega, c1, c2, by rw [a3, ad]⟩
            · exact Or.inr ⟨l', by omega, by omega, b3, b4, b5⟩
        · rw [if_neg c3]
          rw [i32_lt, ad] at c3
          exact skip (Or.inr (Or.inr (by omega)))
/-- what the model's round finds -/
def hoT (F : Nat → Int32) (V : Nat → Int32) (n : Nat) (j : Nat) : Int32 := if j < n ∧ F j ≠ 0 then hoI V (F j) j 0 9 (-1) else -1
theorem hoM_p {F : Nat → Int32} {to : Int32} {V : Nat → Int32} {n : Nat} (h8 : n ≤ 8) : ∀ (r m : Nat) (T : Nat → Int32), m + r = n → (∀ j, j < 9 → T j = if j < m then hoT F V n j else -1) → ((∀ j, m ≤ j → j < n → hoT F V n j < to) → (-1 : Int32) < to → (hoM F to V m r T).1 = false ∧ ∀ j, j < 9 → (hoM F to V m r T).2 j = hoT F V n j) ∧ ((∃ j, m ≤ j ∧ j < n ∧ F j ≠ 0 ∧ ¬ hoT F V n j < to) → (hoM F to V m r T).1 = true)
  | 0, m, T, hm, hT => by
    refine ⟨fun _ _ => ⟨rfl, fun j hj => ?_⟩, fun ⟨j, h1, h2, _⟩ => by omega⟩
    show T j = _
    rw [hT j hj]
    by_cases c : j < m
    · rw [if_pos c]
    · rw [if_neg c]
      unfold hoT
      rw [if_neg (by omega)]
  | r + 1, m, T, hm, hT => by
    unfold hoM
    have tm : T m = -1 := by rw [hT m (by omega), if_neg (by omega)]
    by_cases c : F m = 0
    · rw [if_pos c]
      have e : hoT F V n m = -1 := by unfold hoT; rw [if_neg (fun e => e.2 c)]
      obtain ⟨a1, a2⟩ := hoM_p (F := F) (to := to) (V := V) h8 r (m + 1) T (by omega) (fun j hj => by
        rw [hT j hj]
        by_cases c1 : j < m
        · rw [if_pos c1, if_pos (by omega)]
        · rw [if_neg c1]
          by_cases c2 : j = m
          · rw [if_pos (by omega), c2, e]
          · rw [if_neg (by omega)])
      refine ⟨fun h1 h2 => a1 (fun j h3 h4 => h1 j (by omega) h4) h2, fun ⟨j, h1, h2, h3, h4⟩ => a2 ⟨j, ?_, h2, h3, h4⟩⟩
      have : j ≠ m := fun ej => h3 (by rw [ej]; exact c)
      omega
    · rw [if_neg c, tm]
      have e : hoT F V n m = hoI V (F m) m 0 9 (-1) := by unfold hoT; rw [if_pos ⟨by omega, c⟩]
      rw [← e]
      by_cases c2 : hoT F V n m < to
      · rw [if_pos c2]
        obtain ⟨a1, a2⟩ := hoM_p (F := F) (to := to) (V := V) h8 r (m + 1) (upd T m (hoT F V n m)) (by omega) (fun j hj => by
          by_cases c1 : j = m
          · rw [c1, upd_s, if_pos (by omega)]
          · rw [upd_o c1, hT j hj]
            by_cases c3 : j < m
            · rw [if_pos c3, if_pos (by omega)]
            · rw [if_neg c3, if_neg (by omega)])
        refine ⟨fun h1 h2 => a1 (fun j h3 h4 => h1 j (by omega) h4) h2, fun ⟨j, h1, h2, h3, h4⟩ => a2 ⟨j, ?_, h2, h3, h4⟩⟩
        have : j ≠ m := fun ej => h4 (by rw [ej]; exact c2)
        omega
      · rw [if_neg c2]
        exact ⟨fun h1 _ => absurd (h1 m (by omega) (by omega)) c2, fun _ => rfl⟩
theorem hoK_1 {F : Nat → Int32} {to : Int32} {n r k : Nat} {V T : Nat → Int32} (h : (hoM F to V 0 n (lo9 (fun _ => -1) T)).1 = true) : (hoK F to n (r + 1) k V T).1 = some k := by
  unfold hoK
  rw [if_pos h]
theorem hoK_0 {F : Nat → Int32} {to : Int32} {n r k : Nat} {V T : Nat → Int32} (h : (hoM F to V 0 n (lo9 (fun _ => -1) T)).1 = false) : (hoK F to n (r + 1) k V T).1 = (hoK F to n r (k + 1) (lo9 (hoM F to V 0 n (lo9 (fun _ => -1) T)).2 V) (hoM F to V 0 n (lo9 (fun _ => -1) T)).2).1 := by
  conv => lhs; unfold hoK
  rw [if_neg (by rw [h]; decide)]
theorem hoM_r {F : Nat → Int32} {to : Int32} {V T : Nat → Int32} {n : Nat} (h8 : n ≤ 8) : ((∀ j, j < n → hoT F V n j < to) → (-1 : Int32) < to → (hoM F to V 0 n (lo9 (fun _ => -1) T)).1 = false ∧ ∀ j, j < 9 → (hoM F to V 0 n (lo9 (fun _ => -1) T)).2 j = hoT F V n j) ∧ ((∃ j, j < n ∧ F j ≠ 0 ∧ ¬ hoT F V n j < to) → (hoM F to V 0 n (lo9 (fun _ => -1) T)).1 = true) := by
  obtain ⟨a1, a2⟩ := hoM_p (F := F) (to := to) (V := V) (n := n) h8 n 0 (lo9 (fun _ => -1) T) (by omega) (fun j hj => by
    rw [if_neg (by omega)]
    unfold lo9
    rw [if_pos hj])
  exact ⟨fun h1 h2 => a1 (fun j _ h3 => h1 j h3) h2, fun ⟨j, h1, h2, h3⟩ => a2 ⟨j, by omega, h1, h2, h3⟩⟩
theorem hoT_p {F : Nat → Int32} {V : Nat → Int32} {n : Nat} {j : Nat} (hF : ∀ i, i < n → 0 ≤ (F i).toInt ∧ (F i).toInt ≤ 99) (hV : ∀ l, l < 9 → -1 ≤ (V l).toInt ∧ (V l).toInt ≤ 1000) : hoT F V n j = -1 ∨ (j < n ∧ F j ≠ 0 ∧ ∃ l, l < 9 ∧ l ≠ j ∧ V l ≠ -1 ∧ (hoT F V n j).toInt = (V l).toInt + (F j).toInt) := by
  unfold hoT
  by_cases c : j < n ∧ F j ≠ 0
  · rw [if_pos c]
    obtain ⟨-, -, a3⟩ := hoI_p (V := V) (m := j) (hF j c.1) 9 0 (-1) (fun l' _ h2 => hV l' (by omega))
    rcases a3 with a3 | ⟨l', b1, b2, b3, b4, b5⟩
    · exact Or.inl a3
    · exact Or.inr ⟨c.1, c.2, l', by omega, b3, b4, b5⟩
  · rw [if_neg c]
    exact Or.inl rfl
theorem hoT_ge {F : Nat → Int32} {V : Nat → Int32} {n j l : Nat} (hF : ∀ i, i < n → 0 ≤ (F i).toInt ∧ (F i).toInt ≤ 99) (hV : ∀ l, l < 9 → -1 ≤ (V l).toInt ∧ (V l).toInt ≤ 1000) (hj : j < n) (hj0 : F j ≠ 0) (hl : l < 9) (hlj : l ≠ j) (hl1 : V l ≠ -1) : (V l).toInt + (F j).toInt ≤ (hoT F V n j).toInt := by
  unfold hoT
  rw [if_pos ⟨hj, hj0⟩]
  exact (hoI_p (V := V) (m := j) (hF j hj) 9 0 (-1) (fun l' _ h2 => hV l' (by omega))).2.1 l (by omega) (by omega) hlj hl1
theorem lo9_l {f g : Nat → Int32} {l : Nat} (h : l < 9) : lo9 f g l = f l := by
  unfold lo9
  rw [if_pos h]
/-- nobody else carries: nothing more is reached -/
theorem ho_z {F : Nat → Int32} {to x : Int32} {n h : Nat} (h8 : n ≤ 8) (hF : ∀ i, i < n → 0 ≤ (F i).toInt ∧ (F i).toInt ≤ 99) (hz : ∀ j, j < n → j ≠ h → F j = 0) (hx : 0 ≤ x.toInt ∧ x.toInt < to.toInt) (hto : to.toInt ≤ 99) : ∀ (r k : Nat) (V T : Nat → Int32), (∀ l, l < 9 → -1 ≤ (V l).toInt ∧ (V l).toInt ≤ 1000) → (∀ l, l < 9 → l ≠ h → V l ≠ -1 → h < n → (V l).toInt + (F h).toInt ≤ x.toInt) → (hoK F to n r k V T).1 = none
  | 0, _, _, _, _, _ => rfl
  | r + 1, k, V, T, hV, hc => by
    have m1 : (-1 : Int32) < to := by rw [i32_lt, i32_m1]; omega
    have ht : ∀ j, hoT F V n j = -1 ∨ (j = h ∧ (hoT F V n j).toInt ≤ x.toInt ∧ 0 ≤ (hoT F V n j).toInt + 1) := fun j => by
      rcases hoT_p (j := j) hF hV with e | ⟨a1, a2, l, b1, b2, b3, b4⟩
      · exact Or.inl e
      · have ej : j = h := by
          rcases Nat.lt_trichotomy j h with e | e | e
          · exact absurd (hz j a1 (by omega)) a2
          · exact e
          · exact absurd (hz j a1 (by omega)) a2
        refine Or.inr ⟨ej, ?_, ?_⟩
        · rw [b4, ej]
          exact hc l b1 (by omega) b3 (by omega)
        · have := hV l b1
          have := hF j a1
          rw [b4]
          omega
    have hlt : ∀ j, j < n → hoT F V n j < to := fun j _ => by
      rcases ht j with e | ⟨-, e, -⟩
      · rw [e]; exact m1
      · rw [i32_lt]; omega
    obtain ⟨f1, f2⟩ := (hoM_r (T := T) h8).1 hlt m1
    rw [hoK_0 f1]
    refine ho_z h8 hF hz hx hto r (k + 1) _ _ (fun l hl => ?_) (fun l hl hlh hl1 => ?_)
    · rw [lo9_l hl, f2 l hl]
      rcases ht l with e | ⟨-, e, e2⟩
      · rw [e, i32_m1]; omega
      · omega
    · rw [lo9_l hl, f2 l hl] at hl1
      rcases ht l with e | ⟨e, -⟩
      · exact absurd e hl1
      · exact absurd e hlh
theorem ho_m {F : Nat → Int32} {to : Int32} {n : Nat} (h8 : n ≤ 8) (hF : ∀ i, i < n → 0 ≤ (F i).toInt ∧ (F i).toInt ≤ 99) (hto : to.toInt ≤ 99) : ∀ (r k : Nat) (V T : Nat → Int32) (x had : Int32) (h : Nat), h < 9 → (∀ j, j < n → (nI j = had ↔ j = h)) → 0 ≤ x.toInt → x.toInt < to.toInt → V h = x → (∀ l, l < 9 → -1 ≤ (V l).toInt ∧ (V l).toInt ≤ x.toInt) → (∀ l, l < 9 → l ≠ h → V l ≠ -1 → h < n → ((V l).toInt + (F h).toInt ≤ x.toInt ∨ ∃ c, c < n ∧ c ≠ h ∧ (V l).toInt + (F h).toInt ≤ x.toInt + (F c).toInt)) → oI (hoK F to n r k V T).1 = fcL F n to k r x had
  | 0, _, _, _, _, _, _, _, _, _, _, _, _, _ => rfl
  | r + 1, k, V, T, x, had, h, h9, hh, x0, x1, hVh, hV, hc => by
    have m1 : (-1 : Int32) < to := by rw [i32_lt, i32_m1]; omega
    have hV' : ∀ l, l < 9 → -1 ≤ (V l).toInt ∧ (V l).toInt ≤ 1000 := fun l hl => by have := hV l hl; omega
    unfold fcL
    rcases fb_p (F := F) (had := had) n 0 (-1) 0 with ⟨a1, a2⟩ | ⟨j, a1, a2, a3, a4, a5, a6⟩
    · rw [a1, if_pos rfl]
      have hz : ∀ j, j < n → j ≠ h → F j = 0 := fun j hj hjh => by
        have g := a2 j (by omega) (by omega) (fun e => hjh ((hh j hj).mp e))
        have := hF j hj
        rw [i32_0] at g
        rw [i32_eq, i32_0]
        omega
      rw [ho_z h8 hF hz ⟨x0, x1⟩ hto (r + 1) k V T hV' (fun l hl hlh hl1 hn => by
        rcases hc l hl hlh hl1 hn with g | ⟨c, c1, c2, g⟩
        · exact g
        · rw [hz c c1 c2, i32_0] at g
          omega)]
      rfl
    · have nn : nI j ≠ -1 := by rw [Ne, i32_eq, nI_toInt (by omega), i32_m1]; omega
      have jn : j < n := by omega
      have jh : j ≠ h := fun e => a4 ((hh j jn).mpr e)
      have Fj := hF j jn
      rw [i32_0] at a5
      have Fj0 : F j ≠ 0 := fun e => by rw [e, i32_0] at a5; omega
      have ad := i32_add (a := x) (b := F j) (by omega) (by omega)
      rw [a3, if_neg nn, nI_cl (by omega)]
      have Vh1 : V h ≠ -1 := fun e => by rw [hVh] at e; rw [e, i32_m1] at x0; omega
      -- the best reaches just as far
      have tj : (x.toInt + (F j).toInt) ≤ (hoT F V n j).toInt := by
        have := hoT_ge hF hV' jn Fj0 h9 (Ne.symm jh) Vh1
        rw [hVh] at this
        exact this
      have tle : ∀ i, (hoT F V n i).toInt ≤ x.toInt + (F j).toInt := fun i => by
        rcases hoT_p (j := i) hF hV' with e | ⟨b1, b2, l, c1, c2, c3, c4⟩
        · rw [e, i32_m1]; omega
        · rw [c4]
          by_cases ei : i = h
          · subst ei
            rcases hc l c1 c2 c3 b1 with g | ⟨c, d1, d2, g⟩
            · omega
            · have := a6 c (by omega) (by omega) (fun e => d2 ((hh c d1).mp e))
              omega
          · have := a6 i (by omega) (by omega) (fun e => ei ((hh i b1).mp e))
            have := hV l c1
            omega
      by_cases c : x + F j < to
      · rw [if_pos c]
        rw [i32_lt, ad] at c
        have hlt : ∀ i, i < n → hoT F V n i < to := fun i _ => by rw [i32_lt]; have := tle i; omega
        obtain ⟨f1, f2⟩ := (hoM_r (T := T) h8).1 hlt m1
        rw [hoK_0 f1]
        have tge : ∀ i, -1 ≤ (hoT F V n i).toInt := fun i => by
          rcases hoT_p (j := i) hF hV' with e | ⟨b1, b2, l, c1, c2, c3, c4⟩
          · rw [e, i32_m1]; omega
          · have := hV l c1
            have := hF i b1
            rw [c4]
            omega
        refine ho_m h8 hF hto r (k + 1) _ _ (x + F j) (nI j) j (by omega) (fun i hi => ⟨fun e => (nI_e (by omega) (by omega)).mp e, fun e => by rw [e]⟩) (by rw [ad]; omega) (by rw [ad]; omega) ?_ (fun l hl => ?_) (fun l hl hlj hl1 _ => ?_)
        · rw [lo9_l (by omega), f2 j (by omega), i32_eq, ad]
          have := tle j
          omega
        · rw [lo9_l hl, f2 l hl, ad]
          exact ⟨tge l, tle l⟩
        · rw [lo9_l hl, f2 l hl] at hl1 ⊢
          rcases hoT_p (j := l) hF hV' with e | ⟨b1, b2, l', c1, c2, c3, c4⟩
          · exact absurd e hl1
          · refine Or.inr ⟨l, b1, hlj, ?_⟩
            have := hV l' c1
            rw [c4, ad]
            omega
      · rw [if_neg c]
        rw [i32_lt, ad] at c
        have f1 := (hoM_r (F := F) (to := to) (V := V) (T := T) h8).2 ⟨j, jn, Fj0, by rw [i32_lt]; omega⟩
        rw [hoK_1 f1]
        rfl
theorem sim_handovers (h : R p u) {t to : Int32} : Sim p u (xHandovers p t to) (mHan u t to) := by
  unfold xHandovers mHan xNoT
  rw [hasT h.1]
  by_cases ht : mThing u t = true
  · rw [if_pos ht, if_pos ht, show vOn p 2 t to = mOn u t to from on_m h.1 ht]
    by_cases ho : mOn u t to = true
    · rw [if_pos ho, if_pos ho]
      obtain ⟨d1, d2, d3⟩ := mOn_D (R_mI h) (Ok_mV h.2.1) ht ho
      have n8 := mN_8 h
      have l3 := h.2.1.1.2.2.2.1.2
      have q1 := d1.2.1
      have l3' : (u.1 45 3).toInt ≤ 99 := l3
      have ht2 := ht
      rw [← hasT h.1] at ht2
      have c4 : tCell p 3 t 4 = u.1 51 t.toNatClampNeg := vT4 h.1 ht2
      have es : vStep p 2 t = u.1 50 t.toNatClampNeg := step_m h.1 ht
      have en : (p.1 5 3).toInt.toNat = mN u := by
        have e1 : p.1 5 3 = u.1 45 1 := h.1.2.2.1
        rw [e1]
        rfl
      have hfe : ∀ j, j < mN u → hoF u t j = (rMeas p t).1 38 j := fun j hj => by
        rw [F_m h ht (f := fun _ => 0) j hj]
        unfold mMeasF hoF
        rw [if_pos hj]
      have hT := (Ok_T h.2.1 ht).2.2.2.2.1
      have e : fcL ((rMeas p t).1 38) (mN u) to 1 99 (u.1 50 t.toNatClampNeg) (u.1 51 t.toNatClampNeg) = oI (hoK (hoF u t) to (mN u) 99 1 (hoV u t) (u.1 72)).1 := by
        rw [← fc_c n8.1 hfe]
        have hst := (Ok_T h.2.1 ht).2.2.2.1
        have x0 := hst.1
        have hb : ∀ i, i < mN u → 0 ≤ (hoF u t i).toInt ∧ (hoF u t i).toInt ≤ 99 := fun i hi => by rw [hfe i hi]; exact F_b h ht i (by omega)
        have hV : ∀ (k : Nat), k < 9 → (if u.1 51 t.toNatClampNeg = -1 then 8 else (u.1 51 t.toNatClampNeg).toNatClampNeg) = k → ∀ l, l < 9 → hoV u t l = if l = k then u.1 50 t.toNatClampNeg else -1 := fun k hk ek l hl => by
          unfold hoV
          rw [ek]
          by_cases el : l = k
          · rw [el, upd_s, if_pos rfl]
          · rw [upd_o el, if_neg el]
            unfold lo9
            rw [if_pos hl]
        have main : ∀ (k : Nat), k < 9 → (if u.1 51 t.toNatClampNeg = -1 then 8 else (u.1 51 t.toNatClampNeg).toNatClampNeg) = k → (∀ j, j < mN u → (nI j = u.1 51 t.toNatClampNeg ↔ j = k)) → oI (hoK (hoF u t) to (mN u) 99 1 (hoV u t) (u.1 72)).1 = fcL (hoF u t) (mN u) to 1 99 (u.1 50 t.toNatClampNeg) (u.1 51 t.toNatClampNeg) := fun k hk ek hj => by
          have hv := hV k hk ek
          refine ho_m n8.1 hb (by omega) 99 1 (hoV u t) (u.1 72) (u.1 50 t.toNatClampNeg) (u.1 51 t.toNatClampNeg) k hk hj x0 d3 (by rw [hv k hk, if_pos rfl]) (fun l hl => ?_) (fun l hl hlk hl1 => ?_)
          · rw [hv l hl]
            split
            · omega
            · rw [i32_m1]; omega
          · rw [hv l hl, if_neg hlk] at hl1
            exact absurd rfl hl1
        rcases hT with e1 | e1
        · refine (main 8 (by omega) (by rw [if_pos e1]) (fun j hj => ?_)).symm
          rw [e1, i32_eq, nI_toInt (by omega), i32_m1]
          omega
        · have ne : u.1 51 t.toNatClampNeg ≠ -1 := by rw [Ne, i32_eq, i32_m1]; omega
          have ec : (u.1 51 t.toNatClampNeg).toNatClampNeg = (u.1 51 t.toNatClampNeg).toInt.toNat := rfl
          refine (main (u.1 51 t.toNatClampNeg).toNatClampNeg (by omega) (by rw [if_neg ne]) (fun j hj => ?_)).symm
          rw [i32_eq, nI_toInt (by omega)]
          omega
      rw [c4, es, en, e]
      refine Sim_scr h ?_ ?_
      · unfold rMeas
        exact xS_A (by omega) (by omega)
      · unfold hoW
        exact mS.tr (mS_A (by omega) (by omega)) (mS_A (by omega) (by omega))
    · rw [if_neg ho, if_neg ho]; exact Sim_no h k6
  · rw [if_neg ht, if_neg ht]; exact Sim_no h k1
end

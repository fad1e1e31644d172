/-! THE TWO SIDES ALIKE: an item -/
def xA (f : Nat) (w : hW) (l : List Int32) : hW := match f with
  | 0 => vAddT w 16 (l.getD 0 0) (l.getD 1 0) (l.getD 2 0) (l.getD 3 0)
  | 1 => vAddM w 16 (l.getD 0 0)
  | 2 => vAddW w 16 (l.getD 0 0) (l.getD 1 0) (l.getD 2 0)
  | 3 => wI w 16 3 (l.getD 0 0)
  | 4 => wI (wI w 16 4 (l.getD 0 0)) 16 5 (l.getD 1 0)
  | _ => wI w 16 6 (l.getD 0 0)
def ftX (f : Nat) (i : Nat) (w : hW) (v0 v : Int32) : Bool := match f with
  | 0 => if i = 0 then kOk v else if i = 1 then wtOk v else if i = 2 then exOk v else vStand w 16 v
  | 1 => wtOk v
  | 2 => if i = 0 then tHas w 17 v else if i = 2 then woOk v else vStand w 16 v
  | 3 => vLongOk w 16 v
  | 4 => if i = 0 then true else vRivOk w 16 v0 v
  | _ => wiOk v
def fuX (f : Nat) (w : hW) : Bool := match f with
  | 0 => tFull w 17
  | 1 => tFull w 19
  | 2 => tFull w 21
  | _ => false
def rKz (f : Nat) (x : List Int32 × hW) : hW := if x.2.1 35 6 = -1 then xA f x.2 x.1 else x.2
def rK (f : Nat) (w : hW) : hW := rKz f (cN (ftX f) (mCnt f) 0 (rEW w f (fuX f w)) 0)
section
variable {w : hW} {v v0 a b c e : Int32} {i r : Nat} {l : List Int32}
theorem xA_0 : xA 0 w [a, b, c, e] = vAddT w 16 a b c e := rfl
theorem xA_1 : xA 1 w [a] = vAddM w 16 a := rfl
theorem xA_2 : xA 2 w [a, b, c] = vAddW w 16 a b c := rfl
theorem xA_3 : xA 3 w [a] = wI w 16 3 a := rfl
theorem xA_4 : xA 4 w [a, b] = wI (wI w 16 4 a) 16 5 b := rfl
theorem xA_5 : xA 5 w [a] = wI w 16 6 a := rfl
theorem fX_00 : ftX 0 0 w v0 v = kOk v := rfl
theorem fX_01 : ftX 0 1 w v0 v = wtOk v := rfl
theorem fX_02 : ftX 0 2 w v0 v = exOk v := rfl
theorem fX_03 : ftX 0 3 w v0 v = vStand w 16 v := rfl
theorem fX_10 : ftX 1 i w v0 v = wtOk v := rfl
theorem fX_20 : ftX 2 0 w v0 v = tHas w 17 v := rfl
theorem fX_21 : ftX 2 1 w v0 v = vStand w 16 v := rfl
theorem fX_22 : ftX 2 2 w v0 v = woOk v := rfl
theorem fX_30 : ftX 3 i w v0 v = vLongOk w 16 v := rfl
theorem fX_40 : ftX 4 0 w v0 v = true := rfl
theorem fX_41 : ftX 4 1 w v0 v = vRivOk w 16 v0 v := rfl
theorem fX_50 : ftX 5 i w v0 v = wiOk v := rfl
theorem fu_0 : fuX 0 w = tFull w 17 := rfl
theorem fu_1 : fuX 1 w = tFull w 19 := rfl
theorem fu_2 : fuX 2 w = tFull w 21 := rfl
theorem fu_3 : fuX 3 w = false := rfl
theorem fu_4 : fuX 4 w = false := rfl
theorem fu_5 : fuX 5 w = false := rfl
theorem cN_t {ft : Nat → hW → Int32 → Int32 → Bool} {v w' z : hW} {v0 v1 : Int32} (h1 : (if i = 0 then (rNum v).1 else v0) = v1) (h : rMust (rNum v).2 (ft i (rNum v).2 v1 (rNum v).1) = w') (hX : cN ft r (i + 1) w' v1 = (l, z)) : cN ft (r + 1) i v v0 = ((rNum v).1 :: l, z) := by
  subst h1
  subst h
  unfold cN
  rw [hX]
theorem cN_z {ft : Nat → hW → Int32 → Int32 → Bool} {v : hW} {v0 : Int32} : cN ft 0 i v v0 = ([], v) := rfl
theorem cN_1 {ft : Nat → hW → Int32 → Int32 → Bool} {v1 v2 : hW} (h1 : rMust (rNum v1).2 (ft 0 (rNum v1).2 (rNum v1).1 (rNum v1).1) = v2) : cN ft 1 0 v1 0 = ([(rNum v1).1], v2) := cN_t (r := 0) (if_pos rfl) h1 cN_z
theorem cN_2 {ft : Nat → hW → Int32 → Int32 → Bool} {v1 v2 v3 : hW} (h1 : rMust (rNum v1).2 (ft 0 (rNum v1).2 (rNum v1).1 (rNum v1).1) = v2) (h2 : rMust (rNum v2).2 (ft 1 (rNum v2).2 (rNum v1).1 (rNum v2).1) = v3) : cN ft 2 0 v1 0 = ([(rNum v1).1, (rNum v2).1], v3) := cN_t (r := 1) (if_pos rfl) h1 (cN_t (r := 0) (if_neg (by decide)) h2 cN_z)
theorem cN_3 {ft : Nat → hW → Int32 → Int32 → Bool} {v1 v2 v3 v4 : hW} (h1 : rMust (rNum v1).2 (ft 0 (rNum v1).2 (rNum v1).1 (rNum v1).1) = v2) (h2 : rMust (rNum v2).2 (ft 1 (rNum v2).2 (rNum v1).1 (rNum v2).1) = v3) (h3 : rMust (rNum v3).2 (ft 2 (rNum v3).2 (rNum v1).1 (rNum v3).1) = v4) : cN ft 3 0 v1 0 = ([(rNum v1).1, (rNum v2).1, (rNum v3).1], v4) := cN_t (r := 2) (if_pos rfl) h1 (cN_t (r := 1) (if_neg (by decide)) h2 (cN_t (r := 0) (if_neg (by decide)) h3 cN_z))
theorem cN_4 {ft : Nat → hW → Int32 → Int32 → Bool} {v1 v2 v3 v4 v5 : hW} (h1 : rMust (rNum v1).2 (ft 0 (rNum v1).2 (rNum v1).1 (rNum v1).1) = v2) (h2 : rMust (rNum v2).2 (ft 1 (rNum v2).2 (rNum v1).1 (rNum v2).1) = v3) (h3 : rMust (rNum v3).2 (ft 2 (rNum v3).2 (rNum v1).1 (rNum v3).1) = v4) (h4 : rMust (rNum v4).2 (ft 3 (rNum v4).2 (rNum v1).1 (rNum v4).1) = v5) : cN ft 4 0 v1 0 = ([(rNum v1).1, (rNum v2).1, (rNum v3).1, (rNum v4).1], v5) := cN_t (r := 3) (if_pos rfl) h1 (cN_t (r := 2) (if_neg (by decide)) h2 (cN_t (r := 1) (if_neg (by decide)) h3 (cN_t (r := 0) (if_neg (by decide)) h4 cN_z)))
theorem rK_0 : rK 0 w = rThing w := by
  have e1 : rEW w 0 (fuX 0 w) = rThing1 w := by rw [fu_0, rThing1]
  have e2 : cN (ftX 0) (mCnt 0) 0 (rThing1 w) 0 = ([(rNum (rThing1 w)).1, (rNum (rThing2 w)).1, (rNum (rThing3 w)).1, (rNum (rThing4 w)).1], rThing5 w) := cN_4 (by rw [fX_00, rThing2]) (by rw [fX_01, rThing3]) (by rw [fX_02, rThing4]) (by rw [fX_03, rThing5])
  rw [rK, e1, e2, rKz, rThing, xA_0]
theorem rK_1 : rK 1 w = rMan w := by
  have e1 : rEW w 1 (fuX 1 w) = rMan1 w := by rw [fu_1, rMan1]
  have e2 : cN (ftX 1) (mCnt 1) 0 (rMan1 w) 0 = ([(rNum (rMan1 w)).1], rMan2 w) := cN_1 (by rw [fX_10, rMan2])
  rw [rK, e1, e2, rKz, rMan, xA_1]
theorem rK_2 : rK 2 w = rWant w := by
  have e1 : rEW w 2 (fuX 2 w) = rWant1 w := by rw [fu_2, rWant1]
  have e2 : cN (ftX 2) (mCnt 2) 0 (rWant1 w) 0 = ([(rNum (rWant1 w)).1, (rNum (rWant2 w)).1, (rNum (rWant3 w)).1], rWant4 w) := cN_3 (by rw [fX_20, rWant2]) (by rw [fX_21, rWant3]) (by rw [fX_22, rWant4])
  rw [rK, e1, e2, rKz, rWant, xA_2]
theorem rK_3 : rK 3 w = rLong w := by
  have e1 : rEW w 3 (fuX 3 w) = rLong1 w := by rw [fu_3, rLong1]
  have e2 : cN (ftX 3) (mCnt 3) 0 (rLong1 w) 0 = ([(rNum (rLong1 w)).1], rLong2 w) := cN_1 (by rw [fX_30, rLong2])
  rw [rK, e1, e2, rKz, rLong, xA_3]
theorem rMust_t : rMust w true = w := rfl
theorem rK_4 : rK 4 w = rRiver w := by
  have e1 : rEW w 4 (fuX 4 w) = rRiver1 w := by rw [fu_4, rRiver1]
  have e2 : cN (ftX 4) (mCnt 4) 0 (rRiver1 w) 0 = ([(rNum (rRiver1 w)).1, (rNum (rNum (rRiver1 w)).2).1], rRiver3 w) := cN_2 (by rw [fX_40, rMust_t]) (by rw [fX_41, rRiver3, rRiver2])
  rw [rK, e1, e2, rKz, rRiver, xA_4]
theorem rK_5 : rK 5 w = rWind w := by
  have e1 : rEW w 5 (fuX 5 w) = rWind1 w := by rw [fu_5, rWind1]
  have e2 : cN (ftX 5) (mCnt 5) 0 (rWind1 w) 0 = ([(rNum (rWind1 w)).1], rWind2 w) := cN_1 (by rw [fX_50, rWind2])
  rw [rK, e1, e2, rKz, rWind, xA_5]
end

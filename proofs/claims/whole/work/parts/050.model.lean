/-! The class as functions of its memory. Cells: 0 the object (4 minute, 5 cameIn, 6 wentOut), 1 Rooms (0 count), 2 Doors (0 count), 3 Trails, 4 Persons (1 count);
5 cells, 6 inside, 7 most, 8 fullEnds; 9 near, 10 far, 11 width, 12 wentOn, 13 wentBack, 14 wentNow, 15 steps; 16 moves, 17 minutes, 18 places; 19 comes, 20 desk, 21 eatsFrom, 22 eatsUntil, 23 eatsIn, 24 leaves, 25 waits -/
/-- the row of the object's cells -/
def xL (sd : Int64) : List zC := [.inl (0, [.inl 1, .inl 2, .inl 3, .inl 4, .inr (.inl ()), .inr (.inl ()), .inr (.inl ())]),
  .inl (1, [.inr (.inl ()), .inl 5, .inl 6, .inl 7, .inl 8]),
  .inl (2, [.inr (.inl ()), .inl 9, .inl 10, .inl 11, .inl 12, .inl 13, .inl 14, .inl 15]),
  .inl (3, [.inl 16, .inl 17, .inl 18]),
  .inl (4, [.inr (.inr sd), .inr (.inl ()), .inl 19, .inl 20, .inl 21, .inl 22, .inl 23, .inl 24, .inl 25]),
  .inr (0, 12), .inr (0, 12), .inr (0, 12), .inr (0, 12), .inr (0, 16), .inr (0, 16), .inr (0, 16), .inr (0, 16), .inr (0, 16), .inr (0, 16), .inr (0, 144), .inr (0, 60), .inr (0, 2760), .inr (0, 2760), .inr (0, 60), .inr (0, 60), .inr (0, 60), .inr (0, 60), .inr (0, 60), .inr (0, 60), .inr (0, 60)]
def xRoomsAdd (M : zM) (v : Int) : zM := zU (zU M 5 (M 1 0) v) 1 0 (M 1 0 + 1)
def xEndI (M : zM) (i : Int) : zM := if M 6 i < M 5 i then zU M 7 i (max (M 7 i) (M 6 i)) else zU (zU M 7 i (max (M 7 i) (M 6 i))) 8 i (bm (M 8 i + 1))
def xEndN (M : zM) : Nat → zM
  | 0 => M
  | k + 1 => xEndI (xEndN M k) k
def xEnd (M : zM) : zM := xEndN M (M 1 0).toNat
def xShI (M : zM) (a b i j : Int) : zM :=
  zU M 15 (i * 12 + j) (min (M 15 (i * 12 + j)) (min (M 15 (i * 12 + a) + 1 + M 15 (b * 12 + j)) (M 15 (i * 12 + b) + 1 + M 15 (a * 12 + j))))
def xShR (M : zM) (a b i : Int) : Nat → zM
  | 0 => M
  | k + 1 => xShI (xShR M a b i k) a b i k
def xShN (M : zM) (a b : Int) : Nat → zM
  | 0 => M
  | k + 1 => xShR (xShN M a b k) a b k 12
def xDoorsAdd (M : zM) (a b w : Int) : zM := xShN (zU (zU (zU (zU M 9 (M 2 0) a) 10 (M 2 0) b) 11 (M 2 0) w) 2 0 (M 2 0 + 1)) a b 12
def xSide (M : zM) (d h : Int) : Int := if M 9 d = h then M 10 d else if M 10 d = h then M 9 d else -1
/-- the first door of d, d + 1 .. (n of them) whose other room is nearer -/
def xTowN (M : zM) (h g : Int) : Nat → Int → Int
  | 0, _ => -1
  | n + 1, d => if xSide M d h ≠ -1 ∧ M 15 (xSide M d h * 12 + g) < M 15 (h * 12 + g) then d else xTowN M h g n (d + 1)
def xTow (M : zM) (h g : Int) : Int := if M 15 (h * 12 + g) < 1000 then xTowN M h g (M 2 0).toNat 0 else -1
def xFill (M : zM) (k n : Nat) (v : Int) : zM := fun c i => if c = k ∧ 0 ≤ i ∧ i < n then v else M c i
def xPass (M : zM) (d h : Int) : zM := if M 9 d = h then zU (zU M 14 d (bm (M 14 d + 1))) 12 d (bm (M 12 d + 1)) else zU (zU M 14 d (bm (M 14 d + 1))) 13 d (bm (M 13 d + 1))
def xTrailAdd (M : zM) (p t r : Int) : zM := if 46 ≤ M 16 p then M else zU (zU (zU M 17 (p * 46 + M 16 p) t) 18 (p * 46 + M 16 p) r) 16 p (M 16 p + 1)
def xNow (M : zM) (p : Int) : Int := if M 16 p = 0 then -1 else M 18 (p * 46 + M 16 p - 1)
/-- the place behind minute t, by the first k moves -/
def xBehN (M : zM) (p t : Int) : Nat → Int
  | 0 => -1
  | k + 1 => if M 17 (p * 46 + k) ≤ t then M 18 (p * 46 + k) else xBehN M p t k
def xBeh (M : zM) (p t : Int) : Int := xBehN M p t (M 16 p).toNat
def xJoinN (M : zM) (p o : Int) : Nat → Int → Int
  | 0, _ => -1
  | n + 1, i => if M 18 (p * 46 + i) ≠ -1 ∧ xBeh M o (M 17 (p * 46 + i)) = M 18 (p * 46 + i) then M 17 (p * 46 + i) else xJoinN M p o n (i + 1)
def xJoin (M : zM) (p o : Int) : Int := xJoinN M p o (M 16 p).toNat 0
def xMet (M : zM) (p o : Int) : Int := if xJoin M p o = -1 ∨ xJoin M o p = -1 then max (xJoin M p o) (xJoin M o p) else min (xJoin M p o) (xJoin M o p)
def xZ0 (sd : Int64) (p k : Int) : Int64 := sd + (-7046029254386353131 : Int64) * (zI (8 * p + k + 1)).toInt64
def xSr (x : Int64) (n : Int) : Int64 := (x.toUInt64 >>> ((zI n).toInt64.toUInt64 &&& Int64.toUInt64 63)).toInt64
def xZ1 (sd : Int64) (p k : Int) : Int64 := (xZ0 sd p k ^^^ xSr (xZ0 sd p k) 30) * (-4658895280553007687 : Int64)
def xZ2 (sd : Int64) (p k : Int) : Int64 := (xZ1 sd p k ^^^ xSr (xZ1 sd p k) 27) * (-7723592293110705685 : Int64)
def xZ3 (sd : Int64) (p k : Int) : Int64 := xZ2 sd p k ^^^ xSr (xZ2 sd p k) 31
def xZ (sd : Int64) (p k : Int) : Int64 := xSr (xZ3 sd p k) 1
def xDraw (sd : Int64) (p k m : Int) : Int := (xZ sd p k - xZ sd p k / (zI m).toInt64 * (zI m).toInt64).toInt32.toInt
def xWants (M : zM) (p t : Int) : Int := if M 24 p ≤ t then -1 else if M 21 p ≤ t ∧ t < M 22 p then M 23 p else M 20 p
def xPlanI (sd : Int64) (M : zM) (r p : Int) : zM :=
  zU (zU (zU (zU (zU M 20 p (xDraw sd p 0 r)) 21 p (M 19 p + 30 + xDraw sd p 1 90)) 22 p (M 19 p + 30 + xDraw sd p 1 90 + 20 + xDraw sd p 2 20)) 23 p (xDraw sd p 3 r)) 24 p (M 19 p + 200 + xDraw sd p 4 200)
def xPlanN (sd : Int64) (M : zM) (r : Int) : Nat → zM
  | 0 => M
  | k + 1 => xPlanI sd (xPlanN sd M r k) r k
def xPlan (sd : Int64) (M : zM) (r : Int) : zM := xPlanN sd M r (M 4 1).toNat
/-- arrivals: those that come later move up by n; k of them are still to be looked at -/
def xShiftN (t n : Int) : Nat → zM → Nat × zM
  | 0, M => (0, M)
  | k + 1, M => if t < M 19 k then xShiftN t n k (zU M 19 (k + n) (M 19 k)) else (k + 1, M)
def xPutN (M : zM) (t q : Int) : Nat → zM
  | 0 => M
  | k + 1 => zU (xPutN M t q k) 19 (q + k) t
def xPersAdd (M : zM) (t n : Int) : zM :=
  let r := xShiftN t n (M 4 1).toNat M
  zU (xPutN r.2 t r.1 n.toNat) 4 1 (M 4 1 + n)
def xEntr (M : zM) (p : Int) : zM := if M 6 0 < M 5 0 then xTrailAdd (zU (zU M 6 0 (bm (M 6 0 + 1))) 0 5 (bm (M 0 5 + 1))) p (M 0 4) 0 else zU M 25 p (bm (M 25 p + 1))
def xOut (M : zM) (p : Int) : zM := xTrailAdd (zU (zU M 6 0 (bm (M 6 0 - 1))) 0 6 (bm (M 0 6 + 1))) p (M 0 4) (-1)
def xDoorTo (M : zM) (p h d r : Int) : zM :=
  xTrailAdd (zU (zU (xPass M d h) 6 h (bm (xPass M d h 6 h - 1))) 6 r (bm (zU (xPass M d h) 6 h (bm (xPass M d h 6 h - 1)) 6 r + 1))) p (xPass M d h 0 4) r
def xNext (M : zM) (h g : Int) : Int := if xTow M h g = -1 then -1 else xSide M (xTow M h g) h
def xTryDoor (M : zM) (p h g : Int) : zM :=
  if xNext M h g = -1 then M else if M 6 (xNext M h g) < M 5 (xNext M h g) ∧ M 14 (xTow M h g) < M 11 (xTow M h g) then xDoorTo M p h (xTow M h g) (xNext M h g) else zU M 25 p (bm (M 25 p + 1))
def xStep (M : zM) (p : Int) : zM :=
  if xNow M p = xWants M p (M 0 4) then M else if xNow M p = -1 then xEntr M p else if xWants M p (M 0 4) ≠ -1 then xTryDoor M p (xNow M p) (xWants M p (M 0 4)) else if xNow M p ≠ 0 then xTryDoor M p (xNow M p) 0 else xOut M p
/-- the persons p, p + 1 .. (n of them at most), as long as they have come -/
def xStepN : Nat → Int → zM → zM
  | 0, _, M => M
  | n + 1, p, M => if M 19 p ≤ M 0 4 then xStepN n (p + 1) (xStep M p) else M
def xMinA (M : zM) : zM := xEnd (xStepN (M 4 1).toNat 0 (xFill M 14 16 0))
def xMin (M : zM) : zM := zU (xMinA M) 0 4 (xMinA M 0 4 + 1)
def xRun (M : zM) : Nat → zM
  | 0 => M
  | k + 1 => xMin (xRun M k)
theorem xEndI_c {M : zM} {i : Int} {c : Nat} (h7 : c ≠ 7) (h8 : c ≠ 8) : xEndI M i c = M c := by
  unfold xEndI
  split
  · exact zU_k h7
  · rw [zU_k h8, zU_k h7]
theorem xEndN_c {M : zM} {c : Nat} (h7 : c ≠ 7) (h8 : c ≠ 8) : ∀ k, xEndN M k c = M c
  | 0 => rfl
  | k + 1 => (xEndI_c h7 h8).trans (xEndN_c h7 h8 k)
theorem xSide_or (M : zM) (d h : Int) : xSide M d h = M 10 d ∨ xSide M d h = M 9 d ∨ xSide M d h = -1 := by
  unfold xSide
  split
  · exact Or.inl rfl
  · split
    · exact Or.inr (Or.inl rfl)
    · exact Or.inr (Or.inr rfl)
theorem xTowN_rg (M : zM) (h g : Int) : ∀ (n : Nat) (d : Int), xTowN M h g n d = -1 ∨ (d ≤ xTowN M h g n d ∧ xTowN M h g n d < d + n)
  | 0, d => Or.inl rfl
  | n + 1, d => by
    unfold xTowN
    split
    · exact Or.inr ⟨Int.le_refl _, by omega⟩
    · rcases xTowN_rg M h g n (d + 1) with q | q
      · exact Or.inl q
      · exact Or.inr ⟨by omega, by omega⟩
theorem xTow_rg (M : zM) (h g : Int) (hc : 0 ≤ M 2 0) : xTow M h g = -1 ∨ (0 ≤ xTow M h g ∧ xTow M h g < M 2 0) := by
  unfold xTow
  split
  · rcases xTowN_rg M h g (M 2 0).toNat 0 with q | q
    · exact Or.inl q
    · exact Or.inr ⟨q.1, by omega⟩
  · exact Or.inl rfl
theorem xPass_c {M : zM} {d h : Int} {c : Nat} (h2 : c ≠ 12) (h3 : c ≠ 13) (h4 : c ≠ 14) : xPass M d h c = M c := by
  unfold xPass
  split
  · rw [zU_k h2, zU_k h4]
  · rw [zU_k h3, zU_k h4]
theorem xWants_or (M : zM) (p t : Int) : xWants M p t = -1 ∨ xWants M p t = M 23 p ∨ xWants M p t = M 20 p := by
  unfold xWants
  split
  · exact Or.inl rfl
  · split
    · exact Or.inr (Or.inl rfl)
    · exact Or.inr (Or.inr rfl)
theorem xPlanI_c {sd : Int64} {M : zM} {r p : Int} {c : Nat} (h0 : c ≠ 20) (h1 : c ≠ 21) (h2 : c ≠ 22) (h3 : c ≠ 23) (h4 : c ≠ 24) : xPlanI sd M r p c = M c := by
  unfold xPlanI
  rw [zU_k h4, zU_k h3, zU_k h2, zU_k h1, zU_k h0]
theorem xPlanN_c {sd : Int64} {M : zM} {r : Int} {c : Nat} (h0 : c ≠ 20) (h1 : c ≠ 21) (h2 : c ≠ 22) (h3 : c ≠ 23) (h4 : c ≠ 24) : ∀ k, xPlanN sd M r k c = M c
  | 0 => rfl
  | k + 1 => (xPlanI_c h0 h1 h2 h3 h4).trans (xPlanN_c h0 h1 h2 h3 h4 k)
theorem xShI_b {M : zM} (h : ∀ x, 0 ≤ x → x < 144 → 0 ≤ M 15 x ∧ M 15 x ≤ 1000) {a b i j : Int} (ha : 0 ≤ a ∧ a < 12) (hb : 0 ≤ b ∧ b < 12) (hi : 0 ≤ i ∧ i < 12) (hj : 0 ≤ j ∧ j < 12) : ∀ x, 0 ≤ x → x < 144 → 0 ≤ xShI M a b i j 15 x ∧ xShI M a b i j 15 x ≤ 1000 := by
  intro x h1 h2
  unfold xShI
  by_cases hx : x = i * 12 + j
  · subst hx
    rw [zU_s]
    have q1 := h (i * 12 + j) (by omega) (by omega)
    have q2 := h (i * 12 + a) (by omega) (by omega)
    have q3 := h (i * 12 + b) (by omega) (by omega)
    have q4 := h (b * 12 + j) (by omega) (by omega)
    have q5 := h (a * 12 + j) (by omega) (by omega)
    omega
  · rw [zU_n hx]
    exact h x h1 h2
theorem xShR_b {M : zM} (h : ∀ x, 0 ≤ x → x < 144 → 0 ≤ M 15 x ∧ M 15 x ≤ 1000) {a b i : Int} (ha : 0 ≤ a ∧ a < 12) (hb : 0 ≤ b ∧ b < 12) (hi : 0 ≤ i ∧ i < 12) : ∀ k : Nat, k ≤ 12 → ∀ x, 0 ≤ x → x < 144 → 0 ≤ xShR M a b i k 15 x ∧ xShR M a b i k 15 x ≤ 1000
  | 0, _ => h
  | k + 1, hk => xShI_b (xShR_b h ha hb hi k (by omega)) ha hb hi (by omega)
theorem xShN_b {M : zM} (h : ∀ x, 0 ≤ x → x < 144 → 0 ≤ M 15 x ∧ M 15 x ≤ 1000) {a b : Int} (ha : 0 ≤ a ∧ a < 12) (hb : 0 ≤ b ∧ b < 12) : ∀ k : Nat, k ≤ 12 → ∀ x, 0 ≤ x → x < 144 → 0 ≤ xShN M a b k 15 x ∧ xShN M a b k 15 x ≤ 1000
  | 0, _ => h
  | k + 1, hk => xShR_b (xShN_b h ha hb k (by omega)) ha hb (by omega) 12 (Nat.le_refl 12)
theorem xNext_rg {M : zM} {h g : Int} (hc : 0 ≤ M 2 0) (h4 : ∀ d, 0 ≤ d → d < M 2 0 → (0 ≤ M 9 d ∧ M 9 d < 12) ∧ 0 ≤ M 10 d ∧ M 10 d < 12) : xNext M h g = -1 ∨ (0 ≤ xTow M h g ∧ xTow M h g < M 2 0 ∧ xNext M h g = xSide M (xTow M h g) h ∧ 0 ≤ xNext M h g ∧ xNext M h g < 12) := by
  unfold xNext
  have e8 := xTow_rg M h g hc
  split
  · exact Or.inl rfl
  · have h9 := h4 (xTow M h g) (by omega) (by omega)
    have e9 := xSide_or M (xTow M h g) h
    omega

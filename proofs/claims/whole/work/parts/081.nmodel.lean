/-! The reference as functions of its memory. Cells: 0 the object (1 fault, 2 minute, 3 rooms, 9 doors, 16 persons, 21 cameIn, 22 wentOut); 1 cells, 2 there, 3 most, 4 full, 5 far, 6 from, 7 to, 8 width, 9 gone, 10 onward, 11 backward, 12 comes, 13 place, 14 waits, 15 past (bytes) -/
def nL (sd : Int64) : List zC := [.inl (5, [.inr (.inr sd), .inr (.inl ()), .inr (.inl ()), .inr (.inl ()), .inl 1, .inl 2, .inl 3, .inl 4, .inl 5, .inr (.inl ()), .inl 6, .inl 7, .inl 8, .inl 9, .inl 10, .inl 11, .inr (.inl ()), .inl 12, .inl 13, .inl 14, .inl 15, .inr (.inl ()), .inr (.inl ())]),
  .inr (0, 12), .inr (0, 12), .inr (0, 12), .inr (0, 12), .inr (0, 144), .inr (0, 16), .inr (0, 16), .inr (0, 16), .inr (0, 16), .inr (0, 16), .inr (0, 16), .inr (0, 60), .inr (0, 60), .inr (0, 60), .inr (1, 120000)]
def nShV (M : zM) (a b x y : Int) : Int := if 0 ≤ M 5 (12 * x + a) ∧ 0 ≤ M 5 (12 * b + y) ∧ (M 5 (12 * x + y) < 0 ∨ M 5 (12 * x + a) + M 5 (12 * b + y) + 1 < M 5 (12 * x + y)) then M 5 (12 * x + a) + M 5 (12 * b + y) + 1 else M 5 (12 * x + y)
def nShI (M : zM) (a b x y : Int) : zM := zU M 5 (12 * x + y) (nShV M a b x y)
def nShR (M : zM) (a b x : Int) : Nat → zM
  | 0 => M
  | k + 1 => nShI (nShR M a b x k) a b x k
def nShN (M : zM) (a b : Int) : Nat → zM
  | 0 => M
  | k + 1 => nShR (nShN M a b k) a b k 12
def nDoorsAdd (M : zM) (a b w : Int) : zM := nShN (nShN (zU (zU (zU (zU M 6 (M 0 9) a) 7 (M 0 9) b) 8 (M 0 9) w) 0 9 (M 0 9 + 1)) a b 12) b a 12
/-- where those that come at t are put in: k at most -/
def nAt (M : zM) (t : Int) : Nat → Nat
  | 0 => 0
  | k + 1 => if t < M 12 k then nAt M t k else k + 1
/-- k of the last ones, below e, moved up by n -/
def nMvN (M : zM) (n e : Int) : Nat → zM
  | 0 => M
  | k + 1 => zU (nMvN M n e k) 12 (e - 1 - k + n) (nMvN M n e k 12 (e - 1 - k))
def nPutN (M : zM) (t q : Int) : Nat → zM
  | 0 => M
  | k + 1 => zU (nPutN M t q k) 12 (q + k) t
def nQ (M : zM) (t : Int) : Nat := nAt M t (M 0 16).toNat
def nArr (M : zM) (t n : Int) : zM := zU (nPutN (nMvN M n (M 0 16) ((M 0 16).toNat - nQ M t)) t (nQ M t) n.toNat) 0 16 (M 0 16 + n)
def nTell (sd : Int64) (M : zM) (p what : Int) : Int := if what = 0 then M 12 p else if what = 1 then xDraw sd p 0 (M 0 3) else if what = 2 then M 12 p + 30 + xDraw sd p 1 90 else if what = 3 then M 12 p + 30 + xDraw sd p 1 90 + 20 + xDraw sd p 2 20 else if what = 4 then xDraw sd p 3 (M 0 3) else M 12 p + 200 + xDraw sd p 4 200
def nWants (sd : Int64) (M : zM) (p : Int) : Int := if nTell sd M p 5 ≤ M 0 2 then -1 else if nTell sd M p 2 ≤ M 0 2 ∧ M 0 2 < nTell sd M p 3 then nTell sd M p 4 else nTell sd M p 1
def nOff (M : zM) (p : Int) : zM := if M 13 p = -1 then M else zU M 2 (M 13 p) (bm (M 2 (M 13 p) - 1))
def nOn (M : zM) (r : Int) : zM := if r = -1 then M else zU M 2 r (bm (M 2 r + 1))
def nMove (M : zM) (p r : Int) : zM := zU (nOn (nOff M p) r) 13 p r
def nSide (M : zM) (d h : Int) : Int := if M 6 d = h then M 7 d else if M 7 d = h then M 6 d else -1
def nDoorN (M : zM) (h g : Int) : Nat → Int → Int
  | 0, _ => -1
  | n + 1, d => if nSide M d h ≠ -1 ∧ 0 ≤ M 5 (12 * nSide M d h + g) ∧ M 5 (12 * nSide M d h + g) < M 5 (12 * h + g) then d else nDoorN M h g n (d + 1)
def nDoor (M : zM) (h g : Int) : Int := if 0 < M 5 (12 * h + g) then nDoorN M h g (M 0 9).toNat 0 else -1
def nWait (M : zM) (p : Int) : zM := zU M 14 p (bm (M 14 p + 1))
def nGone (M : zM) (d on off : Int) : zM := zU (zU (zU M 9 d (bm (M 9 d + 1))) 10 d (bm (M 10 d + on))) 11 d (bm (M 11 d + off))
def nThr (M : zM) (p g : Int) : zM :=
  if nDoor M (M 13 p) g = -1 then M
  else if M 9 (nDoor M (M 13 p) g) < M 8 (nDoor M (M 13 p) g) ∧ M 2 (if M 6 (nDoor M (M 13 p) g) = M 13 p then M 7 (nDoor M (M 13 p) g) else M 6 (nDoor M (M 13 p) g)) < M 1 (if M 6 (nDoor M (M 13 p) g) = M 13 p then M 7 (nDoor M (M 13 p) g) else M 6 (nDoor M (M 13 p) g)) then
    nGone (nMove M p (if M 6 (nDoor M (M 13 p) g) = M 13 p then M 7 (nDoor M (M 13 p) g) else M 6 (nDoor M (M 13 p) g))) (nDoor M (M 13 p) g) (if M 6 (nDoor M (M 13 p) g) = M 13 p then 1 else 0) (if M 6 (nDoor M (M 13 p) g) = M 13 p then 0 else 1)
  else nWait M p
def nStep (sd : Int64) (M : zM) (p : Int) : zM :=
  if nWants sd M p = M 13 p then M
  else if M 13 p = -1 then (if M 2 0 < M 1 0 then zU (nMove M p 0) 0 21 (bm (nMove M p 0 0 21 + 1)) else nWait M p)
  else if M 13 p = 0 ∧ nWants sd M p = -1 then zU (nMove M p (-1)) 0 22 (bm (nMove M p (-1) 0 22 + 1))
  else nThr M p (if nWants sd M p = -1 then 0 else nWants sd M p)
def nPersI (sd : Int64) (M : zM) (p : Int) : zM := if M 12 p ≤ M 0 2 then nStep sd M p else M
def nPast (M : zM) (p : Int) : zM := zU M 15 (2000 * p + M 0 2) (M 13 p)
def nPersN (sd : Int64) (M : zM) : Nat → zM
  | 0 => M
  | k + 1 => nPast (nPersI sd (nPersN sd M k) k) k
def nGoneN (M : zM) : Nat → zM
  | 0 => M
  | k + 1 => zU (nGoneN M k) 9 k 0
def nEndI (M : zM) (r : Int) : zM := zU (zU M 3 r (if M 3 r < M 2 r then M 2 r else M 3 r)) 4 r (if M 2 r = M 1 r then bm (M 4 r + 1) else M 4 r)
def nEndN (M : zM) : Nat → zM
  | 0 => M
  | k + 1 => nEndI (nEndN M k) k
def nMinP (sd : Int64) (M : zM) : zM := nPersN sd (nGoneN M (M 0 9).toNat) (M 0 16).toNat
def nMinA (sd : Int64) (M : zM) : zM := nEndN (nMinP sd M) (M 0 3).toNat
def nMin (sd : Int64) (M : zM) : zM := zU (nMinA sd M) 0 2 (nMinA sd M 0 2 + 1)
def nRun (sd : Int64) (M : zM) : Nat → zM
  | 0 => M
  | k + 1 => nMin sd (nRun sd M k)
def nSum (M : zM) : Nat → Int
  | 0 => 0
  | k + 1 => bm (nSum M k + M 2 k)
def nCnt (M : zM) (r t : Int) : Nat → Int
  | 0 => 0
  | k + 1 => nCnt M r t k + (if M 15 (2000 * k + t) = r then 1 else 0)
/-- the first minute of t, t + 1 .. (n of them) behind which both were in one room -/
def nMetN (M : zM) (p o : Int) : Nat → Int → Int
  | 0, _ => -1
  | n + 1, t => if M 15 (2000 * p + t) ≠ -1 ∧ M 15 (2000 * p + t) = M 15 (2000 * o + t) then t else nMetN M p o n (t + 1)
def nIn (M : zM) (r what : Int) : Int := if what = 0 then M 2 r else if what = 1 then M 3 r else M 4 r
/-- what always holds of it, as far as the walks need it -/
def nOK (M : zM) : Prop :=
  (0 ≤ M 0 3 ∧ M 0 3 ≤ 12) ∧ (0 ≤ M 0 9 ∧ M 0 9 ≤ 16) ∧ (0 ≤ M 0 16 ∧ M 0 16 ≤ 60) ∧ (0 ≤ M 0 2 ∧ M 0 2 ≤ 2000) ∧ (0 < M 0 16 → 0 < M 0 3) ∧
  (∀ d, 0 ≤ d → d < M 0 9 → (0 ≤ M 6 d ∧ M 6 d < 12) ∧ 0 ≤ M 7 d ∧ M 7 d < 12) ∧
  (∀ x, 0 ≤ x → x < 144 → -1 ≤ M 5 x ∧ M 5 x ≤ 100000) ∧
  (∀ p, 0 ≤ p → p < 60 → -1 ≤ M 13 p ∧ M 13 p < 12) ∧
  (∀ p, 0 ≤ p → p < M 0 16 → 0 ≤ M 12 p ∧ M 12 p ≤ 1439)
theorem nShI_c {M : zM} {a b x y : Int} {c : Nat} (h : c ≠ 5) : nShI M a b x y c = M c := zU_k h
theorem nShR_c {M : zM} {a b x : Int} {c : Nat} (h : c ≠ 5) : ∀ k, nShR M a b x k c = M c
  | 0 => rfl
  | k + 1 => (nShI_c h).trans (nShR_c h k)
theorem nShN_c {M : zM} {a b : Int} {c : Nat} (h : c ≠ 5) : ∀ k, nShN M a b k c = M c
  | 0 => rfl
  | k + 1 => (nShR_c h 12).trans (nShN_c h k)
theorem nSide_or (M : zM) (d h : Int) : nSide M d h = M 7 d ∨ nSide M d h = M 6 d ∨ nSide M d h = -1 := by
  unfold nSide
  split
  · exact Or.inl rfl
  · split
    · exact Or.inr (Or.inl rfl)
    · exact Or.inr (Or.inr rfl)
theorem nDoorN_rg (M : zM) (h g : Int) : ∀ (n : Nat) (d : Int), nDoorN M h g n d = -1 ∨ (d ≤ nDoorN M h g n d ∧ nDoorN M h g n d < d + n)
  | 0, d => Or.inl rfl
  | n + 1, d => by
    unfold nDoorN
    split
    · exact Or.inr ⟨Int.le_refl _, by omega⟩
    · rcases nDoorN_rg M h g n (d + 1) with q | q
      · exact Or.inl q
      · exact Or.inr ⟨by omega, by omega⟩
theorem nDoor_rg (M : zM) (h g : Int) (hc : 0 ≤ M 0 9) : nDoor M h g = -1 ∨ (0 ≤ nDoor M h g ∧ nDoor M h g < M 0 9) := by
  unfold nDoor
  split
  · rcases nDoorN_rg M h g (M 0 9).toNat 0 with q | q
    · exact Or.inl q
    · exact Or.inr ⟨q.1, by omega⟩
  · exact Or.inl rfl

/-! arrivals, as they come to lie; minutes keep what always holds; counting -/
theorem xShiftN_is {t n : Int} (hn : 1 ≤ n) : ∀ (k : Nat) (M : zM), (xShiftN t n k M).1 ≤ k ∧ (∀ j : Int, ((xShiftN t n k M).1 : Int) ≤ j → j < k → t < M 19 j ∧ (xShiftN t n k M).2 19 (j + n) = M 19 j) ∧ (∀ j : Int, (j < ((xShiftN t n k M).1 : Int) + n ∨ (k : Int) + n ≤ j) → (xShiftN t n k M).2 19 j = M 19 j) ∧ ((xShiftN t n k M).1 = 0 ∨ M 19 (((xShiftN t n k M).1 : Int) - 1) ≤ t)
  | 0, M => ⟨Nat.le_refl 0, fun j h1 h2 => absurd h2 (by show ¬ j < ((0 : Nat) : Int); simp only [xShiftN] at h1; omega), fun j _ => rfl, Or.inl rfl⟩
  | k + 1, M => by
    unfold xShiftN
    by_cases h : t < M 19 (k : Int)
    · rw [if_pos h]
      obtain ⟨i1, i2, i3, i4⟩ := xShiftN_is hn k (zU M 19 ((k : Int) + n) (M 19 (k : Int)))
      generalize xShiftN t n k (zU M 19 ((k : Int) + n) (M 19 (k : Int))) = r at i1 i2 i3 i4 ⊢
      refine ⟨by omega, fun j h1 h2 => ?_, fun j hj => ?_, ?_⟩
      · by_cases hj : j = (k : Int)
        · subst hj
          refine ⟨h, ?_⟩
          rw [i3 _ (Or.inr (by omega)), zU_s]
        · obtain ⟨a1, a2⟩ := i2 j h1 (by omega)
          rw [zU_n (by omega)] at a1 a2
          exact ⟨a1, a2⟩
      · rw [i3 j (by omega), zU_n (by omega)]
      · rcases i4 with q | q
        · exact Or.inl q
        · rw [zU_n (by omega)] at q
          exact Or.inr q
    · rw [if_neg h]
      refine ⟨Nat.le_refl _, fun j h1 h2 => absurd h2 (by omega), fun j _ => rfl, Or.inr ?_⟩
      show M 19 (((k + 1 : Nat) : Int) - 1) ≤ t
      rw [show ((k + 1 : Nat) : Int) - 1 = (k : Int) by omega]
      omega
theorem xPutN_is {M : zM} {t q : Int} : ∀ (k : Nat) (j : Int), xPutN M t q k 19 j = if q ≤ j ∧ j < q + k then t else M 19 j
  | 0, j => by rw [if_neg (by omega)]; rfl
  | k + 1, j => by
    show zU (xPutN M t q k) 19 (q + k) t 19 j = _
    by_cases hj : j = q + (k : Int)
    · subst hj
      rw [zU_s, if_pos (by omega)]
    · rw [zU_n hj, xPutN_is k j]
      by_cases h : q ≤ j ∧ j < q + (k : Int)
      · rw [if_pos h, if_pos (by omega)]
      · rw [if_neg h, if_neg (by omega)]
/-- n that come at t, put in at q -/
def xIns (f : Int → Int) (q n t : Int) : Int → Int := fun j => if j < q then f j else if j < q + n then t else f (j - n)
theorem xPersAdd_19 {M : zM} {t n : Int} (hc : 0 ≤ M 4 1) (hn : 1 ≤ n) : ∃ q : Int, 0 ≤ q ∧ q ≤ M 4 1 ∧ (∀ j, q ≤ j → j < M 4 1 → t < M 19 j) ∧ (q = 0 ∨ M 19 (q - 1) ≤ t) ∧ ∀ j, 0 ≤ j → j < M 4 1 + n → xPersAdd M t n 19 j = xIns (M 19) q n t j := by
  obtain ⟨i1, i2, i3, i4⟩ := xShiftN_is (t := t) hn (M 4 1).toNat M
  refine ⟨((xShiftN t n (M 4 1).toNat M).1 : Int), by omega, by omega, fun j h1 h2 => (i2 j h1 (by omega)).1, ?_, fun j h1 h2 => ?_⟩
  · rcases i4 with h | h
    · exact Or.inl (by omega)
    · exact Or.inr h
  · unfold xPersAdd
    show zU _ 4 1 _ 19 j = _
    rw [zU_k (by decide), xPutN_is]
    unfold xIns
    generalize xShiftN t n (M 4 1).toNat M = r at i1 i2 i3 i4 ⊢
    by_cases ha : j < (r.1 : Int)
    · rw [if_neg (by omega), if_pos ha, i3 j (Or.inl (by omega))]
    · by_cases hb : j < (r.1 : Int) + n
      · rw [if_pos (by omega), if_neg ha, if_pos hb]
      · rw [if_neg (by omega), if_neg ha, if_neg hb]
        have := (i2 (j - n) (by omega) (by omega)).2
        rw [show j - n + n = j by omega] at this
        exact this
theorem xPersAdd_b {M : zM} {t n : Int} (h : ∀ x, 0 ≤ x → x < M 4 1 → 0 ≤ M 19 x ∧ M 19 x ≤ 1439) (h0 : 0 ≤ M 4 1) (hn : 1 ≤ n) (ht : 0 ≤ t) (ht2 : t ≤ 1439) : ∀ x, 0 ≤ x → x < xPersAdd M t n 4 1 → 0 ≤ xPersAdd M t n 19 x ∧ xPersAdd M t n 19 x ≤ 1439 := by
  intro x h1 h2
  rw [xPersAdd_41] at h2
  obtain ⟨q, q0, q1, -, -, qe⟩ := xPersAdd_19 (M := M) (t := t) h0 hn
  rw [qe x h1 h2]
  unfold xIns
  split
  · exact h x h1 (by omega)
  · split
    · exact ⟨ht, ht2⟩
    · exact h (x - n) (by omega) (by omega)
theorem xEnd_ok {M : zM} (h : xOK M) : xOK (xEnd M) := by
  have k : ∀ c, c ≠ 7 → c ≠ 8 → xEnd M c = M c := fun c h7 h8 => xEndN_c h7 h8 _
  refine h.of (by rw [k 1 (by decide) (by decide)]) (by rw [k 2 (by decide) (by decide)]) (by rw [k 4 (by decide) (by decide)]) (by rw [k 0 (by decide) (by decide)]) (k 9 (by decide) (by decide)) (k 10 (by decide) (by decide)) (k 15 (by decide) (by decide)) (k 20 (by decide) (by decide)) (k 23 (by decide) (by decide)) (k 19 (by decide) (by decide)) ?_ ?_
  · rw [k 16 (by decide) (by decide)]; exact h.2.2.2.2.2.2.1
  · rw [k 18 (by decide) (by decide)]; exact h.2.2.2.2.2.2.2.1
theorem xStepN_ok : ∀ (n : Nat) (p : Int) {M : zM}, xOK M → 0 ≤ p → p + n ≤ 60 → xOK (xStepN n p M) ∧ xStepN n p M 0 4 = M 0 4
  | 0, p, M, h, _, _ => ⟨h, rfl⟩
  | n + 1, p, M, h, hp, hn => by
    unfold xStepN
    split
    · obtain ⟨a, b⟩ := xStepN_ok n (p + 1) (h.step hp (by omega)) (by omega) (by omega)
      exact ⟨a, by rw [b, xStep_04]⟩
    · exact ⟨h, rfl⟩
theorem xMin_ok {M : zM} (h : xOK M) (hm : M 0 4 < 2000) : xOK (xMin M) ∧ xMin M 0 4 = M 0 4 + 1 := by
  have hf := xFill_ok h
  have hb := h.2.2.1
  obtain ⟨a, b⟩ := xStepN_ok (M 4 1).toNat 0 hf (by omega) (by omega)
  have e := xEnd_ok a
  have e0 : xMinA M 0 4 = M 0 4 := by
    unfold xMinA xEnd
    rw [xEndN_c (by decide) (by decide), b]
    rfl
  have e1 : xMin M 0 4 = M 0 4 + 1 := by
    unfold xMin
    rw [zU_s, e0]
  refine ⟨?_, e1⟩
  have k : ∀ c, c ≠ 0 → xMin M c = xMinA M c := fun c hc => zU_k hc
  obtain ⟨a1, a2, a3, a4, a5, a6, a7, a8, a9, a10⟩ := e
  refine ⟨?_, ?_, ?_, ?_, ?_, ?_, ?_, ?_, ?_, ?_⟩
  · rw [k 1 (by decide)]; exact a1
  · rw [k 2 (by decide)]; exact a2
  · rw [k 4 (by decide)]; exact a3
  · rw [e1]; have := h.2.2.2.1; omega
  · rw [k 2 (by decide), k 9 (by decide), k 10 (by decide)]; exact a5
  · rw [k 15 (by decide)]; exact a6
  · rw [k 16 (by decide)]; exact a7
  · rw [k 18 (by decide)]; exact a8
  · rw [k 20 (by decide), k 23 (by decide)]; exact a9
  · rw [k 4 (by decide), k 19 (by decide)]; exact a10
def xCnt (M : zM) (r t : Int) : Nat → Int
  | 0 => 0
  | k + 1 => xCnt M r t k + (if xBeh M k t = r then 1 else 0)
theorem xCnt_b (M : zM) (r t : Int) : ∀ k : Nat, 0 ≤ xCnt M r t k ∧ xCnt M r t k ≤ k
  | 0 => ⟨Int.le_refl 0, Int.le_refl 0⟩
  | k + 1 => by
    have := xCnt_b M r t k
    unfold xCnt
    split <;> omega

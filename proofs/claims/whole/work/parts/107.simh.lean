/-! Class and reference side by side: arrives; what is told -/
theorem sSim.arrives {sd : Int64} {M N : zM} (h : sSim sd M N) {t n : Int} (ht : 0 ≤ t ∧ t ≤ 1439) (hn : 1 ≤ n ∧ n ≤ 20) (hT : M 0 4 = 0) (hR : 0 < M 1 0) (hP60 : M 4 1 + n ≤ 60) : sSim sd (xPlan sd (xPersAdd M t n) (M 1 0)) (nArr N t n) := by
  obtain ⟨hB, hD, hP, h0⟩ := h
  obtain ⟨z1, z2, z3, z4⟩ := h0 hT
  obtain ⟨hx, hn', ⟨a1, a2, a3, a4⟩, ⟨b1, b2, b3, b4⟩, c5, c6, c7, c8, c9, c10, c11, c12⟩ := hB
  obtain ⟨⟨d1, d2, d3, d4, d5, d6, d7, d8⟩, e2, e3, e5, e6, e7⟩ := hD
  have r0 := hx.1
  have p0 := hx.2.2.1
  -- both put them in at one place
  obtain ⟨q, q0, q1, q2, q3, q4⟩ := xPersAdd_19 (M := M) (t := t) (n := n) p0.1 hn.1
  obtain ⟨q', s0, s1, s2, s3, s4⟩ := nArr_12 (M := N) (t := t) (n := n) (by omega) hn.1
  rw [a3] at s1 s2 s4
  have eq : q' = q := by
    by_cases c1 : q' < q
    · rcases q3 with e | e
      · omega
      · have := s2 (q - 1) (by omega) (by omega)
        rw [c5 (q - 1) (by omega) (by omega)] at this
        omega
    · by_cases c2 : q < q'
      · rcases s3 with e | e
        · omega
        · rw [c5 (q' - 1) (by omega) (by omega)] at e
          have := q2 (q' - 1) (by omega) (by omega)
          omega
      · omega
  subst eq
  have e1912 : ∀ j, 0 ≤ j → j < M 4 1 + n → nArr N t n 12 j = xPersAdd M t n 19 j := by
    intro j j0 j1
    rw [q4 j j0 j1, s4 j j0 j1]
    unfold xIns
    by_cases c1 : j < q'
    · rw [if_pos c1, if_pos c1, c5 j j0 (by omega)]
    · rw [if_neg c1, if_neg c1]
      by_cases c2 : j < q' + n
      · rw [if_pos c2, if_pos c2]
      · rw [if_neg c2, if_neg c2, c5 (j - n) (by omega) (by omega)]
  have sorted : ∀ a b, 0 ≤ a → a ≤ b → b < M 4 1 + n → xPersAdd M t n 19 a ≤ xPersAdd M t n 19 b := by
    intro a b a0 ab bP
    rw [q4 a a0 (by omega), q4 b (by omega) bP]
    exact xIns_sorted c9 ⟨q0, q1⟩ hn.1 q2 q3 a b a0 ab bP
  have b19 := xPersAdd_b (M := M) (t := t) (n := n) hx.2.2.2.2.2.2.2.2.2 p0.1 hn.1 ht.1 ht.2
  rw [xPersAdd_41] at b19
  have kp : ∀ c, c ≠ 19 → c ≠ 4 → xPersAdd M t n c = M c := fun c w9 w4 => xPersAdd_c w9 w4
  have hxA : xOK (xPersAdd M t n) := by
    obtain ⟨g1, g2, g3, g4, g5, g6, g7, g8, g9, g10⟩ := hx
    refine ⟨by rw [kp 1 (by decide) (by decide)]; exact g1, by rw [kp 2 (by decide) (by decide)]; exact g2, by rw [xPersAdd_41]; omega, by rw [kp 0 (by decide) (by decide)]; exact g4, ?_, ?_, ?_, ?_, ?_, by rw [xPersAdd_41]; exact b19⟩
    · rw [kp 2 (by decide) (by decide), kp 9 (by decide) (by decide), kp 10 (by decide) (by decide)]; exact g5
    · rw [kp 15 (by decide) (by decide)]; exact g6
    · rw [kp 16 (by decide) (by decide)]; exact g7
    · rw [kp 18 (by decide) (by decide)]; exact g8
    · rw [kp 20 (by decide) (by decide), kp 23 (by decide) (by decide)]; exact g9
  have hxO := xPlan_ok (sd := sd) hxA (r := M 1 0) (by omega)
  have hpl : ∀ p, 0 ≤ p → p < M 4 1 + n → sPl sd (xPlan sd (xPersAdd M t n) (M 1 0)) p := fun p w0 w1 => xPlan_pl (by rw [kp 1 (by decide) (by decide)]) w0 (by rw [xPersAdd_41]; exact w1)
  have k : ∀ c, c ≠ 19 → c ≠ 4 → c ≠ 20 → c ≠ 21 → c ≠ 22 → c ≠ 23 → c ≠ 24 → xPlan sd (xPersAdd M t n) (M 1 0) c = M c := fun c q5 q1 w0 w1 w2 w3 w4 => by rw [xPlan_c w0 w1 w2 w3 w4, kp c q5 q1]
  have k41 : xPlan sd (xPersAdd M t n) (M 1 0) 4 1 = M 4 1 + n := by rw [xPlan_c (by decide) (by decide) (by decide) (by decide) (by decide), xPersAdd_41]
  have k19 : xPlan sd (xPersAdd M t n) (M 1 0) 19 = xPersAdd M t n 19 := xPlan_c (by decide) (by decide) (by decide) (by decide) (by decide)
  have nk : ∀ c, c ≠ 12 → c ≠ 0 → nArr N t n c = N c := fun c w1 w2 => nArr_c w1 w2
  have n0 : ∀ j, j ≠ 16 → nArr N t n 0 j = N 0 j := fun j hj => nArr_0 hj
  have n16 : nArr N t n 0 16 = M 4 1 + n := by rw [nArr_16, a3]
  generalize xPlan sd (xPersAdd M t n) (M 1 0) = M' at hxO hpl k k41 k19 ⊢
  generalize nArr N t n = N' at e1912 nk n0 n16 ⊢
  rw [← k19] at e1912 sorted b19
  have j0 := k 0 (by decide) (by decide) (by decide) (by decide) (by decide) (by decide) (by decide)
  have j1 := k 1 (by decide) (by decide) (by decide) (by decide) (by decide) (by decide) (by decide)
  have j2 := k 2 (by decide) (by decide) (by decide) (by decide) (by decide) (by decide) (by decide)
  have j5 := k 5 (by decide) (by decide) (by decide) (by decide) (by decide) (by decide) (by decide)
  have j6 := k 6 (by decide) (by decide) (by decide) (by decide) (by decide) (by decide) (by decide)
  have j9 := k 9 (by decide) (by decide) (by decide) (by decide) (by decide) (by decide) (by decide)
  have j10 := k 10 (by decide) (by decide) (by decide) (by decide) (by decide) (by decide) (by decide)
  have j12 := k 12 (by decide) (by decide) (by decide) (by decide) (by decide) (by decide) (by decide)
  have j13 := k 13 (by decide) (by decide) (by decide) (by decide) (by decide) (by decide) (by decide)
  have j15 := k 15 (by decide) (by decide) (by decide) (by decide) (by decide) (by decide) (by decide)
  have j16 := k 16 (by decide) (by decide) (by decide) (by decide) (by decide) (by decide) (by decide)
  have hnO : nOK N' := by
    obtain ⟨g1, g2, g3, g4, g5, g6, g7, g8, g9⟩ := hn'
    refine ⟨by rw [n0 3 (by decide)]; exact g1, by rw [n0 9 (by decide)]; exact g2, by rw [n16]; omega, by rw [n0 2 (by decide)]; exact g4, by rw [n0 3 (by decide), a1]; omega, ?_, ?_, ?_, ?_⟩
    · rw [n0 9 (by decide), nk 6 (by decide) (by decide), nk 7 (by decide) (by decide)]; exact g6
    · rw [nk 5 (by decide) (by decide)]; exact g7
    · rw [nk 13 (by decide) (by decide)]; exact g8
    · rw [n16]
      intro p w0 w1
      rw [e1912 p w0 w1]
      exact b19 p w0 w1
  refine ⟨⟨hxO, hnO, ⟨?_, ?_, ?_, ?_⟩, ⟨?_, ?_, ?_, ?_⟩, ?_, ?_, ?_, ?_, ?_, ?_, ?_, ?_⟩, ⟨⟨?_, ?_, ?_, ?_, ?_, ?_, ?_, ?_⟩, ?_, ?_, ?_, ?_, ?_⟩, ?_, ?_⟩
  · rw [n0 3 (by decide), j1]; exact a1
  · rw [n0 9 (by decide), j2]; exact a2
  · rw [n16, k41]
  · rw [n0 2 (by decide), j0]; exact a4
  · rw [nk 1 (by decide) (by decide), j5]; exact b1
  · rw [nk 6 (by decide) (by decide), j9]; exact b2
  · rw [nk 7 (by decide) (by decide), j10]; exact b3
  · rw [nk 8 (by decide) (by decide), k 11 (by decide) (by decide) (by decide) (by decide) (by decide) (by decide) (by decide)]; exact b4
  · rw [k41]; exact e1912
  · rw [nk 5 (by decide) (by decide), j15]; exact c6
  · rw [j2, j9, j10, j15]; exact c7
  · rw [j2, j9, j10, j1]; exact c8
  · rw [k41]; exact sorted
  · rw [k41]; exact hpl
  · rw [j1, j5]; exact c11
  · rw [j1]; intro _; exact hR
  · rw [nk 2 (by decide) (by decide), j6]; exact d1
  · rw [nk 3 (by decide) (by decide), k 7 (by decide) (by decide) (by decide) (by decide) (by decide) (by decide) (by decide)]; exact d2
  · rw [nk 4 (by decide) (by decide), k 8 (by decide) (by decide) (by decide) (by decide) (by decide) (by decide) (by decide)]; exact d3
  · rw [nk 10 (by decide) (by decide), j12]; exact d4
  · rw [nk 11 (by decide) (by decide), j13]; exact d5
  · rw [nk 14 (by decide) (by decide), k 25 (by decide) (by decide) (by decide) (by decide) (by decide) (by decide) (by decide)]; exact d6
  · rw [n0 21 (by decide), j0]; exact d7
  · rw [n0 22 (by decide), j0]; exact d8
  · rw [j12, j13]; exact e2
  · rw [j1, j6, j5, j0]; exact e3
  · rw [j0]; exact e5
  · rw [j0]; exact e6
  · rw [j1, j6, j0]; exact e7
  · rw [k41, j0, hT]
    intro p w0 w1
    have w := z1 p w0 (by omega)
    exact sPR_0 (by rw [j16]; exact w.1) (by rw [nk 13 (by decide) (by decide)]; exact w.2)
  · rw [j0, j16, j6, nk 13 (by decide) (by decide)]; exact h0
section SQ
variable {sd : Int64} {M N : zM}
theorem sSim.person (h : sSim sd M N) {p what : Int} (h0 : 0 ≤ p ∧ p < M 4 1) : nTell sd N p what = xTell M p what := by
  have h12 := h.1.2.2.2.2.1 p h0.1 h0.2
  obtain ⟨t1, t2, t3, t4, t5⟩ := (h.1.2.2.2.2.2.2.2.2.2.1 p h0.1 h0.2).tell (N := N) h.1.2.2.1.1 h12
  unfold xTell
  by_cases c0 : what = 0
  · rw [if_pos c0, c0, nTell_0]; exact h12
  · rw [if_neg c0]
    by_cases c1 : what = 1
    · rw [if_pos c1, c1]; exact t1
    · rw [if_neg c1]
      by_cases c2 : what = 2
      · rw [if_pos c2, c2]; exact t2
      · rw [if_neg c2]
        by_cases c3 : what = 3
        · rw [if_pos c3, c3]; exact t3
        · rw [if_neg c3]
          by_cases c4 : what = 4
          · rw [if_pos c4, c4]; exact t4
          · rw [if_neg c4, ← t5, nTell_5]
            unfold nTell
            rw [if_neg c0, if_neg c1, if_neg c2, if_neg c3, if_neg c4]
theorem sSim.at (h : sSim sd M N) {p : Int} (h0 : 0 ≤ p ∧ p < M 4 1) : N 13 p = xNow M p := (h.2.2.1 p h0.1 h0.2).1
theorem sSim.was (h : sSim sd M N) {p t : Int} (h0 : 0 ≤ p ∧ p < M 4 1) (ht : 0 ≤ t ∧ t < M 0 4) : N 15 (2000 * p + t) = xBeh M p t := (h.2.2.1 p h0.1 h0.2).2.2.2.1 t ht.1 ht.2
theorem sSim.waited (h : sSim sd M N) (p : Int) : N 14 p = M 25 p := by rw [h.2.1.1.2.2.2.2.2.1]
theorem sSim.in (h : sSim sd M N) (r what : Int) : nIn N r what = xIn M r what := by
  unfold nIn xIn
  rw [h.2.1.1.1, h.2.1.1.2.1, h.2.1.1.2.2.1]
theorem sSim.through (h : sSim sd M N) (d on : Int) : (if on = 0 then N 11 d else N 10 d) = if on = 0 then M 13 d else M 12 d := by
  rw [h.2.1.1.2.2.2.1, h.2.1.1.2.2.2.2.1]
theorem sSim.entered (h : sSim sd M N) (on : Int) : (if on = 0 then N 0 22 else N 0 21) = if on = 0 then M 0 6 else M 0 5 := by
  rw [h.2.1.1.2.2.2.2.2.2.1, h.2.1.1.2.2.2.2.2.2.2]
theorem sSim.distance (h : sSim sd M N) {a b : Int} (ha : 0 ≤ a ∧ a < M 1 0) (hb : 0 ≤ b ∧ b < M 1 0) : N 5 (12 * a + b) = if M 15 (a * 12 + b) < 1000 then M 15 (a * 12 + b) else -1 := by
  have := h.1.1.1
  exact h.1.2.2.2.2.2.1 a b ha.1 (by omega) hb.1 (by omega)
theorem sSim.inThenN (h : sSim sd M N) {r t : Int} (ht : 0 ≤ t ∧ t < M 0 4) : ∀ k : Nat, (k : Int) ≤ M 4 1 → nCnt N r t k = xCnt M r t k
  | 0, _ => rfl
  | k + 1, hk => by
    simp only [nCnt, xCnt]
    rw [h.inThenN ht k (by omega), h.was (p := (k : Int)) ⟨by omega, by omega⟩ ht]
theorem sSim.inThen (h : sSim sd M N) {r t : Int} (ht : 0 ≤ t ∧ t < M 0 4) : nCnt N r t (N 0 16).toNat = xCnt M r t (M 4 1).toNat := by
  have := h.1.1.2.2.1
  rw [h.1.2.2.1.2.2.1]
  exact h.inThenN ht _ (by omega)
/-- met -/
theorem xBehN_no {p t : Int} : ∀ k : Nat, (∀ i, 0 ≤ i → i < (k : Int) → M 17 (p * 46 + i) ≠ t) → xBehN M p t k = xBehN M p (t - 1) k
  | 0, _ => rfl
  | k + 1, h => by
    have hk := h k (by omega) (by omega)
    simp only [xBehN]
    rw [xBehN_no k (fun i i0 i1 => h i i0 (by omega))]
    by_cases c : M 17 (p * 46 + (k : Int)) ≤ t
    · rw [if_pos c, if_pos (by omega)]
    · rw [if_neg c, if_neg (by omega)]
theorem xBehN_m1 {p t : Int} : ∀ k : Nat, (∀ i, 0 ≤ i → i < (k : Int) → t < M 17 (p * 46 + i)) → xBehN M p t k = -1
  | 0, _ => rfl
  | k + 1, h => by
    have hk := h k (by omega) (by omega)
    simp only [xBehN]
    rw [if_neg (by omega)]
    exact xBehN_m1 k (fun i i0 i1 => h i i0 (by omega))
/-- behind its own move i a person is where the move went -/
theorem xBehN_own {p i : Int} (h0 : 0 ≤ i) (hs : ∀ a b, 0 ≤ a → a < b → b < M 16 p → M 17 (p * 46 + a) < M 17 (p * 46 + b)) : ∀ k : Nat, (k : Int) ≤ M 16 p → i < (k : Int) → xBehN M p (M 17 (p * 46 + i)) k = M 18 (p * 46 + i)
  | 0, _, h => absurd h (by omega)
  | k + 1, hk, hi => by
    simp only [xBehN]
    by_cases e : i = (k : Int)
    · rw [e, if_pos (Int.le_refl _)]
    · have := hs i k h0 (by omega) (by omega)
      rw [if_neg (by omega)]
      exact xBehN_own h0 hs k (by omega) (by omega)
theorem xJoinN_is {p o : Int} : ∀ (n : Nat) (i : Int), (xJoinN M p o n i = -1 ∧ ∀ j, i ≤ j → j < i + n → ¬ (M 18 (p * 46 + j) ≠ -1 ∧ xBeh M o (M 17 (p * 46 + j)) = M 18 (p * 46 + j))) ∨ (∃ j, i ≤ j ∧ j < i + n ∧ (M 18 (p * 46 + j) ≠ -1 ∧ xBeh M o (M 17 (p * 46 + j)) = M 18 (p * 46 + j)) ∧ xJoinN M p o n i = M 17 (p * 46 + j) ∧ ∀ k, i ≤ k → k < j → ¬ (M 18 (p * 46 + k) ≠ -1 ∧ xBeh M o (M 17 (p * 46 + k)) = M 18 (p * 46 + k)))
  | 0, i => Or.inl ⟨rfl, fun j h1 h2 => absurd h2 (by omega)⟩
  | n + 1, i => by
    simp only [xJoinN]
    by_cases c : M 18 (p * 46 + i) ≠ -1 ∧ xBeh M o (M 17 (p * 46 + i)) = M 18 (p * 46 + i)
    · rw [if_pos c]
      exact Or.inr ⟨i, Int.le_refl _, by omega, c, rfl, fun k h1 h2 => absurd h2 (by omega)⟩
    · rw [if_neg c]
      rcases xJoinN_is n (i + 1) with ⟨e, q⟩ | ⟨j, q1, q2, q3, q4, q5⟩
      · refine Or.inl ⟨e, fun j h1 h2 => ?_⟩
        by_cases ej : j = i
        · rw [ej]; exact c
        · exact q j (by omega) (by omega)
      · refine Or.inr ⟨j, by omega, by omega, q3, q4, fun k h1 h2 => ?_⟩
        by_cases ek : k = i
        · rw [ek]; exact c
        · exact q5 k (by omega) h2
theorem nMetN_is {p o : Int} : ∀ (n : Nat) (t : Int), (nMetN N p o n t = -1 ∧ ∀ s, t ≤ s → s < t + n → ¬ (N 15 (2000 * p + s) ≠ -1 ∧ N 15 (2000 * p + s) = N 15 (2000 * o + s))) ∨ ((t ≤ nMetN N p o n t ∧ nMetN N p o n t < t + n) ∧ (N 15 (2000 * p + nMetN N p o n t) ≠ -1 ∧ N 15 (2000 * p + nMetN N p o n t) = N 15 (2000 * o + nMetN N p o n t)) ∧ ∀ s, t ≤ s → s < nMetN N p o n t → ¬ (N 15 (2000 * p + s) ≠ -1 ∧ N 15 (2000 * p + s) = N 15 (2000 * o + s)))
  | 0, t => Or.inl ⟨rfl, fun j h1 h2 => absurd h2 (by omega)⟩
  | n + 1, t => by
    simp only [nMetN]
    by_cases c : N 15 (2000 * p + t) ≠ -1 ∧ N 15 (2000 * p + t) = N 15 (2000 * o + t)
    · rw [if_pos c]
      exact Or.inr ⟨⟨Int.le_refl _, by omega⟩, c, fun s h1 h2 => absurd h2 (by omega)⟩
    · rw [if_neg c]
      rcases nMetN_is n (t + 1) with ⟨e, q⟩ | ⟨⟨q1, q2⟩, q3, q4⟩
      · refine Or.inl ⟨e, fun s h1 h2 => ?_⟩
        by_cases es : s = t
        · rw [es]; exact c
        · exact q s (by omega) (by omega)
      · refine Or.inr ⟨⟨by omega, by omega⟩, q3, fun s h1 h2 => ?_⟩
        by_cases es : s = t
        · rw [es]; exact c
        · exact q4 s (by omega) h2
end SQ

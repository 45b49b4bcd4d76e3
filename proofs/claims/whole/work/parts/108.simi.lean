/-! Class and reference side by side: met; the start -/
def sJt (M : zM) (p o t : Int) : Prop := xBeh M p t ≠ -1 ∧ xBeh M p t = xBeh M o t
theorem sJt.symm {M : zM} {p o t : Int} (h : sJt M p o t) : sJt M o p t := ⟨by rw [← h.2]; exact h.1, h.2.symm⟩
theorem sJoin {M N : zM} {p o L : Int} (hm : 0 ≤ M 16 p) (h : sPR M N p L) : (xJoin M p o = -1 ∧ ∀ i, 0 ≤ i → i < M 16 p → ¬ sJt M p o (M 17 (p * 46 + i))) ∨ (∃ i, 0 ≤ i ∧ i < M 16 p ∧ xJoin M p o = M 17 (p * 46 + i) ∧ sJt M p o (M 17 (p * 46 + i)) ∧ ∀ k, 0 ≤ k → k < i → ¬ sJt M p o (M 17 (p * 46 + k))) := by
  obtain ⟨-, h2, h3, -, -⟩ := h
  have own : ∀ i, 0 ≤ i → i < M 16 p → xBeh M p (M 17 (p * 46 + i)) = M 18 (p * 46 + i) := fun i i0 i1 => xBehN_own i0 h3 _ (by omega) (by omega)
  have cand : ∀ i, 0 ≤ i → i < M 16 p → ((M 18 (p * 46 + i) ≠ -1 ∧ xBeh M o (M 17 (p * 46 + i)) = M 18 (p * 46 + i)) ↔ sJt M p o (M 17 (p * 46 + i))) := by
    intro i i0 i1
    unfold sJt
    rw [own i i0 i1]
    exact ⟨fun q => ⟨q.1, q.2.symm⟩, fun q => ⟨q.1, q.2.symm⟩⟩
  rcases xJoinN_is (M := M) (p := p) (o := o) (M 16 p).toNat 0 with ⟨e, q⟩ | ⟨j, q1, q2, q3, q4, q5⟩
  · exact Or.inl ⟨e, fun i i0 i1 w => q i i0 (by omega) ((cand i i0 i1).mpr w)⟩
  · exact Or.inr ⟨j, q1, by omega, q4, (cand j q1 (by omega)).mp q3, fun k k0 k1 w => q5 k k0 k1 ((cand k k0 (by omega)).mpr w)⟩
theorem sSim.met {sd : Int64} {M N : zM} (h : sSim sd M N) {p o : Int} (hp : 0 ≤ p ∧ p < M 4 1) (ho : 0 ≤ o ∧ o < M 4 1) : nMetN N p o (M 0 4).toNat 0 = xMet M p o := by
  have hx := h.1.1
  have h60 := hx.2.2.1
  have hT := hx.2.2.2.1
  have mp := hx.2.2.2.2.2.2.1 p hp.1 (by omega)
  have mo := hx.2.2.2.2.2.2.1 o ho.1 (by omega)
  have pp := h.2.2.1 p hp.1 hp.2
  have po := h.2.2.1 o ho.1 ho.2
  have j1 := sJoin (o := o) mp.1 pp
  have j2 := sJoin (o := p) mo.1 po
  have J : ∀ t, 0 ≤ t → t < M 0 4 → ((N 15 (2000 * p + t) ≠ -1 ∧ N 15 (2000 * p + t) = N 15 (2000 * o + t)) ↔ sJt M p o t) := by
    intro t t0 t1
    unfold sJt
    rw [pp.2.2.2.1 t t0 t1, po.2.2.2.1 t t0 t1]
  unfold xMet
  rcases nMetN_is (N := N) (p := p) (o := o) (M 0 4).toNat 0 with ⟨e, q⟩ | ⟨⟨q1, q2⟩, q3, q4⟩
  · have no : ∀ t, 0 ≤ t → t < M 0 4 → ¬ sJt M p o t := fun t t0 t1 w => q t t0 (by omega) ((J t t0 t1).mpr w)
    have e1 : xJoin M p o = -1 := by
      rcases j1 with ⟨w, -⟩ | ⟨i, i0, i1, -, w, -⟩
      · exact w
      · have := pp.2.1 i i0 i1
        exact absurd w (no _ this.1 this.2)
    have e2 : xJoin M o p = -1 := by
      rcases j2 with ⟨w, -⟩ | ⟨i, i0, i1, -, w, -⟩
      · exact w
      · have := po.2.1 i i0 i1
        exact absurd w.symm (no _ this.1 this.2)
    rw [e, e1, e2]; rfl
  · generalize nMetN N p o (M 0 4).toNat 0 = R at q1 q2 q3 q4 ⊢
    have hR : sJt M p o R := (J R q1 (by omega)).mp q3
    have no : ∀ t, 0 ≤ t → t < R → ¬ sJt M p o t := fun t t0 t1 w => q4 t t0 t1 ((J t t0 (by omega)).mpr w)
    have l1 : xJoin M p o = -1 ∨ R ≤ xJoin M p o := by
      rcases j1 with ⟨w, -⟩ | ⟨i, i0, i1, e, w, -⟩
      · exact Or.inl w
      · right
        rw [e]
        by_cases c : R ≤ M 17 (p * 46 + i)
        · exact c
        · exact absurd w (no _ (pp.2.1 i i0 i1).1 (by omega))
    have l2 : xJoin M o p = -1 ∨ R ≤ xJoin M o p := by
      rcases j2 with ⟨w, -⟩ | ⟨i, i0, i1, e, w, -⟩
      · exact Or.inl w
      · right
        rw [e]
        by_cases c : R ≤ M 17 (o * 46 + i)
        · exact c
        · exact absurd w.symm (no _ (po.2.1 i i0 i1).1 (by omega))
    have m1 : (∃ i, 0 ≤ i ∧ i < M 16 p ∧ M 17 (p * 46 + i) = R) → xJoin M p o = R := by
      intro ⟨i, i0, i1, e⟩
      rcases j1 with ⟨-, w⟩ | ⟨k, k0, k1, ek, wk, fk⟩
      · exact absurd (by rw [e]; exact hR) (w i i0 i1)
      · have hki : k ≤ i := by
          by_cases c : k ≤ i
          · exact c
          · exact absurd (by rw [e]; exact hR) (fk i i0 (by omega))
        have : M 17 (p * 46 + k) ≤ R := by
          by_cases c : k = i
          · rw [c, e]; exact Int.le_refl _
          · have := pp.2.2.1 k i k0 (by omega) i1
            omega
        have g := pp.2.1 k k0 k1
        omega
    have m2 : (∃ i, 0 ≤ i ∧ i < M 16 o ∧ M 17 (o * 46 + i) = R) → xJoin M o p = R := by
      intro ⟨i, i0, i1, e⟩
      rcases j2 with ⟨-, w⟩ | ⟨k, k0, k1, ek, wk, fk⟩
      · exact absurd (by rw [e]; exact hR.symm) (w i i0 i1)
      · have hki : k ≤ i := by
          by_cases c : k ≤ i
          · exact c
          · exact absurd (by rw [e]; exact hR.symm) (fk i i0 (by omega))
        have : M 17 (o * 46 + k) ≤ R := by
          by_cases c : k = i
          · rw [c, e]; exact Int.le_refl _
          · have := po.2.2.1 k i k0 (by omega) i1
            omega
        have g := po.2.1 k k0 k1
        omega
    have some : xJoin M p o = R ∨ xJoin M o p = R := by
      by_cases c1 : ∃ i, 0 ≤ i ∧ i < M 16 p ∧ M 17 (p * 46 + i) = R
      · exact Or.inl (m1 c1)
      · by_cases c2 : ∃ i, 0 ≤ i ∧ i < M 16 o ∧ M 17 (o * 46 + i) = R
        · exact Or.inr (m2 c2)
        · exfalso
          have b1 : xBeh M p R = xBeh M p (R - 1) := xBehN_no _ (fun i i0 i1 w => c1 ⟨i, i0, by omega, w⟩)
          have b2 : xBeh M o R = xBeh M o (R - 1) := xBehN_no _ (fun i i0 i1 w => c2 ⟨i, i0, by omega, w⟩)
          have w : sJt M p o (R - 1) := by
            unfold sJt at hR ⊢
            rw [← b1, ← b2]; exact hR
          by_cases c3 : 1 ≤ R
          · exact no (R - 1) (by omega) (by omega) w
          · have : xBeh M p (R - 1) = -1 := xBehN_m1 _ (fun i i0 i1 => by have := pp.2.1 i i0 (by omega); omega)
            exact w.1 this
    split <;> omega
/-- a new object's memory: only ways to other rooms are none -/
def xM0 : zM := fun k i => if k = 15 then (if 0 ≤ i ∧ i < 144 then (if i / 12 = i % 12 then 0 else 1000) else 0) else 0
def nM0 : zM := fun k i => if k = 5 then (if 0 ≤ i ∧ i < 144 then (if i / 12 = i % 12 then 0 else -1) else 0) else if k = 13 then (if 0 ≤ i ∧ i < 60 then -1 else 0) else 0
theorem sSim.zero (sd : Int64) : sSim sd xM0 nM0 := by
  have x : ∀ c i, c ≠ 15 → xM0 c i = 0 := fun c i hc => by unfold xM0; rw [if_neg hc]
  have n : ∀ c i, c ≠ 5 → c ≠ 13 → nM0 c i = 0 := fun c i h5 h13 => by unfold nM0; rw [if_neg h5, if_neg h13]
  have xn : ∀ c c', c ≠ 15 → c' ≠ 5 → c' ≠ 13 → nM0 c' = xM0 c := fun c c' h1 h2 h3 => by funext i; rw [n c' i h2 h3, x c i h1]
  have x15 : ∀ i j, 0 ≤ i → i < 12 → 0 ≤ j → j < 12 → xM0 15 (i * 12 + j) = if i = j then 0 else 1000 := by
    intro i j i0 i1 j0 j1
    unfold xM0
    rw [if_pos rfl, if_pos (by omega), show (i * 12 + j) / 12 = i by omega, show (i * 12 + j) % 12 = j by omega]
  have n5 : ∀ i j, 0 ≤ i → i < 12 → 0 ≤ j → j < 12 → nM0 5 (12 * i + j) = if i = j then 0 else -1 := by
    intro i j i0 i1 j0 j1
    unfold nM0
    rw [if_pos rfl, if_pos (by omega), show (12 * i + j) / 12 = i by omega, show (12 * i + j) % 12 = j by omega]
  have n13 : ∀ p, 0 ≤ p → p < 60 → nM0 13 p = -1 := by
    intro p p0 p1
    unfold nM0
    rw [if_neg (by decide), if_pos rfl, if_pos ⟨p0, p1⟩]
  have xr : ∀ y, 0 ≤ xM0 15 y ∧ xM0 15 y ≤ 1000 := by
    intro y
    unfold xM0
    rw [if_pos rfl]
    repeat' split
    all_goals omega
  have nr : ∀ y, -1 ≤ nM0 5 y ∧ nM0 5 y ≤ 100000 := by
    intro y
    unfold nM0
    rw [if_pos rfl]
    repeat' split
    all_goals omega
  have hx : xOK xM0 := by
    refine ⟨?_, ?_, ?_, ?_, fun d d0 d1 => ?_, fun y _ _ => xr y, fun p _ _ => ?_, fun y _ _ => ?_, fun p _ _ => ?_, fun p p0 p1 => ?_⟩
    · rw [x 1 0 (by decide)]; omega
    · rw [x 2 0 (by decide)]; omega
    · rw [x 4 1 (by decide)]; omega
    · rw [x 0 4 (by decide)]; omega
    · rw [x 2 0 (by decide)] at d1; omega
    · rw [x 16 p (by decide)]; omega
    · rw [x 18 y (by decide)]; omega
    · rw [x 20 p (by decide), x 23 p (by decide)]; omega
    · rw [x 4 1 (by decide)] at p1; omega
  have hn : nOK nM0 := by
    refine ⟨?_, ?_, ?_, ?_, ?_, fun d d0 d1 => ?_, fun y _ _ => nr y, fun p p0 p1 => ?_, fun p p0 p1 => ?_⟩
    · rw [n 0 3 (by decide) (by decide)]; omega
    · rw [n 0 9 (by decide) (by decide)]; omega
    · rw [n 0 16 (by decide) (by decide)]; omega
    · rw [n 0 2 (by decide) (by decide)]; omega
    · rw [n 0 16 (by decide) (by decide)]; omega
    · rw [n 0 9 (by decide) (by decide)] at d1; omega
    · rw [n13 p p0 p1]; omega
    · rw [n 0 16 (by decide) (by decide)] at p1; omega
  refine ⟨⟨hx, hn, ⟨?_, ?_, ?_, ?_⟩, ⟨xn 5 1 (by decide) (by decide) (by decide), xn 9 6 (by decide) (by decide) (by decide), xn 10 7 (by decide) (by decide) (by decide), xn 11 8 (by decide) (by decide) (by decide)⟩, fun p p0 p1 => ?_, fun i j i0 i1 j0 j1 => ?_, ?_, fun d d0 d1 => ?_, fun p q p0 pq q1 => ?_, fun p p0 p1 => ?_, fun r r0 r1 => ?_, ?_⟩, ⟨⟨xn 6 2 (by decide) (by decide) (by decide), xn 7 3 (by decide) (by decide) (by decide), xn 8 4 (by decide) (by decide) (by decide), xn 12 10 (by decide) (by decide) (by decide), xn 13 11 (by decide) (by decide) (by decide), xn 25 14 (by decide) (by decide) (by decide), ?_, ?_⟩, fun d => ?_, fun r r0 r1 => ?_, ?_, ?_, ?_⟩, fun p p0 p1 => ?_, fun _ => ⟨fun p p0 p1 => ⟨x 16 p (by decide), n13 p p0 p1⟩, fun r => x 6 r (by decide), x 0 5 (by decide), x 0 6 (by decide)⟩⟩
  · rw [n 0 3 (by decide) (by decide), x 1 0 (by decide)]
  · rw [n 0 9 (by decide) (by decide), x 2 0 (by decide)]
  · rw [n 0 16 (by decide) (by decide), x 4 1 (by decide)]
  · rw [n 0 2 (by decide) (by decide), x 0 4 (by decide)]
  · rw [x 4 1 (by decide)] at p1; omega
  · rw [n5 i j i0 i1 j0 j1, x15 i j i0 i1 j0 j1]
    repeat' split
    all_goals omega
  · rw [x 2 0 (by decide)]
    exact gM_0 x15
  · rw [x 2 0 (by decide)] at d1; omega
  · rw [x 4 1 (by decide)] at q1; omega
  · rw [x 4 1 (by decide)] at p1; omega
  · rw [x 1 0 (by decide)] at r1; omega
  · rw [x 4 1 (by decide)]; omega
  · rw [n 0 21 (by decide) (by decide), x 0 5 (by decide)]
  · rw [n 0 22 (by decide) (by decide), x 0 6 (by decide)]
  · rw [x 12 d (by decide), x 13 d (by decide)]; omega
  · rw [x 1 0 (by decide)] at r1; omega
  · rw [x 0 5 (by decide), x 0 4 (by decide)]; omega
  · rw [x 0 6 (by decide), x 0 4 (by decide)]; omega
  · rw [x 1 0 (by decide), x 0 5 (by decide), x 0 6 (by decide)]; rfl
  · rw [x 4 1 (by decide)] at p1; omega

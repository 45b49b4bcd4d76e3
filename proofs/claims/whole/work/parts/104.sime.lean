/-! Class and reference side by side: the whole state; a minute; run -/
def sSim (sd : Int64) (M N : zM) : Prop := sB sd M N ∧ sD M N 0 ∧ (∀ p, 0 ≤ p → p < M 4 1 → sPR M N p (M 0 4)) ∧ (M 0 4 = 0 → (∀ p, 0 ≤ p → p < 60 → M 16 p = 0 ∧ N 13 p = -1) ∧ (∀ r, M 6 r = 0) ∧ M 0 5 = 0 ∧ M 0 6 = 0)
theorem nGoneN_9 {N : zM} : ∀ (k : Nat) (d : Int), 0 ≤ d → d < (k : Int) → nGoneN N k 9 d = 0
  | 0, d, h0, h1 => absurd h1 (by omega)
  | k + 1, d, h0, h1 => by
    show zU (nGoneN N k) 9 k 0 9 d = 0
    by_cases e : d = (k : Int)
    · rw [e, zU_s]
    · rw [zU_n e]; exact nGoneN_9 k d h0 (by omega)
theorem sSim.begin {sd : Int64} {M N : zM} (h : sSim sd M N) (hT : M 0 4 < 2000) : sMid sd (xFill M 14 16 0) (nGoneN N (N 0 9).toNat) 0 := by
  obtain ⟨hB, hD, hP, -⟩ := h
  have hx := hB.1
  have hd16 := hx.2.1
  have h60 := hx.2.2.1
  have hT0 := hx.2.2.2.1
  have m : ∀ c, c ≠ 14 → xFill M 14 16 0 c = M c := fun c hc => xFill_c hc
  have n : ∀ c, c ≠ 9 → nGoneN N (N 0 9).toNat c = N c := fun c hc => nGoneN_c hc _
  have e9 := hB.2.2.1.2.1
  refine ⟨hB.of (xFill_ok hx) (nGoneN_ok hB.2.1 _) (by rw [n 0 (by decide), m 0 (by decide)]; exact hB.2.2.1.2.2.2) (fun c hc => m c (by omega)) (fun c hc => n c (by omega)) (fun j _ => by rw [n 0 (by decide)]), ?_, ?_, ?_, ?_, ?_⟩
  · unfold sD at hD ⊢
    rw [n 2 (by decide), n 3 (by decide), n 4 (by decide), n 10 (by decide), n 11 (by decide), n 14 (by decide), n 0 (by decide), m 6 (by decide), m 7 (by decide), m 8 (by decide), m 12 (by decide), m 13 (by decide), m 25 (by decide), m 0 (by decide), m 1 (by decide), m 5 (by decide)]
    exact hD
  · rw [m 2 (by decide)]
    intro d d0 d1
    rw [nGoneN_9 _ d d0 (by omega)]
    unfold xFill
    rw [if_pos ⟨rfl, d0, by show d < 16; omega⟩]
  · rw [m 4 (by decide), m 0 (by decide)]
    intro p p0 p1
    rw [if_neg (by omega)]
    refine (hP p p0 p1).keep (hx.2.2.2.2.2.2.1 p p0 (by omega)) (by omega) ?_ (fun i _ _ => ?_) (fun i _ _ => ?_) ?_ (m 15 (by decide)) ?_ ?_ ?_ ?_ ?_ ?_ (fun t _ _ => ?_)
    · rw [m 16 (by decide)]
    · rw [m 17 (by decide)]
    · rw [m 18 (by decide)]
    · rw [m 1 (by decide)]
    · rw [m 20 (by decide)]
    · rw [m 21 (by decide)]
    · rw [m 22 (by decide)]
    · rw [m 23 (by decide)]
    · rw [m 24 (by decide)]
    · rw [n 13 (by decide)]
    · rw [n 15 (by decide)]
  · rw [m 4 (by decide)]; omega
  · rw [m 0 (by decide)]; exact hT
theorem sEnd {M N : zM} (h2 : N 2 = M 6) (h1 : N 1 = M 5) (h3 : N 3 = M 7) (h4 : N 4 = M 8) {R : Int} (hb : ∀ r, 0 ≤ r → r < R → M 6 r ≤ M 5 r) : ∀ j : Nat, (j : Int) ≤ R → nEndN N j 3 = xEndN M j 7 ∧ nEndN N j 4 = xEndN M j 8
  | 0, _ => ⟨h3, h4⟩
  | j + 1, hj => by
    obtain ⟨i3, i4⟩ := sEnd h2 h1 h3 h4 hb j (by omega)
    have b := hb j (by omega) (by omega)
    have x6 : xEndN M j 6 = M 6 := xEndN_c (by decide) (by decide) j
    have x5 : xEndN M j 5 = M 5 := xEndN_c (by decide) (by decide) j
    have y2 : nEndN N j 2 = N 2 := nEndN_c (by decide) (by decide) j
    have y1 : nEndN N j 1 = N 1 := nEndN_c (by decide) (by decide) j
    show nEndI (nEndN N j) j 3 = xEndI (xEndN M j) j 7 ∧ nEndI (nEndN N j) j 4 = xEndI (xEndN M j) j 8
    unfold nEndI xEndI
    rw [zU_k (by decide), zU_f, zU_f, zU_k (by decide), y2, y1, i3, i4, x6, x5, h2, h1]
    have e : (if xEndN M j 7 (j : Int) < M 6 (j : Int) then M 6 (j : Int) else xEndN M j 7 (j : Int)) = max (xEndN M j 7 (j : Int)) (M 6 (j : Int)) := by
      split <;> omega
    rw [e]
    by_cases c : M 6 (j : Int) < M 5 (j : Int)
    · rw [if_pos c, if_neg (by omega), zU_f, zU_k (by decide), fU_id]
      exact ⟨rfl, rfl⟩
    · rw [if_neg c, if_pos (by omega), zU_k (by decide), zU_f, zU_f, zU_k (by decide)]
      exact ⟨rfl, rfl⟩
theorem sSim.minute {sd : Int64} {M N : zM} (h : sSim sd M N) (hT : M 0 4 < 2000) : sSim sd (xMin M) (nMin sd N) ∧ xMin M 0 4 = M 0 4 + 1 := by
  have h0 := h.begin hT
  obtain ⟨hxO, hx4⟩ := xMin_ok h.1.1 hT
  have h2n : N 0 2 < 2000 := by rw [h.1.2.2.1.2.2.2]; exact hT
  have hnO := nMin_ok (sd := sd) h.1.2.1 h2n
  have h60 := h.1.1.2.2.1
  have hT0 := h.1.1.2.2.2.1
  refine ⟨?_, hx4⟩
  have e4 : xFill M 14 16 0 4 = M 4 := xFill_c (by decide)
  have ha := sMid.all (sd := sd) (N0 := nGoneN N (N 0 9).toNat) (M 4 1).toNat 0 (M := xFill M 14 16 0) h0 (by rw [e4]; omega)
  rw [Nat.zero_add] at ha
  have e04 : xStepN (M 4 1).toNat 0 (xFill M 14 16 0) 0 4 = M 0 4 := (xStepN_ok _ 0 (xFill_ok h.1.1) (by omega) (by omega)).2
  have hp16 : (N 0 16).toNat = (M 4 1).toNat := by rw [h.1.2.2.1.2.2.1]
  unfold xMin at hxO
  unfold nMin at hnO
  unfold xMin nMin
  have t4 : xMinA M 0 4 = M 0 4 := by
    unfold xMinA xEnd
    rw [xEndN_c (by decide) (by decide)]; exact e04
  have t2 : nMinA sd N 0 2 = M 0 4 := by rw [nMinA_0 (by decide) (by decide)]; exact h.1.2.2.1.2.2.2
  rw [t4] at hxO ⊢
  rw [t2] at hnO ⊢
  unfold xMinA xEnd at hxO ⊢
  have r3 : (N 0 3).toNat = (M 1 0).toNat := by rw [h.1.2.2.1.1]
  unfold nMinA nMinP at hnO ⊢
  rw [hp16, r3] at hnO ⊢
  have ha : sMid sd (xStepN (M 4 1).toNat 0 (xFill M 14 16 0)) (nPersN sd (nGoneN N (N 0 9).toNat) (M 4 1).toNat) (((M 4 1).toNat : Nat) : Int) := ha
  generalize hM2 : xStepN (M 4 1).toNat 0 (xFill M 14 16 0) = M2 at hxO ha e04 ⊢
  generalize nPersN sd (nGoneN N (N 0 9).toNat) (M 4 1).toNat = N2 at hnO ha ⊢
  obtain ⟨hB, hD, hG, hP, hk, -⟩ := ha
  obtain ⟨⟨d1, d2, d3, d4, d5, d6, d7, d8⟩, e2, e3, e5, e6, e7⟩ := hD
  have b1 := hB.2.2.2.1.1
  have r12 := hB.1.1
  have p60 := hB.1.2.2.1
  have rn : (M2 1 0).toNat = (M 1 0).toNat := by
    have : nMinP sd N 0 3 = N 0 3 := by
      unfold nMinP
      rw [nPersN_0 (by decide) (by decide), nGoneN_c (by decide)]
    have q := hB.2.2.1.1
    have s1 : ∀ (n : Nat) (k : Int) (X : zM), xStepN n k X 1 = X 1 := by
      intro n
      induction n with
      | zero => intro k X; rfl
      | succ n ih =>
        intro k X
        simp only [xStepN]
        split
        · rw [ih, xStep_c (by decide) (by decide) (by decide) (by decide) (by decide) (by decide) (by decide) (by decide) (by decide)]
        · rfl
    rw [← hM2, s1, xFill_c (by decide)]
  rw [rn] at hxO ⊢
  obtain ⟨k3, k4⟩ := sEnd d1 b1 d2 d3 (R := M2 1 0) (fun r q0 q1 => (e3 r q0 q1).2) (M 1 0).toNat (by rw [← rn]; omega)
  have mE : ∀ c, c ≠ 7 → c ≠ 8 → xEndN M2 (M 1 0).toNat c = M2 c := fun c q7 q8 => xEndN_c q7 q8 _
  have nE : ∀ c, c ≠ 3 → c ≠ 4 → nEndN N2 (M 1 0).toNat c = N2 c := fun c q3 q4 => nEndN_c q3 q4 _
  generalize xEndN M2 (M 1 0).toNat = M3 at hxO k3 k4 mE ⊢
  generalize nEndN N2 (M 1 0).toNat = N3 at hnO k3 k4 nE ⊢
  have m : ∀ c, c ≠ 7 → c ≠ 8 → c ≠ 0 → zU M3 0 4 (M 0 4 + 1) c = M2 c := fun c q7 q8 q0 => by rw [zU_k q0, mE c q7 q8]
  have m0 : ∀ j, j ≠ 4 → zU M3 0 4 (M 0 4 + 1) 0 j = M2 0 j := fun j hj => by rw [zU_n hj, mE 0 (by decide) (by decide)]
  have m04 : zU M3 0 4 (M 0 4 + 1) 0 4 = M 0 4 + 1 := zU_s
  have n : ∀ c, c ≠ 3 → c ≠ 4 → c ≠ 0 → zU N3 0 2 (M 0 4 + 1) c = N2 c := fun c q3 q4 q0 => by rw [zU_k q0, nE c q3 q4]
  have n0 : ∀ j, j ≠ 2 → zU N3 0 2 (M 0 4 + 1) 0 j = N2 0 j := fun j hj => by rw [zU_n hj, nE 0 (by decide) (by decide)]
  have n02 : zU N3 0 2 (M 0 4 + 1) 0 2 = M 0 4 + 1 := zU_s
  have m7 : zU M3 0 4 (M 0 4 + 1) 7 = M3 7 := zU_k (by decide)
  have m8 : zU M3 0 4 (M 0 4 + 1) 8 = M3 8 := zU_k (by decide)
  have n3 : zU N3 0 2 (M 0 4 + 1) 3 = N3 3 := zU_k (by decide)
  have n4 : zU N3 0 2 (M 0 4 + 1) 4 = N3 4 := zU_k (by decide)
  generalize zU M3 0 4 (M 0 4 + 1) = M' at hxO m m0 m04 m7 m8 ⊢
  generalize zU N3 0 2 (M 0 4 + 1) = N' at hnO n n0 n02 n3 n4 ⊢
  refine ⟨hB.of hxO hnO (by rw [n02, m04]) (fun c hc => m c (by omega) (by omega) (by omega)) (fun c hc => n c (by omega) (by omega) (by omega)) (fun j hj => n0 j (by omega)), ?_, ?_, fun q => absurd q (by omega)⟩
  · refine ⟨⟨?_, ?_, ?_, ?_, ?_, ?_, ?_, ?_⟩, ?_, ?_, ?_, ?_, ?_⟩
    · rw [n 2 (by decide) (by decide) (by decide), m 6 (by decide) (by decide) (by decide)]; exact d1
    · rw [n3, m7, k3]
    · rw [n4, m8, k4]
    · rw [n 10 (by decide) (by decide) (by decide), m 12 (by decide) (by decide) (by decide)]; exact d4
    · rw [n 11 (by decide) (by decide) (by decide), m 13 (by decide) (by decide) (by decide)]; exact d5
    · rw [n 14 (by decide) (by decide) (by decide), m 25 (by decide) (by decide) (by decide)]; exact d6
    · rw [n0 21 (by decide), m0 5 (by decide)]; exact d7
    · rw [n0 22 (by decide), m0 6 (by decide)]; exact d8
    · rw [m 12 (by decide) (by decide) (by decide), m 13 (by decide) (by decide) (by decide)]; exact e2
    · rw [m 1 (by decide) (by decide) (by decide), m 6 (by decide) (by decide) (by decide), m 5 (by decide) (by decide) (by decide), m04]
      intro r q0 q1
      have := e3 r q0 q1
      omega
    · rw [m0 5 (by decide), m04]; omega
    · rw [m0 6 (by decide), m04]; omega
    · rw [m 1 (by decide) (by decide) (by decide), m 6 (by decide) (by decide) (by decide), m0 5 (by decide), m0 6 (by decide)]; exact e7
  · rw [m 4 (by decide) (by decide) (by decide), m04]
    intro p p0 p1
    have hpr := hP p p0 p1
    have P4 : M2 4 1 = M 4 1 := by
      have s4 : ∀ (n : Nat) (k : Int) (X : zM), xStepN n k X 4 = X 4 := by
        intro n
        induction n with
        | zero => intro k X; rfl
        | succ n ih =>
          intro k X
          simp only [xStepN]
          split
          · rw [ih, xStep_c (by decide) (by decide) (by decide) (by decide) (by decide) (by decide) (by decide) (by decide) (by decide)]
          · rfl
      rw [← hM2, s4, xFill_c (by decide)]
    rw [if_pos (by omega), e04] at hpr
    refine hpr.keep (hB.1.2.2.2.2.2.2.1 p p0 (by omega)) (by omega) ?_ (fun i _ _ => ?_) (fun i _ _ => ?_) ?_ (m 15 (by decide) (by decide) (by decide)) ?_ ?_ ?_ ?_ ?_ ?_ (fun t _ _ => ?_)
    · rw [m 16 (by decide) (by decide) (by decide)]
    · rw [m 17 (by decide) (by decide) (by decide)]
    · rw [m 18 (by decide) (by decide) (by decide)]
    · rw [m 1 (by decide) (by decide) (by decide)]
    · rw [m 20 (by decide) (by decide) (by decide)]
    · rw [m 21 (by decide) (by decide) (by decide)]
    · rw [m 22 (by decide) (by decide) (by decide)]
    · rw [m 23 (by decide) (by decide) (by decide)]
    · rw [m 24 (by decide) (by decide) (by decide)]
    · rw [n 13 (by decide) (by decide) (by decide)]
    · rw [n 15 (by decide) (by decide) (by decide)]
theorem sSim.run {sd : Int64} {M N : zM} (h : sSim sd M N) : ∀ n : Nat, M 0 4 + n ≤ 2000 → sSim sd (xRun M n) (nRun sd N n) ∧ xRun M n 0 4 = M 0 4 + n
  | 0, _ => ⟨h, by show M 0 4 = _; omega⟩
  | n + 1, hn => by
    obtain ⟨a, b⟩ := h.run n (by omega)
    obtain ⟨c, d⟩ := a.minute (by omega)
    exact ⟨c, by show xMin (xRun M n) 0 4 = _; rw [d, b]; omega⟩
theorem sSim.fault {sd : Int64} {M N : zM} (h : sSim sd M N) (v : Int) : sSim sd M (zU N 0 1 v) := by
  obtain ⟨hB, hD, hP, h0⟩ := h
  have n : ∀ c, c ≠ 0 → zU N 0 1 v c = N c := fun c hc => zU_k hc
  have n0 : ∀ j, j ≠ 1 → zU N 0 1 v 0 j = N 0 j := fun j hj => zU_n hj
  refine ⟨hB.of hB.1 (hB.2.1.f v) (by rw [n0 2 (by decide)]; exact hB.2.2.1.2.2.2) (fun _ _ => rfl) (fun c hc => n c (by omega)) (fun j hj => n0 j (by omega)), ?_, ?_, ?_⟩
  · unfold sD at hD ⊢
    rw [n 2 (by decide), n 3 (by decide), n 4 (by decide), n 10 (by decide), n 11 (by decide), n 14 (by decide), n0 21 (by decide), n0 22 (by decide)]
    exact hD
  · intro p p0 p1
    have q := hP p p0 p1
    unfold sPR at q ⊢
    rw [n 13 (by decide), n 15 (by decide)]
    exact q
  · rw [n 13 (by decide)]; exact h0
/-- run's answer -/
theorem sSim.inside {sd : Int64} {M N : zM} (h : sSim sd M N) : nSum N (M 1 0).toNat = bm (M 0 5 - M 0 6) := by
  obtain ⟨hB, hD, hP, -⟩ := h
  obtain ⟨⟨d1, d2, d3, d4, d5, d6, d7, d8⟩, e2, e3, e5, e6, e7⟩ := hD
  have hR := hB.1.1
  have hT := hB.1.2.2.2.1
  have c11 := hB.2.2.2.2.2.2.2.2.2.2.1
  have key : ∀ k : Nat, (k : Int) ≤ M 1 0 → nSum N k = sSum (N 2) k ∧ -(130000 * (k : Int)) ≤ sSum (N 2) k ∧ sSum (N 2) k ≤ 130000 * (k : Int) := by
    intro k
    induction k with
    | zero => intro _; exact ⟨rfl, by show -(130000 * ((0 : Nat) : Int)) ≤ 0; simp, by show (0 : Int) ≤ 130000 * ((0 : Nat) : Int); simp⟩
    | succ k ih =>
      intro hk
      obtain ⟨a, b, c⟩ := ih (by omega)
      have q := e3 k (by omega) (by omega)
      have q5 := c11 k (by omega) (by omega)
      simp only [nSum, sSum]
      rw [a, d1] at *
      refine ⟨bm_of (by omega), by omega, by omega⟩
  obtain ⟨a, -, -⟩ := key (M 1 0).toNat (by omega)
  rw [a, d1, e7, bm_of (by omega)]

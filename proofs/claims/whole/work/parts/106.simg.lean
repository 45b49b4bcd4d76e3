/-! Class and reference side by side: door, arrives -/
theorem sSim.door {sd : Int64} {M N : zM} (h : sSim sd M N) {a b w c : Int} (ha : 0 ≤ a ∧ a < M 1 0) (hb : 0 ≤ b ∧ b < M 1 0) (hT : M 0 4 = 0) (hR : M 2 0 < 16) (hc : c = N 0 9) : sSim sd (xDoorsAdd M a b w) (nShN (nShN (zU (zU (zU (zU N 6 c a) 7 c b) 8 c w) 0 9 (c + 1)) a b 12) b a 12) := by
  obtain ⟨hB, hD, hP, h0⟩ := h
  obtain ⟨z1, z2, z3, z4⟩ := h0 hT
  obtain ⟨hx, hn, ⟨a1, a2, a3, a4⟩, ⟨b1, b2, b3, b4⟩, c5, c6, c7, c8, c9, c10, c11, c12⟩ := hB
  obtain ⟨⟨d1, d2, d3, d4, d5, d6, d7, d8⟩, e2, e3, e5, e6, e7⟩ := hD
  rw [a2] at hc
  subst hc
  have r0 := hx.1
  have dd := hx.2.1
  unfold xDoorsAdd
  generalize hX : zU (zU (zU (zU M 9 (M 2 0) a) 10 (M 2 0) b) 11 (M 2 0) w) 2 0 (M 2 0 + 1) = X
  generalize hY : zU (zU (zU (zU N 6 (M 2 0) a) 7 (M 2 0) b) 8 (M 2 0) w) 0 9 (M 2 0 + 1) = Y
  have x9 : X 9 = fU (M 9) (M 2 0) a := by rw [← hX, zU_k (by decide), zU_k (by decide), zU_k (by decide), zU_f]
  have x10 : X 10 = fU (M 10) (M 2 0) b := by rw [← hX, zU_k (by decide), zU_k (by decide), zU_f, zU_k (by decide)]
  have x11 : X 11 = fU (M 11) (M 2 0) w := by rw [← hX, zU_k (by decide), zU_f, zU_k (by decide), zU_k (by decide)]
  have x2 : X 2 0 = M 2 0 + 1 := by rw [← hX, zU_s]
  have xk : ∀ c, c ≠ 9 → c ≠ 10 → c ≠ 11 → c ≠ 2 → X c = M c := fun c q9 q10 q11 q2 => by rw [← hX, zU_k q2, zU_k q11, zU_k q10, zU_k q9]
  have y6 : Y 6 = fU (N 6) (M 2 0) a := by rw [← hY, zU_k (by decide), zU_k (by decide), zU_k (by decide), zU_f]
  have y7 : Y 7 = fU (N 7) (M 2 0) b := by rw [← hY, zU_k (by decide), zU_k (by decide), zU_f, zU_k (by decide)]
  have y8 : Y 8 = fU (N 8) (M 2 0) w := by rw [← hY, zU_k (by decide), zU_f, zU_k (by decide), zU_k (by decide)]
  have y09 : Y 0 9 = M 2 0 + 1 := by rw [← hY, zU_s]
  have y0 : ∀ j, j ≠ 9 → Y 0 j = N 0 j := fun j hj => by rw [← hY, zU_n hj, zU_k (by decide), zU_k (by decide), zU_k (by decide)]
  have yk : ∀ c, c ≠ 6 → c ≠ 7 → c ≠ 8 → c ≠ 0 → Y c = N c := fun c q6 q7 q8 q0 => by rw [← hY, zU_k q0, zU_k q8, zU_k q7, zU_k q6]
  have gX : gM (M 2 0) (M 9) (M 10) (fun i j => X 15 (i * 12 + j)) := by rw [xk 15 (by decide) (by decide) (by decide) (by decide)]; exact c7
  have gN : gM (M 2 0 + 1) (X 9) (X 10) (fun i j => xShN X a b 12 15 (i * 12 + j)) := xShN_gM gX dd.1 (fun k k0 k1 => by rw [x9, x10, fU_n (by omega), fU_n (by omega)]; exact ⟨rfl, rfl⟩) (by rw [x9, fU_s]) (by rw [x10, fU_s]) ha.1 (by omega) hb.1 (by omega)
  have gA := gM_add (a' := X 9) (b' := X 10) (A := a) (B := b) c7 dd.1 (fun k k0 k1 => by rw [x9, x10, fU_n (by omega), fU_n (by omega)]; exact ⟨rfl, rfl⟩) (by rw [x9, fU_s]) (by rw [x10, fU_s]) ha.1 (by omega) hb.1 (by omega)
  have far : ∀ i j, 0 ≤ i → i < 12 → 0 ≤ j → j < 12 → nShN (nShN Y a b 12) b a 12 5 (12 * i + j) = if xShN X a b 12 15 (i * 12 + j) < 1000 then xShN X a b 12 15 (i * 12 + j) else -1 := by
    intro i j i0 i1 j0 j1
    have q := sDoor2 (N := Y) (N1 := Y) (N2 := Y) c7 (a := a) (b := b) ⟨ha.1, by omega⟩ ⟨hb.1, by omega⟩ (fun i j i0 i1 j0 j1 => by rw [yk 5 (by decide) (by decide) (by decide) (by decide)]; exact c6 i j i0 i1 j0 j1) (i := i) (j := j) ⟨i0, i1⟩ ⟨j0, j1⟩
    have e := gM_eq gN gA i0 i1 j0 j1
    have e : xShN X a b 12 15 (i * 12 + j) = gF (fun i j => M 15 (i * 12 + j)) a b i j := e
    rw [q, e]
    rfl
  have k : ∀ c, c ≠ 9 → c ≠ 10 → c ≠ 11 → c ≠ 2 → c ≠ 15 → xShN X a b 12 c = M c := fun c q9 q10 q11 q2 q15 => by rw [xShN_k q15, xk c q9 q10 q11 q2]
  have ks : ∀ c, c ≠ 15 → xShN X a b 12 c = X c := fun c q15 => xShN_k q15 12
  have n : ∀ c, c ≠ 6 → c ≠ 7 → c ≠ 8 → c ≠ 0 → c ≠ 5 → nShN (nShN Y a b 12) b a 12 c = N c := fun c q6 q7 q8 q0 q5 => by rw [nShN_c q5, nShN_c q5, yk c q6 q7 q8 q0]
  have ns : ∀ c, c ≠ 5 → nShN (nShN Y a b 12) b a 12 c = Y c := fun c q5 => by rw [nShN_c q5, nShN_c q5]
  generalize xShN X a b 12 = M' at gN far k ks ⊢
  generalize nShN (nShN Y a b 12) b a 12 = N' at far n ns ⊢
  have j0 := k 0 (by decide) (by decide) (by decide) (by decide) (by decide)
  have j1 := k 1 (by decide) (by decide) (by decide) (by decide) (by decide)
  have j4 := k 4 (by decide) (by decide) (by decide) (by decide) (by decide)
  have j5 := k 5 (by decide) (by decide) (by decide) (by decide) (by decide)
  have j6 := k 6 (by decide) (by decide) (by decide) (by decide) (by decide)
  have j12 := k 12 (by decide) (by decide) (by decide) (by decide) (by decide)
  have j13 := k 13 (by decide) (by decide) (by decide) (by decide) (by decide)
  have j16 := k 16 (by decide) (by decide) (by decide) (by decide) (by decide)
  have j18 := k 18 (by decide) (by decide) (by decide) (by decide) (by decide)
  have j19 := k 19 (by decide) (by decide) (by decide) (by decide) (by decide)
  have j20 := k 20 (by decide) (by decide) (by decide) (by decide) (by decide)
  have j21 := k 21 (by decide) (by decide) (by decide) (by decide) (by decide)
  have j22 := k 22 (by decide) (by decide) (by decide) (by decide) (by decide)
  have j23 := k 23 (by decide) (by decide) (by decide) (by decide) (by decide)
  have j24 := k 24 (by decide) (by decide) (by decide) (by decide) (by decide)
  have i2 : M' 2 0 = M 2 0 + 1 := by rw [ks 2 (by decide), x2]
  have i9 : M' 9 = fU (M 9) (M 2 0) a := by rw [ks 9 (by decide), x9]
  have i10 : M' 10 = fU (M 10) (M 2 0) b := by rw [ks 10 (by decide), x10]
  have n0 : ∀ j, j ≠ 9 → N' 0 j = N 0 j := fun j hj => by rw [ns 0 (by decide), y0 j hj]
  have n09 : N' 0 9 = M 2 0 + 1 := by rw [ns 0 (by decide), y09]
  have n6 : N' 6 = M' 9 := by rw [ns 6 (by decide), y6, i9, b2]
  have n7 : N' 7 = M' 10 := by rw [ns 7 (by decide), y7, i10, b3]
  have m15 : ∀ x, 0 ≤ x → x < 144 → 0 ≤ M' 15 x ∧ M' 15 x ≤ 1000 := by
    intro x x0 x1
    have q := gN.2.1 (x / 12) (x % 12) (by omega) (by omega) (by omega) (by omega)
    have q : 0 ≤ M' 15 (x / 12 * 12 + x % 12) ∧ M' 15 (x / 12 * 12 + x % 12) ≤ 1000 := q
    rw [show x / 12 * 12 + x % 12 = x by omega] at q
    exact q
  have near : ∀ d, 0 ≤ d → d < M' 2 0 → M' 9 d < M 1 0 ∧ M' 10 d < M 1 0 ∧ 0 ≤ M' 9 d ∧ 0 ≤ M' 10 d := by
    intro d d0 q1
    rw [i9, i10]
    by_cases e : d = M 2 0
    · rw [e, fU_s, fU_s]; omega
    · rw [fU_n e, fU_n e]
      have q := c8 d d0 (by omega)
      have q2 := hx.2.2.2.2.1 d d0 (by omega)
      omega
  have hxO : xOK M' := by
    obtain ⟨g1, g2, g3, g4, g5, g6, g7, g8, g9, g10⟩ := hx
    refine ⟨by rw [j1]; exact g1, by rw [i2]; omega, by rw [j4]; exact g3, by rw [j0]; exact g4, ?_, m15, by rw [j16]; exact g7, by rw [j18]; exact g8, by rw [j20, j23]; exact g9, by rw [j4, j19]; exact g10⟩
    intro d d0 q1
    have := near d d0 q1
    omega
  have hnO : nOK N' := by
    obtain ⟨g1, g2, g3, g4, g5, g6, g7, g8, g9⟩ := hn
    refine ⟨by rw [n0 3 (by decide)]; exact g1, by rw [n09]; omega, by rw [n0 16 (by decide)]; exact g3, by rw [n0 2 (by decide)]; exact g4, by rw [n0 16 (by decide), n0 3 (by decide)]; exact g5, ?_, ?_, ?_, ?_⟩
    · rw [n09, n6, n7, ← i2]
      intro d d0 q1
      have := near d d0 q1
      omega
    · intro x x0 x1
      have q := far (x / 12) (x % 12) (by omega) (by omega) (by omega) (by omega)
      have q2 := m15 x x0 x1
      rw [show 12 * (x / 12) + x % 12 = x by omega, show x / 12 * 12 + x % 12 = x by omega] at q
      rw [q]
      split <;> omega
    · rw [n 13 (by decide) (by decide) (by decide) (by decide) (by decide)]; exact g8
    · rw [n0 16 (by decide), n 12 (by decide) (by decide) (by decide) (by decide) (by decide)]; exact g9
  refine ⟨⟨hxO, hnO, ⟨?_, ?_, ?_, ?_⟩, ⟨?_, n6, n7, ?_⟩, ?_, far, ?_, ?_, ?_, ?_, ?_, ?_⟩, ⟨⟨?_, ?_, ?_, ?_, ?_, ?_, ?_, ?_⟩, ?_, ?_, ?_, ?_, ?_⟩, ?_, ?_⟩
  · rw [n0 3 (by decide), j1]; exact a1
  · rw [n09, i2]
  · rw [n0 16 (by decide), j4]; exact a3
  · rw [n0 2 (by decide), j0]; exact a4
  · rw [n 1 (by decide) (by decide) (by decide) (by decide) (by decide), j5]; exact b1
  · rw [ns 8 (by decide), y8, ks 11 (by decide), x11, b4]
  · rw [n 12 (by decide) (by decide) (by decide) (by decide) (by decide), j4, j19]; exact c5
  · rw [i2, ks 9 (by decide), ks 10 (by decide)]; exact gN
  · rw [j1]
    intro d q0 q1
    have := near d q0 q1
    omega
  · rw [j4, j19]; exact c9
  · rw [j4]
    intro p p0 p1
    exact (c10 p p0 p1).of (by rw [j1]) (by rw [j19]) (by rw [j20]) (by rw [j21]) (by rw [j22]) (by rw [j23]) (by rw [j24])
  · rw [j1, j5]; exact c11
  · rw [j4, j1]; exact c12
  · rw [n 2 (by decide) (by decide) (by decide) (by decide) (by decide), j6]; exact d1
  · rw [n 3 (by decide) (by decide) (by decide) (by decide) (by decide), k 7 (by decide) (by decide) (by decide) (by decide) (by decide)]; exact d2
  · rw [n 4 (by decide) (by decide) (by decide) (by decide) (by decide), k 8 (by decide) (by decide) (by decide) (by decide) (by decide)]; exact d3
  · rw [n 10 (by decide) (by decide) (by decide) (by decide) (by decide), j12]; exact d4
  · rw [n 11 (by decide) (by decide) (by decide) (by decide) (by decide), j13]; exact d5
  · rw [n 14 (by decide) (by decide) (by decide) (by decide) (by decide), k 25 (by decide) (by decide) (by decide) (by decide) (by decide)]; exact d6
  · rw [n0 21 (by decide), j0]; exact d7
  · rw [n0 22 (by decide), j0]; exact d8
  · rw [j12, j13]; exact e2
  · rw [j1, j6, j5, j0]; exact e3
  · rw [j0]; exact e5
  · rw [j0]; exact e6
  · rw [j1, j6, j0]; exact e7
  · rw [j4, j0, hT]
    intro p p0 p1
    have := hx.2.2.1
    have q := z1 p p0 (by omega)
    exact sPR_0 (by rw [j16]; exact q.1) (by rw [n 13 (by decide) (by decide) (by decide) (by decide) (by decide)]; exact q.2)
  · rw [j0, j16, j6, n 13 (by decide) (by decide) (by decide) (by decide) (by decide)]; exact h0
theorem nAt_is (M : zM) (t : Int) : ∀ k : Nat, nAt M t k ≤ k ∧ (∀ j : Int, (nAt M t k : Int) ≤ j → j < (k : Int) → t < M 12 j) ∧ (nAt M t k = 0 ∨ M 12 ((nAt M t k : Int) - 1) ≤ t)
  | 0 => ⟨Nat.le_refl 0, fun j h1 h2 => absurd h2 (by simp only [nAt] at h1; omega), Or.inl rfl⟩
  | k + 1 => by
    obtain ⟨i1, i2, i3⟩ := nAt_is M t k
    simp only [nAt]
    by_cases c : t < M 12 (k : Int)
    · rw [if_pos c]
      refine ⟨by omega, fun j h1 h2 => ?_, i3⟩
      by_cases e : j = (k : Int)
      · rw [e]; exact c
      · exact i2 j h1 (by omega)
    · rw [if_neg c]
      refine ⟨Nat.le_refl _, fun j h1 h2 => absurd h2 (by omega), Or.inr ?_⟩
      rw [show ((k + 1 : Nat) : Int) - 1 = (k : Int) by omega]
      omega
theorem nMvN_is {M : zM} {n e : Int} (hn : 1 ≤ n) : ∀ (k : Nat) (x : Int), nMvN M n e k 12 x = if e - k + n ≤ x ∧ x < e + n then M 12 (x - n) else M 12 x
  | 0, x => by
    rw [if_neg (by omega)]; rfl
  | k + 1, x => by
    show zU (nMvN M n e k) 12 (e - 1 - k + n) (nMvN M n e k 12 (e - 1 - k)) 12 x = _
    by_cases c : x = e - 1 - (k : Int) + n
    · rw [c, zU_s, nMvN_is hn k, if_neg (by omega), if_pos (by omega), show e - 1 - (k : Int) + n - n = e - 1 - (k : Int) by omega]
    · rw [zU_n c, nMvN_is hn k]
      by_cases c2 : e - (k : Int) + n ≤ x ∧ x < e + n
      · rw [if_pos c2, if_pos (by omega)]
      · rw [if_neg c2, if_neg (by omega)]
theorem nPutN_is {M : zM} {t q : Int} : ∀ (k : Nat) (j : Int), nPutN M t q k 12 j = if q ≤ j ∧ j < q + k then t else M 12 j
  | 0, j => by rw [if_neg (by omega)]; rfl
  | k + 1, j => by
    show zU (nPutN M t q k) 12 (q + k) t 12 j = _
    by_cases hj : j = q + (k : Int)
    · subst hj
      rw [zU_s, if_pos (by omega)]
    · rw [zU_n hj, nPutN_is k j]
      by_cases h : q ≤ j ∧ j < q + (k : Int)
      · rw [if_pos h, if_pos (by omega)]
      · rw [if_neg h, if_neg (by omega)]
theorem nArr_c {M : zM} {t n : Int} {c : Nat} (h : c ≠ 12) (h0 : c ≠ 0) : nArr M t n c = M c := by
  unfold nArr
  rw [zU_k h0, nPutN_c h, nMvN_c h]
theorem nArr_0 {M : zM} {t n j : Int} (h : j ≠ 16) : nArr M t n 0 j = M 0 j := by
  unfold nArr
  rw [zU_n h, nPutN_c (by decide), nMvN_c (by decide)]
theorem nArr_16 {M : zM} {t n : Int} : nArr M t n 0 16 = M 0 16 + n := by
  unfold nArr
  exact zU_s
theorem nArr_12 {M : zM} {t n : Int} (hc : 0 ≤ M 0 16) (hn : 1 ≤ n) : ∃ q : Int, 0 ≤ q ∧ q ≤ M 0 16 ∧ (∀ j, q ≤ j → j < M 0 16 → t < M 12 j) ∧ (q = 0 ∨ M 12 (q - 1) ≤ t) ∧ ∀ j, 0 ≤ j → j < M 0 16 + n → nArr M t n 12 j = xIns (M 12) q n t j := by
  obtain ⟨i1, i2, i3⟩ := nAt_is M t (M 0 16).toNat
  refine ⟨(nQ M t : Int), by omega, by unfold nQ; omega, fun j h1 h2 => i2 j h1 (by omega), ?_, fun j h1 h2 => ?_⟩
  · rcases i3 with q | q
    · exact Or.inl (by unfold nQ; omega)
    · exact Or.inr q
  · have hq : nQ M t ≤ (M 0 16).toNat := i1
    unfold nArr
    rw [zU_k (by decide), nPutN_is, nMvN_is hn]
    unfold xIns
    by_cases ca : j < (nQ M t : Int)
    · rw [if_neg (by omega), if_neg (by omega), if_pos ca]
    · by_cases cb : j < (nQ M t : Int) + n
      · rw [if_pos (by omega), if_neg ca, if_pos cb]
      · rw [if_neg (by omega), if_pos (by omega), if_neg ca, if_neg cb]
theorem xIns_sorted {f : Int → Int} {P q n t : Int} (hs : ∀ a b, 0 ≤ a → a ≤ b → b < P → f a ≤ f b) (hq : 0 ≤ q ∧ q ≤ P) (hn : 1 ≤ n) (h1 : ∀ j, q ≤ j → j < P → t < f j) (h2 : q = 0 ∨ f (q - 1) ≤ t) : ∀ a b, 0 ≤ a → a ≤ b → b < P + n → xIns f q n t a ≤ xIns f q n t b := by
  have lo : ∀ a, 0 ≤ a → a < q → f a ≤ t := by
    intro a a0 aq
    rcases h2 with e | e
    · omega
    · have := hs a (q - 1) a0 (by omega) (by omega)
      omega
  intro a b a0 ab bP
  unfold xIns
  by_cases ca : a < q
  · rw [if_pos ca]
    have la := lo a a0 ca
    by_cases cb : b < q
    · rw [if_pos cb]; exact hs a b a0 ab (by omega)
    · rw [if_neg cb]
      by_cases cc : b < q + n
      · rw [if_pos cc]; exact la
      · rw [if_neg cc]
        have := h1 (b - n) (by omega) (by omega)
        omega
  · rw [if_neg ca]
    rw [if_neg (show ¬ b < q by omega)]
    by_cases cc : a < q + n
    · rw [if_pos cc]
      by_cases cb : b < q + n
      · rw [if_pos cb]; exact Int.le_refl _
      · rw [if_neg cb]
        have := h1 (b - n) (by omega) (by omega)
        omega
    · rw [if_neg cc, if_neg (by omega)]
      exact hs (a - n) (b - n) (by omega) (by omega) (by omega)

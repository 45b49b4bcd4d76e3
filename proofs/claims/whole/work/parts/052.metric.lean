/-! Distances: d is the fewest doors between rooms (1000: no way). Doors k < n join a k and b k. -/
def gJ (n : Int) (a b : Int → Int) (x y : Int) : Prop := ∃ k, 0 ≤ k ∧ k < n ∧ ((a k = x ∧ b k = y) ∨ (a k = y ∧ b k = x))
theorem gJ.symm {n : Int} {a b : Int → Int} {x y : Int} (h : gJ n a b x y) : gJ n a b y x := by
  obtain ⟨k, h1, h2, h3⟩ := h
  exact ⟨k, h1, h2, h3.symm⟩
def gM (n : Int) (a b : Int → Int) (d : Int → Int → Int) : Prop :=
  (∀ i, 0 ≤ i → i < 12 → d i i = 0) ∧ (∀ i j, 0 ≤ i → i < 12 → 0 ≤ j → j < 12 → 0 ≤ d i j ∧ d i j ≤ 1000) ∧
  (∀ i x y, 0 ≤ i → i < 12 → 0 ≤ x → x < 12 → 0 ≤ y → y < 12 → gJ n a b x y → d i x ≤ d i y + 1) ∧
  (∀ i j, 0 ≤ i → i < 12 → 0 ≤ j → j < 12 → i ≠ j → d i j < 1000 → ∃ x, 0 ≤ x ∧ x < 12 ∧ gJ n a b x j ∧ d i x + 1 = d i j)
theorem gM_leN {n : Int} {a b : Int → Int} {d d' : Int → Int → Int} (h : gM n a b d) (h' : gM n a b d') : ∀ (v : Nat) (i j : Int), 0 ≤ i → i < 12 → 0 ≤ j → j < 12 → d' i j = v → d i j ≤ v := by
  intro v
  induction v with
  | zero =>
    intro i j hi hi2 hj hj2 hv
    by_cases hij : i = j
    · subst hij
      rw [h.1 i hi hi2]; omega
    · obtain ⟨x, hx, hx2, -, hd⟩ := h'.2.2.2 i j hi hi2 hj hj2 hij (by omega)
      have := (h'.2.1 i x hi hi2 hx hx2).1
      omega
  | succ v ih =>
    intro i j hi hi2 hj hj2 hv
    have hb := (h.2.1 i j hi hi2 hj hj2)
    by_cases hlt : d' i j < 1000
    · by_cases hij : i = j
      · subst hij
        rw [h.1 i hi hi2]; omega
      · obtain ⟨x, hx, hx2, hJ, hd⟩ := h'.2.2.2 i j hi hi2 hj hj2 hij hlt
        have h1 := ih i x hi hi2 hx hx2 (by omega)
        have h2 := h.2.2.1 i j x hi hi2 hj hj2 hx hx2 hJ.symm
        omega
    · omega
theorem gM_le {n : Int} {a b : Int → Int} {d d' : Int → Int → Int} (h : gM n a b d) (h' : gM n a b d') {i j : Int} (hi : 0 ≤ i) (hi2 : i < 12) (hj : 0 ≤ j) (hj2 : j < 12) : d i j ≤ d' i j := by
  have h0 := (h'.2.1 i j hi hi2 hj hj2).1
  have := gM_leN h h' (d' i j).toNat i j hi hi2 hj hj2 (by omega)
  omega
theorem gM_eq {n : Int} {a b : Int → Int} {d d' : Int → Int → Int} (h : gM n a b d) (h' : gM n a b d') {i j : Int} (hi : 0 ≤ i) (hi2 : i < 12) (hj : 0 ≤ j) (hj2 : j < 12) : d i j = d' i j := by
  have h1 := gM_le h h' hi hi2 hj hj2
  have h2 := gM_le h' h hi hi2 hj hj2
  omega
theorem gM_triN {n : Int} {a b : Int → Int} {d : Int → Int → Int} (h : gM n a b d) : ∀ (v : Nat) (i k j : Int), 0 ≤ i → i < 12 → 0 ≤ k → k < 12 → 0 ≤ j → j < 12 → d k j = v → d i j ≤ d i k + v := by
  intro v
  induction v with
  | zero =>
    intro i k j hi hi2 hk hk2 hj hj2 hv
    by_cases hkj : k = j
    · subst hkj; omega
    · obtain ⟨x, hx, hx2, -, hd⟩ := h.2.2.2 k j hk hk2 hj hj2 hkj (by omega)
      have := (h.2.1 k x hk hk2 hx hx2).1
      omega
  | succ v ih =>
    intro i k j hi hi2 hk hk2 hj hj2 hv
    have hb := (h.2.1 i j hi hi2 hj hj2)
    have hb2 := (h.2.1 i k hi hi2 hk hk2)
    by_cases hlt : d k j < 1000
    · by_cases hkj : k = j
      · subst hkj; omega
      · obtain ⟨x, hx, hx2, hJ, hd⟩ := h.2.2.2 k j hk hk2 hj hj2 hkj hlt
        have h1 := ih i k x hi hi2 hk hk2 hx hx2 (by omega)
        have h2 := h.2.2.1 i j x hi hi2 hj hj2 hx hx2 hJ.symm
        omega
    · omega
theorem gM_tri {n : Int} {a b : Int → Int} {d : Int → Int → Int} (h : gM n a b d) {i k j : Int} (hi : 0 ≤ i) (hi2 : i < 12) (hk : 0 ≤ k) (hk2 : k < 12) (hj : 0 ≤ j) (hj2 : j < 12) : d i j ≤ d i k + d k j := by
  have h0 := (h.2.1 k j hk hk2 hj hj2).1
  have := gM_triN h (d k j).toNat i k j hi hi2 hk hk2 hj hj2 (by omega)
  omega
def gF (d : Int → Int → Int) (A B : Int) : Int → Int → Int := fun i j => min (d i j) (min (d i A + 1 + d B j) (d i B + 1 + d A j))
theorem gF_le {d : Int → Int → Int} {A B i j : Int} : gF d A B i j ≤ d i j ∧ gF d A B i j ≤ d i A + 1 + d B j ∧ gF d A B i j ≤ d i B + 1 + d A j := by
  unfold gF; omega
theorem gF_is {d : Int → Int → Int} {A B i j : Int} : gF d A B i j = d i j ∨ gF d A B i j = d i A + 1 + d B j ∨ gF d A B i j = d i B + 1 + d A j := by
  unfold gF; omega
/-- a new door between A and B -/
theorem gM_add {n : Int} {a b a' b' : Int → Int} {d : Int → Int → Int} {A B : Int} (h : gM n a b d) (hn : 0 ≤ n) (ha : ∀ k, 0 ≤ k → k < n → a' k = a k ∧ b' k = b k) (hA : a' n = A) (hB : b' n = B) (hA0 : 0 ≤ A) (hA1 : A < 12) (hB0 : 0 ≤ B) (hB1 : B < 12) : gM (n + 1) a' b' (gF d A B) := by
  have hJ : ∀ x y, gJ (n + 1) a' b' x y → gJ n a b x y ∨ (x = A ∧ y = B) ∨ (x = B ∧ y = A) := by
    intro x y hxy
    obtain ⟨k, h1, h2, h3⟩ := hxy
    by_cases hk : k < n
    · obtain ⟨e1, e2⟩ := ha k h1 hk
      rw [e1, e2] at h3
      exact Or.inl ⟨k, h1, hk, h3⟩
    · have : k = n := by omega
      subst this
      rw [hA, hB] at h3
      rcases h3 with ⟨e1, e2⟩ | ⟨e1, e2⟩
      · exact Or.inr (Or.inl ⟨e1.symm, e2.symm⟩)
      · exact Or.inr (Or.inr ⟨e2.symm, e1.symm⟩)
  have hJ2 : ∀ x y, gJ n a b x y → gJ (n + 1) a' b' x y := by
    intro x y hxy
    obtain ⟨k, h1, h2, h3⟩ := hxy
    obtain ⟨e1, e2⟩ := ha k h1 h2
    refine ⟨k, h1, by omega, ?_⟩
    rw [e1, e2]; exact h3
  have hJ3 : gJ (n + 1) a' b' A B := ⟨n, hn, by omega, Or.inl ⟨hA, hB⟩⟩
  have hAA := h.1 A hA0 hA1
  have hBB := h.1 B hB0 hB1
  have lip : ∀ i x y, 0 ≤ i → i < 12 → 0 ≤ x → x < 12 → 0 ≤ y → y < 12 → gJ (n + 1) a' b' x y → gF d A B i x ≤ gF d A B i y + 1 := by
    intro i x y hi hi2 hx hx2 hy hy2 hxy
    have g1 := @gF_le d A B i x
    have g2 := @gF_is d A B i y
    rcases hJ x y hxy with q | ⟨rfl, rfl⟩ | ⟨rfl, rfl⟩
    · have l1 := h.2.2.1 i x y hi hi2 hx hx2 hy hy2 q
      have l2 := h.2.2.1 A x y hA0 hA1 hx hx2 hy hy2 q
      have l3 := h.2.2.1 B x y hB0 hB1 hx hx2 hy hy2 q
      omega
    · have l1 := h.2.1 i x hi hi2 hx hx2
      have l2 := h.2.1 i y hi hi2 hy hy2
      have l3 := h.2.1 x y hx hx2 hy hy2
      have l4 := h.2.1 y x hy hy2 hx hx2
      omega
    · have l1 := h.2.1 i x hi hi2 hx hx2
      have l2 := h.2.1 i y hi hi2 hy hy2
      have l3 := h.2.1 x y hx hx2 hy hy2
      have l4 := h.2.1 y x hy hy2 hx hx2
      omega
  have nn : ∀ i j, 0 ≤ i → i < 12 → 0 ≤ j → j < 12 → 0 ≤ gF d A B i j ∧ gF d A B i j ≤ 1000 := by
    intro i j hi hi2 hj hj2
    have g1 := @gF_le d A B i j
    have g2 := @gF_is d A B i j
    have l1 := h.2.1 i j hi hi2 hj hj2
    have l2 := h.2.1 i A hi hi2 hA0 hA1
    have l3 := h.2.1 i B hi hi2 hB0 hB1
    have l4 := h.2.1 A j hA0 hA1 hj hj2
    have l5 := h.2.1 B j hB0 hB1 hj hj2
    omega
  refine ⟨fun i hi hi2 => ?_, nn, lip, fun i j hi hi2 hj hj2 hij hlt => ?_⟩
  · have g1 := @gF_le d A B i i
    have g3 := h.1 i hi hi2
    have g4 := (nn i i hi hi2 hi hi2).1
    omega
  · have close : ∀ x, 0 ≤ x → x < 12 → gJ (n + 1) a' b' x j → gF d A B i x + 1 ≤ gF d A B i j → ∃ x, 0 ≤ x ∧ x < 12 ∧ gJ (n + 1) a' b' x j ∧ gF d A B i x + 1 = gF d A B i j := by
      intro x hx hx2 hxj hle
      have := lip i j x hi hi2 hj hj2 hx hx2 hxj.symm
      exact ⟨x, hx, hx2, hxj, by omega⟩
    have b2 := h.2.1 i A hi hi2 hA0 hA1
    have b3 := h.2.1 i B hi hi2 hB0 hB1
    have b4 := h.2.1 A j hA0 hA1 hj hj2
    have b5 := h.2.1 B j hB0 hB1 hj hj2
    rcases @gF_is d A B i j with g | g | g
    · obtain ⟨x, hx, hx2, hxj, hd⟩ := h.2.2.2 i j hi hi2 hj hj2 hij (by omega)
      have g1 := @gF_le d A B i x
      exact close x hx hx2 (hJ2 x j hxj) (by omega)
    · by_cases hb : B = j
      · subst hb
        have g1 := @gF_le d A B i A
        exact close A hA0 hA1 hJ3 (by omega)
      · obtain ⟨x, hx, hx2, hxj, hd⟩ := h.2.2.2 B j hB0 hB1 hj hj2 hb (by omega)
        have g1 := @gF_le d A B i x
        exact close x hx hx2 (hJ2 x j hxj) (by omega)
    · by_cases hb : A = j
      · subst hb
        have g1 := @gF_le d A B i B
        exact close B hB0 hB1 hJ3.symm (by omega)
      · obtain ⟨x, hx, hx2, hxj, hd⟩ := h.2.2.2 A j hA0 hA1 hj hj2 hb (by omega)
        have g1 := @gF_le d A B i x
        exact close x hx hx2 (hJ2 x j hxj) (by omega)
/-- in place: any V between the new distances and the old ones gives the new one -/
theorem gF_in {n : Int} {a' b' : Int → Int} {d V : Int → Int → Int} {A B : Int} (h' : gM n a' b' (gF d A B)) (hJ : gJ n a' b' A B) (hA0 : 0 ≤ A) (hA1 : A < 12) (hB0 : 0 ≤ B) (hB1 : B < 12)
    (hlo : ∀ i j, 0 ≤ i → i < 12 → 0 ≤ j → j < 12 → gF d A B i j ≤ V i j) (hhi : ∀ i j, 0 ≤ i → i < 12 → 0 ≤ j → j < 12 → V i j ≤ d i j) {i j : Int} (hi : 0 ≤ i) (hi2 : i < 12) (hj : 0 ≤ j) (hj2 : j < 12) :
    min (V i j) (min (V i A + 1 + V B j) (V i B + 1 + V A j)) = gF d A B i j := by
  have t1 := gM_tri h' hi hi2 hA0 hA1 hj hj2
  have t2 := gM_tri h' hi hi2 hB0 hB1 hj hj2
  have e1 := h'.2.2.1 i B A hi hi2 hB0 hB1 hA0 hA1 hJ.symm
  have e2 := h'.2.2.1 i A B hi hi2 hA0 hA1 hB0 hB1 hJ
  have l1 := hlo i j hi hi2 hj hj2
  have l2 := hlo i A hi hi2 hA0 hA1
  have l3 := hlo i B hi hi2 hB0 hB1
  have l4 := hlo A j hA0 hA1 hj hj2
  have l5 := hlo B j hB0 hB1 hj hj2
  have u1 := hhi i j hi hi2 hj hj2
  have u2 := hhi i A hi hi2 hA0 hA1
  have u3 := hhi i B hi hi2 hB0 hB1
  have u4 := hhi A j hA0 hA1 hj hj2
  have u5 := hhi B j hB0 hB1 hj hj2
  have g2 := @gF_is d A B i j
  omega
/-- a distance below 1000 is at most 11: the rooms at 0, 1 .. from i are all different -/
theorem gM_hit {n : Int} {a b : Int → Int} {d : Int → Int → Int} (h : gM n a b d) {i : Int} (hi : 0 ≤ i) (hi2 : i < 12) : ∀ (v : Nat) (j : Int), 0 ≤ j → j < 12 → d i j = v → v < 1000 → ∀ w : Nat, w ≤ v → ∃ x, 0 ≤ x ∧ x < 12 ∧ d i x = w := by
  intro v
  induction v with
  | zero =>
    intro j hj hj2 hv _ w hw
    exact ⟨j, hj, hj2, by omega⟩
  | succ v ih =>
    intro j hj hj2 hv hlt w hw
    by_cases hwv : w = v + 1
    · exact ⟨j, hj, hj2, by omega⟩
    · have hij : i ≠ j := by
        intro e
        subst e
        have := h.1 i hi hi2
        omega
      obtain ⟨x, hx, hx2, -, hd⟩ := h.2.2.2 i j hi hi2 hj hj2 hij (by omega)
      exact ih x hx hx2 (by omega) (by omega) w (by omega)
theorem gPig : ∀ (N : Nat) (f : Int → Int), (∀ w : Nat, w ≤ N → ∃ x, 0 ≤ x ∧ x < (N : Int) ∧ f x = w) → False := by
  intro N
  induction N with
  | zero =>
    intro f h
    obtain ⟨x, h1, h2, -⟩ := h 0 (Nat.le_refl 0)
    omega
  | succ N ih =>
    intro f h
    -- the place N bears one value v; send it past: values above v come down by one
    refine ih (fun x => if f N < f x then f x - 1 else f x) (fun w hw => ?_)
    by_cases hv : (w : Int) < f N
    · obtain ⟨x, h1, h2, h3⟩ := h w (by omega)
      have hx : x ≠ N := by
        intro e
        subst e
        omega
      refine ⟨x, h1, by omega, ?_⟩
      rw [if_neg (by omega)]; exact h3
    · obtain ⟨x, h1, h2, h3⟩ := h (w + 1) (by omega)
      by_cases hx : x = N
      · subst hx
        obtain ⟨x2, q1, q2, q3⟩ := h w (by omega)
        refine ⟨x2, q1, ?_, ?_⟩
        · have : x2 ≠ N := by
            intro e
            subst e
            omega
          omega
        · rw [if_neg (by omega)]; exact q3
      · refine ⟨x, h1, by omega, ?_⟩
        rw [if_pos (by omega)]; omega
theorem gM_11 {n : Int} {a b : Int → Int} {d : Int → Int → Int} (h : gM n a b d) {i j : Int} (hi : 0 ≤ i) (hi2 : i < 12) (hj : 0 ≤ j) (hj2 : j < 12) (hlt : d i j < 1000) : d i j ≤ 11 := by
  by_cases hd : d i j ≤ 11
  · exact hd
  · exfalso
    have h0 := (h.2.1 i j hi hi2 hj hj2).1
    refine gPig 12 (fun x => d i x) (fun w hw => ?_)
    exact gM_hit h hi hi2 (d i j).toNat j hj hj2 (by omega) (by omega) w (by omega)
/-- no doors: 0 and 1000 -/
theorem gM_0 {a b : Int → Int} {d : Int → Int → Int} (h : ∀ i j, 0 ≤ i → i < 12 → 0 ≤ j → j < 12 → d i j = if i = j then 0 else 1000) : gM 0 a b d := by
  refine ⟨fun i hi hi2 => ?_, fun i j hi hi2 hj hj2 => ?_, fun i x y _ _ _ _ _ _ hJ => ?_, fun i j hi hi2 hj hj2 hij hlt => ?_⟩
  · rw [h i i hi hi2 hi hi2, if_pos rfl]
  · rw [h i j hi hi2 hj hj2]
    split <;> omega
  · obtain ⟨k, h1, h2, -⟩ := hJ
    omega
  · rw [h i j hi hi2 hj hj2, if_neg hij] at hlt
    omega

/-! shortenWays: in place, and yet the new distances -/
def shOK (d : Int → Int → Int) (A B : Int) (M : zM) : Prop := ∀ i j, 0 ≤ i → i < 12 → 0 ≤ j → j < 12 → gF d A B i j ≤ M 15 (i * 12 + j) ∧ M 15 (i * 12 + j) ≤ d i j
theorem xShI_k {M : zM} {A B i j : Int} {c : Nat} (h : c ≠ 15) : xShI M A B i j c = M c := zU_k h
theorem xShR_k {M : zM} {A B i : Int} {c : Nat} (h : c ≠ 15) : ∀ k, xShR M A B i k c = M c
  | 0 => rfl
  | k + 1 => (xShI_k h).trans (xShR_k h k)
theorem xShN_k {M : zM} {A B : Int} {c : Nat} (h : c ≠ 15) : ∀ k, xShN M A B k c = M c
  | 0 => rfl
  | k + 1 => (xShR_k h 12).trans (xShN_k h k)
theorem xShI_o {M : zM} {A B i j i' j' : Int} (hj : 0 ≤ j) (hj2 : j < 12) (hj' : 0 ≤ j') (hj2' : j' < 12) (h : ¬ (i' = i ∧ j' = j)) : xShI M A B i j 15 (i' * 12 + j') = M 15 (i' * 12 + j') := by
  unfold xShI
  exact zU_n (by omega)
theorem xShI_ok {n : Int} {a' b' : Int → Int} {d : Int → Int → Int} {M : zM} {A B : Int} (h' : gM n a' b' (gF d A B)) (hJ : gJ n a' b' A B) (hA0 : 0 ≤ A) (hA1 : A < 12) (hB0 : 0 ≤ B) (hB1 : B < 12) (h : shOK d A B M) {i j : Int} (hi : 0 ≤ i) (hi2 : i < 12) (hj : 0 ≤ j) (hj2 : j < 12) :
    xShI M A B i j 15 (i * 12 + j) = gF d A B i j ∧ shOK d A B (xShI M A B i j) := by
  have e : xShI M A B i j 15 (i * 12 + j) = gF d A B i j := by
    unfold xShI
    rw [zU_s]
    exact gF_in (V := fun i j => M 15 (i * 12 + j)) h' hJ hA0 hA1 hB0 hB1 (fun x y h1 h2 h3 h4 => (h x y h1 h2 h3 h4).1) (fun x y h1 h2 h3 h4 => (h x y h1 h2 h3 h4).2) hi hi2 hj hj2
  refine ⟨e, fun x y h1 h2 h3 h4 => ?_⟩
  by_cases hxy : x = i ∧ y = j
  · obtain ⟨rfl, rfl⟩ := hxy
    rw [e]
    have := @gF_le d A B x y
    omega
  · rw [xShI_o hj hj2 h3 h4 hxy]
    exact h x y h1 h2 h3 h4
theorem xShR_ok {n : Int} {a' b' : Int → Int} {d : Int → Int → Int} {M : zM} {A B : Int} (h' : gM n a' b' (gF d A B)) (hJ : gJ n a' b' A B) (hA0 : 0 ≤ A) (hA1 : A < 12) (hB0 : 0 ≤ B) (hB1 : B < 12) (h : shOK d A B M) {i : Int} (hi : 0 ≤ i) (hi2 : i < 12) : ∀ k : Nat, k ≤ 12 →
    shOK d A B (xShR M A B i k) ∧ (∀ j, 0 ≤ j → j < (k : Int) → xShR M A B i k 15 (i * 12 + j) = gF d A B i j) ∧ ∀ x y, x ≠ i → 0 ≤ y → y < 12 → xShR M A B i k 15 (x * 12 + y) = M 15 (x * 12 + y)
  | 0, _ => ⟨h, fun j h1 h2 => absurd h2 (by omega), fun _ _ _ _ _ => rfl⟩
  | k + 1, hk => by
    obtain ⟨i1, i2, i3⟩ := xShR_ok h' hJ hA0 hA1 hB0 hB1 h hi hi2 k (by omega)
    obtain ⟨e1, e2⟩ := xShI_ok h' hJ hA0 hA1 hB0 hB1 i1 hi hi2 (j := (k : Int)) (by omega) (by omega)
    refine ⟨e2, fun j h1 h2 => ?_, fun x y hx hy hy2 => ?_⟩
    · by_cases hjk : j = (k : Int)
      · rw [hjk]; exact e1
      · have : xShR M A B i (k + 1) 15 (i * 12 + j) = xShR M A B i k 15 (i * 12 + j) := xShI_o (by omega) (by omega) h1 (by omega) (by omega)
        rw [this]
        exact i2 j h1 (by omega)
    · have : xShR M A B i (k + 1) 15 (x * 12 + y) = xShR M A B i k 15 (x * 12 + y) := xShI_o (by omega) (by omega) hy hy2 (by omega)
      rw [this]
      exact i3 x y hx hy hy2
theorem xShN_ok {n : Int} {a' b' : Int → Int} {d : Int → Int → Int} {M : zM} {A B : Int} (h' : gM n a' b' (gF d A B)) (hJ : gJ n a' b' A B) (hA0 : 0 ≤ A) (hA1 : A < 12) (hB0 : 0 ≤ B) (hB1 : B < 12) (h : shOK d A B M) : ∀ k : Nat, k ≤ 12 →
    shOK d A B (xShN M A B k) ∧ ∀ i j, 0 ≤ i → i < (k : Int) → 0 ≤ j → j < 12 → xShN M A B k 15 (i * 12 + j) = gF d A B i j
  | 0, _ => ⟨h, fun i j h1 h2 => absurd h2 (by omega)⟩
  | k + 1, hk => by
    obtain ⟨i1, i2⟩ := xShN_ok h' hJ hA0 hA1 hB0 hB1 h k (by omega)
    obtain ⟨e1, e2, e3⟩ := xShR_ok h' hJ hA0 hA1 hB0 hB1 i1 (i := (k : Int)) (by omega) (by omega) 12 (Nat.le_refl 12)
    refine ⟨e1, fun i j hi hi2 hj hj2 => ?_⟩
    by_cases hik : i = (k : Int)
    · rw [hik]; exact e2 j hj hj2
    · have : xShN M A B (k + 1) 15 (i * 12 + j) = xShN M A B k 15 (i * 12 + j) := e3 i j hik hj hj2
      rw [this]
      exact i2 i j hi (by omega) hj hj2
/-- the distances behind a new door -/
theorem xShN_gM {M : zM} {n : Int} {a b a' b' : Int → Int} {A B : Int} (h : gM n a b (fun i j => M 15 (i * 12 + j))) (hn : 0 ≤ n) (ha : ∀ k, 0 ≤ k → k < n → a' k = a k ∧ b' k = b k) (hA : a' n = A) (hB : b' n = B) (hA0 : 0 ≤ A) (hA1 : A < 12) (hB0 : 0 ≤ B) (hB1 : B < 12) : gM (n + 1) a' b' (fun i j => xShN M A B 12 15 (i * 12 + j)) := by
  have h' := gM_add h hn ha hA hB hA0 hA1 hB0 hB1
  have hJ : gJ (n + 1) a' b' A B := ⟨n, hn, by omega, Or.inl ⟨hA, hB⟩⟩
  have h0 : shOK (fun i j => M 15 (i * 12 + j)) A B M := fun i j _ _ _ _ => ⟨gF_le.1, Int.le_refl _⟩
  obtain ⟨-, e⟩ := xShN_ok h' hJ hA0 hA1 hB0 hB1 h0 12 (Nat.le_refl 12)
  refine ⟨fun i hi hi2 => ?_, fun i j hi hi2 hj hj2 => ?_, fun i x y hi hi2 hx hx2 hy hy2 q => ?_, fun i j hi hi2 hj hj2 hij hlt => ?_⟩
  · show xShN M A B 12 15 (i * 12 + i) = 0
    rw [e i i hi hi2 hi hi2]; exact h'.1 i hi hi2
  · show 0 ≤ xShN M A B 12 15 (i * 12 + j) ∧ xShN M A B 12 15 (i * 12 + j) ≤ 1000
    rw [e i j hi hi2 hj hj2]; exact h'.2.1 i j hi hi2 hj hj2
  · show xShN M A B 12 15 (i * 12 + x) ≤ xShN M A B 12 15 (i * 12 + y) + 1
    rw [e i x hi hi2 hx hx2, e i y hi hi2 hy hy2]; exact h'.2.2.1 i x y hi hi2 hx hx2 hy hy2 q
  · have hlt : xShN M A B 12 15 (i * 12 + j) < 1000 := hlt
    rw [e i j hi hi2 hj hj2] at hlt
    obtain ⟨x, hx, hx2, hxj, hd⟩ := h'.2.2.2 i j hi hi2 hj hj2 hij hlt
    refine ⟨x, hx, hx2, hxj, ?_⟩
    show xShN M A B 12 15 (i * 12 + x) + 1 = xShN M A B 12 15 (i * 12 + j)
    rw [e i x hi hi2 hx hx2, e i j hi hi2 hj hj2]; exact hd

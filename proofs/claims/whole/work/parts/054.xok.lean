/-! What always holds of the object's memory, as far as the walks need it -/
def xOK (M : zM) : Prop :=
  (0 ≤ M 1 0 ∧ M 1 0 ≤ 12) ∧ (0 ≤ M 2 0 ∧ M 2 0 ≤ 16) ∧ (0 ≤ M 4 1 ∧ M 4 1 ≤ 60) ∧ (0 ≤ M 0 4 ∧ M 0 4 ≤ 2000) ∧
  (∀ d, 0 ≤ d → d < M 2 0 → (0 ≤ M 9 d ∧ M 9 d < 12) ∧ 0 ≤ M 10 d ∧ M 10 d < 12) ∧
  (∀ x, 0 ≤ x → x < 144 → 0 ≤ M 15 x ∧ M 15 x ≤ 1000) ∧
  (∀ p, 0 ≤ p → p < 60 → 0 ≤ M 16 p ∧ M 16 p ≤ 46) ∧
  (∀ x, 0 ≤ x → x < 2760 → -1 ≤ M 18 x ∧ M 18 x < 12) ∧
  (∀ p, 0 ≤ p → p < 60 → (0 ≤ M 20 p ∧ M 20 p < 12) ∧ 0 ≤ M 23 p ∧ M 23 p < 12) ∧
  (∀ p, 0 ≤ p → p < M 4 1 → 0 ≤ M 19 p ∧ M 19 p ≤ 1439)
/-- xOK looks at these cells alone -/
theorem xOK.of {M M' : zM} (h : xOK M) (h1 : M' 1 0 = M 1 0) (h2 : M' 2 0 = M 2 0) (h4 : M' 4 1 = M 4 1) (h0 : M' 0 4 = M 0 4) (h9 : M' 9 = M 9) (h10 : M' 10 = M 10) (h15 : M' 15 = M 15) (h20 : M' 20 = M 20) (h23 : M' 23 = M 23) (h19 : M' 19 = M 19)
    (h16 : ∀ p, 0 ≤ p → p < 60 → 0 ≤ M' 16 p ∧ M' 16 p ≤ 46) (h18 : ∀ x, 0 ≤ x → x < 2760 → -1 ≤ M' 18 x ∧ M' 18 x < 12) : xOK M' := by
  obtain ⟨a1, a2, a3, a4, a5, a6, a7, a8, a9, a10⟩ := h
  refine ⟨by rw [h1]; exact a1, by rw [h2]; exact a2, by rw [h4]; exact a3, by rw [h0]; exact a4, ?_, ?_, h16, h18, ?_, ?_⟩
  · rw [h2, h9, h10]; exact a5
  · rw [h15]; exact a6
  · rw [h20, h23]; exact a9
  · rw [h4, h19]; exact a10
theorem xFill_c {M : zM} {k n : Nat} {v : Int} {c : Nat} (h : c ≠ k) : xFill M k n v c = M c := by
  funext i
  simp [xFill, h]
theorem xFill_ok {M : zM} (h : xOK M) : xOK (xFill M 14 16 0) :=
  h.of rfl rfl rfl rfl (xFill_c (by decide)) (xFill_c (by decide)) (xFill_c (by decide)) (xFill_c (by decide)) (xFill_c (by decide)) (xFill_c (by decide)) (by rw [xFill_c (by decide)]; exact h.2.2.2.2.2.2.1) (by rw [xFill_c (by decide)]; exact h.2.2.2.2.2.2.2.1)
theorem xNow_ok {M : zM} (h : xOK M) {p : Int} (h0 : 0 ≤ p) (h1 : p < 60) : -1 ≤ xNow M p ∧ xNow M p < 12 := by
  have a := h.2.2.2.2.2.2.1 p h0 h1
  unfold xNow
  split
  · omega
  · exact h.2.2.2.2.2.2.2.1 _ (by omega) (by omega)
theorem xTrailAdd_c {M : zM} {p t r : Int} {c : Nat} (h6 : c ≠ 16) (h7 : c ≠ 17) (h8 : c ≠ 18) : xTrailAdd M p t r c = M c := by
  unfold xTrailAdd
  split
  · rfl
  · rw [zU_k h6, zU_k h8, zU_k h7]
theorem xTrailAdd_16 {M : zM} {p t r : Int} (h : ∀ p, 0 ≤ p → p < 60 → 0 ≤ M 16 p ∧ M 16 p ≤ 46) (h0 : 0 ≤ p) (h1 : p < 60) : ∀ q, 0 ≤ q → q < 60 → 0 ≤ xTrailAdd M p t r 16 q ∧ xTrailAdd M p t r 16 q ≤ 46 := by
  intro q hq hq2
  have a := h q hq hq2
  unfold xTrailAdd
  split
  · exact a
  · by_cases e : q = p
    · subst e
      rw [zU_s]; omega
    · rw [zU_n e, zU_k (by decide), zU_k (by decide)]; exact a
theorem xTrailAdd_18 {M : zM} {p t r : Int} (h : ∀ x, 0 ≤ x → x < 2760 → -1 ≤ M 18 x ∧ M 18 x < 12) (hr : -1 ≤ r ∧ r < 12) : ∀ x, 0 ≤ x → x < 2760 → -1 ≤ xTrailAdd M p t r 18 x ∧ xTrailAdd M p t r 18 x < 12 := by
  intro x hx hx2
  have a := h x hx hx2
  unfold xTrailAdd
  split
  · exact a
  · rw [zU_k (by decide)]
    by_cases e : x = p * 46 + M 16 p
    · rw [← e, zU_s]; exact hr
    · rw [zU_n e, zU_k (by decide)]; exact a
/-- the cells that a person's step leaves alone -/
theorem xEntr_c {M : zM} {p : Int} {c : Nat} (h0 : c ≠ 0) (h1 : c ≠ 6) (h2 : c ≠ 16) (h3 : c ≠ 17) (h4 : c ≠ 18) (h5 : c ≠ 25) : xEntr M p c = M c := by
  unfold xEntr
  split
  · rw [xTrailAdd_c h2 h3 h4, zU_k h0, zU_k h1]
  · rw [zU_k h5]
theorem xOut_c {M : zM} {p : Int} {c : Nat} (h0 : c ≠ 0) (h1 : c ≠ 6) (h2 : c ≠ 16) (h3 : c ≠ 17) (h4 : c ≠ 18) : xOut M p c = M c := by
  unfold xOut
  rw [xTrailAdd_c h2 h3 h4, zU_k h0, zU_k h1]
theorem xDoorTo_c {M : zM} {p h d r : Int} {c : Nat} (h1 : c ≠ 6) (h2 : c ≠ 16) (h3 : c ≠ 17) (h4 : c ≠ 18) (h5 : c ≠ 12) (h6 : c ≠ 13) (h7 : c ≠ 14) : xDoorTo M p h d r c = M c := by
  unfold xDoorTo
  rw [xTrailAdd_c h2 h3 h4, zU_k h1, zU_k h1, xPass_c h5 h6 h7]
theorem xTryDoor_c {M : zM} {p h g : Int} {c : Nat} (h1 : c ≠ 6) (h2 : c ≠ 16) (h3 : c ≠ 17) (h4 : c ≠ 18) (h5 : c ≠ 12) (h6 : c ≠ 13) (h7 : c ≠ 14) (h8 : c ≠ 25) : xTryDoor M p h g c = M c := by
  unfold xTryDoor
  split
  · rfl
  · split
    · exact xDoorTo_c h1 h2 h3 h4 h5 h6 h7
    · rw [zU_k h8]
theorem xStep_c {M : zM} {p : Int} {c : Nat} (h0 : c ≠ 0) (h1 : c ≠ 6) (h2 : c ≠ 16) (h3 : c ≠ 17) (h4 : c ≠ 18) (h5 : c ≠ 12) (h6 : c ≠ 13) (h7 : c ≠ 14) (h8 : c ≠ 25) : xStep M p c = M c := by
  unfold xStep
  repeat' split
  · rfl
  · exact xEntr_c h0 h1 h2 h3 h4 h8
  · exact xTryDoor_c h1 h2 h3 h4 h5 h6 h7 h8
  · exact xTryDoor_c h1 h2 h3 h4 h5 h6 h7 h8
  · exact xOut_c h0 h1 h2 h3 h4
theorem xStep_04 {M : zM} {p : Int} : xStep M p 0 4 = M 0 4 := by
  unfold xStep
  repeat' split
  · rfl
  · unfold xEntr
    split
    · rw [xTrailAdd_c (by decide) (by decide) (by decide), zU_n (by decide), zU_k (by decide)]
    · rw [zU_k (by decide)]
  · rw [xTryDoor_c (by decide) (by decide) (by decide) (by decide) (by decide) (by decide) (by decide) (by decide)]
  · rw [xTryDoor_c (by decide) (by decide) (by decide) (by decide) (by decide) (by decide) (by decide) (by decide)]
  · unfold xOut
    rw [xTrailAdd_c (by decide) (by decide) (by decide), zU_n (by decide), zU_k (by decide)]
theorem xOK.step {M : zM} (h : xOK M) {p : Int} (h0 : 0 ≤ p) (h1 : p < 60) : xOK (xStep M p) := by
  have a2 := h.2.1
  have a5 := h.2.2.2.2.1
  have a7 := h.2.2.2.2.2.2.1
  have a8 := h.2.2.2.2.2.2.2.1
  have td : ∀ hh g, (∀ q, 0 ≤ q → q < 60 → 0 ≤ xTryDoor M p hh g 16 q ∧ xTryDoor M p hh g 16 q ≤ 46) ∧ ∀ x, 0 ≤ x → x < 2760 → -1 ≤ xTryDoor M p hh g 18 x ∧ xTryDoor M p hh g 18 x < 12 := by
    intro hh g
    unfold xTryDoor
    split
    · exact ⟨a7, a8⟩
    · split
      · rename_i hr _
        have e8 := xNext_rg (h := hh) (g := g) a2.1 a5
        unfold xDoorTo
        refine ⟨xTrailAdd_16 ?_ h0 h1, xTrailAdd_18 ?_ (by omega)⟩
        · rw [zU_k (by decide), zU_k (by decide), xPass_c (by decide) (by decide) (by decide)]; exact a7
        · rw [zU_k (by decide), zU_k (by decide), xPass_c (by decide) (by decide) (by decide)]; exact a8
      · rw [zU_k (by decide), zU_k (by decide)]; exact ⟨a7, a8⟩
  have m : (∀ q, 0 ≤ q → q < 60 → 0 ≤ xStep M p 16 q ∧ xStep M p 16 q ≤ 46) ∧ ∀ x, 0 ≤ x → x < 2760 → -1 ≤ xStep M p 18 x ∧ xStep M p 18 x < 12 := by
    unfold xStep
    repeat' split
    · exact ⟨a7, a8⟩
    · unfold xEntr
      split
      · refine ⟨xTrailAdd_16 ?_ h0 h1, xTrailAdd_18 ?_ (by omega)⟩
        · rw [zU_k (by decide), zU_k (by decide)]; exact a7
        · rw [zU_k (by decide), zU_k (by decide)]; exact a8
      · rw [zU_k (by decide), zU_k (by decide)]; exact ⟨a7, a8⟩
    · exact td _ _
    · exact td _ _
    · unfold xOut
      refine ⟨xTrailAdd_16 ?_ h0 h1, xTrailAdd_18 ?_ (by omega)⟩
      · rw [zU_k (by decide), zU_k (by decide)]; exact a7
      · rw [zU_k (by decide), zU_k (by decide)]; exact a8
  have k : ∀ c, c ≠ 0 → c ≠ 6 → c ≠ 16 → c ≠ 17 → c ≠ 18 → c ≠ 12 → c ≠ 13 → c ≠ 14 → c ≠ 25 → xStep M p c = M c := fun c => xStep_c
  exact h.of (by rw [k 1 (by decide) (by decide) (by decide) (by decide) (by decide) (by decide) (by decide) (by decide) (by decide)]) (by rw [k 2 (by decide) (by decide) (by decide) (by decide) (by decide) (by decide) (by decide) (by decide) (by decide)]) (by rw [k 4 (by decide) (by decide) (by decide) (by decide) (by decide) (by decide) (by decide) (by decide) (by decide)]) xStep_04
    (k 9 (by decide) (by decide) (by decide) (by decide) (by decide) (by decide) (by decide) (by decide) (by decide)) (k 10 (by decide) (by decide) (by decide) (by decide) (by decide) (by decide) (by decide) (by decide) (by decide)) (k 15 (by decide) (by decide) (by decide) (by decide) (by decide) (by decide) (by decide) (by decide) (by decide)) (k 20 (by decide) (by decide) (by decide) (by decide) (by decide) (by decide) (by decide) (by decide) (by decide)) (k 23 (by decide) (by decide) (by decide) (by decide) (by decide) (by decide) (by decide) (by decide) (by decide)) (k 19 (by decide) (by decide) (by decide) (by decide) (by decide) (by decide) (by decide) (by decide) (by decide)) m.1 m.2
theorem xStepN_stop {M : zM} {k : Nat} (h : ¬ ((k : Int) < M 4 1 ∧ M 19 (k : Int) ≤ M 0 4)) : xStepN ((M 4 1).toNat - k) k M = M := by
  by_cases hk : (k : Int) < M 4 1
  · rw [show (M 4 1).toNat - k = ((M 4 1).toNat - (k + 1)) + 1 by omega, xStepN, if_neg (fun q => h ⟨hk, q⟩)]
  · rw [show (M 4 1).toNat - k = 0 by omega, xStepN]
theorem xMin_s {M Mq : zM} {k : Nat} (h : (k : Int) ≤ 60 ∧ xOK Mq ∧ Mq 0 4 < 2000 ∧ xStepN (M 4 1).toNat 0 (xFill M 14 16 0) = xStepN ((Mq 4 1).toNat - k) k Mq) (h1 : (k : Int) < Mq 4 1) (h2 : Mq 19 (k : Int) ≤ Mq 0 4) :
    ((k + 1 : Nat) : Int) ≤ 60 ∧ xOK (xStep Mq k) ∧ xStep Mq k 0 4 < 2000 ∧ xStepN (M 4 1).toNat 0 (xFill M 14 16 0) = xStepN ((xStep Mq k 4 1).toNat - (k + 1)) ((k + 1 : Nat) : Int) (xStep Mq k) := by
  have b := h.2.1.2.2.1
  refine ⟨by omega, h.2.1.step (by omega) (by omega), by rw [xStep_04]; exact h.2.2.1, ?_⟩
  have e : xStep Mq k 4 1 = Mq 4 1 := by rw [xStep_c (by decide) (by decide) (by decide) (by decide) (by decide) (by decide) (by decide) (by decide) (by decide)]
  rw [h.2.2.2, e, show (Mq 4 1).toNat - k = ((Mq 4 1).toNat - (k + 1)) + 1 by omega, xStepN, if_pos h2]
  rfl

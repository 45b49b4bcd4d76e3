/-! shorten: in place, and yet all at once: the column of a and the row of b stay -/
theorem nShV_a {M : zM} {a b x : Int} : nShV M a b x a = M 5 (12 * x + a) := by
  unfold nShV
  split <;> omega
theorem nShV_b {M : zM} {a b y : Int} : nShV M a b b y = M 5 (12 * b + y) := by
  unfold nShV
  split <;> omega
/-- which places are done: the rows below k, and of row k those below j -/
def nShD (M : zM) (a b : Int) (k j : Nat) (V : zM) : Prop := ∀ x y : Int, 0 ≤ x → x < 12 → 0 ≤ y → y < 12 → V 5 (12 * x + y) = if x < k ∨ (x = k ∧ y < j) then nShV M a b x y else M 5 (12 * x + y)
theorem nShI_is {M V : zM} {a b : Int} {k j : Nat} (ha : 0 ≤ a ∧ a < 12) (hb : 0 ≤ b ∧ b < 12) (hk : k < 12) (hj : j < 12) (h : nShD M a b k j V) : nShD M a b k (j + 1) (nShI V a b k j) := by
  intro x y hx hx2 hy hy2
  unfold nShI
  by_cases e : 12 * x + y = 12 * (k : Int) + j
  · have ex : x = (k : Int) := by omega
    have ey : y = (j : Int) := by omega
    rw [e, zU_s, ex, ey, if_pos (by omega)]
    have h1 := h k a (by omega) (by omega) ha.1 ha.2
    have h2 := h b j hb.1 hb.2 (by omega) (by omega)
    have h3 := h k j (by omega) (by omega) (by omega) (by omega)
    rw [if_neg (by omega)] at h3
    have h1' : V 5 (12 * (k : Int) + a) = M 5 (12 * (k : Int) + a) := by
      rw [h1]
      split
      · exact nShV_a
      · rfl
    have h2' : V 5 (12 * b + (j : Int)) = M 5 (12 * b + (j : Int)) := by
      rw [h2]
      split
      · exact nShV_b
      · rfl
    unfold nShV
    rw [h1', h2', h3]
  · rw [zU_n e, h x y hx hx2 hy hy2]
    by_cases c : x < (k : Int) ∨ (x = (k : Int) ∧ y < (j : Int))
    · rw [if_pos c, if_pos (by omega)]
    · rw [if_neg c, if_neg (by omega)]
theorem nShR_is {M V : zM} {a b : Int} {k : Nat} (ha : 0 ≤ a ∧ a < 12) (hb : 0 ≤ b ∧ b < 12) (hk : k < 12) (h : nShD M a b k 0 V) : ∀ j : Nat, j ≤ 12 → nShD M a b k j (nShR V a b k j)
  | 0, _ => h
  | j + 1, hj => nShI_is ha hb hk (by omega) (nShR_is ha hb hk h j (by omega))
theorem nShN_is {M : zM} {a b : Int} (ha : 0 ≤ a ∧ a < 12) (hb : 0 ≤ b ∧ b < 12) : ∀ k : Nat, k ≤ 12 → nShD M a b k 0 (nShN M a b k)
  | 0, _ => fun x y hx _ _ _ => by
    rw [if_neg (by omega)]
    rfl
  | k + 1, hk => by
    have h := nShR_is (M := M) ha hb (by omega) (nShN_is (M := M) ha hb k (by omega)) 12 (Nat.le_refl 12)
    intro x y hx hx2 hy hy2
    show nShR (nShN M a b k) a b k 12 5 (12 * x + y) = _
    rw [h x y hx hx2 hy hy2]
    by_cases c : x < ((k + 1 : Nat) : Int)
    · rw [if_pos (by omega), if_pos (by omega)]
    · rw [if_neg (by omega), if_neg (by omega)]
theorem nShN_12 {M : zM} {a b : Int} (ha : 0 ≤ a ∧ a < 12) (hb : 0 ≤ b ∧ b < 12) {x y : Int} (hx : 0 ≤ x) (hx2 : x < 12) (hy : 0 ≤ y) (hy2 : y < 12) : nShN M a b 12 5 (12 * x + y) = nShV M a b x y := by
  rw [nShN_is ha hb 12 (Nat.le_refl 12) x y hx hx2 hy hy2, if_pos (by omega)]
theorem nShD_b {M V : zM} {a b B : Int} {k j : Nat} (ha : 0 ≤ a ∧ a < 12) (hb : 0 ≤ b ∧ b < 12) (hB : 0 ≤ B) (h : nShD M a b k j V) (hM : ∀ x, 0 ≤ x → x < 144 → -1 ≤ M 5 x ∧ M 5 x ≤ B) : ∀ x, 0 ≤ x → x < 144 → -1 ≤ V 5 x ∧ V 5 x ≤ 2 * B + 1 := by
  intro x h1 h2
  have e := h (x / 12) (x % 12) (by omega) (by omega) (by omega) (by omega)
  rw [show 12 * (x / 12) + x % 12 = x by omega] at e
  have q1 := hM x h1 h2
  have q2 := hM (12 * (x / 12) + a) (by omega) (by omega)
  have q3 := hM (12 * b + x % 12) (by omega) (by omega)
  rw [e]
  split
  · unfold nShV
    rw [show 12 * (x / 12) + x % 12 = x by omega]
    split <;> omega
  · omega
theorem nSh_b {M : zM} {a b B : Int} (ha : 0 ≤ a ∧ a < 12) (hb : 0 ≤ b ∧ b < 12) (hB : 0 ≤ B) (hM : ∀ x, 0 ≤ x → x < 144 → -1 ≤ M 5 x ∧ M 5 x ≤ B) : ∀ k, k ≤ 12 → ∀ j, j ≤ 12 → ∀ x, 0 ≤ x → x < 144 → -1 ≤ nShR (nShN M a b k) a b k j 5 x ∧ nShR (nShN M a b k) a b k j 5 x ≤ 2 * B + 1 := by
  intro k hk j hj
  by_cases h : k < 12
  · exact nShD_b ha hb hB (nShR_is ha hb h (nShN_is ha hb k hk) j hj) hM
  · have e : k = 12 := by omega
    subst e
    intro x h1 h2
    -- row 12 lies beyond the rooms: it is never walked; its first step writes beyond 143
    have key : ∀ j, nShR (nShN M a b 12) a b ((12 : Nat) : Int) j 5 x = nShN M a b 12 5 x := by
      intro j
      induction j with
      | zero => rfl
      | succ j ih =>
        show nShI (nShR (nShN M a b 12) a b ((12 : Nat) : Int) j) a b ((12 : Nat) : Int) j 5 x = _
        unfold nShI
        rw [zU_n (by omega)]
        exact ih
    rw [key j]
    exact nShD_b ha hb hB (nShN_is ha hb 12 (Nat.le_refl 12)) hM x h1 h2
theorem nSh_B {M : zM} {a b B : Int} (ha : 0 ≤ a ∧ a < 12) (hb : 0 ≤ b ∧ b < 12) (hB : 0 ≤ B) (hM : ∀ x, 0 ≤ x → x < 144 → -1 ≤ M 5 x ∧ M 5 x ≤ B) : ∀ x, 0 ≤ x → x < 144 → -1 ≤ nShN M a b 12 5 x ∧ nShN M a b 12 5 x ≤ 2 * B + 1 := nShD_b ha hb hB (nShN_is ha hb 12 (Nat.le_refl 12)) hM
theorem nMvN_c {M : zM} {n e : Int} {c : Nat} (h : c ≠ 12) : ∀ k, nMvN M n e k c = M c
  | 0 => rfl
  | k + 1 => (zU_k h).trans (nMvN_c h k)
theorem nPutN_c {M : zM} {t q : Int} {c : Nat} (h : c ≠ 12) : ∀ k, nPutN M t q k c = M c
  | 0 => rfl
  | k + 1 => (zU_k h).trans (nPutN_c h k)
theorem nAt_s {M : zM} {t q : Int} (hq : 0 < q) (h : t < M 12 (q - 1)) : nAt M t q.toNat = nAt M t (q + (-1)).toNat := by
  rw [show q.toNat = (q + (-1)).toNat + 1 by omega, nAt, show (((q + (-1)).toNat : Nat) : Int) = q - 1 by omega, if_pos h]
theorem nAt_e {M : zM} {t q : Int} (hq : 0 ≤ q) (h : q ≤ 0 ∨ M 12 (q - 1) ≤ t) : nAt M t q.toNat = q.toNat := by
  by_cases h0 : q ≤ 0
  · rw [show q.toNat = 0 by omega, nAt]
  · rw [show q.toNat = (q - 1).toNat + 1 by omega, nAt, show (((q - 1).toNat : Nat) : Int) = q - 1 by omega, if_neg (by omega)]
theorem nMvN_s {M : zM} {n pp : Int} (h : pp ≤ M 0 16 - 1) : nMvN M n (M 0 16) (M 0 16 - 1 - (pp + (-1))).toNat = zU (nMvN M n (M 0 16) (M 0 16 - 1 - pp).toNat) 12 (pp + n) (nMvN M n (M 0 16) (M 0 16 - 1 - pp).toNat 12 pp) := by
  rw [show (M 0 16 - 1 - (pp + (-1))).toNat = (M 0 16 - 1 - pp).toNat + 1 by omega]
  show zU _ 12 (M 0 16 - 1 - (((M 0 16 - 1 - pp).toNat : Nat) : Int) + n) (nMvN M n (M 0 16) (M 0 16 - 1 - pp).toNat 12 (M 0 16 - 1 - (((M 0 16 - 1 - pp).toNat : Nat) : Int))) = _
  rw [show M 0 16 - 1 - (((M 0 16 - 1 - pp).toNat : Nat) : Int) = pp by omega]
theorem nPutN_s {M : zM} {t q pp : Int} (h : q ≤ pp) : nPutN M t q (pp + 1 - q).toNat = zU (nPutN M t q (pp - q).toNat) 12 pp t := by
  rw [show (pp + 1 - q).toNat = (pp - q).toNat + 1 by omega]
  show zU _ 12 (q + (((pp - q).toNat : Nat) : Int)) t = _
  rw [show q + (((pp - q).toNat : Nat) : Int) = pp by omega]
theorem nCnt_b (M : zM) (r t : Int) : ∀ k : Nat, 0 ≤ nCnt M r t k ∧ nCnt M r t k ≤ k
  | 0 => ⟨Int.le_refl 0, Int.le_refl 0⟩
  | k + 1 => by
    have := nCnt_b M r t k
    unfold nCnt
    split <;> omega
theorem nRun_ok {sd : Int64} {M : zM} (h : nOK M) : ∀ k : Nat, M 0 2 + k ≤ 2000 → nOK (nRun sd M k) ∧ nRun sd M k 0 2 = M 0 2 + k ∧ nRun sd M k 0 3 = M 0 3 ∧ nRun sd M k 0 16 = M 0 16 ∧ nRun sd M k 0 9 = M 0 9
  | 0, _ => ⟨h, by show M 0 2 = _; omega, rfl, rfl, rfl⟩
  | k + 1, hk => by
    obtain ⟨a, b, c3, c16, c9⟩ := nRun_ok h k (by omega)
    refine ⟨nMin_ok a (by omega), ?_, ?_, ?_, ?_⟩
    · show nMin sd (nRun sd M k) 0 2 = _
      rw [nMin_2, b]; omega
    · show nMin sd (nRun sd M k) 0 3 = _
      rw [nMin_0 (by decide) (by decide) (by decide), c3]
    · show nMin sd (nRun sd M k) 0 16 = _
      rw [nMin_0 (by decide) (by decide) (by decide), c16]
    · show nMin sd (nRun sd M k) 0 9 = _
      rw [nMin_0 (by decide) (by decide) (by decide), c9]
theorem nOK.f {M : zM} (h : nOK M) (v : Int) : nOK (zU M 0 1 v) :=
  h.of (fun j h1 _ _ => zU_n h1) (zU_k (by decide)) (zU_k (by decide)) (zU_k (by decide)) (zU_k (by decide)) (by rw [zU_k (by decide)]; exact h.2.2.2.2.2.2.2.1)
theorem nSum_r (M : zM) : ∀ k : Nat, -2147483648 ≤ nSum M k ∧ nSum M k ≤ 2147483647
  | 0 => ⟨by show (-2147483648 : Int) ≤ 0; decide, by show (0 : Int) ≤ 2147483647; decide⟩
  | k + 1 => bm_rg _

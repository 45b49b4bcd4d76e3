/-! Class and reference side by side: what they share; a person's trail and its rows of the past -/
def fU (f : Int → Int) (i v : Int) : Int → Int := fun j => if j = i then v else f j
theorem zU_f {M : zM} {k : Nat} {i v : Int} : zU M k i v k = fU (M k) i v := by
  funext j
  by_cases h : j = i
  · subst h; simp [zU, fU]
  · simp [zU, fU, h]
theorem fU_s {f : Int → Int} {i v : Int} : fU f i v i = v := by simp [fU]
theorem fU_n {f : Int → Int} {i v j : Int} (h : j ≠ i) : fU f i v j = f j := by simp [fU, h]
theorem fU_id {f : Int → Int} {i : Int} : fU f i (f i) = f := by
  funext j
  by_cases h : j = i
  · subst h; exact fU_s
  · exact fU_n h
def sSum (f : Int → Int) : Nat → Int
  | 0 => 0
  | k + 1 => sSum f k + f k
theorem sSum_o {f : Int → Int} {i v : Int} : ∀ n : Nat, ((n : Int) ≤ i) → sSum (fU f i v) n = sSum f n
  | 0, _ => rfl
  | n + 1, h => by
    simp only [sSum]
    rw [sSum_o n (by omega), fU_n (by omega)]
theorem sSum_U {f : Int → Int} {i v : Int} (h0 : 0 ≤ i) : ∀ n : Nat, i < (n : Int) → sSum (fU f i v) n = sSum f n + v - f i
  | 0, h => absurd h (by omega)
  | n + 1, h => by
    simp only [sSum]
    by_cases e : i = (n : Int)
    · rw [sSum_o n (by omega), e, fU_s]; omega
    · rw [sSum_U h0 n (by omega), fU_n (by omega)]; omega
theorem xBehN_eq {M M' : zM} {p t : Int} : ∀ k : Nat, (∀ i, 0 ≤ i → i < (k : Int) → M' 17 (p * 46 + i) = M 17 (p * 46 + i) ∧ M' 18 (p * 46 + i) = M 18 (p * 46 + i)) → xBehN M' p t k = xBehN M p t k
  | 0, _ => rfl
  | k + 1, h => by
    obtain ⟨h1, h2⟩ := h k (by omega) (by omega)
    simp only [xBehN]
    rw [h1, h2, xBehN_eq k (fun i a b => h i a (by omega))]
theorem xBeh_now {M : zM} {p t : Int} (h0 : 0 ≤ M 16 p) (h : ∀ i, 0 ≤ i → i < M 16 p → M 17 (p * 46 + i) ≤ t) : xBeh M p t = xNow M p := by
  unfold xBeh xNow
  by_cases e : M 16 p = 0
  · rw [if_pos e, e]; rfl
  · rw [if_neg e, show (M 16 p).toNat = (M 16 p - 1).toNat + 1 by omega]
    simp only [xBehN]
    rw [show (((M 16 p - 1).toNat : Nat) : Int) = M 16 p - 1 by omega, if_pos (h _ (by omega) (by omega)), show p * 46 + (M 16 p - 1) = p * 46 + M 16 p - 1 by omega]
/-- what a person is about at minute t: 1 to the desk, 2 to eat, 3 back, 4 out -/
def sPh (M : zM) (p t : Int) : Int := if M 24 p ≤ t then 4 else if M 22 p ≤ t then 3 else if M 21 p ≤ t then 2 else 1
def sGo (M : zM) (p ph : Int) : Int := if ph = 4 then 0 else if ph = 2 then M 23 p else M 20 p
def sDd (M : zM) (x y : Int) : Int := min (M 15 (x * 12 + y)) 11
def sPhi (M : zM) (p t : Int) : Prop := M 16 p = 0 ∨ (xNow M p = -1 ∧ M 24 p ≤ t) ∨ (0 ≤ xNow M p ∧ xNow M p < M 1 0 ∧ M 16 p + sDd M (xNow M p) (sGo M p (sPh M p t)) ≤ 1 + 11 * sPh M p t)
theorem sPh_or (M : zM) (p t : Int) : sPh M p t = 1 ∨ sPh M p t = 2 ∨ sPh M p t = 3 ∨ sPh M p t = 4 := by
  unfold sPh
  repeat' split
  all_goals omega
theorem sPh_le {M : zM} {p t t' : Int} (h : M 21 p < M 22 p ∧ M 22 p ≤ M 24 p) (ht : t ≤ t') : sPh M p t ≤ sPh M p t' := by
  unfold sPh
  repeat' split
  all_goals omega
theorem sWant {M : zM} {p t : Int} (h : M 21 p < M 22 p ∧ M 22 p ≤ M 24 p) : xWants M p t = if sPh M p t = 4 then -1 else sGo M p (sPh M p t) := by
  unfold xWants sGo sPh
  repeat' split
  all_goals omega
theorem sPh_4 {M : zM} {p t : Int} : sPh M p t = 4 ↔ M 24 p ≤ t := by
  unfold sPh
  repeat' split
  all_goals omega
theorem sGo_rg {M : zM} {p ph : Int} (h : (0 ≤ M 20 p ∧ M 20 p < 12) ∧ 0 ≤ M 23 p ∧ M 23 p < 12) : 0 ≤ sGo M p ph ∧ sGo M p ph < 12 := by
  unfold sGo
  repeat' split
  all_goals omega
theorem sPhi.w {M : zM} {p t t' : Int} (h : sPhi M p t) (hp : M 21 p < M 22 p ∧ M 22 p ≤ M 24 p) (ht : t ≤ t') (hr : M 1 0 ≤ 12) (hg : (0 ≤ M 20 p ∧ M 20 p < 12) ∧ 0 ≤ M 23 p ∧ M 23 p < 12) (hd : ∀ x, 0 ≤ x → x < 144 → 0 ≤ M 15 x ∧ M 15 x ≤ 1000) : sPhi M p t' := by
  rcases h with h | ⟨h, h1⟩ | ⟨h, h1, h2⟩
  · exact Or.inl h
  · exact Or.inr (Or.inl ⟨h, by omega⟩)
  · refine Or.inr (Or.inr ⟨h, h1, ?_⟩)
    have hle := sPh_le (t := t) (t' := t') hp ht
    by_cases e : sPh M p t = sPh M p t'
    · rw [← e]; exact h2
    · have g1 := sGo_rg (ph := sPh M p t) hg
      have d1 := hd (xNow M p * 12 + sGo M p (sPh M p t)) (by omega) (by omega)
      have : sDd M (xNow M p) (sGo M p (sPh M p t')) ≤ 11 := by unfold sDd; omega
      have h3 : 0 ≤ sDd M (xNow M p) (sGo M p (sPh M p t)) := by unfold sDd; omega
      omega
/-- a person p behind minute L - 1 -/
def sPR (M N : zM) (p L : Int) : Prop :=
  N 13 p = xNow M p ∧ (∀ i, 0 ≤ i → i < M 16 p → 0 ≤ M 17 (p * 46 + i) ∧ M 17 (p * 46 + i) < L) ∧ (∀ i j, 0 ≤ i → i < j → j < M 16 p → M 17 (p * 46 + i) < M 17 (p * 46 + j)) ∧ (∀ t, 0 ≤ t → t < L → N 15 (2000 * p + t) = xBeh M p t) ∧ sPhi M p (L - 1)
theorem xNow_eq {M M' : zM} {p : Int} (h16 : M' 16 p = M 16 p) (hm : 0 ≤ M 16 p ∧ M 16 p ≤ 46) (h18 : ∀ i, 0 ≤ i → i < 46 → M' 18 (p * 46 + i) = M 18 (p * 46 + i)) : xNow M' p = xNow M p := by
  unfold xNow
  rw [h16]
  split
  · rfl
  · have := h18 (M 16 p - 1) (by omega) (by omega)
    rw [show p * 46 + (M 16 p - 1) = p * 46 + M 16 p - 1 by omega] at this
    exact this
theorem sPhi_eq {M M' : zM} {p t : Int} (h16 : M' 16 p = M 16 p) (hx : xNow M' p = xNow M p) (h1 : M' 1 0 = M 1 0) (h15 : M' 15 = M 15) (h20 : M' 20 p = M 20 p) (h21 : M' 21 p = M 21 p) (h22 : M' 22 p = M 22 p) (h23 : M' 23 p = M 23 p) (h24 : M' 24 p = M 24 p) (h : sPhi M p t) : sPhi M' p t := by
  unfold sPhi sDd sGo sPh at *
  rw [h16, hx, h1, h15, h20, h21, h22, h23, h24]
  exact h
theorem sPR.keep {M M' N N' : zM} {p L : Int} (h : sPR M N p L) (hm : 0 ≤ M 16 p ∧ M 16 p ≤ 46) (hL : L ≤ 2000) (h16 : M' 16 p = M 16 p) (h17 : ∀ i, 0 ≤ i → i < 46 → M' 17 (p * 46 + i) = M 17 (p * 46 + i)) (h18 : ∀ i, 0 ≤ i → i < 46 → M' 18 (p * 46 + i) = M 18 (p * 46 + i)) (h1 : M' 1 0 = M 1 0) (h15 : M' 15 = M 15) (h20 : M' 20 p = M 20 p) (h21 : M' 21 p = M 21 p) (h22 : M' 22 p = M 22 p) (h23 : M' 23 p = M 23 p) (h24 : M' 24 p = M 24 p)
    (g13 : N' 13 p = N 13 p) (g15 : ∀ t, 0 ≤ t → t < 2000 → N' 15 (2000 * p + t) = N 15 (2000 * p + t)) : sPR M' N' p L := by
  obtain ⟨a1, a2, a3, a4, a5⟩ := h
  have hx := xNow_eq h16 hm h18
  refine ⟨by rw [g13, hx]; exact a1, fun i i0 i1 => ?_, fun i j i0 i1 i2 => ?_, fun t t0 t1 => ?_, sPhi_eq h16 hx h1 h15 h20 h21 h22 h23 h24 a5⟩
  · rw [h16] at i1
    rw [h17 i i0 (by omega)]
    exact a2 i i0 i1
  · rw [h16] at i2
    rw [h17 i i0 (by omega), h17 j (by omega) (by omega)]
    exact a3 i j i0 i1 i2
  · rw [g15 t t0 (by omega), a4 t t0 t1]
    unfold xBeh
    rw [h16]
    exact (xBehN_eq _ (fun i i0 i1 => ⟨h17 i i0 (by omega), h18 i i0 (by omega)⟩)).symm
/-- the next minute, T, behind which p is where it was -/
theorem sPR.stay {M N N' : zM} {p T : Int} (h : sPR M N p T) (hm : 0 ≤ M 16 p) (hp : M 21 p < M 22 p ∧ M 22 p ≤ M 24 p) (hr : M 1 0 ≤ 12) (hg : (0 ≤ M 20 p ∧ M 20 p < 12) ∧ 0 ≤ M 23 p ∧ M 23 p < 12) (hd : ∀ x, 0 ≤ x → x < 144 → 0 ≤ M 15 x ∧ M 15 x ≤ 1000) (g13 : N' 13 p = N 13 p) (g15 : ∀ t, 0 ≤ t → t < T → N' 15 (2000 * p + t) = N 15 (2000 * p + t)) (gT : N' 15 (2000 * p + T) = N 13 p) : sPR M N' p (T + 1) := by
  obtain ⟨a1, a2, a3, a4, a5⟩ := h
  refine ⟨by rw [g13]; exact a1, fun i i0 i1 => ?_, a3, fun t t0 t1 => ?_, a5.w hp (by omega) hr hg hd⟩
  · have := a2 i i0 i1
    omega
  · by_cases e : t = T
    · rw [e, gT, a1]
      exact (xBeh_now hm (fun i i0 i1 => by have := a2 i i0 i1; omega)).symm
    · rw [g15 t t0 (by omega)]
      exact a4 t t0 (by omega)
/-- a trail with one move more -/
def sTA (M M' : zM) (p t r : Int) : Prop := M' 16 p = M 16 p + 1 ∧ (∀ q, q ≠ p → M' 16 q = M 16 q) ∧ M' 17 (p * 46 + M 16 p) = t ∧ (∀ x, x ≠ p * 46 + M 16 p → M' 17 x = M 17 x) ∧ M' 18 (p * 46 + M 16 p) = r ∧ ∀ x, x ≠ p * 46 + M 16 p → M' 18 x = M 18 x
theorem sTA.of {M M1 : zM} {p t r : Int} (h16 : M1 16 = M 16) (h17 : M1 17 = M 17) (h18 : M1 18 = M 18) (hm : M 16 p < 46) : sTA M (xTrailAdd M1 p t r) p t r := by
  unfold sTA xTrailAdd
  rw [h16, if_neg (by omega)]
  refine ⟨zU_s, fun q hq => ?_, ?_, fun x hx => ?_, ?_, fun x hx => ?_⟩
  · rw [zU_n hq, zU_k (by decide), zU_k (by decide), h16]
  · rw [zU_k (by decide), zU_k (by decide), zU_s]
  · rw [zU_k (by decide), zU_k (by decide), zU_n hx, h17]
  · rw [zU_k (by decide), zU_s]
  · rw [zU_k (by decide), zU_n hx, zU_k (by decide), h18]
theorem sTA.now {M M' : zM} {p t r : Int} (h : sTA M M' p t r) (hm : 0 ≤ M 16 p) : xNow M' p = r := by
  obtain ⟨e1, -, -, -, e5, -⟩ := h
  unfold xNow
  rw [e1, if_neg (by omega), show p * 46 + (M 16 p + 1) - 1 = p * 46 + M 16 p by omega]
  exact e5
theorem sPR.move {M M' N N' : zM} {p T r : Int} (h : sPR M N p T) (hm : 0 ≤ M 16 p ∧ M 16 p < 46) (hT : 0 ≤ T) (hta : sTA M M' p T r) (g13 : N' 13 p = r) (g15 : ∀ t, 0 ≤ t → t < T → N' 15 (2000 * p + t) = N 15 (2000 * p + t)) (gT : N' 15 (2000 * p + T) = r) (hphi : sPhi M' p T) : sPR M' N' p (T + 1) := by
  obtain ⟨a1, a2, a3, a4, a5⟩ := h
  have hn := hta.now hm.1
  obtain ⟨e1, e2, e3, e4, e5, e6⟩ := hta
  refine ⟨by rw [g13, hn], fun i i0 i1 => ?_, fun i j i0 i1 i2 => ?_, fun t t0 t1 => ?_, by rw [show T + 1 - 1 = T by omega]; exact hphi⟩
  · by_cases e : i = M 16 p
    · rw [e, e3]; omega
    · rw [e4 _ (by omega)]
      have := a2 i i0 (by omega)
      omega
  · rw [e4 (p * 46 + i) (by omega)]
    by_cases e : j = M 16 p
    · rw [e, e3]
      exact (a2 i i0 (by omega)).2
    · rw [e4 _ (by omega)]
      exact a3 i j i0 i1 (by omega)
  · unfold xBeh
    rw [e1, show (M 16 p + 1).toNat = (M 16 p).toNat + 1 by omega]
    simp only [xBehN]
    rw [show (((M 16 p).toNat : Nat) : Int) = M 16 p by omega, e3, e5]
    by_cases e : t = T
    · rw [e, if_pos (Int.le_refl _)]
      exact gT
    · rw [if_neg (by omega), g15 t t0 (by omega), a4 t t0 (by omega)]
      exact (xBehN_eq _ (fun i i0 i1 => ⟨e4 _ (by omega), e6 _ (by omega)⟩)).symm
/-- the plan of person p -/
def sPl (sd : Int64) (M : zM) (p : Int) : Prop := M 20 p = xDraw sd p 0 (M 1 0) ∧ M 21 p = M 19 p + 30 + xDraw sd p 1 90 ∧ M 22 p = M 19 p + 30 + xDraw sd p 1 90 + 20 + xDraw sd p 2 20 ∧ M 23 p = xDraw sd p 3 (M 1 0) ∧ M 24 p = M 19 p + 200 + xDraw sd p 4 200
theorem sPl.tell {sd : Int64} {M N : zM} {p : Int} (h : sPl sd M p) (h3 : N 0 3 = M 1 0) (h12 : N 12 p = M 19 p) : nTell sd N p 1 = M 20 p ∧ nTell sd N p 2 = M 21 p ∧ nTell sd N p 3 = M 22 p ∧ nTell sd N p 4 = M 23 p ∧ nTell sd N p 5 = M 24 p := by
  obtain ⟨a1, a2, a3, a4, a5⟩ := h
  refine ⟨?_, ?_, ?_, ?_, ?_⟩
  · rw [nTell_1, h3, a1]
  · rw [nTell_2, h12, a2]
  · rw [nTell_3, h12, a3]
  · rw [nTell_4, h3, a4]
  · rw [nTell_5, h12, a5]
theorem sPl.ord {sd : Int64} {M : zM} {p : Int} (h : sPl sd M p) : M 21 p < M 22 p ∧ M 22 p ≤ M 24 p := by
  obtain ⟨-, a2, a3, -, a5⟩ := h
  have d1 := xDraw_rg sd p 1 (m := 90) (by omega)
  have d2 := xDraw_rg sd p 2 (m := 20) (by omega)
  have d4 := xDraw_rg sd p 4 (m := 200) (by omega)
  obtain ⟨x1, e1⟩ : ∃ x9, zSame x9 (xDraw sd p 1 90) := ⟨_, rfl⟩
  obtain ⟨x2, e2⟩ : ∃ x9, zSame x9 (xDraw sd p 2 20) := ⟨_, rfl⟩
  obtain ⟨x4, e4⟩ : ∃ x9, zSame x9 (xDraw sd p 4 200) := ⟨_, rfl⟩
  rw [← show x1 = xDraw sd p 1 90 from e1] at d1 a2 a3
  rw [← show x2 = xDraw sd p 2 20 from e2] at d2 a3
  rw [← show x4 = xDraw sd p 4 200 from e4] at d4 a5
  omega
theorem sPl.wants {sd : Int64} {M N : zM} {p : Int} (h : sPl sd M p) (h3 : N 0 3 = M 1 0) (h12 : N 12 p = M 19 p) (h2 : N 0 2 = M 0 4) : nWants sd N p = xWants M p (M 0 4) := by
  obtain ⟨t1, t2, t3, t4, t5⟩ := h.tell h3 h12
  unfold nWants xWants
  rw [t1, t2, t3, t4, t5, h2]

/-! Class and reference side by side: what a minute leaves alone; doors; a person's step -/
def sB (sd : Int64) (M N : zM) : Prop :=
  xOK M ∧ nOK N ∧ (N 0 3 = M 1 0 ∧ N 0 9 = M 2 0 ∧ N 0 16 = M 4 1 ∧ N 0 2 = M 0 4) ∧ (N 1 = M 5 ∧ N 6 = M 9 ∧ N 7 = M 10 ∧ N 8 = M 11) ∧
  (∀ p, 0 ≤ p → p < M 4 1 → N 12 p = M 19 p) ∧
  (∀ i j, 0 ≤ i → i < 12 → 0 ≤ j → j < 12 → N 5 (12 * i + j) = if M 15 (i * 12 + j) < 1000 then M 15 (i * 12 + j) else -1) ∧
  gM (M 2 0) (M 9) (M 10) (fun i j => M 15 (i * 12 + j)) ∧
  (∀ d, 0 ≤ d → d < M 2 0 → M 9 d < M 1 0 ∧ M 10 d < M 1 0) ∧
  (∀ p q, 0 ≤ p → p ≤ q → q < M 4 1 → M 19 p ≤ M 19 q) ∧
  (∀ p, 0 ≤ p → p < M 4 1 → sPl sd M p) ∧
  (∀ r, 0 ≤ r → r < M 1 0 → M 5 r ≤ 100) ∧ (0 < M 4 1 → 0 < M 1 0)
theorem sPl.of {sd : Int64} {M M' : zM} {p : Int} (h : sPl sd M p) (h1 : M' 1 0 = M 1 0) (h19 : M' 19 p = M 19 p) (h20 : M' 20 p = M 20 p) (h21 : M' 21 p = M 21 p) (h22 : M' 22 p = M 22 p) (h23 : M' 23 p = M 23 p) (h24 : M' 24 p = M 24 p) : sPl sd M' p := by
  unfold sPl at *
  rw [h1, h19, h20, h21, h22, h23, h24]
  exact h
theorem sB.of {sd : Int64} {M N M' N' : zM} (h : sB sd M N) (hx : xOK M') (hn : nOK N') (h04 : N' 0 2 = M' 0 4) (hM : ∀ c, (c = 1 ∨ c = 2 ∨ c = 4 ∨ c = 5 ∨ c = 9 ∨ c = 10 ∨ c = 11 ∨ c = 15 ∨ c = 19 ∨ c = 20 ∨ c = 21 ∨ c = 22 ∨ c = 23 ∨ c = 24) → M' c = M c) (hN : ∀ c, (c = 1 ∨ c = 5 ∨ c = 6 ∨ c = 7 ∨ c = 8 ∨ c = 12) → N' c = N c) (hN0 : ∀ j, (j = 3 ∨ j = 9 ∨ j = 16) → N' 0 j = N 0 j) : sB sd M' N' := by
  obtain ⟨-, -, ⟨a1, a2, a3, a4⟩, ⟨b1, b2, b3, b4⟩, c5, c6, c7, c8, c9, c10, c11, c12⟩ := h
  have m1 := hM 1 (by omega)
  have m2 := hM 2 (by omega)
  have m4 := hM 4 (by omega)
  have m5 := hM 5 (by omega)
  have m9 := hM 9 (by omega)
  have m10 := hM 10 (by omega)
  have m11 := hM 11 (by omega)
  have m15 := hM 15 (by omega)
  have m19 := hM 19 (by omega)
  have m20 := hM 20 (by omega)
  have m21 := hM 21 (by omega)
  have m22 := hM 22 (by omega)
  have m23 := hM 23 (by omega)
  have m24 := hM 24 (by omega)
  refine ⟨hx, hn, ⟨?_, ?_, ?_, h04⟩, ⟨?_, ?_, ?_, ?_⟩, ?_, ?_, ?_, ?_, ?_, ?_, ?_, ?_⟩
  · rw [hN0 3 (by omega), m1]; exact a1
  · rw [hN0 9 (by omega), m2]; exact a2
  · rw [hN0 16 (by omega), m4]; exact a3
  · rw [hN 1 (by omega), m5]; exact b1
  · rw [hN 6 (by omega), m9]; exact b2
  · rw [hN 7 (by omega), m10]; exact b3
  · rw [hN 8 (by omega), m11]; exact b4
  · rw [hN 12 (by omega), m4, m19]; exact c5
  · rw [hN 5 (by omega), m15]; exact c6
  · rw [m2, m9, m10, m15]; exact c7
  · rw [m2, m9, m10, m1]; exact c8
  · rw [m4, m19]; exact c9
  · rw [m4]
    intro p p0 p1
    exact (c10 p p0 p1).of (by rw [m1]) (by rw [m19]) (by rw [m20]) (by rw [m21]) (by rw [m22]) (by rw [m23]) (by rw [m24])
  · rw [m1, m5]; exact c11
  · rw [m4, m1]; exact c12
/-- doors -/
theorem sSide {M N : zM} (h6 : N 6 = M 9) (h7 : N 7 = M 10) (d h : Int) : nSide N d h = xSide M d h := by
  unfold nSide xSide
  rw [h6, h7]
theorem xTowN_is (M : zM) (h g : Int) : ∀ (n : Nat) (d : Int), xTowN M h g n d = -1 ∨ (xSide M (xTowN M h g n d) h ≠ -1 ∧ M 15 (xSide M (xTowN M h g n d) h * 12 + g) < M 15 (h * 12 + g))
  | 0, d => Or.inl rfl
  | n + 1, d => by
    unfold xTowN
    split
    · rename_i q
      exact Or.inr q
    · exact xTowN_is M h g n (d + 1)
theorem sDoorN {M N : zM} {h g : Int} (h6 : N 6 = M 9) (h7 : N 7 = M 10) (hd : ∀ d, 0 ≤ d → d < M 2 0 → (0 ≤ M 9 d ∧ M 9 d < 12) ∧ 0 ≤ M 10 d ∧ M 10 d < 12) (h5 : ∀ i j, 0 ≤ i → i < 12 → 0 ≤ j → j < 12 → N 5 (12 * i + j) = if M 15 (i * 12 + j) < 1000 then M 15 (i * 12 + j) else -1) (hb : ∀ x, 0 ≤ x → x < 144 → 0 ≤ M 15 x ∧ M 15 x ≤ 1000)
    (hh : 0 ≤ h ∧ h < 12) (hg : 0 ≤ g ∧ g < 12) (hlt : M 15 (h * 12 + g) < 1000) : ∀ (n : Nat) (d : Int), 0 ≤ d → d + n ≤ M 2 0 → nDoorN N h g n d = xTowN M h g n d
  | 0, d, _, _ => rfl
  | n + 1, d, h0, h1 => by
    simp only [nDoorN, xTowN]
    rw [sSide h6 h7, sDoorN h6 h7 hd h5 hb hh hg hlt n (d + 1) (by omega) (by omega)]
    have q := hd d h0 (by omega)
    have e := xSide_or M d h
    by_cases es : xSide M d h = -1
    · rw [if_neg (fun c => c.1 es), if_neg (fun c => c.1 es)]
    · generalize xSide M d h = r at e es ⊢
      have hr : 0 ≤ r ∧ r < 12 := by omega
      have b1 := h5 r g hr.1 hr.2 hg.1 hg.2
      have b2 := h5 h g hh.1 hh.2 hg.1 hg.2
      have b3 := hb (r * 12 + g) (by omega) (by omega)
      rw [if_pos hlt] at b2
      by_cases c : M 15 (r * 12 + g) < M 15 (h * 12 + g)
      · rw [if_pos (by omega)] at b1
        rw [if_pos ⟨es, by omega, by omega⟩, if_pos ⟨es, c⟩]
      · have nc : ¬ (r ≠ -1 ∧ 0 ≤ N 5 (12 * r + g) ∧ N 5 (12 * r + g) < N 5 (12 * h + g)) := by
          intro ⟨_, k1, k2⟩
          by_cases c2 : M 15 (r * 12 + g) < 1000
          · rw [if_pos c2] at b1; omega
          · rw [if_neg c2] at b1; omega
        rw [if_neg nc, if_neg (fun k => c k.2)]
theorem sDoor {sd : Int64} {M N : zM} (hB : sB sd M N) {h g : Int} (hh : 0 ≤ h ∧ h < 12) (hg : 0 ≤ g ∧ g < 12) (hne : h ≠ g) : nDoor N h g = xTow M h g := by
  obtain ⟨hx, hn, ⟨a1, a2, a3, a4⟩, ⟨b1, b2, b3, b4⟩, c5, c6, c7, c8, c9, c10, c11, c12⟩ := hB
  have hb := hx.2.2.2.2.2.1
  have h2 := hx.2.1
  have e := c6 h g hh.1 hh.2 hg.1 hg.2
  have pos : M 15 (h * 12 + g) < 1000 → 0 < M 15 (h * 12 + g) := by
    intro hlt
    obtain ⟨x, x0, x1, -, hd⟩ := c7.2.2.2 h g hh.1 hh.2 hg.1 hg.2 hne hlt
    have hd : M 15 (h * 12 + x) + 1 = M 15 (h * 12 + g) := hd
    have := hb (h * 12 + x) (by omega) (by omega)
    omega
  unfold nDoor xTow
  by_cases c : M 15 (h * 12 + g) < 1000
  · rw [if_pos c] at e
    have := pos c
    rw [if_pos (by omega), if_pos c, a2]
    exact sDoorN b2 b3 hx.2.2.2.2.1 c6 hb hh hg c _ 0 (by omega) (by omega)
  · rw [if_neg c] at e
    rw [if_neg (by omega), if_neg c]
/-- what a minute changes -/
def sD (M N : zM) (k : Int) : Prop :=
  (N 2 = M 6 ∧ N 3 = M 7 ∧ N 4 = M 8 ∧ N 10 = M 12 ∧ N 11 = M 13 ∧ N 14 = M 25 ∧ N 0 21 = M 0 5 ∧ N 0 22 = M 0 6) ∧
  (∀ d, (-2147483648 ≤ M 12 d ∧ M 12 d ≤ 2147483647) ∧ -2147483648 ≤ M 13 d ∧ M 13 d ≤ 2147483647) ∧
  (∀ r, 0 ≤ r → r < M 1 0 → -(60 * M 0 4 + k) ≤ M 6 r ∧ M 6 r ≤ M 5 r) ∧ (0 ≤ M 0 5 ∧ M 0 5 ≤ 60 * M 0 4 + k) ∧ (0 ≤ M 0 6 ∧ M 0 6 ≤ 60 * M 0 4 + k) ∧ sSum (M 6) (M 1 0).toNat = M 0 5 - M 0 6
def sMid (sd : Int64) (M N : zM) (k : Int) : Prop :=
  sB sd M N ∧ sD M N k ∧ (∀ d, 0 ≤ d → d < M 2 0 → N 9 d = M 14 d) ∧ (∀ p, 0 ≤ p → p < M 4 1 → sPR M N p (if p < k then M 0 4 + 1 else M 0 4)) ∧ (0 ≤ k ∧ k ≤ M 4 1) ∧ M 0 4 < 2000
/-- the past of person k, written -/
theorem nPast_15 {N : zM} {k T q t : Int} (hT : N 0 2 = T) (h0 : 0 ≤ T ∧ T < 2000) (ht : 0 ≤ t ∧ t < 2000) : nPast N k 15 (2000 * q + t) = if q = k ∧ t = T then N 13 k else N 15 (2000 * q + t) := by
  unfold nPast
  rw [hT]
  by_cases e : q = k ∧ t = T
  · obtain ⟨rfl, rfl⟩ := e
    rw [if_pos ⟨rfl, rfl⟩, zU_s]
  · rw [if_neg e, zU_n (by omega)]
/-- the persons, where person k does not move -/
theorem sPRs_stay {sd : Int64} {M M' N N' : zM} {k : Int} (h : sMid sd M N k) (hk : k < M 4 1) (hxO : xOK M') (hM : ∀ c, (c = 1 ∨ c = 15 ∨ c = 16 ∨ c = 17 ∨ c = 18 ∨ c = 20 ∨ c = 21 ∨ c = 22 ∨ c = 23 ∨ c = 24) → M' c = M c) (h4 : M' 0 4 = M 0 4) (h13 : N' 13 = N 13) (h15 : N' 15 = N 15) (h2 : N' 0 2 = N 0 2) :
    ∀ p, 0 ≤ p → p < M 4 1 → sPR M' (nPast N' k) p (if p < k + 1 then M' 0 4 + 1 else M' 0 4) := by
  obtain ⟨hB, hD, hG, hP, hk0, hT⟩ := h
  obtain ⟨hx, hn, ⟨a1, a2, a3, a4⟩, ⟨b1, b2, b3, b4⟩, c5, c6, c7, c8, c9, c10, c11, c12⟩ := hB
  have hT0 := hx.2.2.2.1
  intro p p0 p1
  have h60 := hx.2.2.1
  have hm := hx.2.2.2.2.2.2.1 p p0 (by omega)
  have hpr := hP p p0 p1
  have m : ∀ c, (c = 1 ∨ c = 15 ∨ c = 16 ∨ c = 17 ∨ c = 18 ∨ c = 20 ∨ c = 21 ∨ c = 22 ∨ c = 23 ∨ c = 24) → ∀ x, M' c x = M c x := fun c hc x => by rw [hM c hc]
  rw [h4]
  have g13 : nPast N' k 13 p = N 13 p := by rw [nPast_c (by decide), h13]
  by_cases e : p = k
  · subst e
    rw [if_neg (by omega)] at hpr
    rw [if_pos (by omega)]
    have hs : sPR M (nPast N' p) p (M 0 4 + 1) := hpr.stay hm.1 (c10 p p0 p1).ord (by have := hx.1; omega) (hx.2.2.2.2.2.2.2.2.1 p p0 (by omega)) hx.2.2.2.2.2.1 g13 (fun t t0 t1 => by rw [nPast_15 (T := M 0 4) (by rw [h2, a4]) (by omega) (by omega), if_neg (by omega), h15]) (by rw [nPast_15 (T := M 0 4) (by rw [h2, a4]) (by omega) (by omega), if_pos ⟨rfl, rfl⟩, h13])
    exact hs.keep hm (by omega) (m 16 (by omega) p) (fun i _ _ => m 17 (by omega) _) (fun i _ _ => m 18 (by omega) _) (m 1 (by omega) 0) (hM 15 (by omega)) (m 20 (by omega) p) (m 21 (by omega) p) (m 22 (by omega) p) (m 23 (by omega) p) (m 24 (by omega) p) rfl (fun _ _ _ => rfl)
  · have he : (if p < k + 1 then M 0 4 + 1 else M 0 4) = (if p < k then M 0 4 + 1 else M 0 4) := by
      by_cases c : p < k
      · rw [if_pos c, if_pos (by omega)]
      · rw [if_neg c, if_neg (by omega)]
    rw [he]
    exact hpr.keep hm (by split <;> omega) (m 16 (by omega) p) (fun i _ _ => m 17 (by omega) _) (fun i _ _ => m 18 (by omega) _) (m 1 (by omega) 0) (hM 15 (by omega)) (m 20 (by omega) p) (m 21 (by omega) p) (m 22 (by omega) p) (m 23 (by omega) p) (m 24 (by omega) p) g13 (fun t t0 t1 => by rw [nPast_15 (T := M 0 4) (by rw [h2, a4]) (by omega) (by omega), if_neg (by omega), h15])
/-- the persons, where person k moves to r -/
theorem sPRs_move {sd : Int64} {M M' N N' : zM} {k r : Int} (h : sMid sd M N k) (hk : k < M 4 1) (hM : ∀ c, (c = 1 ∨ c = 15 ∨ c = 20 ∨ c = 21 ∨ c = 22 ∨ c = 23 ∨ c = 24) → M' c = M c) (h4 : M' 0 4 = M 0 4) (hta : sTA M M' k (M 0 4) r) (hm46 : M 16 k < 46) (h13 : N' 13 = fU (N 13) k r) (h15 : N' 15 = N 15) (h2 : N' 0 2 = N 0 2)
    (hphi : (r = -1 ∧ M 24 k ≤ M 0 4) ∨ (0 ≤ r ∧ r < M 1 0 ∧ M 16 k + 1 + sDd M r (sGo M k (sPh M k (M 0 4))) ≤ 1 + 11 * sPh M k (M 0 4))) :
    ∀ p, 0 ≤ p → p < M 4 1 → sPR M' (nPast N' k) p (if p < k + 1 then M' 0 4 + 1 else M' 0 4) := by
  obtain ⟨hB, hD, hG, hP, hk0, hT⟩ := h
  obtain ⟨hx, hn, ⟨a1, a2, a3, a4⟩, ⟨b1, b2, b3, b4⟩, c5, c6, c7, c8, c9, c10, c11, c12⟩ := hB
  have hT0 := hx.2.2.2.1
  intro p p0 p1
  have h60 := hx.2.2.1
  have hm := hx.2.2.2.2.2.2.1 p p0 (by omega)
  have hpr := hP p p0 p1
  have m : ∀ c, (c = 1 ∨ c = 15 ∨ c = 20 ∨ c = 21 ∨ c = 22 ∨ c = 23 ∨ c = 24) → ∀ x, M' c x = M c x := fun c hc x => by rw [hM c hc]
  rw [h4]
  by_cases e : p = k
  · subst e
    rw [if_neg (by omega)] at hpr
    rw [if_pos (by omega)]
    have hnow := hta.now hm.1
    refine hpr.move ⟨hm.1, hm46⟩ (by omega) hta (by rw [nPast_c (by decide), h13, fU_s]) (fun t t0 t1 => by rw [nPast_15 (T := M 0 4) (by rw [h2, a4]) (by omega) (by omega), if_neg (by omega), h15]) (by rw [nPast_15 (T := M 0 4) (by rw [h2, a4]) (by omega) (by omega), if_pos ⟨rfl, rfl⟩, h13, fU_s]) ?_
    unfold sPhi
    rw [hnow, hta.1, m 24 (by omega), m 1 (by omega)]
    have e1 : sPh M' p (M 0 4) = sPh M p (M 0 4) := by
      unfold sPh
      rw [m 24 (by omega), m 22 (by omega), m 21 (by omega)]
    rw [e1]
    generalize sPh M p (M 0 4) = ph at hphi ⊢
    have e2 : sDd M' r (sGo M' p ph) = sDd M r (sGo M p ph) := by
      unfold sDd sGo
      rw [hM 15 (by omega), m 23 (by omega), m 20 (by omega)]
    rw [e2]
    exact Or.inr hphi
  · have he : (if p < k + 1 then M 0 4 + 1 else M 0 4) = (if p < k then M 0 4 + 1 else M 0 4) := by
      by_cases c : p < k
      · rw [if_pos c, if_pos (by omega)]
      · rw [if_neg c, if_neg (by omega)]
    rw [he]
    obtain ⟨e1, e2, e3, e4, e5, e6⟩ := hta
    have hmk := hx.2.2.2.2.2.2.1 k hk0.1 (by omega)
    exact hpr.keep hm (by split <;> omega) (e2 p e) (fun i _ _ => e4 _ (by omega)) (fun i _ _ => e6 _ (by omega)) (m 1 (by omega) 0) (hM 15 (by omega)) (m 20 (by omega) p) (m 21 (by omega) p) (m 22 (by omega) p) (m 23 (by omega) p) (m 24 (by omega) p) (by rw [nPast_c (by decide), h13, fU_n e]) (fun t t0 t1 => by rw [nPast_15 (T := M 0 4) (by rw [h2, a4]) (by omega) (by omega), if_neg (by omega), h15])

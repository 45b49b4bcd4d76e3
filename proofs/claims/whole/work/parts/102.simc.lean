/-! Class and reference side by side: a person's step, all persons -/
theorem nMove_in {N : zM} {p r : Int} (h : N 13 p = -1) (hr : r ≠ -1) : nMove N p r 2 = fU (N 2) r (bm (N 2 r + 1)) := by
  unfold nMove nOn nOff
  rw [zU_k (by decide), if_neg hr, if_pos h, zU_f]
theorem nMove_out {N : zM} {p : Int} (h : N 13 p ≠ -1) : nMove N p (-1) 2 = fU (N 2) (N 13 p) (bm (N 2 (N 13 p) - 1)) := by
  unfold nMove nOn nOff
  rw [zU_k (by decide), if_pos rfl, if_neg h, zU_f]
theorem nMove_thr {N : zM} {p r : Int} (h : N 13 p ≠ -1) (hr : r ≠ -1) : nMove N p r 2 = fU (fU (N 2) (N 13 p) (bm (N 2 (N 13 p) - 1))) r (bm (fU (N 2) (N 13 p) (bm (N 2 (N 13 p) - 1)) r + 1)) := by
  unfold nMove nOn nOff
  rw [zU_k (by decide), if_neg hr, if_neg h, zU_f, zU_f]
theorem nMove_p {N : zM} {p r : Int} : nMove N p r 13 = fU (N 13) p r := by
  unfold nMove
  rw [zU_f, nOn_c (by decide), nOff_c (by decide)]
theorem nPast_ok {N : zM} (h : nOK N) (k : Int) : nOK (nPast N k) :=
  h.of (fun j _ _ _ => by rw [nPast_c (by decide)]) (nPast_c (by decide)) (nPast_c (by decide)) (nPast_c (by decide)) (nPast_c (by decide)) (by rw [nPast_c (by decide)]; exact h.2.2.2.2.2.2.2.1)
theorem sMid.next {sd : Int64} {M M' N N' : zM} {k : Int} (h : sMid sd M N k) (hk : k < M 4 1) (hxO : xOK M') (hnO : nOK N') (h04 : M' 0 4 = M 0 4) (g02 : N' 0 2 = N 0 2)
    (hM : ∀ c, (c = 1 ∨ c = 2 ∨ c = 4 ∨ c = 5 ∨ c = 9 ∨ c = 10 ∨ c = 11 ∨ c = 15 ∨ c = 19 ∨ c = 20 ∨ c = 21 ∨ c = 22 ∨ c = 23 ∨ c = 24) → M' c = M c) (hN : ∀ c, (c = 1 ∨ c = 5 ∨ c = 6 ∨ c = 7 ∨ c = 8 ∨ c = 12) → N' c = N c) (hN0 : ∀ j, (j = 3 ∨ j = 9 ∨ j = 16) → N' 0 j = N 0 j)
    (hD : sD M' N' (k + 1)) (hG : ∀ d, 0 ≤ d → d < M 2 0 → N' 9 d = M' 14 d) (hP : ∀ p, 0 ≤ p → p < M 4 1 → sPR M' (nPast N' k) p (if p < k + 1 then M' 0 4 + 1 else M' 0 4)) : sMid sd M' (nPast N' k) (k + 1) := by
  obtain ⟨hB, -, -, -, hk0, hT⟩ := h
  have m2 := hM 2 (by omega)
  have m4 := hM 4 (by omega)
  have q : ∀ c, c ≠ 15 → nPast N' k c = N' c := fun c hc => nPast_c hc
  refine ⟨hB.of hxO (nPast_ok hnO k) ?_ hM (fun c hc => by rw [q c (by omega)]; exact hN c hc) (fun j hj => by rw [q 0 (by decide)]; exact hN0 j hj), ?_, ?_, ?_, by rw [m4]; omega, by rw [h04]; exact hT⟩
  · rw [q 0 (by decide), g02, h04]
    exact hB.2.2.1.2.2.2
  · unfold sD at hD ⊢
    rw [q 2 (by decide), q 3 (by decide), q 4 (by decide), q 10 (by decide), q 11 (by decide), q 14 (by decide), q 0 (by decide)]
    exact hD
  · rw [m2, q 9 (by decide)]; exact hG
  · rw [m4]; exact hP
theorem sD.up {M N : zM} {k : Int} (h : sD M N k) : sD M N (k + 1) := by
  obtain ⟨a, b, c, d, e, f⟩ := h
  exact ⟨a, b, fun r r0 r1 => by have := c r r0 r1; omega, by omega, by omega, f⟩
/-- nothing happens to person k -/
theorem sMid.idle {sd : Int64} {M N : zM} {k : Int} (h : sMid sd M N k) (hk : k < M 4 1) : sMid sd M (nPast N k) (k + 1) :=
  h.next hk h.1.1 h.1.2.1 rfl rfl (fun _ _ => rfl) (fun _ _ => rfl) (fun _ _ => rfl) h.2.1.up h.2.2.1 (sPRs_stay h hk h.1.1 (fun _ _ => rfl) rfl rfl rfl rfl)
/-- person k waits -/
theorem sMid.wait {sd : Int64} {M N : zM} {k : Int} (h : sMid sd M N k) (hk : k < M 4 1) (hxO : xOK (zU M 25 k (bm (M 25 k + 1)))) (hnO : nOK (nWait N k)) : sMid sd (zU M 25 k (bm (M 25 k + 1))) (nPast (nWait N k) k) (k + 1) := by
  have m : ∀ c, c ≠ 25 → zU M 25 k (bm (M 25 k + 1)) c = M c := fun c hc => zU_k hc
  have n : ∀ c, c ≠ 14 → nWait N k c = N c := fun c hc => zU_k hc
  refine h.next hk hxO hnO (by rw [m 0 (by decide)]) (by rw [n 0 (by decide)]) (fun c hc => m c (by omega)) (fun c hc => n c (by omega)) (fun j _ => by rw [n 0 (by decide)]) ?_ ?_ (sPRs_stay h hk hxO (fun c hc => m c (by omega)) (by rw [m 0 (by decide)]) (n 13 (by decide)) (n 15 (by decide)) (by rw [n 0 (by decide)]))
  · have hD := h.2.1.up
    unfold sD at hD ⊢
    rw [m 6 (by decide), m 7 (by decide), m 8 (by decide), m 12 (by decide), m 13 (by decide), m 0 (by decide), m 1 (by decide), m 5 (by decide), n 2 (by decide), n 3 (by decide), n 4 (by decide), n 10 (by decide), n 11 (by decide), n 0 (by decide)]
    have e : nWait N k 14 = zU M 25 k (bm (M 25 k + 1)) 25 := by
      unfold nWait
      rw [zU_f, zU_f, hD.1.2.2.2.2.2.1]
    exact ⟨⟨hD.1.1, hD.1.2.1, hD.1.2.2.1, hD.1.2.2.2.1, hD.1.2.2.2.2.1, e, hD.1.2.2.2.2.2.2⟩, hD.2⟩
  · rw [n 9 (by decide), m 14 (by decide)]; exact h.2.2.1
theorem xNow_0 {M : zM} {p : Int} (h : M 16 p = 0) : xNow M p = -1 := by
  unfold xNow
  rw [if_pos h]
/-- where person k stands at minute T = M 0 4, before its step -/
theorem sMid.phi {sd : Int64} {M N : zM} {k : Int} (h : sMid sd M N k) (hk : k < M 4 1) : sPhi M k (M 0 4) := by
  obtain ⟨hB, hD, hG, hP, hk0, hT⟩ := h
  obtain ⟨hx, hn, ⟨a1, a2, a3, a4⟩, ⟨b1, b2, b3, b4⟩, c5, c6, c7, c8, c9, c10, c11, c12⟩ := hB
  have h60 := hx.2.2.1
  have q := hP k hk0.1 hk
  rw [if_neg (by omega)] at q
  exact q.2.2.2.2.w (c10 k hk0.1 hk).ord (by omega) (by have := hx.1; omega) (hx.2.2.2.2.2.2.2.2.1 k hk0.1 (by omega)) hx.2.2.2.2.2.1
/-- person k comes in -/
theorem sMid.enter {sd : Int64} {M N : zM} {k : Int} (h : sMid sd M N k) (hk : k < M 4 1) (hne : xNow M k = -1) (hw : xWants M k (M 0 4) ≠ -1) (hs : M 6 0 < M 5 0) (hxO : xOK (xTrailAdd (zU (zU M 6 0 (bm (M 6 0 + 1))) 0 5 (bm (M 0 5 + 1))) k (M 0 4) 0)) (hnO : nOK (zU (nMove N k 0) 0 21 (bm (nMove N k 0 0 21 + 1)))) :
    sMid sd (xTrailAdd (zU (zU M 6 0 (bm (M 6 0 + 1))) 0 5 (bm (M 0 5 + 1))) k (M 0 4) 0) (nPast (zU (nMove N k 0) 0 21 (bm (nMove N k 0 0 21 + 1))) k) (k + 1) := by
  have hphi := h.phi hk
  obtain ⟨hB, hD, hG, hP, hk0, hT⟩ := id h
  obtain ⟨hx, hn, ⟨a1, a2, a3, a4⟩, ⟨b1, b2, b3, b4⟩, c5, c6, c7, c8, c9, c10, c11, c12⟩ := hB
  obtain ⟨⟨d1, d2, d3, d4, d5, d6, d7, d8⟩, e2, e3, e4, e5, e6⟩ := hD
  have h60 := hx.2.2.1
  have hT0 := hx.2.2.2.1
  have hr0 := c12 (by omega)
  have hpr := hP k hk0.1 hk
  rw [if_neg (by omega)] at hpr
  have ord := (c10 k hk0.1 hk).ord
  have hw4 : sPh M k (M 0 4) ≠ 4 := fun q => hw (by rw [sWant ord, if_pos q])
  have hm0 : M 16 k = 0 := by
    rcases hphi with q | ⟨q, q1⟩ | ⟨q, -⟩
    · exact q
    · exact absurd (sPh_4.mpr q1) hw4
    · omega
  have r6 := e3 0 (by omega) hr0
  have r5 := c11 0 (by omega) hr0
  have bm6 : bm (M 6 0 + 1) = M 6 0 + 1 := bm_of (by omega)
  have bm05 : bm (M 0 5 + 1) = M 0 5 + 1 := bm_of (by omega)
  have n13 : N 13 k = -1 := by rw [hpr.1, hne]
  rw [bm6, bm05] at hxO ⊢
  generalize hM' : xTrailAdd (zU (zU M 6 0 (M 6 0 + 1)) 0 5 (M 0 5 + 1)) k (M 0 4) 0 = M' at hxO ⊢
  generalize hN' : zU (nMove N k 0) 0 21 (bm (nMove N k 0 0 21 + 1)) = N' at hnO ⊢
  have m : ∀ c, c ≠ 0 → c ≠ 6 → c ≠ 16 → c ≠ 17 → c ≠ 18 → M' c = M c := fun c q0 q6 q16 q17 q18 => by rw [← hM', xTrailAdd_c q16 q17 q18, zU_k q0, zU_k q6]
  have m6 : M' 6 = fU (M 6) 0 (M 6 0 + 1) := by rw [← hM', xTrailAdd_c (by decide) (by decide) (by decide), zU_k (by decide), zU_f]
  have m0 : M' 0 = fU (M 0) 5 (M 0 5 + 1) := by rw [← hM', xTrailAdd_c (by decide) (by decide) (by decide), zU_f, zU_k (by decide)]
  have n : ∀ c, c ≠ 0 → c ≠ 2 → c ≠ 13 → N' c = N c := fun c q0 q2 q13 => by rw [← hN', zU_k q0, nMove_c q2 q13]
  have n0 : N' 0 = fU (N 0) 21 (bm (N 0 21 + 1)) := by rw [← hN', zU_f, nMove_c (by decide) (by decide)]
  have n2 : N' 2 = fU (N 2) 0 (bm (N 2 0 + 1)) := by rw [← hN', zU_k (by decide), nMove_in n13 (by decide)]
  have np : N' 13 = fU (N 13) k 0 := by rw [← hN', zU_k (by decide), nMove_p]
  have m04 : M' 0 4 = M 0 4 := by rw [m0, fU_n (by decide)]
  have m05 : M' 0 5 = M 0 5 + 1 := by rw [m0, fU_s]
  have m06 : M' 0 6 = M 0 6 := by rw [m0, fU_n (by decide)]
  have hta : sTA M M' k (M 0 4) 0 := by
    rw [← hM']
    exact sTA.of (by rw [zU_k (by decide), zU_k (by decide)]) (by rw [zU_k (by decide), zU_k (by decide)]) (by rw [zU_k (by decide), zU_k (by decide)]) (by omega)
  refine h.next hk hxO hnO m04 (by rw [n0, fU_n (by decide)]) (fun c hc => m c (by omega) (by omega) (by omega) (by omega) (by omega)) (fun c hc => n c (by omega) (by omega) (by omega)) (fun j hj => by rw [n0, fU_n (by omega)]) ?_ ?_ ?_
  · refine ⟨⟨?_, ?_, ?_, ?_, ?_, ?_, ?_, ?_⟩, ?_, ?_, ?_, ?_, ?_⟩
    · rw [n2, m6, d1, bm6]
    · rw [n 3 (by decide) (by decide) (by decide), m 7 (by decide) (by decide) (by decide) (by decide) (by decide)]; exact d2
    · rw [n 4 (by decide) (by decide) (by decide), m 8 (by decide) (by decide) (by decide) (by decide) (by decide)]; exact d3
    · rw [n 10 (by decide) (by decide) (by decide), m 12 (by decide) (by decide) (by decide) (by decide) (by decide)]; exact d4
    · rw [n 11 (by decide) (by decide) (by decide), m 13 (by decide) (by decide) (by decide) (by decide) (by decide)]; exact d5
    · rw [n 14 (by decide) (by decide) (by decide), m 25 (by decide) (by decide) (by decide) (by decide) (by decide)]; exact d6
    · rw [n0, fU_s, m05, d7, bm05]
    · rw [n0, fU_n (by decide), m06]; exact d8
    · rw [m 12 (by decide) (by decide) (by decide) (by decide) (by decide), m 13 (by decide) (by decide) (by decide) (by decide) (by decide)]; exact e2
    · rw [m 1 (by decide) (by decide) (by decide) (by decide) (by decide), m 5 (by decide) (by decide) (by decide) (by decide) (by decide), m04, m6]
      intro r q0 q1
      have := e3 r q0 q1
      by_cases e : r = 0
      · rw [e, fU_s]; rw [e] at this; omega
      · rw [fU_n e]; omega
    · rw [m05, m04]; omega
    · rw [m06, m04]; omega
    · rw [m 1 (by decide) (by decide) (by decide) (by decide) (by decide), m05, m06, m6, sSum_U (by omega) _ (by omega), e6]; omega
  · rw [n 9 (by decide) (by decide) (by decide), m 14 (by decide) (by decide) (by decide) (by decide) (by decide)]; exact hG
  · refine sPRs_move (r := 0) h hk (fun c hc => m c (by omega) (by omega) (by omega) (by omega) (by omega)) m04 hta (by omega) np (n 15 (by decide) (by decide) (by decide)) (by rw [n0, fU_n (by decide)]) (Or.inr ⟨by omega, hr0, ?_⟩)
    have := sPh_or M k (M 0 4)
    have : sDd M 0 (sGo M k (sPh M k (M 0 4))) ≤ 11 := by unfold sDd; omega
    omega
/-- person k goes out -/
theorem sMid.out {sd : Int64} {M N : zM} {k : Int} (h : sMid sd M N k) (hk : k < M 4 1) (hne : xNow M k = 0) (hw : xWants M k (M 0 4) = -1) (hxO : xOK (xOut M k)) (hnO : nOK (zU (nMove N k (-1)) 0 22 (bm (nMove N k (-1) 0 22 + 1)))) :
    sMid sd (xOut M k) (nPast (zU (nMove N k (-1)) 0 22 (bm (nMove N k (-1) 0 22 + 1))) k) (k + 1) := by
  have hphi := h.phi hk
  obtain ⟨hB, hD, hG, hP, hk0, hT⟩ := id h
  obtain ⟨hx, hn, ⟨a1, a2, a3, a4⟩, ⟨b1, b2, b3, b4⟩, c5, c6, c7, c8, c9, c10, c11, c12⟩ := hB
  obtain ⟨⟨d1, d2, d3, d4, d5, d6, d7, d8⟩, e2, e3, e4, e5, e6⟩ := hD
  have h60 := hx.2.2.1
  have hT0 := hx.2.2.2.1
  have hr0 := c12 (by omega)
  have hpr := hP k hk0.1 hk
  rw [if_neg (by omega)] at hpr
  have ord := (c10 k hk0.1 hk).ord
  have hgr := hx.2.2.2.2.2.2.2.2.1 k hk0.1 (by omega)
  have hw4 : sPh M k (M 0 4) = 4 := by
    have e := sWant (t := M 0 4) ord
    rw [hw] at e
    by_cases q : sPh M k (M 0 4) = 4
    · exact q
    · rw [if_neg q] at e
      have := sGo_rg (ph := sPh M k (M 0 4)) hgr
      omega
  have h24 := sPh_4.mp hw4
  have hm46 : M 16 k < 46 := by
    rcases hphi with q | ⟨q, q1⟩ | ⟨q, q1, q2⟩
    · omega
    · omega
    · rw [hw4, hne] at q2
      have := hx.2.2.2.2.2.1 (0 * 12 + sGo M k 4) (by have := sGo_rg (ph := 4) hgr; omega) (by have := sGo_rg (ph := 4) hgr; omega)
      have : 0 ≤ sDd M 0 (sGo M k 4) := by unfold sDd; omega
      omega
  have r6 := e3 0 (by omega) hr0
  have r5 := c11 0 (by omega) hr0
  have bm6 : bm (M 6 0 - 1) = M 6 0 - 1 := bm_of (by omega)
  have bm06 : bm (M 0 6 + 1) = M 0 6 + 1 := bm_of (by omega)
  have n13 : N 13 k = 0 := by rw [hpr.1, hne]
  unfold xOut at hxO ⊢
  rw [bm6, bm06] at hxO ⊢
  generalize hM' : xTrailAdd (zU (zU M 6 0 (M 6 0 - 1)) 0 6 (M 0 6 + 1)) k (M 0 4) (-1) = M' at hxO ⊢
  generalize hN' : zU (nMove N k (-1)) 0 22 (bm (nMove N k (-1) 0 22 + 1)) = N' at hnO ⊢
  have m : ∀ c, c ≠ 0 → c ≠ 6 → c ≠ 16 → c ≠ 17 → c ≠ 18 → M' c = M c := fun c q0 q6 q16 q17 q18 => by rw [← hM', xTrailAdd_c q16 q17 q18, zU_k q0, zU_k q6]
  have m6 : M' 6 = fU (M 6) 0 (M 6 0 - 1) := by rw [← hM', xTrailAdd_c (by decide) (by decide) (by decide), zU_k (by decide), zU_f]
  have m0 : M' 0 = fU (M 0) 6 (M 0 6 + 1) := by rw [← hM', xTrailAdd_c (by decide) (by decide) (by decide), zU_f, zU_k (by decide)]
  have n : ∀ c, c ≠ 0 → c ≠ 2 → c ≠ 13 → N' c = N c := fun c q0 q2 q13 => by rw [← hN', zU_k q0, nMove_c q2 q13]
  have n0 : N' 0 = fU (N 0) 22 (bm (N 0 22 + 1)) := by rw [← hN', zU_f, nMove_c (by decide) (by decide)]
  have n2 : N' 2 = fU (N 2) 0 (bm (N 2 0 - 1)) := by rw [← hN', zU_k (by decide), nMove_out (by omega), n13]
  have np : N' 13 = fU (N 13) k (-1) := by rw [← hN', zU_k (by decide), nMove_p]
  have m04 : M' 0 4 = M 0 4 := by rw [m0, fU_n (by decide)]
  have m05 : M' 0 5 = M 0 5 := by rw [m0, fU_n (by decide)]
  have m06 : M' 0 6 = M 0 6 + 1 := by rw [m0, fU_s]
  have hta : sTA M M' k (M 0 4) (-1) := by
    rw [← hM']
    exact sTA.of (by rw [zU_k (by decide), zU_k (by decide)]) (by rw [zU_k (by decide), zU_k (by decide)]) (by rw [zU_k (by decide), zU_k (by decide)]) hm46
  refine h.next hk hxO hnO m04 (by rw [n0, fU_n (by decide)]) (fun c hc => m c (by omega) (by omega) (by omega) (by omega) (by omega)) (fun c hc => n c (by omega) (by omega) (by omega)) (fun j hj => by rw [n0, fU_n (by omega)]) ?_ ?_ ?_
  · refine ⟨⟨?_, ?_, ?_, ?_, ?_, ?_, ?_, ?_⟩, ?_, ?_, ?_, ?_, ?_⟩
    · rw [n2, m6, d1, bm6]
    · rw [n 3 (by decide) (by decide) (by decide), m 7 (by decide) (by decide) (by decide) (by decide) (by decide)]; exact d2
    · rw [n 4 (by decide) (by decide) (by decide), m 8 (by decide) (by decide) (by decide) (by decide) (by decide)]; exact d3
    · rw [n 10 (by decide) (by decide) (by decide), m 12 (by decide) (by decide) (by decide) (by decide) (by decide)]; exact d4
    · rw [n 11 (by decide) (by decide) (by decide), m 13 (by decide) (by decide) (by decide) (by decide) (by decide)]; exact d5
    · rw [n 14 (by decide) (by decide) (by decide), m 25 (by decide) (by decide) (by decide) (by decide) (by decide)]; exact d6
    · rw [n0, fU_n (by decide), m05]; exact d7
    · rw [n0, fU_s, m06, d8, bm06]
    · rw [m 12 (by decide) (by decide) (by decide) (by decide) (by decide), m 13 (by decide) (by decide) (by decide) (by decide) (by decide)]; exact e2
    · rw [m 1 (by decide) (by decide) (by decide) (by decide) (by decide), m 5 (by decide) (by decide) (by decide) (by decide) (by decide), m04, m6]
      intro r q0 q1
      have := e3 r q0 q1
      by_cases e : r = 0
      · rw [e, fU_s]; rw [e] at this; omega
      · rw [fU_n e]; omega
    · rw [m05, m04]; omega
    · rw [m06, m04]; omega
    · rw [m 1 (by decide) (by decide) (by decide) (by decide) (by decide), m05, m06, m6, sSum_U (by omega) _ (by omega), e6]; omega
  · rw [n 9 (by decide) (by decide) (by decide), m 14 (by decide) (by decide) (by decide) (by decide) (by decide)]; exact hG
  · exact sPRs_move (r := -1) h hk (fun c hc => m c (by omega) (by omega) (by omega) (by omega) (by omega)) m04 hta hm46 np (n 15 (by decide) (by decide) (by decide)) (by rw [n0, fU_n (by decide)]) (Or.inl ⟨rfl, h24⟩)

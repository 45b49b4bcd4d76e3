/-! Class and reference side by side: through doors; the step; all persons; the minute's end; run -/
theorem sMid.door {sd : Int64} {M N : zM} {k h g : Int} (hs : sMid sd M N k) (hk : k < M 4 1) (hh : xNow M k = h) (h0 : h ≠ -1) (hg : g = sGo M k (sPh M k (M 0 4))) (hne : h ≠ g) (hxO : xOK (xTryDoor M k h g)) (hnO : nOK (nThr N k g)) :
    sMid sd (xTryDoor M k h g) (nPast (nThr N k g) k) (k + 1) := by
  have hphi := hs.phi hk
  obtain ⟨hB, hD, hG, hP, hk0, hT⟩ := id hs
  have hBB := hB
  obtain ⟨hx, hn, ⟨a1, a2, a3, a4⟩, ⟨b1, b2, b3, b4⟩, c5, c6, c7, c8, c9, c10, c11, c12⟩ := hB
  obtain ⟨⟨d1, d2, d3, d4, d5, d6, d7, d8⟩, e2, e3, e4, e5, e6⟩ := hD
  have h60 := hx.2.2.1
  have hR := hx.1
  have hT0 := hx.2.2.2.1
  have hpr := hP k hk0.1 hk
  rw [if_neg (by omega)] at hpr
  have ord := (c10 k hk0.1 hk).ord
  have hgr := hx.2.2.2.2.2.2.2.2.1 k hk0.1 (by omega)
  have hg12 : 0 ≤ g ∧ g < 12 := by rw [hg]; exact sGo_rg hgr
  have hnow := xNow_ok hx hk0.1 (show k < 60 by omega)
  have n13 : N 13 k = h := by rw [hpr.1, hh]
  have hin : 0 ≤ h ∧ h < M 1 0 ∧ M 16 k + sDd M h g ≤ 1 + 11 * sPh M k (M 0 4) := by
    rcases hphi with q | ⟨q, q1⟩ | ⟨q, q1, q2⟩
    · have := xNow_0 q; omega
    · omega
    · rw [hh] at q q1 q2; rw [hg]; exact ⟨q, q1, q2⟩
  have hdoor : nDoor N h g = xTow M h g := sDoor hBB (by omega) hg12 hne
  have tr := xTow_rg M h g hx.2.1.1
  unfold nThr at hnO ⊢
  unfold xTryDoor at hxO ⊢
  rw [n13, hdoor] at hnO ⊢
  by_cases ht : xTow M h g = -1
  · have hnx : xNext M h g = -1 := by unfold xNext; rw [if_pos ht]
    rw [if_pos hnx] at hxO ⊢
    rw [if_pos ht] at hnO ⊢
    exact hs.idle hk
  · have hlt : M 15 (h * 12 + g) < 1000 := by
      by_cases c : M 15 (h * 12 + g) < 1000
      · exact c
      · exact absurd (by unfold xTow; rw [if_neg c]) ht
    have hT1 : xTow M h g = xTowN M h g (M 2 0).toNat 0 := by unfold xTow; rw [if_pos hlt]
    have hsd := xTowN_is M h g (M 2 0).toNat 0
    rw [← hT1] at hsd
    have hsd := hsd.resolve_left ht
    have hnx : xNext M h g = xSide M (xTow M h g) h := by unfold xNext; rw [if_neg ht]
    rw [hnx, if_neg hsd.1] at hxO ⊢
    rw [if_neg ht] at hnO ⊢
    have hside : xSide M (xTow M h g) h = if N 6 (xTow M h g) = h then N 7 (xTow M h g) else N 6 (xTow M h g) := by
      have q := hsd.1
      unfold xSide at q ⊢
      rw [b2, b3]
      by_cases c : M 9 (xTow M h g) = h
      · rw [if_pos c, if_pos c]
      · rw [if_neg c] at q ⊢
        rw [if_neg c]
        by_cases c2 : M 10 (xTow M h g) = h
        · rw [if_pos c2]
        · rw [if_neg c2] at q; exact absurd rfl q
    rw [← hside] at hnO ⊢
    have hd12 := hx.2.2.2.2.1 (xTow M h g) (by omega) (by omega)
    have hdR := c8 (xTow M h g) (by omega) (by omega)
    have hr : 0 ≤ xSide M (xTow M h g) h ∧ xSide M (xTow M h g) h < M 1 0 := by
      have := xSide_or M (xTow M h g) h
      have := hsd.1
      omega
    have hsd2 := hsd.2
    have hrn1 : xSide M (xTow M h g) h ≠ -1 := hsd.1
    clear hsd hnx hT1 hdoor
    generalize xSide M (xTow M h g) h = r at hxO hnO hr hsd2 hside hrn1 ⊢
    generalize xTow M h g = d at hxO hnO tr ht hside hd12 hdR ⊢
    have hdd : 0 ≤ d ∧ d < M 2 0 := by omega
    by_cases c : M 6 r < M 5 r ∧ M 14 d < M 11 d
    · have hg9 := hG d hdd.1 hdd.2
      rw [if_pos c] at hxO ⊢
      rw [if_pos (by rw [b4, d1, b1, hg9]; exact ⟨c.2, c.1⟩)] at hnO ⊢
      -- the metric
      have dh := gM_11 c7 (i := h) (j := g) (by omega) (by omega) hg12.1 hg12.2 hlt
      have dh : M 15 (h * 12 + g) ≤ 11 := dh
      have dr := hx.2.2.2.2.2.1 (r * 12 + g) (by omega) (by omega)
      have q1 : sDd M h g = M 15 (h * 12 + g) := by unfold sDd; omega
      have q2 : sDd M r g = M 15 (r * 12 + g) := by unfold sDd; omega
      have hph := sPh_or M k (M 0 4)
      have hm46 : M 16 k < 46 := by omega
      have r6h := e3 h hin.1 hin.2.1
      have r5h := c11 h hin.1 hin.2.1
      have r6r := e3 r hr.1 hr.2
      have r5r := c11 r hr.1 hr.2
      have hhr : h ≠ r := by
        intro e
        rw [e] at hsd2
        omega
      have bmh : bm (M 6 h - 1) = M 6 h - 1 := bm_of (by omega)
      have bmr : bm (M 6 r + 1) = M 6 r + 1 := bm_of (by omega)
      have xp6 : xPass M d h 6 = M 6 := xPass_c (by decide) (by decide) (by decide)
      have xp0 : xPass M d h 0 = M 0 := xPass_c (by decide) (by decide) (by decide)
      unfold xDoorTo at hxO ⊢
      rw [xp6, xp0, bmh, zU_n (Ne.symm hhr), xp6, bmr] at hxO ⊢
      generalize hM' : xTrailAdd (zU (zU (xPass M d h) 6 h (M 6 h - 1)) 6 r (M 6 r + 1)) k (M 0 4) r = M' at hxO ⊢
      generalize hN' : nGone (nMove N k r) d (if N 6 d = h then 1 else 0) (if N 6 d = h then 0 else 1) = N' at hnO ⊢
      have m : ∀ c, c ≠ 6 → c ≠ 16 → c ≠ 17 → c ≠ 18 → c ≠ 12 → c ≠ 13 → c ≠ 14 → M' c = M c := fun c q6 q16 q17 q18 q12 q13 q14 => by rw [← hM', xTrailAdd_c q16 q17 q18, zU_k q6, zU_k q6, xPass_c q12 q13 q14]
      have mp : ∀ c, c ≠ 6 → c ≠ 16 → c ≠ 17 → c ≠ 18 → M' c = xPass M d h c := fun c q6 q16 q17 q18 => by rw [← hM', xTrailAdd_c q16 q17 q18, zU_k q6, zU_k q6]
      have m6 : M' 6 = fU (fU (M 6) h (M 6 h - 1)) r (M 6 r + 1) := by rw [← hM', xTrailAdd_c (by decide) (by decide) (by decide), zU_f, zU_f, xp6]
      have m0 : M' 0 = M 0 := m 0 (by decide) (by decide) (by decide) (by decide) (by decide) (by decide) (by decide)
      have m1 : M' 1 = M 1 := m 1 (by decide) (by decide) (by decide) (by decide) (by decide) (by decide) (by decide)
      have m5 : M' 5 = M 5 := m 5 (by decide) (by decide) (by decide) (by decide) (by decide) (by decide) (by decide)
      have n : ∀ c, c ≠ 2 → c ≠ 13 → c ≠ 9 → c ≠ 10 → c ≠ 11 → N' c = N c := fun c q2 q13 q9 q10 q11 => by rw [← hN', nGone_c q9 q10 q11, nMove_c q2 q13]
      have n0 : N' 0 = N 0 := n 0 (by decide) (by decide) (by decide) (by decide) (by decide)
      have n2 : N' 2 = fU (fU (N 2) h (bm (N 2 h - 1))) r (bm (fU (N 2) h (bm (N 2 h - 1)) r + 1)) := by rw [← hN', nGone_c (by decide) (by decide) (by decide), nMove_thr (by omega) hrn1, n13]
      have np : N' 13 = fU (N 13) k r := by rw [← hN', nGone_c (by decide) (by decide) (by decide), nMove_p]
      have n9 : N' 9 = fU (N 9) d (bm (N 9 d + 1)) := by
        rw [← hN']; unfold nGone
        rw [zU_k (by decide), zU_k (by decide), zU_f, nMove_c (by decide) (by decide)]
      have n10 : N' 10 = fU (N 10) d (bm (N 10 d + (if N 6 d = h then 1 else 0))) := by
        rw [← hN']; unfold nGone
        rw [zU_k (by decide), zU_f, zU_k (by decide), nMove_c (by decide) (by decide)]
      have n11 : N' 11 = fU (N 11) d (bm (N 11 d + (if N 6 d = h then 0 else 1))) := by
        rw [← hN']; unfold nGone
        rw [zU_f, zU_k (by decide), zU_k (by decide), nMove_c (by decide) (by decide)]
      have m14 : M' 14 = fU (M 14) d (bm (M 14 d + 1)) := by
        rw [mp 14 (by decide) (by decide) (by decide) (by decide)]; unfold xPass
        split
        · rw [zU_k (by decide), zU_f]
        · rw [zU_k (by decide), zU_f]
      have m1213 : M' 12 = N' 10 ∧ M' 13 = N' 11 := by
        rw [mp 12 (by decide) (by decide) (by decide) (by decide), mp 13 (by decide) (by decide) (by decide) (by decide), n10, n11, b2]
        unfold xPass
        have q := e2 d
        by_cases cc : M 9 d = h
        · rw [if_pos cc, if_pos cc, if_pos cc]
          refine ⟨?_, ?_⟩
          · rw [zU_f, zU_k (by decide), d4]
          · rw [zU_k (by decide), zU_k (by decide), d5, Int.add_zero, bm_of q.2, fU_id]
        · rw [if_neg cc, if_neg cc, if_neg cc]
          refine ⟨?_, ?_⟩
          · rw [zU_k (by decide), zU_k (by decide), d4, Int.add_zero, bm_of q.1, fU_id]
          · rw [zU_f, zU_k (by decide), d5]
      have hta : sTA M M' k (M 0 4) r := by
        rw [← hM']
        exact sTA.of (by rw [zU_k (by decide), zU_k (by decide), xPass_c (by decide) (by decide) (by decide)]) (by rw [zU_k (by decide), zU_k (by decide), xPass_c (by decide) (by decide) (by decide)]) (by rw [zU_k (by decide), zU_k (by decide), xPass_c (by decide) (by decide) (by decide)]) hm46
      refine hs.next hk hxO hnO (by rw [m0]) (by rw [n0]) (fun c hc => m c (by omega) (by omega) (by omega) (by omega) (by omega) (by omega) (by omega)) (fun c hc => n c (by omega) (by omega) (by omega) (by omega) (by omega)) (fun j hj => by rw [n0]) ?_ ?_ ?_
      · refine ⟨⟨?_, ?_, ?_, ?_, ?_, ?_, ?_, ?_⟩, ?_, ?_, ?_, ?_, ?_⟩
        · rw [n2, m6, d1, bmh, fU_n (Ne.symm hhr), bmr]
        · rw [n 3 (by decide) (by decide) (by decide) (by decide) (by decide), m 7 (by decide) (by decide) (by decide) (by decide) (by decide) (by decide) (by decide)]; exact d2
        · rw [n 4 (by decide) (by decide) (by decide) (by decide) (by decide), m 8 (by decide) (by decide) (by decide) (by decide) (by decide) (by decide) (by decide)]; exact d3
        · exact m1213.1.symm
        · exact m1213.2.symm
        · rw [n 14 (by decide) (by decide) (by decide) (by decide) (by decide), m 25 (by decide) (by decide) (by decide) (by decide) (by decide) (by decide) (by decide)]; exact d6
        · rw [n0, m0]; exact d7
        · rw [n0, m0]; exact d8
        · intro x
          rw [m1213.1, m1213.2, n10, n11]
          have q := e2 x
          rw [← d4, ← d5] at q
          by_cases cx : x = d
          · rw [cx, fU_s, fU_s]; exact ⟨bm_rg _, bm_rg _⟩
          · rw [fU_n cx, fU_n cx]; exact q
        · rw [m1, m5, m0, m6]
          intro x q0 q1
          have q3 := e3 x q0 q1
          by_cases cx : x = r
          · rw [cx, fU_s]; rw [cx] at q3; omega
          · rw [fU_n cx]
            by_cases cy : x = h
            · rw [cy, fU_s]; rw [cy] at q3; omega
            · rw [fU_n cy]; omega
        · rw [m0]; omega
        · rw [m0]; omega
        · rw [m1, m0, m6, sSum_U hr.1 _ (by omega), sSum_U hin.1 _ (by omega), fU_n (Ne.symm hhr), e6]; omega
      · intro x q0 q1
        rw [n9, m14]
        by_cases cx : x = d
        · rw [cx, fU_s, fU_s, hg9]
        · rw [fU_n cx, fU_n cx]; exact hG x q0 q1
      · refine sPRs_move (r := r) hs hk (fun c hc => m c (by omega) (by omega) (by omega) (by omega) (by omega) (by omega) (by omega)) (by rw [m0]) hta hm46 np (n 15 (by decide) (by decide) (by decide) (by decide) (by decide)) (by rw [n0]) (Or.inr ⟨hr.1, hr.2, ?_⟩)
        rw [← hg]
        have := hin.2.2
        omega
    · have hg9 := hG d hdd.1 hdd.2
      rw [if_neg c] at hxO ⊢
      have nc : ¬ (N 9 d < N 8 d ∧ N 2 r < N 1 r) := by
        rw [b4, d1, b1, hg9]
        exact fun q => c ⟨q.2, q.1⟩
      rw [if_neg nc] at hnO ⊢
      exact hs.wait hk hxO hnO
theorem sMid.step {sd : Int64} {M N : zM} {k : Int} (h : sMid sd M N k) (hk : k < M 4 1) : sMid sd (xStep M k) (nPast (nStep sd N k) k) (k + 1) := by
  have hxO := h.1.1.step (p := k) h.2.2.2.2.1.1 (by have := h.1.1.2.2.1; omega)
  have hnO := h.1.2.1.step (sd := sd) k
  have hpr := h.2.2.2.1 k h.2.2.2.2.1.1 hk
  rw [if_neg (by omega)] at hpr
  have hpl := h.1.2.2.2.2.2.2.2.2.2.1 k h.2.2.2.2.1.1 hk
  have h12 := h.1.2.2.2.2.1 k h.2.2.2.2.1.1 hk
  have hw := hpl.wants (N := N) h.1.2.2.1.1 h12 h.1.2.2.1.2.2.2
  have ord := hpl.ord
  have ew := sWant (t := M 0 4) ord
  have hb1 := h.1.2.2.2.1.1
  have hd1 := h.2.1.1.1
  have hgr := h.1.1.2.2.2.2.2.2.2.2.1 k h.2.2.2.2.1.1 (by have := h.1.1.2.2.1; omega)
  have hgg := sGo_rg (ph := sPh M k (M 0 4)) hgr
  unfold xStep at hxO ⊢
  unfold nStep at hnO ⊢
  rw [hw, hpr.1] at hnO ⊢
  by_cases c1 : xNow M k = xWants M k (M 0 4)
  · rw [if_pos c1] at hxO ⊢
    rw [if_pos c1.symm] at hnO ⊢
    exact h.idle hk
  · rw [if_neg c1] at hxO ⊢
    have c1' : ¬ xWants M k (M 0 4) = xNow M k := fun q => c1 q.symm
    rw [if_neg c1'] at hnO ⊢
    by_cases c2 : xNow M k = -1
    · rw [if_pos c2] at hxO hnO ⊢
      rw [if_pos c2]
      unfold xEntr at hxO ⊢
      rw [hd1, hb1] at hnO ⊢
      by_cases c3 : M 6 0 < M 5 0
      · rw [if_pos c3] at hxO hnO ⊢
        rw [if_pos c3]
        exact h.enter hk c2 (fun q => c1 (by rw [c2, q])) c3 hxO hnO
      · rw [if_neg c3] at hxO hnO ⊢
        rw [if_neg c3]
        exact h.wait hk hxO hnO
    · rw [if_neg c2] at hxO hnO ⊢
      rw [if_neg c2]
      by_cases c4 : xWants M k (M 0 4) = -1
      · rw [if_neg (fun q => q c4)] at hxO ⊢
        have h4 : sPh M k (M 0 4) = 4 := by
          rw [c4] at ew
          by_cases q : sPh M k (M 0 4) = 4
          · exact q
          · rw [if_neg q] at ew; omega
        by_cases c5 : xNow M k = 0
        · rw [if_neg (fun q => q c5)] at hxO ⊢
          rw [if_pos ⟨c5, c4⟩] at hnO ⊢
          exact h.out hk c5 c4 hxO hnO
        · rw [if_pos c5] at hxO ⊢
          rw [if_neg (fun q => c5 q.1), if_pos c4] at hnO ⊢
          exact h.door hk rfl c2 (by rw [h4]; rfl) c5 hxO hnO
      · rw [if_pos c4] at hxO ⊢
        rw [if_neg (fun q => c4 q.2), if_neg c4] at hnO ⊢
        have h4 : sPh M k (M 0 4) ≠ 4 := fun q => c4 (by rw [ew, if_pos q])
        rw [if_neg h4] at ew
        exact h.door hk rfl c2 ew c1 hxO hnO
/-- all persons -/
theorem sMid.rest {sd : Int64} {M N0 : zM} : ∀ (n k : Nat), sMid sd M (nPersN sd N0 k) (k : Int) → (k + n : Int) = M 4 1 → M 0 4 < M 19 (k : Int) → sMid sd M (nPersN sd N0 (k + n)) ((k + n : Nat) : Int)
  | 0, k, h, _, _ => h
  | n + 1, k, h, hn, hc => by
    have h12 := h.1.2.2.2.2.1 k h.2.2.2.2.1.1 (by omega)
    have h2 := h.1.2.2.1.2.2.2
    have e : nPersN sd N0 (k + 1) = nPast (nPersN sd N0 k) k := by
      show nPast (nPersI sd (nPersN sd N0 k) k) k = _
      unfold nPersI
      rw [if_neg (by rw [h12, h2]; omega)]
    have h1 := h.idle (by omega)
    rw [← e] at h1
    by_cases hz : n = 0
    · subst hz; exact h1
    · have so := h.1.2.2.2.2.2.2.2.2.1 k (k + 1) (by omega) (by omega) (by omega)
      have := sMid.rest n (k + 1) h1 (by omega) (by rw [show ((k + 1 : Nat) : Int) = (k : Int) + 1 by omega]; omega)
      rw [show k + 1 + n = k + (n + 1) by omega] at this
      exact this
theorem sMid.all {sd : Int64} {N0 : zM} : ∀ (n k : Nat) {M : zM}, sMid sd M (nPersN sd N0 k) (k : Int) → (k + n : Int) = M 4 1 → sMid sd (xStepN n k M) (nPersN sd N0 (k + n)) ((k + n : Nat) : Int)
  | 0, k, M, h, _ => h
  | n + 1, k, M, h, hn => by
    have h12 := h.1.2.2.2.2.1 k h.2.2.2.2.1.1 (by omega)
    have h2 := h.1.2.2.1.2.2.2
    simp only [xStepN]
    by_cases c : M 19 (k : Int) ≤ M 0 4
    · rw [if_pos c]
      have e : nPersN sd N0 (k + 1) = nPast (nStep sd (nPersN sd N0 k) k) k := by
        show nPast (nPersI sd (nPersN sd N0 k) k) k = _
        unfold nPersI
        rw [if_pos (by rw [h12, h2]; exact c)]
      have h1 := h.step (by omega)
      rw [← e] at h1
      have m4 : xStep M k 4 = M 4 := xStep_c (by decide) (by decide) (by decide) (by decide) (by decide) (by decide) (by decide) (by decide) (by decide)
      have := sMid.all n (k + 1) h1 (by rw [m4]; omega)
      rw [show k + 1 + n = k + (n + 1) by omega] at this
      exact this
    · rw [if_neg c]
      exact sMid.rest (n + 1) k h hn (by omega)

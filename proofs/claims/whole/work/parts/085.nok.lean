/-! What the reference's step leaves alone; nOK is kept -/
theorem nOff_c {M : zM} {p : Int} {c : Nat} (h : c ≠ 2) : nOff M p c = M c := by
  unfold nOff
  split
  · rfl
  · exact zU_k h
theorem nOn_c {M : zM} {r : Int} {c : Nat} (h : c ≠ 2) : nOn M r c = M c := by
  unfold nOn
  split
  · rfl
  · exact zU_k h
theorem nMove_c {M : zM} {p r : Int} {c : Nat} (h : c ≠ 2) (h2 : c ≠ 13) : nMove M p r c = M c := by
  unfold nMove
  rw [zU_k h2, nOn_c h, nOff_c h]
theorem nGone_c {M : zM} {d a b : Int} {c : Nat} (h : c ≠ 9) (h2 : c ≠ 10) (h3 : c ≠ 11) : nGone M d a b c = M c := by
  unfold nGone
  rw [zU_k h3, zU_k h2, zU_k h]
theorem nThr_c {M : zM} {p g : Int} {c : Nat} (h2 : c ≠ 2) (h9 : c ≠ 9) (h10 : c ≠ 10) (h11 : c ≠ 11) (h13 : c ≠ 13) (h14 : c ≠ 14) : nThr M p g c = M c := by
  unfold nThr
  generalize (if M 6 (nDoor M (M 13 p) g) = M 13 p then M 7 (nDoor M (M 13 p) g) else M 6 (nDoor M (M 13 p) g)) = r
  split
  · rfl
  · split
    · rw [nGone_c h9 h10 h11, nMove_c h2 h13]
    · exact zU_k h14
theorem nStep_c {sd : Int64} {M : zM} {p : Int} {c : Nat} (h0 : c ≠ 0) (h2 : c ≠ 2) (h9 : c ≠ 9) (h10 : c ≠ 10) (h11 : c ≠ 11) (h13 : c ≠ 13) (h14 : c ≠ 14) : nStep sd M p c = M c := by
  unfold nStep
  generalize (if nWants sd M p = -1 then 0 else nWants sd M p) = g
  split
  · rfl
  · split
    · split
      · rw [zU_k h0, nMove_c h2 h13]
      · exact zU_k h14
    · split
      · rw [zU_k h0, nMove_c h2 h13]
      · exact nThr_c h2 h9 h10 h11 h13 h14
theorem nStep_0 {sd : Int64} {M : zM} {p j : Int} (h1 : j ≠ 21) (h2 : j ≠ 22) : nStep sd M p 0 j = M 0 j := by
  unfold nStep
  generalize (if nWants sd M p = -1 then 0 else nWants sd M p) = g
  split
  · rfl
  · split
    · split
      · rw [zU_n h1, nMove_c (by decide) (by decide)]
      · unfold nWait
        rw [zU_k (by decide)]
    · split
      · rw [zU_n h2, nMove_c (by decide) (by decide)]
      · rw [nThr_c (by decide) (by decide) (by decide) (by decide) (by decide) (by decide)]
theorem nMove_13 {M : zM} {p r : Int} (h : ∀ p, 0 ≤ p → p < 60 → -1 ≤ M 13 p ∧ M 13 p < 12) (hr : -1 ≤ r ∧ r < 12) : ∀ q, 0 ≤ q → q < 60 → -1 ≤ nMove M p r 13 q ∧ nMove M p r 13 q < 12 := by
  intro q h1 h2
  unfold nMove
  by_cases e : q = p
  · subst e
    rw [zU_s]; exact hr
  · rw [zU_n e, nOn_c (by decide), nOff_c (by decide)]
    exact h q h1 h2
theorem nStep_13 {sd : Int64} {M : zM} {p : Int} (hc : 0 ≤ M 0 9) (hd : ∀ d, 0 ≤ d → d < M 0 9 → (0 ≤ M 6 d ∧ M 6 d < 12) ∧ 0 ≤ M 7 d ∧ M 7 d < 12) (h : ∀ p, 0 ≤ p → p < 60 → -1 ≤ M 13 p ∧ M 13 p < 12) : ∀ q, 0 ≤ q → q < 60 → -1 ≤ nStep sd M p 13 q ∧ nStep sd M p 13 q < 12 := by
  unfold nStep
  generalize (if nWants sd M p = -1 then 0 else nWants sd M p) = g
  split
  · exact h
  · split
    · split
      · rw [zU_k (by decide)]; exact nMove_13 h (by omega)
      · unfold nWait
        rw [zU_k (by decide)]; exact h
    · split
      · rw [zU_k (by decide)]; exact nMove_13 h (by omega)
      · unfold nThr
        split
        · exact h
        · rename_i hne
          have hr := nDoor_rg M (M 13 p) g hc
          have h9 := hd (nDoor M (M 13 p) g) (by omega) (by omega)
          have hR : -1 ≤ (if M 6 (nDoor M (M 13 p) g) = M 13 p then M 7 (nDoor M (M 13 p) g) else M 6 (nDoor M (M 13 p) g)) ∧ (if M 6 (nDoor M (M 13 p) g) = M 13 p then M 7 (nDoor M (M 13 p) g) else M 6 (nDoor M (M 13 p) g)) < 12 := by split <;> omega
          generalize (if M 6 (nDoor M (M 13 p) g) = M 13 p then M 7 (nDoor M (M 13 p) g) else M 6 (nDoor M (M 13 p) g)) = r at hR ⊢
          split
          · rw [nGone_c (by decide) (by decide) (by decide)]
            exact nMove_13 h hR
          · unfold nWait
            rw [zU_k (by decide)]; exact h
theorem nOK.of {M M' : zM} (h : nOK M) (h0 : ∀ j, j ≠ 1 → j ≠ 21 → j ≠ 22 → M' 0 j = M 0 j) (h5 : M' 5 = M 5) (h6 : M' 6 = M 6) (h7 : M' 7 = M 7) (h12 : M' 12 = M 12) (h13 : ∀ p, 0 ≤ p → p < 60 → -1 ≤ M' 13 p ∧ M' 13 p < 12) : nOK M' := by
  obtain ⟨a1, a2, a3, a4, a5, a6, a7, a8, a9⟩ := h
  have e2 := h0 2 (by decide) (by decide) (by decide)
  have e3 := h0 3 (by decide) (by decide) (by decide)
  have e9 := h0 9 (by decide) (by decide) (by decide)
  have e16 := h0 16 (by decide) (by decide) (by decide)
  refine ⟨by rw [e3]; exact a1, by rw [e9]; exact a2, by rw [e16]; exact a3, by rw [e2]; exact a4, by rw [e16, e3]; exact a5, ?_, ?_, h13, ?_⟩
  · rw [e9, h6, h7]; exact a6
  · rw [h5]; exact a7
  · rw [e16, h12]; exact a9
theorem nOK.step {sd : Int64} {M : zM} (h : nOK M) (p : Int) : nOK (nStep sd M p) :=
  h.of (fun j _ h2 h3 => nStep_0 h2 h3) (nStep_c (by decide) (by decide) (by decide) (by decide) (by decide) (by decide) (by decide)) (nStep_c (by decide) (by decide) (by decide) (by decide) (by decide) (by decide) (by decide)) (nStep_c (by decide) (by decide) (by decide) (by decide) (by decide) (by decide) (by decide)) (nStep_c (by decide) (by decide) (by decide) (by decide) (by decide) (by decide) (by decide))
    (nStep_13 h.2.1.1 h.2.2.2.2.2.1 h.2.2.2.2.2.2.2.1)
theorem nPast_c {M : zM} {p : Int} {c : Nat} (h : c ≠ 15) : nPast M p c = M c := zU_k h
theorem nPersI_0 {sd : Int64} {M : zM} {p j : Int} (h1 : j ≠ 21) (h2 : j ≠ 22) : nPersI sd M p 0 j = M 0 j := by
  unfold nPersI
  split
  · exact nStep_0 h1 h2
  · rfl
theorem nPersN_0 {sd : Int64} {M : zM} {j : Int} (h1 : j ≠ 21) (h2 : j ≠ 22) : ∀ k, nPersN sd M k 0 j = M 0 j
  | 0 => rfl
  | k + 1 => by
    show nPast (nPersI sd (nPersN sd M k) k) k 0 j = _
    unfold nPast
    rw [zU_k (by decide), nPersI_0 h1 h2, nPersN_0 h1 h2 k]
theorem nPersI_ok {sd : Int64} {M : zM} (h : nOK M) (p : Int) : nOK (nPersI sd M p) := by
  unfold nPersI
  split
  · exact h.step p
  · exact h
theorem nPersN_ok {sd : Int64} {M : zM} (h : nOK M) : ∀ k, nOK (nPersN sd M k)
  | 0 => h
  | k + 1 => by
    have h1 := nPersI_ok (sd := sd) (nPersN_ok (sd := sd) h k) (k : Int)
    have e : ∀ c, c ≠ 15 → nPersN sd M (k + 1) c = nPersI sd (nPersN sd M k) k c := fun c hc => nPast_c hc
    refine h1.of (fun j _ _ _ => by rw [e 0 (by decide)]) (e 5 (by decide)) (e 6 (by decide)) (e 7 (by decide)) (e 12 (by decide)) ?_
    rw [e 13 (by decide)]
    exact h1.2.2.2.2.2.2.2.1
theorem nGoneN_c {M : zM} {c : Nat} (h : c ≠ 9) : ∀ k, nGoneN M k c = M c
  | 0 => rfl
  | k + 1 => (zU_k h).trans (nGoneN_c h k)
theorem nGoneN_ok {M : zM} (h : nOK M) (k : Nat) : nOK (nGoneN M k) :=
  h.of (fun j _ _ _ => by rw [nGoneN_c (by decide)]) (nGoneN_c (by decide) k) (nGoneN_c (by decide) k) (nGoneN_c (by decide) k) (nGoneN_c (by decide) k) (by rw [nGoneN_c (by decide)]; exact h.2.2.2.2.2.2.2.1)
theorem nEndI_c {M : zM} {r : Int} {c : Nat} (h3 : c ≠ 3) (h4 : c ≠ 4) : nEndI M r c = M c := by
  unfold nEndI
  rw [zU_k h4, zU_k h3]
theorem nEndN_c {M : zM} {c : Nat} (h3 : c ≠ 3) (h4 : c ≠ 4) : ∀ k, nEndN M k c = M c
  | 0 => rfl
  | k + 1 => (nEndI_c h3 h4).trans (nEndN_c h3 h4 k)
theorem nMinA_0 {sd : Int64} {M : zM} {j : Int} (h1 : j ≠ 21) (h2 : j ≠ 22) : nMinA sd M 0 j = M 0 j := by
  unfold nMinA nMinP
  rw [nEndN_c (by decide) (by decide), nPersN_0 h1 h2, nGoneN_c (by decide)]
theorem nMinA_ok {sd : Int64} {M : zM} (h : nOK M) : nOK (nMinA sd M) := by
  have h1 := nPersN_ok (sd := sd) (nGoneN_ok h (M 0 9).toNat) (M 0 16).toNat
  unfold nMinA
  exact h1.of (fun j _ _ _ => by rw [nEndN_c (by decide) (by decide)]; rfl) (nEndN_c (by decide) (by decide) _) (nEndN_c (by decide) (by decide) _) (nEndN_c (by decide) (by decide) _) (nEndN_c (by decide) (by decide) _) (by rw [nEndN_c (by decide) (by decide)]; exact h1.2.2.2.2.2.2.2.1)
theorem nMin_0 {sd : Int64} {M : zM} {j : Int} (h0 : j ≠ 2) (h1 : j ≠ 21) (h2 : j ≠ 22) : nMin sd M 0 j = M 0 j := by
  unfold nMin
  rw [zU_n h0, nMinA_0 h1 h2]
theorem nMin_2 {sd : Int64} {M : zM} : nMin sd M 0 2 = M 0 2 + 1 := by
  unfold nMin
  rw [zU_s, nMinA_0 (by decide) (by decide)]
theorem nMin_ok {sd : Int64} {M : zM} (h : nOK M) (hm : M 0 2 < 2000) : nOK (nMin sd M) := by
  obtain ⟨a1, a2, a3, a4, a5, a6, a7, a8, a9⟩ := nMinA_ok (sd := sd) h
  have k : ∀ c, c ≠ 0 → nMin sd M c = nMinA sd M c := fun c hc => zU_k hc
  have e3 : nMin sd M 0 3 = nMinA sd M 0 3 := zU_n (by decide)
  have e9 : nMin sd M 0 9 = nMinA sd M 0 9 := zU_n (by decide)
  have e16 : nMin sd M 0 16 = nMinA sd M 0 16 := zU_n (by decide)
  have h4 := h.2.2.2.1
  refine ⟨by rw [e3]; exact a1, by rw [e9]; exact a2, by rw [e16]; exact a3, by rw [nMin_2]; omega, by rw [e16, e3]; exact a5, ?_, ?_, ?_, ?_⟩
  · rw [e9, k 6 (by decide), k 7 (by decide)]; exact a6
  · rw [k 5 (by decide)]; exact a7
  · rw [k 13 (by decide)]; exact a8
  · rw [e16, k 12 (by decide)]; exact a9
theorem nWants_rg (sd : Int64) {M : zM} {p : Int} (h3 : 1 ≤ M 0 3 ∧ M 0 3 ≤ 12) : -1 ≤ nWants sd M p ∧ nWants sd M p < 12 := by
  have d0 := xDraw_rg sd p 0 (m := M 0 3) (by omega)
  have d3 := xDraw_rg sd p 3 (m := M 0 3) (by omega)
  rw [← nTell_1] at d0
  rw [← nTell_4] at d3
  unfold nWants
  generalize nTell sd M p 1 = a at d0 ⊢
  generalize nTell sd M p 4 = b at d3 ⊢
  split
  · omega
  · split <;> omega

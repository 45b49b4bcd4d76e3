/-! Class and reference side by side: room, door, arrives -/
theorem xPlanN_is {sd : Int64} {M : zM} {r : Int} : ∀ k : Nat, (∀ p, 0 ≤ p → p < (k : Int) → xPlanN sd M r k 20 p = xDraw sd p 0 r ∧ xPlanN sd M r k 21 p = M 19 p + 30 + xDraw sd p 1 90 ∧ xPlanN sd M r k 22 p = M 19 p + 30 + xDraw sd p 1 90 + 20 + xDraw sd p 2 20 ∧ xPlanN sd M r k 23 p = xDraw sd p 3 r ∧ xPlanN sd M r k 24 p = M 19 p + 200 + xDraw sd p 4 200) ∧ ∀ p, ¬ (0 ≤ p ∧ p < (k : Int)) → xPlanN sd M r k 20 p = M 20 p ∧ xPlanN sd M r k 23 p = M 23 p
  | 0 => ⟨fun p h0 h1 => absurd h1 (by omega), fun p _ => ⟨rfl, rfl⟩⟩
  | k + 1 => by
    obtain ⟨i1, i2⟩ := xPlanN_is (sd := sd) (M := M) (r := r) k
    have e19 : xPlanN sd M r k 19 = M 19 := xPlanN_c (by decide) (by decide) (by decide) (by decide) (by decide) k
    refine ⟨fun p h0 h1 => ?_, fun p hp => ?_⟩
    · show xPlanI sd (xPlanN sd M r k) r k 20 p = _ ∧ xPlanI sd (xPlanN sd M r k) r k 21 p = _ ∧ xPlanI sd (xPlanN sd M r k) r k 22 p = _ ∧ xPlanI sd (xPlanN sd M r k) r k 23 p = _ ∧ xPlanI sd (xPlanN sd M r k) r k 24 p = _
      unfold xPlanI
      rw [e19]
      by_cases e : p = (k : Int)
      · rw [e]
        refine ⟨?_, ?_, ?_, ?_, ?_⟩
        · rw [zU_k (by decide), zU_k (by decide), zU_k (by decide), zU_k (by decide), zU_s]
        · rw [zU_k (by decide), zU_k (by decide), zU_k (by decide), zU_s]
        · rw [zU_k (by decide), zU_k (by decide), zU_s]
        · rw [zU_k (by decide), zU_s]
        · rw [zU_s]
      · obtain ⟨j1, j2, j3, j4, j5⟩ := i1 p h0 (by omega)
        refine ⟨?_, ?_, ?_, ?_, ?_⟩
        · rw [zU_k (by decide), zU_k (by decide), zU_k (by decide), zU_k (by decide), zU_n e]; exact j1
        · rw [zU_k (by decide), zU_k (by decide), zU_k (by decide), zU_n e, zU_k (by decide)]; exact j2
        · rw [zU_k (by decide), zU_k (by decide), zU_n e, zU_k (by decide), zU_k (by decide)]; exact j3
        · rw [zU_k (by decide), zU_n e, zU_k (by decide), zU_k (by decide), zU_k (by decide)]; exact j4
        · rw [zU_n e, zU_k (by decide), zU_k (by decide), zU_k (by decide), zU_k (by decide)]; exact j5
    · show xPlanI sd (xPlanN sd M r k) r k 20 p = _ ∧ xPlanI sd (xPlanN sd M r k) r k 23 p = _
      unfold xPlanI
      have e : p ≠ (k : Int) := by omega
      obtain ⟨j1, j2⟩ := i2 p (by omega)
      refine ⟨?_, ?_⟩
      · rw [zU_k (by decide), zU_k (by decide), zU_k (by decide), zU_k (by decide), zU_n e]; exact j1
      · rw [zU_k (by decide), zU_n e, zU_k (by decide), zU_k (by decide), zU_k (by decide)]; exact j2
theorem xPlan_c {sd : Int64} {M : zM} {r : Int} {c : Nat} (h0 : c ≠ 20) (h1 : c ≠ 21) (h2 : c ≠ 22) (h3 : c ≠ 23) (h4 : c ≠ 24) : xPlan sd M r c = M c := xPlanN_c h0 h1 h2 h3 h4 _
theorem xPlan_pl {sd : Int64} {M : zM} {r : Int} (hr : M 1 0 = r) {p : Int} (h0 : 0 ≤ p) (h1 : p < M 4 1) : sPl sd (xPlan sd M r) p := by
  obtain ⟨a1, a2, a3, a4, a5⟩ := (xPlanN_is (sd := sd) (M := M) (r := r) (M 4 1).toNat).1 p h0 (by omega)
  have e1 : xPlan sd M r 1 = M 1 := xPlan_c (by decide) (by decide) (by decide) (by decide) (by decide)
  have e19 : xPlan sd M r 19 = M 19 := xPlan_c (by decide) (by decide) (by decide) (by decide) (by decide)
  unfold sPl
  rw [e1, e19, hr]
  exact ⟨a1, a2, a3, a4, a5⟩
theorem xPlan_ok {sd : Int64} {M : zM} {r : Int} (h : xOK M) (hr : 1 ≤ r ∧ r ≤ 12) : xOK (xPlan sd M r) := by
  have k : ∀ c, c ≠ 20 → c ≠ 21 → c ≠ 22 → c ≠ 23 → c ≠ 24 → xPlan sd M r c = M c := fun c q0 q1 q2 q3 q4 => xPlan_c q0 q1 q2 q3 q4
  have k0 := k 0 (by decide) (by decide) (by decide) (by decide) (by decide)
  have k1 := k 1 (by decide) (by decide) (by decide) (by decide) (by decide)
  have k2 := k 2 (by decide) (by decide) (by decide) (by decide) (by decide)
  have k4 := k 4 (by decide) (by decide) (by decide) (by decide) (by decide)
  have k9 := k 9 (by decide) (by decide) (by decide) (by decide) (by decide)
  have k10 := k 10 (by decide) (by decide) (by decide) (by decide) (by decide)
  have k15 := k 15 (by decide) (by decide) (by decide) (by decide) (by decide)
  have k16 := k 16 (by decide) (by decide) (by decide) (by decide) (by decide)
  have k18 := k 18 (by decide) (by decide) (by decide) (by decide) (by decide)
  have k19 := k 19 (by decide) (by decide) (by decide) (by decide) (by decide)
  obtain ⟨a1, a2, a3, a4, a5, a6, a7, a8, a9, a10⟩ := h
  refine ⟨by rw [k1]; exact a1, by rw [k2]; exact a2, by rw [k4]; exact a3, by rw [k0]; exact a4, by rw [k2, k9, k10]; exact a5, by rw [k15]; exact a6, by rw [k16]; exact a7, by rw [k18]; exact a8, fun p p0 p1 => ?_, by rw [k4, k19]; exact a10⟩
  by_cases c : p < M 4 1
  · obtain ⟨b1, -, -, b4, -⟩ := (xPlanN_is (sd := sd) (M := M) (r := r) (M 4 1).toNat).1 p p0 (by omega)
    have d0 := xDraw_rg sd p 0 (m := r) (by omega)
    have d3 := xDraw_rg sd p 3 (m := r) (by omega)
    show (0 ≤ xPlanN sd M r (M 4 1).toNat 20 p ∧ xPlanN sd M r (M 4 1).toNat 20 p < 12) ∧ 0 ≤ xPlanN sd M r (M 4 1).toNat 23 p ∧ xPlanN sd M r (M 4 1).toNat 23 p < 12
    rw [b1, b4]
    exact ⟨⟨d0.1, Int.lt_of_lt_of_le d0.2 hr.2⟩, d3.1, Int.lt_of_lt_of_le d3.2 hr.2⟩
  · obtain ⟨b1, b2⟩ := (xPlanN_is (sd := sd) (M := M) (r := r) (M 4 1).toNat).2 p (by omega)
    show (0 ≤ xPlanN sd M r (M 4 1).toNat 20 p ∧ xPlanN sd M r (M 4 1).toNat 20 p < 12) ∧ 0 ≤ xPlanN sd M r (M 4 1).toNat 23 p ∧ xPlanN sd M r (M 4 1).toNat 23 p < 12
    rw [b1, b2]
    exact a9 p p0 p1
theorem sPR_0 {M N : zM} {p : Int} (h : M 16 p = 0) (h13 : N 13 p = -1) : sPR M N p 0 :=
  ⟨by rw [h13, xNow_0 h], fun i i0 i1 => absurd i1 (by omega), fun i j i0 i1 i2 => absurd i2 (by omega), fun t t0 t1 => absurd t1 (by omega), Or.inl h⟩
theorem sSim.room {sd : Int64} {M N : zM} (h : sSim sd M N) {v c : Int} (hv : 1 ≤ v ∧ v ≤ 100) (hT : M 0 4 = 0) (hR : M 1 0 < 12) (hc : c = N 0 3) : sSim sd (xPlan sd (xRoomsAdd M v) (M 1 0 + 1)) (zU (zU N 1 c v) 0 3 (c + 1)) := by
  obtain ⟨hB, hD, hP, h0⟩ := h
  obtain ⟨z1, z2, z3, z4⟩ := h0 hT
  obtain ⟨hx, hn, ⟨a1, a2, a3, a4⟩, ⟨b1, b2, b3, b4⟩, c5, c6, c7, c8, c9, c10, c11, c12⟩ := hB
  obtain ⟨⟨d1, d2, d3, d4, d5, d6, d7, d8⟩, e2, e3, e5, e6, e7⟩ := hD
  rw [a1] at hc
  subst hc
  have r0 := hx.1
  have hxA : xOK (xRoomsAdd M v) := by
    have k : ∀ c, c ≠ 5 → c ≠ 1 → xRoomsAdd M v c = M c := fun c q5 q1 => xRoomsAdd_c q5 q1
    obtain ⟨g1, g2, g3, g4, g5, g6, g7, g8, g9, g10⟩ := hx
    refine ⟨by rw [xRoomsAdd_1]; omega, by rw [k 2 (by decide) (by decide)]; exact g2, by rw [k 4 (by decide) (by decide)]; exact g3, by rw [k 0 (by decide) (by decide)]; exact g4, ?_, ?_, ?_, ?_, ?_, ?_⟩
    · rw [k 2 (by decide) (by decide), k 9 (by decide) (by decide), k 10 (by decide) (by decide)]; exact g5
    · rw [k 15 (by decide) (by decide)]; exact g6
    · rw [k 16 (by decide) (by decide)]; exact g7
    · rw [k 18 (by decide) (by decide)]; exact g8
    · rw [k 20 (by decide) (by decide), k 23 (by decide) (by decide)]; exact g9
    · rw [k 4 (by decide) (by decide), k 19 (by decide) (by decide)]; exact g10
  have hxO := xPlan_ok (sd := sd) hxA (r := M 1 0 + 1) (by omega)
  have hpl : ∀ p, 0 ≤ p → p < M 4 1 → sPl sd (xPlan sd (xRoomsAdd M v) (M 1 0 + 1)) p := fun p p0 p1 => xPlan_pl xRoomsAdd_1 p0 (by rw [xRoomsAdd_c (by decide) (by decide)]; exact p1)
  have k : ∀ c, c ≠ 5 → c ≠ 1 → c ≠ 20 → c ≠ 21 → c ≠ 22 → c ≠ 23 → c ≠ 24 → xPlan sd (xRoomsAdd M v) (M 1 0 + 1) c = M c := fun c q5 q1 w0 w1 w2 w3 w4 => by rw [xPlan_c w0 w1 w2 w3 w4, xRoomsAdd_c q5 q1]
  have k1 : xPlan sd (xRoomsAdd M v) (M 1 0 + 1) 1 0 = M 1 0 + 1 := by rw [xPlan_c (by decide) (by decide) (by decide) (by decide) (by decide), xRoomsAdd_1]
  have k5 : xPlan sd (xRoomsAdd M v) (M 1 0 + 1) 5 = fU (M 5) (M 1 0) v := by
    rw [xPlan_c (by decide) (by decide) (by decide) (by decide) (by decide)]
    unfold xRoomsAdd
    rw [zU_k (by decide), zU_f]
  have n : ∀ c, c ≠ 0 → c ≠ 1 → zU (zU N 1 (M 1 0) v) 0 3 (M 1 0 + 1) c = N c := fun c q0 q1 => by rw [zU_k q0, zU_k q1]
  have n0 : ∀ j, j ≠ 3 → zU (zU N 1 (M 1 0) v) 0 3 (M 1 0 + 1) 0 j = N 0 j := fun j hj => by rw [zU_n hj, zU_k (by decide)]
  have n03 : zU (zU N 1 (M 1 0) v) 0 3 (M 1 0 + 1) 0 3 = M 1 0 + 1 := zU_s
  have n1 : zU (zU N 1 (M 1 0) v) 0 3 (M 1 0 + 1) 1 = fU (N 1) (M 1 0) v := by rw [zU_k (by decide), zU_f]
  generalize xPlan sd (xRoomsAdd M v) (M 1 0 + 1) = M' at hxO hpl k k1 k5 ⊢
  generalize zU (zU N 1 (M 1 0) v) 0 3 (M 1 0 + 1) = N' at n n0 n03 n1 ⊢
  have j0 := k 0 (by decide) (by decide) (by decide) (by decide) (by decide) (by decide) (by decide)
  have j2 := k 2 (by decide) (by decide) (by decide) (by decide) (by decide) (by decide) (by decide)
  have j4 := k 4 (by decide) (by decide) (by decide) (by decide) (by decide) (by decide) (by decide)
  have j6 := k 6 (by decide) (by decide) (by decide) (by decide) (by decide) (by decide) (by decide)
  have j9 := k 9 (by decide) (by decide) (by decide) (by decide) (by decide) (by decide) (by decide)
  have j10 := k 10 (by decide) (by decide) (by decide) (by decide) (by decide) (by decide) (by decide)
  have j12 := k 12 (by decide) (by decide) (by decide) (by decide) (by decide) (by decide) (by decide)
  have j13 := k 13 (by decide) (by decide) (by decide) (by decide) (by decide) (by decide) (by decide)
  have j15 := k 15 (by decide) (by decide) (by decide) (by decide) (by decide) (by decide) (by decide)
  have j16 := k 16 (by decide) (by decide) (by decide) (by decide) (by decide) (by decide) (by decide)
  have j19 := k 19 (by decide) (by decide) (by decide) (by decide) (by decide) (by decide) (by decide)
  have hnO : nOK N' := by
    obtain ⟨g1, g2, g3, g4, g5, g6, g7, g8, g9⟩ := hn
    refine ⟨by rw [n03]; omega, by rw [n0 9 (by decide)]; exact g2, by rw [n0 16 (by decide)]; exact g3, by rw [n0 2 (by decide)]; exact g4, by rw [n03]; omega, ?_, ?_, ?_, ?_⟩
    · rw [n0 9 (by decide), n 6 (by decide) (by decide), n 7 (by decide) (by decide)]; exact g6
    · rw [n 5 (by decide) (by decide)]; exact g7
    · rw [n 13 (by decide) (by decide)]; exact g8
    · rw [n0 16 (by decide), n 12 (by decide) (by decide)]; exact g9
  refine ⟨⟨hxO, hnO, ⟨?_, ?_, ?_, ?_⟩, ⟨?_, ?_, ?_, ?_⟩, ?_, ?_, ?_, ?_, ?_, ?_, ?_, ?_⟩, ⟨⟨?_, ?_, ?_, ?_, ?_, ?_, ?_, ?_⟩, ?_, ?_, ?_, ?_, ?_⟩, ?_, ?_⟩
  · rw [n03, k1]
  · rw [n0 9 (by decide), j2]; exact a2
  · rw [n0 16 (by decide), j4]; exact a3
  · rw [n0 2 (by decide), j0]; exact a4
  · rw [n1, k5, b1]
  · rw [n 6 (by decide) (by decide), j9]; exact b2
  · rw [n 7 (by decide) (by decide), j10]; exact b3
  · rw [n 8 (by decide) (by decide), k 11 (by decide) (by decide) (by decide) (by decide) (by decide) (by decide) (by decide)]; exact b4
  · rw [n 12 (by decide) (by decide), j4, j19]; exact c5
  · rw [n 5 (by decide) (by decide), j15]; exact c6
  · rw [j2, j9, j10, j15]; exact c7
  · rw [j2, j9, j10, k1]
    intro d q0 q1
    have := c8 d q0 q1
    omega
  · rw [j4, j19]; exact c9
  · rw [j4]; exact hpl
  · rw [k1, k5]
    intro r q0 q1
    by_cases e : r = M 1 0
    · rw [e, fU_s]; omega
    · rw [fU_n e]; exact c11 r q0 (by omega)
  · rw [k1]; intro _; omega
  · rw [n 2 (by decide) (by decide), j6]; exact d1
  · rw [n 3 (by decide) (by decide), k 7 (by decide) (by decide) (by decide) (by decide) (by decide) (by decide) (by decide)]; exact d2
  · rw [n 4 (by decide) (by decide), k 8 (by decide) (by decide) (by decide) (by decide) (by decide) (by decide) (by decide)]; exact d3
  · rw [n 10 (by decide) (by decide), j12]; exact d4
  · rw [n 11 (by decide) (by decide), j13]; exact d5
  · rw [n 14 (by decide) (by decide), k 25 (by decide) (by decide) (by decide) (by decide) (by decide) (by decide) (by decide)]; exact d6
  · rw [n0 21 (by decide), j0]; exact d7
  · rw [n0 22 (by decide), j0]; exact d8
  · rw [j12, j13]; exact e2
  · rw [k1, j6, k5, j0]
    intro r q0 q1
    rw [z2 r]
    by_cases e : r = M 1 0
    · rw [e, fU_s]; omega
    · rw [fU_n e]
      have := e3 r q0 (by omega)
      rw [z2 r] at this
      omega
  · rw [j0]; exact e5
  · rw [j0]; exact e6
  · rw [k1, j6, j0, show (M 1 0 + 1).toNat = (M 1 0).toNat + 1 by omega]
    simp only [sSum]
    rw [e7, z2]; omega
  · rw [j4, j0, hT]
    intro p p0 p1
    have := hx.2.2.1
    have q := z1 p p0 (by omega)
    exact sPR_0 (by rw [j16]; exact q.1) (by rw [n 13 (by decide) (by decide)]; exact q.2)
  · rw [j0, j16, j6, n 13 (by decide) (by decide)]; exact h0
def sEn (z : Int) : Int := if z < 1000 then z else -1
theorem nShV_en {N : zM} {a b x y A B C : Int} (h1 : N 5 (12 * x + a) = sEn A) (h2 : N 5 (12 * b + y) = sEn B) (h3 : N 5 (12 * x + y) = sEn C) (hA : (0 ≤ A ∧ A ≤ 400) ∨ A = 1000) (hB : (0 ≤ B ∧ B ≤ 400) ∨ B = 1000) (hC : (0 ≤ C ∧ C ≤ 400) ∨ C = 1000) : nShV N a b x y = sEn (min C (A + 1 + B)) := by
  unfold nShV
  rw [h1, h2, h3]
  unfold sEn
  repeat' split
  all_goals omega
theorem sDoor2 {N N1 N2 : zM} {d : Int → Int → Int} {n : Int} {f g : Int → Int} {a b : Int} (hm : gM n f g d) (ha : 0 ≤ a ∧ a < 12) (hb : 0 ≤ b ∧ b < 12) (h5 : ∀ i j, 0 ≤ i → i < 12 → 0 ≤ j → j < 12 → N 5 (12 * i + j) = sEn (d i j)) {i j : Int} (hi : 0 ≤ i ∧ i < 12) (hj : 0 ≤ j ∧ j < 12) : nShN (nShN N a b 12) b a 12 5 (12 * i + j) = sEn (gF d a b i j) := by
  have r : ∀ i j, 0 ≤ i → i < 12 → 0 ≤ j → j < 12 → (0 ≤ d i j ∧ d i j ≤ 11) ∨ d i j = 1000 := by
    intro i j i0 i1 j0 j1
    have q := hm.2.1 i j i0 i1 j0 j1
    by_cases c : d i j < 1000
    · have := gM_11 hm i0 i1 j0 j1 c
      omega
    · omega
  have v1 : ∀ i j, 0 ≤ i → i < 12 → 0 ≤ j → j < 12 → nShN N a b 12 5 (12 * i + j) = sEn (min (d i j) (d i a + 1 + d b j)) ∧ ((0 ≤ min (d i j) (d i a + 1 + d b j) ∧ min (d i j) (d i a + 1 + d b j) ≤ 400) ∨ min (d i j) (d i a + 1 + d b j) = 1000) := by
    intro i j i0 i1 j0 j1
    have q1 := r i j i0 i1 j0 j1
    have q2 := r i a i0 i1 ha.1 ha.2
    have q3 := r b j hb.1 hb.2 j0 j1
    refine ⟨?_, by omega⟩
    rw [nShN_12 ha hb i0 i1 j0 j1]
    exact nShV_en (h5 i a i0 i1 ha.1 ha.2) (h5 b j hb.1 hb.2 j0 j1) (h5 i j i0 i1 j0 j1) (by omega) (by omega) (by omega)
  rw [nShN_12 hb ha hi.1 hi.2 hj.1 hj.2]
  obtain ⟨w1, u1⟩ := v1 i b hi.1 hi.2 hb.1 hb.2
  obtain ⟨w2, u2⟩ := v1 a j ha.1 ha.2 hj.1 hj.2
  obtain ⟨w3, u3⟩ := v1 i j hi.1 hi.2 hj.1 hj.2
  rw [nShV_en w1 w2 w3 u1 u2 u3]
  congr 1
  have bb := hm.1 b hb.1 hb.2
  have aa := hm.1 a ha.1 ha.2
  have t1 := gM_tri hm hi.1 hi.2 hb.1 hb.2 hj.1 hj.2
  have t2 := gM_tri hm hi.1 hi.2 ha.1 ha.2 hj.1 hj.2
  unfold gF
  omega

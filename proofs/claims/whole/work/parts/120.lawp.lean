/-! The law's comparisons: what the class did, what the reference did, and that they agree -/
def cO (ARG ST : Prop) (F : Int) (G M : zM) (k w : Int) (M' : zM) : Prop := (k = 0 ∧ ARG ∧ ST ∧ M' = G ∧ w = F) ∨ (k = 1 ∧ ¬ ARG ∧ M' = M) ∨ (k = 2 ∧ ARG ∧ ¬ ST ∧ M' = M)
/-- the reference's answers, with and without a test of the state -/
def rO (ARG ST : Prop) (F : Int) (G N : zM) (z : Int) (u : zM) : Prop := (ARG ∧ ST ∧ z = F ∧ u = G) ∨ (ARG ∧ ¬ ST ∧ u = zU N 0 1 2) ∨ (¬ ARG ∧ u = zU N 0 1 1)
def rQ (ARG : Prop) (F : Int) (G N : zM) (z : Int) (u : zM) : Prop := (ARG ∧ z = F ∧ u = G) ∨ (¬ ARG ∧ u = zU N 0 1 1)
theorem op_O {sd : Int64} {M N G G' M' u : zM} {ARG ST ARG' ST' : Prop} {F F' k w z : Int} (h : sSim sd M N) (hc : cO ARG ST F G M k w M') (hr : rO ARG' ST' F' G' N z u) (eA : ARG' ↔ ARG) (eS : ST' ↔ ST) (ok : ARG → ST → sSim sd G G' ∧ G' 0 1 = 0 ∧ F' = F) : sSim sd M' u ∧ u 0 1 = k ∧ (k = 0 → z = w) := by
  rcases hc with ⟨hk, ha, hs, hM, hw⟩ | ⟨hk, ha, hM⟩ | ⟨hk, ha, hs, hM⟩
  · rcases hr with ⟨ha', hs', hz, hu⟩ | ⟨ha', hs', hu⟩ | ⟨ha', hu⟩
    · obtain ⟨o1, o2, o3⟩ := ok ha hs
      rw [hM, hu, hk]
      exact ⟨o1, o2, fun _ => by rw [hz, hw, o3]⟩
    · exact absurd (eS.mpr hs) hs'
    · exact absurd (eA.mpr ha) ha'
  · rcases hr with ⟨ha', hs', hz, hu⟩ | ⟨ha', hs', hu⟩ | ⟨ha', hu⟩
    · exact absurd (eA.mp ha') ha
    · exact absurd (eA.mp ha') ha
    · rw [hM, hu, hk]
      exact ⟨h.fault 1, zU_s, fun q => absurd q (by omega)⟩
  · rcases hr with ⟨ha', hs', hz, hu⟩ | ⟨ha', hs', hu⟩ | ⟨ha', hu⟩
    · exact absurd (eS.mp hs') hs
    · rw [hM, hu, hk]
      exact ⟨h.fault 2, zU_s, fun q => absurd q (by omega)⟩
    · exact absurd (eA.mpr ha) ha'
/-- what is only told -/
theorem op_Q {sd : Int64} {M N M' u : zM} {ARG ARG' : Prop} {F F' k w z : Int} (h : sSim sd M N) (hc : cO ARG True F M M k w M') (hr : rQ ARG' F' (zU N 0 1 0) N z u) (eA : ARG' ↔ ARG) (ok : ARG → F' = F) : sSim sd M' u ∧ u 0 1 = k ∧ (k = 0 → z = w) := by
  refine op_O (G' := zU N 0 1 0) (ST' := True) (F' := F') h hc ?_ eA Iff.rfl (fun ha _ => ⟨h.fault 0, zU_s, ok ha⟩)
  rcases hr with ⟨a, b, c⟩ | ⟨a, b⟩
  · exact Or.inl ⟨a, trivial, b, c⟩
  · exact Or.inr (Or.inr ⟨a, b⟩)
theorem nRun_1 {sd : Int64} {N : zM} : ∀ k : Nat, nRun sd N k 0 1 = N 0 1
  | 0 => rfl
  | k + 1 => by
    show nMin sd (nRun sd N k) 0 1 = _
    rw [nMin_0 (by decide) (by decide) (by decide), nRun_1 k]
section OPS
variable {sd : Int64} {M N M' u : zM} {k w z : Int}
theorem op_room {v : Int} (h : sSim sd M N) (hc : cO (1 ≤ v ∧ v ≤ 100) (M 0 4 = 0 ∧ M 1 0 < 12) (M 1 0) (xPlan sd (xRoomsAdd M v) (M 1 0 + 1)) M k w M') (hr : rO (1 ≤ v ∧ v ≤ 100) (N 0 2 = 0 ∧ N 0 3 < 12) (N 0 3) (zU (zU (zU N 0 1 0) 1 (N 0 3) v) 0 3 (N 0 3 + 1)) N z u) : sSim sd M' u ∧ u 0 1 = k ∧ (k = 0 → z = w) := by
  have e3 := h.1.2.2.1.1
  have e2 := h.1.2.2.1.2.2.2
  refine op_O h hc hr Iff.rfl (by rw [e2, e3]) (fun ha hs => ⟨?_, ?_, e3⟩)
  · exact (h.fault 0).room ha hs.1 hs.2 (zU_n (by decide)).symm
  · rw [zU_n (by decide), zU_k (by decide), zU_s]
theorem op_door {a b v : Int} (h : sSim sd M N) (hc : cO ((0 ≤ a ∧ a < M 1 0) ∧ (0 ≤ b ∧ b < M 1 0) ∧ (1 ≤ v ∧ v ≤ 20) ∧ ¬ a = b) (M 0 4 = 0 ∧ M 2 0 < 16) (M 2 0) (xDoorsAdd M a b v) M k w M') (hr : rO ((0 ≤ a ∧ a < N 0 3) ∧ (0 ≤ b ∧ b < N 0 3) ∧ (1 ≤ v ∧ v ≤ 20) ∧ ¬ a = b) (N 0 2 = 0 ∧ N 0 9 < 16) (N 0 9) (nShN (nShN (zU (zU (zU (zU (zU N 0 1 0) 6 (N 0 9) a) 7 (N 0 9) b) 8 (N 0 9) v) 0 9 (N 0 9 + 1)) a b 12) b a 12) N z u) : sSim sd M' u ∧ u 0 1 = k ∧ (k = 0 → z = w) := by
  have e3 := h.1.2.2.1.1
  have e9 := h.1.2.2.1.2.1
  have e2 := h.1.2.2.1.2.2.2
  refine op_O h hc hr (by rw [e3]) (by rw [e2, e9]) (fun ha hs => ⟨?_, ?_, e9⟩)
  · exact (h.fault 0).door ha.1 ha.2.1 hs.1 hs.2 (zU_n (by decide)).symm
  · rw [nShN_c (by decide), nShN_c (by decide), zU_n (by decide), zU_k (by decide), zU_k (by decide), zU_k (by decide), zU_s]
theorem op_arrives {t n : Int} (h : sSim sd M N) (hc : cO ((0 ≤ t ∧ t ≤ 1439) ∧ (1 ≤ n ∧ n ≤ 20)) (M 0 4 = 0 ∧ 0 < M 1 0 ∧ M 4 1 + n ≤ 60) (M 4 1 + n) (xPlan sd (xPersAdd M t n) (M 1 0)) M k w M') (hr : rO ((0 ≤ t ∧ t ≤ 1439) ∧ (1 ≤ n ∧ n ≤ 20)) (N 0 2 = 0 ∧ 0 < N 0 3 ∧ N 0 16 + n ≤ 60) (N 0 16 + n) (nArr (zU N 0 1 0) t n) N z u) : sSim sd M' u ∧ u 0 1 = k ∧ (k = 0 → z = w) := by
  have e3 := h.1.2.2.1.1
  have e16 := h.1.2.2.1.2.2.1
  have e2 := h.1.2.2.1.2.2.2
  refine op_O h hc hr Iff.rfl (by rw [e2, e3, e16]) (fun ha hs => ⟨?_, ?_, by rw [e16]⟩)
  · exact (h.fault 0).arrives ha.1 ha.2 hs.1 hs.2.1 hs.2.2
  · rw [nArr_0 (by decide), zU_s]
theorem op_run {n : Int} (h : sSim sd M N) (hc : cO (1 ≤ n ∧ n ≤ 500) (0 < M 1 0 ∧ M 0 4 + n ≤ 2000) (bm (xRun M n.toNat 0 5 - xRun M n.toNat 0 6)) (xRun M n.toNat) M k w M') (hr : rO (1 ≤ n ∧ n ≤ 500) (0 < N 0 3 ∧ N 0 2 + n ≤ 2000) (nSum (nRun sd (zU N 0 1 0) n.toNat) (N 0 3).toNat) (nRun sd (zU N 0 1 0) n.toNat) N z u) : sSim sd M' u ∧ u 0 1 = k ∧ (k = 0 → z = w) := by
  have e3 := h.1.2.2.1.1
  have e2 := h.1.2.2.1.2.2.2
  refine op_O h hc hr Iff.rfl (by rw [e2, e3]) (fun ha hs => ?_)
  have r := ((h.fault 0).run n.toNat (by omega)).1
  refine ⟨r, ?_, ?_⟩
  · rw [nRun_1, zU_s]
  · have hn := (h.fault 0).1.2.1
    have t2 : zU N 0 1 0 0 2 = N 0 2 := zU_n (by decide)
    have t3 : zU N 0 1 0 0 3 = N 0 3 := zU_n (by decide)
    have q := (nRun_ok (sd := sd) hn n.toNat (by rw [t2, e2]; omega)).2.2.1
    have q2 := r.1.2.2.1.1
    have i := r.inside
    rw [← q2, q, t3] at i
    exact i
theorem op_draw {p c m : Int} (h : sSim sd M N) (hc : cO ((0 ≤ p ∧ p ≤ 59) ∧ (0 ≤ c ∧ c ≤ 7) ∧ (1 ≤ m ∧ m ≤ 1000000)) True (xDraw sd p c m) M M k w M') (hr : rQ ((0 ≤ p ∧ p ≤ 59) ∧ (0 ≤ c ∧ c ≤ 7) ∧ (1 ≤ m ∧ m ≤ 1000000)) (xDraw sd p c m) (zU N 0 1 0) N z u) : sSim sd M' u ∧ u 0 1 = k ∧ (k = 0 → z = w) :=
  op_Q h hc hr Iff.rfl (fun _ => rfl)
theorem op_person {p c : Int} (h : sSim sd M N) (hc : cO ((0 ≤ p ∧ p < M 4 1) ∧ (0 ≤ c ∧ c ≤ 5)) True (xTell M p c) M M k w M') (hr : rQ ((0 ≤ p ∧ p < N 0 16) ∧ (0 ≤ c ∧ c ≤ 5)) (nTell sd (zU N 0 1 0) p c) (zU N 0 1 0) N z u) : sSim sd M' u ∧ u 0 1 = k ∧ (k = 0 → z = w) :=
  op_Q h hc hr (by rw [h.1.2.2.1.2.2.1]) (fun ha => (h.fault 0).person ha.1)
theorem op_at {p : Int} (h : sSim sd M N) (hc : cO (0 ≤ p ∧ p < M 4 1) True (xNow M p) M M k w M') (hr : rQ (0 ≤ p ∧ p < N 0 16) (N 13 p) (zU N 0 1 0) N z u) : sSim sd M' u ∧ u 0 1 = k ∧ (k = 0 → z = w) :=
  op_Q h hc hr (by rw [h.1.2.2.1.2.2.1]) (fun ha => h.at ha)
theorem op_was {p t : Int} (h : sSim sd M N) (hc : cO ((0 ≤ p ∧ p < M 4 1) ∧ (0 ≤ t ∧ t < M 0 4)) True (xBeh M p t) M M k w M') (hr : rQ ((0 ≤ p ∧ p < N 0 16) ∧ (0 ≤ t ∧ t < N 0 2)) (N 15 (2000 * p + t)) (zU N 0 1 0) N z u) : sSim sd M' u ∧ u 0 1 = k ∧ (k = 0 → z = w) :=
  op_Q h hc hr (by rw [h.1.2.2.1.2.2.1, h.1.2.2.1.2.2.2]) (fun ha => h.was ha.1 ha.2)
theorem op_waited {p : Int} (h : sSim sd M N) (hc : cO (0 ≤ p ∧ p < M 4 1) True (M 25 p) M M k w M') (hr : rQ (0 ≤ p ∧ p < N 0 16) (N 14 p) (zU N 0 1 0) N z u) : sSim sd M' u ∧ u 0 1 = k ∧ (k = 0 → z = w) :=
  op_Q h hc hr (by rw [h.1.2.2.1.2.2.1]) (fun _ => h.waited p)
theorem op_in {r c : Int} (h : sSim sd M N) (hc : cO ((0 ≤ r ∧ r < M 1 0) ∧ (0 ≤ c ∧ c ≤ 2)) True (xIn M r c) M M k w M') (hr : rQ ((0 ≤ r ∧ r < N 0 3) ∧ (0 ≤ c ∧ c ≤ 2)) (nIn N r c) (zU N 0 1 0) N z u) : sSim sd M' u ∧ u 0 1 = k ∧ (k = 0 → z = w) :=
  op_Q h hc hr (by rw [h.1.2.2.1.1]) (fun _ => h.in r c)
theorem op_inThen {r t : Int} (h : sSim sd M N) (hc : cO ((0 ≤ r ∧ r < M 1 0) ∧ (0 ≤ t ∧ t < M 0 4)) True (xCnt M r t (M 4 1).toNat) M M k w M') (hr : rQ ((0 ≤ r ∧ r < N 0 3) ∧ (0 ≤ t ∧ t < N 0 2)) (nCnt (zU N 0 1 0) r t (N 0 16).toNat) (zU N 0 1 0) N z u) : sSim sd M' u ∧ u 0 1 = k ∧ (k = 0 → z = w) :=
  op_Q h hc hr (by rw [h.1.2.2.1.1, h.1.2.2.1.2.2.2]) (fun ha => by
    have q := (h.fault 0).inThen (r := r) ha.2
    rw [show zU N 0 1 0 0 16 = N 0 16 from zU_n (by decide)] at q
    exact q)
theorem op_through {d on : Int} (h : sSim sd M N) (hc : cO (0 ≤ d ∧ d < M 2 0) True (if on = 0 then M 13 d else M 12 d) M M k w M') (hr : rQ (0 ≤ d ∧ d < N 0 9) (if on = 0 then N 11 d else N 10 d) (zU N 0 1 0) N z u) : sSim sd M' u ∧ u 0 1 = k ∧ (k = 0 → z = w) :=
  op_Q h hc hr (by rw [h.1.2.2.1.2.1]) (fun _ => h.through d on)
theorem op_distance {a b : Int} (h : sSim sd M N) (hc : cO ((0 ≤ a ∧ a < M 1 0) ∧ (0 ≤ b ∧ b < M 1 0)) True (if M 15 (a * 12 + b) < 1000 then M 15 (a * 12 + b) else -1) M M k w M') (hr : rQ ((0 ≤ a ∧ a < N 0 3) ∧ (0 ≤ b ∧ b < N 0 3)) (N 5 (12 * a + b)) (zU N 0 1 0) N z u) : sSim sd M' u ∧ u 0 1 = k ∧ (k = 0 → z = w) :=
  op_Q h hc hr (by rw [h.1.2.2.1.1]) (fun ha => h.distance ha.1 ha.2)
theorem op_met {p o : Int} (h : sSim sd M N) (hc : cO ((0 ≤ p ∧ p < M 4 1) ∧ (0 ≤ o ∧ o < M 4 1) ∧ ¬ p = o) True (xMet M p o) M M k w M') (hr : rQ ((0 ≤ p ∧ p < N 0 16) ∧ (0 ≤ o ∧ o < N 0 16) ∧ ¬ p = o) (nMetN (zU N 0 1 0) p o (N 0 2).toNat 0) (zU N 0 1 0) N z u) : sSim sd M' u ∧ u 0 1 = k ∧ (k = 0 → z = w) :=
  op_Q h hc hr (by rw [h.1.2.2.1.2.2.1]) (fun ha => by
    rw [h.1.2.2.1.2.2.2]
    exact (h.fault 0).met ha.1 ha.2.1)
end OPS

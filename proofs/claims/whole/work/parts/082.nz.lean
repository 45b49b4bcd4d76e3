theorem nZ0 {sd : Int64} {p k : Int} (hp : 0 ≤ p ∧ p < 60) (hk : 0 ≤ k ∧ k < 8) : sd + (-7046029254386353131 : Int64) * (((lI 8 * lI p) + lI k) + lI 1) = xZ0 sd p k := by
  unfold xZ0
  rw [lI_mul, lI_add, lI_add, lI_zI (by omega)]
theorem nTell_0 {sd : Int64} {M : zM} {p : Int} : nTell sd M p 0 = M 12 p := by
  unfold nTell
  rw [if_pos rfl]
theorem nTell_1 {sd : Int64} {M : zM} {p : Int} : nTell sd M p 1 = xDraw sd p 0 (M 0 3) := by
  unfold nTell
  rw [if_neg (by decide), if_pos rfl]
theorem nTell_2 {sd : Int64} {M : zM} {p : Int} : nTell sd M p 2 = M 12 p + 30 + xDraw sd p 1 90 := by
  unfold nTell
  rw [if_neg (by decide), if_neg (by decide), if_pos rfl]
theorem nTell_3 {sd : Int64} {M : zM} {p : Int} : nTell sd M p 3 = M 12 p + 30 + xDraw sd p 1 90 + 20 + xDraw sd p 2 20 := by
  unfold nTell
  rw [if_neg (by decide), if_neg (by decide), if_neg (by decide), if_pos rfl]
theorem nTell_4 {sd : Int64} {M : zM} {p : Int} : nTell sd M p 4 = xDraw sd p 3 (M 0 3) := by
  unfold nTell
  rw [if_neg (by decide), if_neg (by decide), if_neg (by decide), if_neg (by decide), if_pos rfl]
theorem nTell_5 {sd : Int64} {M : zM} {p : Int} : nTell sd M p 5 = M 12 p + 200 + xDraw sd p 4 200 := by
  unfold nTell
  rw [if_neg (by decide), if_neg (by decide), if_neg (by decide), if_neg (by decide), if_neg (by decide)]

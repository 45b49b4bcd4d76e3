theorem nZ0 {sd : Int64} {p k : Int} (hp : 0 ≤ p ∧ p < 60) (hk : 0 ≤ k ∧ k < 8) : sd + (-7046029254386353131 : Int64) * (((lI 8 * lI p) + lI k) + lI 1) = xZ0 sd p k := by
  unfold xZ0
  rw [lI_mul, lI_add, lI_add, lI_zI (by omega)]

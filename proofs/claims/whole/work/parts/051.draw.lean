/-! bits: rows of kit/laws/BITS.to-paste (family wb_), pasted; then the draw's bounds -/
theorem wb_tb (n : Nat) : (lN n).toBitVec = BitVec.ofNat 64 n := rfl
theorem wb_inj {a b : Int64} (h : a.toBitVec = b.toBitVec) : a = b := Int64.toBitVec_inj.mp h
theorem wb_tn {n : Nat} (h : n < 2 ^ 64) : (lN n).toBitVec.toNat = n := by rw [wb_tb, BitVec.toNat_ofNat, Nat.mod_eq_of_lt h]
theorem wb_of (x : Int64) : ∃ n, n < 2 ^ 64 ∧ x = lN n := ⟨x.toBitVec.toNat, x.toBitVec.isLt, wb_inj (by rw [wb_tb]; simp)⟩
theorem wb_cu : ∀ k, k < 64 → ((nI k).toInt64.toUInt64 &&& Int64.toUInt64 63) = UInt64.ofNat k := by decide +kernel
theorem wb_shr {n k : Nat} (hn : n < 2 ^ 64) (hk : k < 64) : ((lN n).toUInt64 >>> ((nI k).toInt64.toUInt64 &&& Int64.toUInt64 63)).toInt64 = lN (n / 2 ^ k) := by
  rw [wb_cu k hk]
  apply wb_inj
  apply BitVec.eq_of_toNat_eq
  show ((lN n).toUInt64 >>> UInt64.ofNat k).toNat = (BitVec.ofNat 64 _).toNat
  have h1 : (UInt64.ofNat k).toNat = k := by
    show (BitVec.ofNat 64 k).toNat = k
    rw [BitVec.toNat_ofNat, Nat.mod_eq_of_lt (by omega)]
  have h2 : (lN n).toUInt64.toNat = n := wb_tn hn
  rw [UInt64.toNat_shiftRight, h1, h2, Nat.mod_eq_of_lt hk, Nat.shiftRight_eq_div_pow, BitVec.toNat_ofNat, Nat.mod_eq_of_lt (Nat.lt_of_le_of_lt (Nat.div_le_self _ _) hn)]
theorem zI_nI (n : Nat) : zI (n : Int) = nI n := by
  show Int32.ofInt (n : Int) = Int32.ofNat n
  apply Int32.toBitVec_inj.mp
  show BitVec.ofInt 32 (n : Int) = BitVec.ofNat 32 n
  exact BitVec.ofInt_natCast 32 n
theorem xDraw_is (sd : Int64) (p k : Int) {m : Int} (hm : 1 ≤ m ∧ m ≤ 2147483647) : ∃ n : Nat, n < 2 ^ 63 ∧ xZ sd p k = lN n ∧ xDraw sd p k m = ((n % m.toNat : Nat) : Int) := by
  obtain ⟨a, ha, ea⟩ := wb_of (xZ3 sd p k)
  have e1 : xZ sd p k = lN (a / 2 ^ 1) := by
    unfold xZ xSr
    rw [ea]
    exact wb_shr ha (by decide)
  refine ⟨a / 2 ^ 1, by omega, e1, ?_⟩
  have e2 : (zI m).toInt64 = lN m.toNat := by
    rw [show m = ((m.toNat : Nat) : Int) by omega, zI_nI]
    exact nI_l (by omega)
  unfold xDraw
  rw [e1, e2, pk_lRem (by omega) (by omega) (by omega), lN_i]
  exact nI_toInt (by have := Nat.mod_lt (a / 2 ^ 1) (show 0 < m.toNat by omega); omega)
theorem xDraw_rg (sd : Int64) (p k : Int) {m : Int} (hm : 1 ≤ m ∧ m ≤ 2147483647) : 0 ≤ xDraw sd p k m ∧ xDraw sd p k m < m := by
  obtain ⟨n, h1, h2, h3⟩ := xDraw_is sd p k hm
  have := Nat.mod_lt n (show 0 < m.toNat by omega)
  omega
/-- an equation that omega does not look into -/
def zSame (a b : Int) : Prop := a = b

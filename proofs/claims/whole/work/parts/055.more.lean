/-! more of the model: arrivals, fill -/
theorem xShiftN_s {t n q : Int} {M : zM} (hq : 0 < q) (h : t < M 19 (q - 1)) : xShiftN t n q.toNat M = xShiftN t n (q + (-1)).toNat (zU M 19 (q + (-1) + n) (M 19 (q + (-1)))) := by
  rw [show q.toNat = (q + (-1)).toNat + 1 by omega, xShiftN, show (((q + (-1)).toNat : Nat) : Int) = q + (-1) by omega, if_pos (by rw [show q + (-1) = q - 1 by omega]; exact h)]
theorem xShiftN_e {t n q : Int} {M : zM} (hq : 0 ≤ q) (h : q ≤ 0 ∨ M 19 (q - 1) ≤ t) : xShiftN t n q.toNat M = (q.toNat, M) := by
  by_cases h0 : q ≤ 0
  · rw [show q.toNat = 0 by omega, xShiftN]
  · rw [show q.toNat = (q - 1).toNat + 1 by omega, xShiftN, show (((q - 1).toNat : Nat) : Int) = q - 1 by omega, if_neg (by omega)]
theorem xPutN_c {M : zM} {t q : Int} {c : Nat} (h : c ≠ 19) : ∀ k, xPutN M t q k c = M c
  | 0 => rfl
  | k + 1 => (zU_k h).trans (xPutN_c h k)
theorem xFill_0 {M : zM} {k : Nat} {v : Int} : xFill M k 0 v = M := by
  funext c i
  unfold xFill
  rw [if_neg (by omega)]
theorem xFill_s {M : zM} {k i : Nat} {v : Int} : zU (xFill M k i v) k (i : Int) v = xFill M k (i + 1) v := by
  funext c j
  unfold zU xFill
  by_cases hc : c = k
  · by_cases hj : j = (i : Int)
    · rw [if_pos ⟨hc, hj⟩, if_pos ⟨hc, by omega, by omega⟩]
    · rw [if_neg (fun h => hj h.2)]
      by_cases h2 : 0 ≤ j ∧ j < (i : Int)
      · rw [if_pos ⟨hc, h2⟩, if_pos ⟨hc, by omega, by omega⟩]
      · rw [if_neg (fun h => h2 h.2), if_neg (fun h => h2 ⟨h.2.1, by omega⟩)]
  · rw [if_neg (fun h => hc h.1), if_neg (fun h => hc h.1), if_neg (fun h => hc h.1)]
set_option maxHeartbeats 4000000 in
set_option maxRecDepth 100000 in
/-- Arrays.fill of an int array of the row -/
theorem k_fill (l : Launch) (D : va_G) (L : List zC) (ad : Nat → Nat) (cI : Nat → ClassId) (M : zM) (k n : Nat) (v : Int) (hk : L[k]? = some (.inr (0, n))) (hn : n < 2147483647) (hv : -2147483648 ≤ v ∧ v ≤ 2147483647) : zMv l y_Ar_fill (.code y_Ar_fill c_Ar_fill 4 (none)) { frames := 0, cells := 0, slots := 0, locals := 0 } D L ad cI M [.ref (ad k), .int (zI v)] (fun u => u = xFill M k n v) := by
  refine z_of (cc := c_Ar_fill) (maxL := 4) (ret := none) (own := "java/util/Arrays") (by decide) rfl rfl (Nat.le_of_ble_eq_true rfl) ?_
  intro p e s m below meth c ls hF hr hX hK hl
  obtain ⟨hx, hb, hml, hown, hlk⟩ := id hF
  have hS : va_S (zA ad L) s.heap s.heap [] := va_S.rf
  have hl : lv_has ls 4 [(0, .ref (ad k)), (1, .int (zI v))] := hl
  refine z_const hx hb d_Ar_fill_0 ?_
  refine lv_istore_n (lv' := [(2, .int (zI 0)), (0, .ref (ad k)), (1, .int (zI v))]) hx hb d_Ar_fill_1 rfl hl (by decide) rfl (fun ls hl => ?_)
  refine lv_aload_n hx hb d_Ar_fill_2 rfl (lv_at hl 1 rfl) ?_
  refine z_alen hx hb hK hX k hk d_Ar_fill_3 ?_
  refine lv_istore_n (lv' := [(3, .int (zI (n : Int))), (2, .int (zI 0)), (0, .ref (ad k)), (1, .int (zI v))]) hx hb d_Ar_fill_4 rfl hl (by decide) rfl (fun ls hl => ?_)
  have loop5 : ∀ (n5 : Nat) (i : Nat) (H : Heap) (locs : List Loc) (ls : Array Slot), i ≤ n → n - i < n5 → zX D L ad cI (xFill M k i v) H → va_S (zA ad L) s.heap H locs → lv_has ls 4 [(2, .int (zI (i : Int))), (3, .int (zI (n : Int))), (0, .ref (ad k)), (1, .int (zI v))] → W p l e { frames := 0, cells := 0, slots := 0, locals := 0 } s m ([.ref (ad k), .int (zI v)] : List Value).toArray below meth c H locs 0 0 (MQ below (zQv D L ad cI (fun u => u = xFill M k n v)) ([.ref (ad k), .int (zI v)] : List Value).toArray s 0 0 (zA ad L)) (F0 m 5 ls []) := by
    intro n5
    induction n5 with
    | zero => intro i H locs ls hI hn; exact absurd hn (Nat.not_lt_zero _)
    | succ n5 ih5 =>
      intro i H locs ls hI5 hn5 hX hS hl
      refine lv_iload_n hx hb d_Ar_fill_5 rfl (lv_at hl 0 rfl) ?_
      refine lv_iload_n hx hb d_Ar_fill_6 rfl (lv_at hl 1 rfl) ?_
      refine z_icmp_ge (a := (i : Int)) (b := (n : Int)) (tgt := 20) hx hb d_Ar_fill_7 (by decide) (by omega) (fun hb_2 => ?_) (fun hb_3 => ?_)
      · exact z_vret (post := fun u => u = xFill M k n v) hx hb hr hlk hK hX hS (by rw [show i = n by omega]) d_Ar_fill_20
      · refine lv_aload_n hx hb d_Ar_fill_10 rfl (lv_at hl 2 rfl) ?_
        refine lv_iload_n hx hb d_Ar_fill_11 rfl (lv_at hl 0 rfl) ?_
        refine lv_iload_n hx hb d_Ar_fill_12 rfl (lv_at hl 3 rfl) ?_
        refine z_iast (i := (i : Int)) (v := v) hx hb hK hX hS k hk (by omega) (by omega) hv d_Ar_fill_13 (fun H locs hX hS => ?_)
        refine z_iinc (lv' := [(2, .int (zI ((i : Int) + 1))), (3, .int (zI (n : Int))), (0, .ref (ad k)), (1, .int (zI v))]) hx hb d_Ar_fill_14 hl (k := 0) rfl (by decide) rfl (fun ls hl => ?_)
        refine lv_goto (tgt := 5) hx hb d_Ar_fill_17 (by decide) ?_
        exact ih5 (i + 1) _ _ _ (by omega) (by omega) (by rw [← xFill_s]; exact hX) hS (lv_sub hl [0, 1, 2, 3] rfl)
  exact loop5 _ 0 _ _ _ (Nat.zero_le n) (Nat.lt_succ_self _) (by rw [xFill_0]; exact hX) hS (lv_sub hl [1, 0, 2, 3] rfl)

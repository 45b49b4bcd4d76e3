set_option maxHeartbeats 4000000 in
set_option maxRecDepth 100000 in
theorem k_Do_shorten (l : Launch) (D : va_G) (ad : Nat → Nat) (cI : Nat → ClassId) (sd : Int64) (M : zM) (a b : Int) (h1 : 0 ≤ a ∧ a < 12) (h2 : 0 ≤ b ∧ b < 12) (h3 : ∀ x, 0 ≤ x → x < 144 → 0 ≤ M 15 x ∧ M 15 x ≤ 1000) : zMv l y_Do_shortenWays (.code y_Do_shortenWays c_Do_shortenWays 8 (none)) { frames := 1, cells := 0, slots := 0, locals := 22 } D (xL sd) ad cI M [.ref (ad 2), .int (zI (a)), .int (zI (b))] (fun u => u = xShN M a b 12) := by
  refine z_of (cc := c_Do_shortenWays) (maxL := 8) (ret := none) (own := "PersonSeeds$Doors") (by decide) rfl rfl (Nat.le_of_ble_eq_true rfl) ?_
  intro p e s m below meth c ls hF hr hX hK hl
  obtain ⟨hx, hb, hml, hown, hlk⟩ := id hF
  have hS : va_S (zA ad (xL sd)) s.heap s.heap [] := va_S.rf
  have hl : lv_has ls 8 [(0, .ref (ad 2)), (1, .int (zI (a))), (2, .int (zI (b)))] := hl
  refine z_const hx hb d_Do_shortenWays_0 ?_
  refine lv_istore_n (lv' := [(3, .int (zI (0))), (0, .ref (ad 2)), (1, .int (zI (a))), (2, .int (zI (b)))]) hx hb d_Do_shortenWays_1 rfl hl (by decide) rfl (fun ls hl => ?_)
  have loop2 : ∀ (n2 : Nat) (i0 : Nat) (H : Heap) (locs : List Loc) (ls : Array Slot), i0 ≤ 12 → 12 - i0 < n2 → zX D (xL sd) ad cI (xShN M a b i0) H → va_S (zA ad (xL sd)) s.heap H locs → lv_has ls 8 [(3, .int (zI ((i0 : Int)))), (0, .ref (ad 2)), (1, .int (zI (a))), (2, .int (zI (b)))] → W p l e { frames := 1, cells := 0, slots := 0, locals := 22 } s m ([.ref (ad 2), .int (zI (a)), .int (zI (b))] : List Value).toArray below meth c H locs 0 0 (MQ below (zQv D (xL sd) ad cI (fun u => u = xShN M a b 12)) ([.ref (ad 2), .int (zI (a)), .int (zI (b))] : List Value).toArray s 0 0 (zA ad (xL sd))) (F0 m 2 ls []) := by
    intro n2
    induction n2 with
    | zero => intro i0 H locs ls hI hn; exact absurd hn (Nat.not_lt_zero _)
    | succ n2 ih2 =>
      intro i0 H locs ls hI2 hn2 hX hS hl
      refine lv_iload_n hx hb d_Do_shortenWays_2 rfl (lv_at hl 0 rfl) ?_
      refine z_bipush hx hb d_Do_shortenWays_3 (by decide) ?_
      refine z_icmp_ge (a := (i0 : Int)) (b := 12) (tgt := 99) hx hb d_Do_shortenWays_5 (by decide) (by omega) (fun hb_1 => ?_) (fun hb_2 => ?_)
      · skip
        exact z_vret (post := fun u => u = xShN M a b 12) hx hb hr hlk hK hX hS (by rw [show i0 = 12 by omega]) d_Do_shortenWays_99
      · skip
        refine z_const hx hb d_Do_shortenWays_8 ?_
        refine lv_istore (lv' := [(4, .int (zI (0))), (3, .int (zI ((i0 : Int)))), (0, .ref (ad 2)), (1, .int (zI (a))), (2, .int (zI (b)))]) hx hb d_Do_shortenWays_9 hl (by decide) rfl (fun ls hl => ?_)
        have loop11 : ∀ (n11 : Nat) (j0 : Nat) (H : Heap) (locs : List Loc) (ls : Array Slot), j0 ≤ 12 → 12 - j0 < n11 → zX D (xL sd) ad cI (xShR (xShN M a b i0) a b i0 j0) H → va_S (zA ad (xL sd)) s.heap H locs → lv_has ls 8 [(4, .int (zI ((j0 : Int)))), (3, .int (zI ((i0 : Int)))), (0, .ref (ad 2)), (1, .int (zI (a))), (2, .int (zI (b)))] → W p l e { frames := 1, cells := 0, slots := 0, locals := 22 } s m ([.ref (ad 2), .int (zI (a)), .int (zI (b))] : List Value).toArray below meth c H locs 0 0 (MQ below (zQv D (xL sd) ad cI (fun u => u = xShN M a b 12)) ([.ref (ad 2), .int (zI (a)), .int (zI (b))] : List Value).toArray s 0 0 (zA ad (xL sd))) (F0 m 11 ls []) := by
          intro n11
          induction n11 with
          | zero => intro j0 H locs ls hI hn; exact absurd hn (Nat.not_lt_zero _)
          | succ n11 ih11 =>
            intro j0 H locs ls hI11 hn11 hX hS hl
            have hq := xShR_b (M := xShN M a b i0) (xShN_b h3 h1 h2 i0 (by omega)) (a := a) (b := b) (i := (i0 : Int)) h1 h2 (by omega) j0 hI11
            generalize hMq : xShR (xShN M a b i0) a b i0 j0 = Mq at hX hq
            have q1 := hq ((i0 : Int) * 12 + a) (by omega) (by omega)
            have q2 := hq ((i0 : Int) * 12 + b) (by omega) (by omega)
            have q3 : (j0 : Int) < 12 → 0 ≤ Mq 15 (a * 12 + (j0 : Int)) ∧ Mq 15 (a * 12 + (j0 : Int)) ≤ 1000 := fun h9 => hq _ (by omega) (by omega)
            have q4 : (j0 : Int) < 12 → 0 ≤ Mq 15 (b * 12 + (j0 : Int)) ∧ Mq 15 (b * 12 + (j0 : Int)) ≤ 1000 := fun h9 => hq _ (by omega) (by omega)
            have q5 : (j0 : Int) < 12 → 0 ≤ Mq 15 ((i0 : Int) * 12 + (j0 : Int)) ∧ Mq 15 ((i0 : Int) * 12 + (j0 : Int)) ≤ 1000 := fun h9 => hq _ (by omega) (by omega)
            refine lv_iload hx hb d_Do_shortenWays_11 (lv_at hl 0 rfl) ?_
            refine z_bipush hx hb d_Do_shortenWays_13 (by decide) ?_
            refine z_icmp_ge (a := (j0 : Int)) (b := 12) (tgt := 93) hx hb d_Do_shortenWays_15 (by decide) (by omega) (fun hb_3 => ?_) (fun hb_4 => ?_)
            · skip
              refine z_iinc (lv' := [(3, .int (zI ((i0 : Int) + 1))), (4, .int (zI ((j0 : Int)))), (0, .ref (ad 2)), (1, .int (zI (a))), (2, .int (zI (b)))]) hx hb d_Do_shortenWays_93 hl (k := 1) rfl (by decide) rfl (fun ls hl => ?_)
              refine lv_goto (tgt := 2) hx hb d_Do_shortenWays_96 (by decide) ?_
              exact ih2 (i0 + 1) _ _ _ (by omega) (by omega) (by have e9 : xShN M a b (i0 + 1) = Mq := (by rw [← hMq, show j0 = 12 by omega]; rfl); rw [e9]; exact hX) hS (lv_sub hl [0, 2, 3, 4] rfl)
            · skip
              refine lv_aload_n hx hb d_Do_shortenWays_18 rfl (lv_at hl 2 rfl) ?_
              refine lv_iload_n hx hb d_Do_shortenWays_19 rfl (lv_at hl 1 rfl) ?_
              refine lv_iload_n hx hb d_Do_shortenWays_20 rfl (lv_at hl 3 rfl) ?_
              refine z_callVi hF (k_Do_steps l D ad cI sd Mq (i0 : Int) a (by omega) (by omega)) (hK.cV 2 tw_312 tw_309 tw_3 tw_311 ts_7 (by decide +kernel) rfl rfl ⟨Nat.le_of_ble_eq_true rfl, Nat.le_of_ble_eq_true rfl⟩) hK hX hS rfl rfl rfl hl.1 rfl (Nat.le_of_ble_eq_true rfl) d_Do_shortenWays_21 ⟨Nat.zero_le _, Nat.zero_le _⟩ (fun z u H locs rg_5 hp hX hS => ?_)
              obtain ⟨hz, hu⟩ := hp
              rw [hu] at hX
              have hz : z = (Mq 15 ((i0 : Int) * 12 + a)) := hz
              subst hz
              refine z_const hx hb d_Do_shortenWays_24 ?_
              refine z_iadd hx hb d_Do_shortenWays_25 ?_
              refine lv_aload_n hx hb d_Do_shortenWays_26 rfl (lv_at hl 2 rfl) ?_
              refine lv_iload_n hx hb d_Do_shortenWays_27 rfl (lv_at hl 4 rfl) ?_
              refine lv_iload hx hb d_Do_shortenWays_28 (lv_at hl 0 rfl) ?_
              refine z_callVi hF (k_Do_steps l D ad cI sd Mq b (j0 : Int) (by omega) (by omega)) (hK.cV 2 tw_312 tw_309 tw_3 tw_311 ts_7 (by decide +kernel) rfl rfl ⟨Nat.le_of_ble_eq_true rfl, Nat.le_of_ble_eq_true rfl⟩) hK hX hS rfl rfl rfl hl.1 rfl (Nat.le_of_ble_eq_true rfl) d_Do_shortenWays_30 ⟨Nat.zero_le _, Nat.zero_le _⟩ (fun z u H locs rg_6 hp hX hS => ?_)
              obtain ⟨hz, hu⟩ := hp
              rw [hu] at hX
              have hz : z = (Mq 15 (b * 12 + (j0 : Int))) := hz
              subst hz
              refine z_iadd hx hb d_Do_shortenWays_33 ?_
              refine lv_istore (lv' := [(5, .int (zI (((Mq 15 ((i0 : Int) * 12 + a)) + 1) + (Mq 15 (b * 12 + (j0 : Int)))))), (4, .int (zI ((j0 : Int)))), (3, .int (zI ((i0 : Int)))), (0, .ref (ad 2)), (1, .int (zI (a))), (2, .int (zI (b)))]) hx hb d_Do_shortenWays_34 hl (by decide) rfl (fun ls hl => ?_)
              refine lv_aload_n hx hb d_Do_shortenWays_36 rfl (lv_at hl 3 rfl) ?_
              refine lv_iload_n hx hb d_Do_shortenWays_37 rfl (lv_at hl 2 rfl) ?_
              refine lv_iload_n hx hb d_Do_shortenWays_38 rfl (lv_at hl 5 rfl) ?_
              refine z_callVi hF (k_Do_steps l D ad cI sd Mq (i0 : Int) b (by omega) (by omega)) (hK.cV 2 tw_312 tw_309 tw_3 tw_311 ts_7 (by decide +kernel) rfl rfl ⟨Nat.le_of_ble_eq_true rfl, Nat.le_of_ble_eq_true rfl⟩) hK hX hS rfl rfl rfl hl.1 rfl (Nat.le_of_ble_eq_true rfl) d_Do_shortenWays_39 ⟨Nat.zero_le _, Nat.zero_le _⟩ (fun z u H locs rg_7 hp hX hS => ?_)
              obtain ⟨hz, hu⟩ := hp
              rw [hu] at hX
              have hz : z = (Mq 15 ((i0 : Int) * 12 + b)) := hz
              subst hz
              refine z_const hx hb d_Do_shortenWays_42 ?_
              refine z_iadd hx hb d_Do_shortenWays_43 ?_
              refine lv_aload_n hx hb d_Do_shortenWays_44 rfl (lv_at hl 3 rfl) ?_
              refine lv_iload_n hx hb d_Do_shortenWays_45 rfl (lv_at hl 4 rfl) ?_
              refine lv_iload hx hb d_Do_shortenWays_46 (lv_at hl 1 rfl) ?_
              refine z_callVi hF (k_Do_steps l D ad cI sd Mq a (j0 : Int) (by omega) (by omega)) (hK.cV 2 tw_312 tw_309 tw_3 tw_311 ts_7 (by decide +kernel) rfl rfl ⟨Nat.le_of_ble_eq_true rfl, Nat.le_of_ble_eq_true rfl⟩) hK hX hS rfl rfl rfl hl.1 rfl (Nat.le_of_ble_eq_true rfl) d_Do_shortenWays_48 ⟨Nat.zero_le _, Nat.zero_le _⟩ (fun z u H locs rg_8 hp hX hS => ?_)
              obtain ⟨hz, hu⟩ := hp
              rw [hu] at hX
              have hz : z = (Mq 15 (a * 12 + (j0 : Int))) := hz
              subst hz
              refine z_iadd hx hb d_Do_shortenWays_51 ?_
              refine lv_istore (lv' := [(6, .int (zI (((Mq 15 ((i0 : Int) * 12 + b)) + 1) + (Mq 15 (a * 12 + (j0 : Int)))))), (5, .int (zI (((Mq 15 ((i0 : Int) * 12 + a)) + 1) + (Mq 15 (b * 12 + (j0 : Int)))))), (4, .int (zI ((j0 : Int)))), (3, .int (zI ((i0 : Int)))), (0, .ref (ad 2)), (1, .int (zI (a))), (2, .int (zI (b)))]) hx hb d_Do_shortenWays_52 hl (by decide) rfl (fun ls hl => ?_)
              refine lv_iload hx hb d_Do_shortenWays_54 (lv_at hl 1 rfl) ?_
              refine lv_iload hx hb d_Do_shortenWays_56 (lv_at hl 0 rfl) ?_
              refine z_mmin (a := ((Mq 15 ((i0 : Int) * 12 + a)) + 1) + (Mq 15 (b * 12 + (j0 : Int)))) (b := ((Mq 15 ((i0 : Int) * 12 + b)) + 1) + (Mq 15 (a * 12 + (j0 : Int)))) hx hb (hml.trans hl.1.symm) hown hK tw_313 tw_314 tw_13 tw_315 (Nat.le_of_ble_eq_true rfl) (Nat.le_of_ble_eq_true rfl) (Nat.zero_le _) (Nat.zero_le _) (by omega) d_Do_shortenWays_58 ?_
              refine lv_istore (lv' := [(7, .int (zI (min (((Mq 15 ((i0 : Int) * 12 + a)) + 1) + (Mq 15 (b * 12 + (j0 : Int)))) (((Mq 15 ((i0 : Int) * 12 + b)) + 1) + (Mq 15 (a * 12 + (j0 : Int))))))), (6, .int (zI (((Mq 15 ((i0 : Int) * 12 + b)) + 1) + (Mq 15 (a * 12 + (j0 : Int)))))), (5, .int (zI (((Mq 15 ((i0 : Int) * 12 + a)) + 1) + (Mq 15 (b * 12 + (j0 : Int)))))), (4, .int (zI ((j0 : Int)))), (3, .int (zI ((i0 : Int)))), (0, .ref (ad 2)), (1, .int (zI (a))), (2, .int (zI (b)))]) hx hb d_Do_shortenWays_61 hl (by decide) rfl (fun ls hl => ?_)
              refine lv_aload_n hx hb d_Do_shortenWays_63 rfl (lv_at hl 5 rfl) ?_
              refine z_getr hx hb iw_Do hown hK hX 2 rfl rfl 7 (by decide) tw_68 (fun _ h => h) 15 rfl d_Do_shortenWays_64 ?_
              refine lv_iload_n hx hb d_Do_shortenWays_67 rfl (lv_at hl 4 rfl) ?_
              refine z_bipush hx hb d_Do_shortenWays_68 (by decide) ?_
              refine z_imul hx hb d_Do_shortenWays_70 ?_
              refine lv_iload hx hb d_Do_shortenWays_71 (lv_at hl 3 rfl) ?_
              refine z_iadd hx hb d_Do_shortenWays_73 ?_
              refine lv_aload_n hx hb d_Do_shortenWays_74 rfl (lv_at hl 5 rfl) ?_
              refine lv_iload_n hx hb d_Do_shortenWays_75 rfl (lv_at hl 4 rfl) ?_
              refine lv_iload hx hb d_Do_shortenWays_76 (lv_at hl 3 rfl) ?_
              refine z_callVi hF (k_Do_steps l D ad cI sd Mq (i0 : Int) (j0 : Int) (by omega) (by omega)) (hK.cV 2 tw_312 tw_309 tw_3 tw_311 ts_7 (by decide +kernel) rfl rfl ⟨Nat.le_of_ble_eq_true rfl, Nat.le_of_ble_eq_true rfl⟩) hK hX hS rfl rfl rfl hl.1 rfl (Nat.le_of_ble_eq_true rfl) d_Do_shortenWays_78 ⟨Nat.zero_le _, Nat.zero_le _⟩ (fun z u H locs rg_9 hp hX hS => ?_)
              obtain ⟨hz, hu⟩ := hp
              rw [hu] at hX
              have hz : z = (Mq 15 ((i0 : Int) * 12 + (j0 : Int))) := hz
              subst hz
              refine lv_iload hx hb d_Do_shortenWays_81 (lv_at hl 0 rfl) ?_
              refine z_mmin (a := (Mq 15 ((i0 : Int) * 12 + (j0 : Int)))) (b := min (((Mq 15 ((i0 : Int) * 12 + a)) + 1) + (Mq 15 (b * 12 + (j0 : Int)))) (((Mq 15 ((i0 : Int) * 12 + b)) + 1) + (Mq 15 (a * 12 + (j0 : Int))))) hx hb (hml.trans hl.1.symm) hown hK tw_313 tw_314 tw_13 tw_315 (Nat.le_of_ble_eq_true rfl) (Nat.le_of_ble_eq_true rfl) (Nat.zero_le _) (Nat.zero_le _) (by omega) d_Do_shortenWays_83 ?_
              refine z_iast (i := ((i0 : Int) * 12) + (j0 : Int)) (v := min (Mq 15 ((i0 : Int) * 12 + (j0 : Int))) (min (((Mq 15 ((i0 : Int) * 12 + a)) + 1) + (Mq 15 (b * 12 + (j0 : Int)))) (((Mq 15 ((i0 : Int) * 12 + b)) + 1) + (Mq 15 (a * 12 + (j0 : Int)))))) hx hb hK hX hS 15 rfl (by omega) (by decide) (by omega) d_Do_shortenWays_86 (fun H locs hX hS => ?_)
              refine z_iinc (lv' := [(4, .int (zI ((j0 : Int) + 1))), (7, .int (zI (min (((Mq 15 ((i0 : Int) * 12 + a)) + 1) + (Mq 15 (b * 12 + (j0 : Int)))) (((Mq 15 ((i0 : Int) * 12 + b)) + 1) + (Mq 15 (a * 12 + (j0 : Int))))))), (6, .int (zI (((Mq 15 ((i0 : Int) * 12 + b)) + 1) + (Mq 15 (a * 12 + (j0 : Int)))))), (5, .int (zI (((Mq 15 ((i0 : Int) * 12 + a)) + 1) + (Mq 15 (b * 12 + (j0 : Int)))))), (3, .int (zI ((i0 : Int)))), (0, .ref (ad 2)), (1, .int (zI (a))), (2, .int (zI (b)))]) hx hb d_Do_shortenWays_87 hl (k := 3) rfl (by decide) rfl (fun ls hl => ?_)
              refine lv_goto (tgt := 11) hx hb d_Do_shortenWays_90 (by decide) ?_
              exact ih11 (j0 + 1) _ _ _ (by omega) (by omega) (by have e9 : xShR (xShN M a b i0) a b i0 (j0 + 1) = zU Mq 15 (((i0 : Int) * 12) + (j0 : Int)) (min (Mq 15 ((i0 : Int) * 12 + (j0 : Int))) (min (((Mq 15 ((i0 : Int) * 12 + a)) + 1) + (Mq 15 (b * 12 + (j0 : Int)))) (((Mq 15 ((i0 : Int) * 12 + b)) + 1) + (Mq 15 (a * 12 + (j0 : Int)))))) := (by rw [← hMq]; rfl); rw [e9]; exact hX) hS (lv_sub hl [0, 4, 5, 6, 7] rfl)
        exact loop11 _ 0 _ _ _ (by omega) (Nat.lt_succ_self _) hX hS (lv_sub hl [0, 1, 2, 3, 4] rfl)
  exact loop2 _ 0 _ _ _ (by omega) (Nat.lt_succ_self _) hX hS (lv_sub hl [0, 1, 2, 3] rfl)
set_option maxHeartbeats 4000000 in
set_option maxRecDepth 100000 in
theorem k_Pe_drawn (l : Launch) (D : va_G) (ad : Nat → Nat) (cI : Nat → ClassId) (sd : Int64) (M : zM) (p1 k1 m1 : Int) (h1 : 1 ≤ m1 ∧ m1 ≤ 2147483647) : zMi l y_Pe_drawn (.code y_Pe_drawn c_Pe_drawn 6 (some .int)) { frames := 0, cells := 0, slots := 0, locals := 0 } D (xL sd) ad cI M [.ref (ad 4), .int (zI (p1)), .int (zI (k1)), .int (zI (m1))] (fun z u => z = (xDraw sd p1 k1 m1) ∧ u = M) := by
  refine z_of (cc := c_Pe_drawn) (maxL := 6) (ret := some .int) (own := "PersonSeeds$Persons") (by decide) rfl rfl (Nat.le_of_ble_eq_true rfl) ?_
  intro p e s m below meth c ls hF hr hX hK hl
  obtain ⟨hx, hb, hml, hown, hlk⟩ := id hF
  have hS : va_S (zA ad (xL sd)) s.heap s.heap [] := va_S.rf
  have hl : lv_has ls 6 [(0, .ref (ad 4)), (1, .int (zI (p1))), (2, .int (zI (k1))), (3, .int (zI (m1)))] := hl
  refine lv_iload_n hx hb d_Pe_drawn_0 rfl (lv_at hl 3 rfl) ?_
  refine z_const hx hb d_Pe_drawn_1 ?_
  refine z_icmp_ge (a := m1) (b := 1) (tgt := 7) hx hb d_Pe_drawn_2 (by decide) (by omega) (fun hb_1 => ?_) (fun hb_2 => ?_)
  · skip
    refine lv_aload_n hx hb d_Pe_drawn_7 rfl (lv_at hl 0 rfl) ?_
    refine z_getl hx hb iw_Pe hown hK hX 4 rfl rfl 0 (by decide) tw_108 (fun _ h => h) sd rfl d_Pe_drawn_8 ?_
    refine z_ldc2 (v := -7046029254386353131) hx hb hown hK tw_283 d_Pe_drawn_11 ?_
    refine z_bipush hx hb d_Pe_drawn_14 (by decide) ?_
    refine lv_iload_n hx hb d_Pe_drawn_16 rfl (lv_at hl 1 rfl) ?_
    refine z_imul hx hb d_Pe_drawn_17 ?_
    refine lv_iload_n hx hb d_Pe_drawn_18 rfl (lv_at hl 2 rfl) ?_
    refine z_iadd hx hb d_Pe_drawn_19 ?_
    refine z_const hx hb d_Pe_drawn_20 ?_
    refine z_iadd hx hb d_Pe_drawn_21 ?_
    refine lv_i2l hx hb d_Pe_drawn_22 rfl ?_
    refine lv_lmul hx hb d_Pe_drawn_23 ?_
    refine lv_ladd hx hb d_Pe_drawn_24 ?_
    refine lv_lstore (lv' := [(4, .long (sd + ((-7046029254386353131 : Int64) * ((zI (((8 * p1) + k1) + 1)).toInt64)))), (0, .ref (ad 4)), (1, .int (zI (p1))), (2, .int (zI (k1))), (3, .int (zI (m1)))]) hx hb d_Pe_drawn_25 hl (by decide) rfl (fun ls hl => ?_)
    have hl : lv_has ls 6 [(4, .long (xZ0 sd p1 k1)), (0, .ref (ad 4)), (1, .int (zI (p1))), (2, .int (zI (k1))), (3, .int (zI (m1)))] := hl
    refine lv_lload hx hb d_Pe_drawn_27 (lv_at hl 0 rfl) ?_
    refine lv_lload hx hb d_Pe_drawn_29 (lv_at hl 0 rfl) ?_
    refine z_bipush hx hb d_Pe_drawn_31 (by decide) ?_
    refine lv_lushr (v := xSr (xZ0 sd p1 k1) 30) hx hb d_Pe_drawn_33 rfl ?_
    refine lv_lxor hx hb d_Pe_drawn_34 ?_
    refine z_ldc2 (v := -4658895280553007687) hx hb hown hK tw_284 d_Pe_drawn_35 ?_
    refine lv_lmul hx hb d_Pe_drawn_38 ?_
    refine lv_lstore (lv' := [(4, .long (((xZ0 sd p1 k1) ^^^ (xSr (xZ0 sd p1 k1) 30)) * (-4658895280553007687 : Int64))), (0, .ref (ad 4)), (1, .int (zI (p1))), (2, .int (zI (k1))), (3, .int (zI (m1)))]) hx hb d_Pe_drawn_39 hl (by decide) rfl (fun ls hl => ?_)
    have hl : lv_has ls 6 [(4, .long (xZ1 sd p1 k1)), (0, .ref (ad 4)), (1, .int (zI (p1))), (2, .int (zI (k1))), (3, .int (zI (m1)))] := hl
    refine lv_lload hx hb d_Pe_drawn_41 (lv_at hl 0 rfl) ?_
    refine lv_lload hx hb d_Pe_drawn_43 (lv_at hl 0 rfl) ?_
    refine z_bipush hx hb d_Pe_drawn_45 (by decide) ?_
    refine lv_lushr (v := xSr (xZ1 sd p1 k1) 27) hx hb d_Pe_drawn_47 rfl ?_
    refine lv_lxor hx hb d_Pe_drawn_48 ?_
    refine z_ldc2 (v := -7723592293110705685) hx hb hown hK tw_285 d_Pe_drawn_49 ?_
    refine lv_lmul hx hb d_Pe_drawn_52 ?_
    refine lv_lstore (lv' := [(4, .long (((xZ1 sd p1 k1) ^^^ (xSr (xZ1 sd p1 k1) 27)) * (-7723592293110705685 : Int64))), (0, .ref (ad 4)), (1, .int (zI (p1))), (2, .int (zI (k1))), (3, .int (zI (m1)))]) hx hb d_Pe_drawn_53 hl (by decide) rfl (fun ls hl => ?_)
    have hl : lv_has ls 6 [(4, .long (xZ2 sd p1 k1)), (0, .ref (ad 4)), (1, .int (zI (p1))), (2, .int (zI (k1))), (3, .int (zI (m1)))] := hl
    refine lv_lload hx hb d_Pe_drawn_55 (lv_at hl 0 rfl) ?_
    refine lv_lload hx hb d_Pe_drawn_57 (lv_at hl 0 rfl) ?_
    refine z_bipush hx hb d_Pe_drawn_59 (by decide) ?_
    refine lv_lushr (v := xSr (xZ2 sd p1 k1) 31) hx hb d_Pe_drawn_61 rfl ?_
    refine lv_lxor hx hb d_Pe_drawn_62 ?_
    refine lv_lstore (lv' := [(4, .long ((xZ2 sd p1 k1) ^^^ (xSr (xZ2 sd p1 k1) 31))), (0, .ref (ad 4)), (1, .int (zI (p1))), (2, .int (zI (k1))), (3, .int (zI (m1)))]) hx hb d_Pe_drawn_63 hl (by decide) rfl (fun ls hl => ?_)
    have hl : lv_has ls 6 [(4, .long (xZ3 sd p1 k1)), (0, .ref (ad 4)), (1, .int (zI (p1))), (2, .int (zI (k1))), (3, .int (zI (m1)))] := hl
    refine lv_lload hx hb d_Pe_drawn_65 (lv_at hl 0 rfl) ?_
    refine z_const hx hb d_Pe_drawn_67 ?_
    refine lv_lushr (v := xSr (xZ3 sd p1 k1) 1) hx hb d_Pe_drawn_68 rfl ?_
    refine lv_iload_n hx hb d_Pe_drawn_69 rfl (lv_at hl 4 rfl) ?_
    refine lv_i2l hx hb d_Pe_drawn_70 rfl ?_
    refine lv_lrem hx hb d_Pe_drawn_71 (zI_long (by omega)) ?_
    refine lv_l2i hx hb d_Pe_drawn_72 rfl ?_
    refine z_raw ?_
    exact z_iret (z := (((xSr (xZ3 sd p1 k1) 1) - (xSr (xZ3 sd p1 k1) 1) / ((zI (m1)).toInt64) * ((zI (m1)).toInt64)).toInt32).toInt) (post := fun z u => z = (xDraw sd p1 k1 m1) ∧ u = M) hx hb hr hlk hK hX hS (zI_rg _) ⟨rfl, rfl⟩ d_Pe_drawn_73
  · skip
    refine z_const hx hb d_Pe_drawn_5 ?_
    exfalso
    omega

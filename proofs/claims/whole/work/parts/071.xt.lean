set_option maxHeartbeats 4000000 in
set_option maxRecDepth 100000 in
theorem k_chkB (l : Launch) (hlt : l.stackTraces = false) (D : va_G) (ad : Nat → Nat) (cI : Nat → ClassId) (sd : Int64) (M : zM) (a b c1 : Int) (h1 : -2147483648 ≤ a ∧ a ≤ 2147483647) (h2 : -2147483648 ≤ b ∧ b ≤ 2147483647) (h3 : -2147483648 ≤ c1 ∧ c1 ≤ 2147483647) : zTv l y_PS_checkBounds (.code y_PS_checkBounds c_PS_checkBounds 3 (none)) { frames := 6, cells := 1, slots := 6, locals := 90 } D (xL sd) ad cI M [.int (zI (a)), .int (zI (b)), .int (zI (c1))] (fun u => ((b ≤ a ∧ a ≤ c1)) ∧ u = M) (fun E => (E = "java/lang/IllegalArgumentException" ∧ ¬ (b ≤ a ∧ a ≤ c1))) 1 6 := by
  refine zt_of (cc := c_PS_checkBounds) (maxL := 3) (ret := none) (own := "PersonSeeds") (by decide) rfl rfl (Nat.le_of_ble_eq_true rfl) ?_
  intro p e s m below meth c ls hF hr hT hX hK hth hl
  obtain ⟨hx, hb, hml, hown, hlk⟩ := id hF
  have hS : va_S (zA ad (xL sd)) s.heap s.heap [] := va_S.rf
  have hl : lv_has ls 3 [(0, .int (zI (a))), (1, .int (zI (b))), (2, .int (zI (c1)))] := hl
  refine lv_iload_n hx hb d_PS_checkBounds_0 rfl (lv_at hl 0 rfl) ?_
  refine lv_iload_n hx hb d_PS_checkBounds_1 rfl (lv_at hl 1 rfl) ?_
  refine z_icmp_lt (a := a) (b := b) (tgt := 10) hx hb d_PS_checkBounds_2 (by decide) (by omega) (fun hb_1 => ?_) (fun hb_2 => ?_)
  · skip
    obtain ⟨-, -, a1, a2, a3, g1, g2, g3⟩ := id hth
    exact zt_throw (bad := (fun E => (E = "java/lang/IllegalArgumentException" ∧ ¬ (b ≤ a ∧ a ≤ c1)))) (by rw [hml]; exact hF) hlt hT hK hX hth hS (by decide +kernel) (by decide +kernel) tw_185 tw_11 g1 zt_IAE (hl.1.trans hml.symm) d_PS_checkBounds_10 d_PS_checkBounds_13 d_PS_checkBounds_14 d_PS_checkBounds_16 d_PS_checkBounds_19 (Nat.le_of_ble_eq_true rfl) (Nat.le_of_ble_eq_true rfl) (Nat.le_of_ble_eq_true rfl) (Nat.le_of_ble_eq_true rfl) ⟨rfl, by omega⟩ (Nat.le_of_ble_eq_true rfl) (Nat.le_of_ble_eq_true rfl)
  · skip
    refine lv_iload_n hx hb d_PS_checkBounds_5 rfl (lv_at hl 0 rfl) ?_
    refine lv_iload_n hx hb d_PS_checkBounds_6 rfl (lv_at hl 2 rfl) ?_
    refine z_icmp_le (a := a) (b := c1) (tgt := 20) hx hb d_PS_checkBounds_7 (by decide) (by omega) (fun hb_3 => ?_) (fun hb_4 => ?_)
    · skip
      exact zt_vret (post := (fun u => ((b ≤ a ∧ a ≤ c1)) ∧ u = M)) hx hb hr hlk hK hX hS ⟨by omega, rfl⟩ (Nat.le_of_ble_eq_true rfl) (Nat.le_of_ble_eq_true rfl) d_PS_checkBounds_20
    · skip
      obtain ⟨-, -, a1, a2, a3, g1, g2, g3⟩ := id hth
      exact zt_throw (bad := (fun E => (E = "java/lang/IllegalArgumentException" ∧ ¬ (b ≤ a ∧ a ≤ c1)))) (by rw [hml]; exact hF) hlt hT hK hX hth hS (by decide +kernel) (by decide +kernel) tw_185 tw_11 g1 zt_IAE (hl.1.trans hml.symm) d_PS_checkBounds_10 d_PS_checkBounds_13 d_PS_checkBounds_14 d_PS_checkBounds_16 d_PS_checkBounds_19 (Nat.le_of_ble_eq_true rfl) (Nat.le_of_ble_eq_true rfl) (Nat.le_of_ble_eq_true rfl) (Nat.le_of_ble_eq_true rfl) ⟨rfl, by omega⟩ (Nat.le_of_ble_eq_true rfl) (Nat.le_of_ble_eq_true rfl)
set_option maxHeartbeats 4000000 in
set_option maxRecDepth 100000 in
theorem k_chkD (l : Launch) (hlt : l.stackTraces = false) (D : va_G) (ad : Nat → Nat) (cI : Nat → ClassId) (sd : Int64) (M : zM) (a b : Int) (h1 : -2147483648 ≤ a ∧ a ≤ 2147483647) (h2 : -2147483648 ≤ b ∧ b ≤ 2147483647) : zTv l y_PS_checkDifferent (.code y_PS_checkDifferent c_PS_checkDifferent 2 (none)) { frames := 6, cells := 1, slots := 6, locals := 90 } D (xL sd) ad cI M [.int (zI (a)), .int (zI (b))] (fun u => ((¬ a = b)) ∧ u = M) (fun E => (E = "java/lang/IllegalArgumentException" ∧ ¬ (¬ a = b))) 1 6 := by
  refine zt_of (cc := c_PS_checkDifferent) (maxL := 2) (ret := none) (own := "PersonSeeds") (by decide) rfl rfl (Nat.le_of_ble_eq_true rfl) ?_
  intro p e s m below meth c ls hF hr hT hX hK hth hl
  obtain ⟨hx, hb, hml, hown, hlk⟩ := id hF
  have hS : va_S (zA ad (xL sd)) s.heap s.heap [] := va_S.rf
  have hl : lv_has ls 2 [(0, .int (zI (a))), (1, .int (zI (b)))] := hl
  refine lv_iload_n hx hb d_PS_checkDifferent_0 rfl (lv_at hl 0 rfl) ?_
  refine lv_iload_n hx hb d_PS_checkDifferent_1 rfl (lv_at hl 1 rfl) ?_
  refine z_icmp_ne (a := a) (b := b) (tgt := 15) hx hb d_PS_checkDifferent_2 (by decide) (by omega) (fun hb_1 => ?_) (fun hb_2 => ?_)
  · skip
    exact zt_vret (post := (fun u => ((¬ a = b)) ∧ u = M)) hx hb hr hlk hK hX hS ⟨by omega, rfl⟩ (Nat.le_of_ble_eq_true rfl) (Nat.le_of_ble_eq_true rfl) d_PS_checkDifferent_15
  · skip
    obtain ⟨-, -, a1, a2, a3, g1, g2, g3⟩ := id hth
    exact zt_throw (bad := (fun E => (E = "java/lang/IllegalArgumentException" ∧ ¬ (¬ a = b)))) (by rw [hml]; exact hF) hlt hT hK hX hth hS (by decide +kernel) (by decide +kernel) tw_185 tw_11 g2 zt_IAE (hl.1.trans hml.symm) d_PS_checkDifferent_5 d_PS_checkDifferent_8 d_PS_checkDifferent_9 d_PS_checkDifferent_11 d_PS_checkDifferent_14 (Nat.le_of_ble_eq_true rfl) (Nat.le_of_ble_eq_true rfl) (Nat.le_of_ble_eq_true rfl) (Nat.le_of_ble_eq_true rfl) ⟨rfl, by omega⟩ (Nat.le_of_ble_eq_true rfl) (Nat.le_of_ble_eq_true rfl)
set_option maxHeartbeats 4000000 in
set_option maxRecDepth 100000 in
theorem k_chkS (l : Launch) (hlt : l.stackTraces = false) (D : va_G) (ad : Nat → Nat) (cI : Nat → ClassId) (sd : Int64) (M : zM) (a : Int) (h1 : -2147483648 ≤ a ∧ a ≤ 2147483647) : zTv l y_PS_checkState (.code y_PS_checkState c_PS_checkState 1 (none)) { frames := 6, cells := 1, slots := 6, locals := 90 } D (xL sd) ad cI M [.int (zI (a))] (fun u => ((¬ a = 0)) ∧ u = M) (fun E => (E = "java/lang/IllegalStateException" ∧ ¬ (¬ a = 0))) 1 6 := by
  refine zt_of (cc := c_PS_checkState) (maxL := 1) (ret := none) (own := "PersonSeeds") (by decide) rfl rfl (Nat.le_of_ble_eq_true rfl) ?_
  intro p e s m below meth c ls hF hr hT hX hK hth hl
  obtain ⟨hx, hb, hml, hown, hlk⟩ := id hF
  have hS : va_S (zA ad (xL sd)) s.heap s.heap [] := va_S.rf
  have hl : lv_has ls 1 [(0, .int (zI (a)))] := hl
  refine lv_iload_n hx hb d_PS_checkState_0 rfl (lv_at hl 0 rfl) ?_
  refine z_if_ne (a := a) (tgt := 14) hx hb d_PS_checkState_1 (by decide) (by omega) (fun hb_1 => ?_) (fun hb_2 => ?_)
  · skip
    exact zt_vret (post := (fun u => ((¬ a = 0)) ∧ u = M)) hx hb hr hlk hK hX hS ⟨by omega, rfl⟩ (Nat.le_of_ble_eq_true rfl) (Nat.le_of_ble_eq_true rfl) d_PS_checkState_14
  · skip
    obtain ⟨-, -, a1, a2, a3, g1, g2, g3⟩ := id hth
    exact zt_throw (bad := (fun E => (E = "java/lang/IllegalStateException" ∧ ¬ (¬ a = 0)))) (by rw [hml]; exact hF) hlt hT hK hX hth hS (by decide +kernel) (by decide +kernel) tw_255 tw_12 g3 zt_ISE (hl.1.trans hml.symm) d_PS_checkState_4 d_PS_checkState_7 d_PS_checkState_8 d_PS_checkState_10 d_PS_checkState_13 (Nat.le_of_ble_eq_true rfl) (Nat.le_of_ble_eq_true rfl) (Nat.le_of_ble_eq_true rfl) (Nat.le_of_ble_eq_true rfl) ⟨rfl, by omega⟩ (Nat.le_of_ble_eq_true rfl) (Nat.le_of_ble_eq_true rfl)
set_option maxHeartbeats 4000000 in
set_option maxRecDepth 100000 in
theorem k_chkR (l : Launch) (hlt : l.stackTraces = false) (D : va_G) (ad : Nat → Nat) (cI : Nat → ClassId) (sd : Int64) (M : zM) (a : Int) (h1 : -2147483648 ≤ a ∧ a ≤ 2147483647) (h2 : 0 ≤ M 1 0 ∧ M 1 0 ≤ 12) : zTv l y_PS_checkRoom (.code y_PS_checkRoom c_PS_checkRoom 2 (none)) { frames := 7, cells := 1, slots := 6, locals := 112 } D (xL sd) ad cI M [.ref (ad 0), .int (zI (a))] (fun u => ((0 ≤ a ∧ a < M 1 0)) ∧ u = M) (fun E => (E = "java/lang/IllegalArgumentException" ∧ ¬ (0 ≤ a ∧ a < M 1 0))) 1 6 := by
  refine zt_of (cc := c_PS_checkRoom) (maxL := 2) (ret := none) (own := "PersonSeeds") (by decide) rfl rfl (Nat.le_of_ble_eq_true rfl) ?_
  intro p e s m below meth c ls hF hr hT hX hK hth hl
  obtain ⟨hx, hb, hml, hown, hlk⟩ := id hF
  have hS : va_S (zA ad (xL sd)) s.heap s.heap [] := va_S.rf
  have hl : lv_has ls 2 [(0, .ref (ad 0)), (1, .int (zI (a)))] := hl
  refine lv_iload_n hx hb d_PS_checkRoom_0 rfl (lv_at hl 1 rfl) ?_
  refine z_const hx hb d_PS_checkRoom_1 ?_
  refine lv_aload_n hx hb d_PS_checkRoom_2 rfl (lv_at hl 0 rfl) ?_
  refine z_getr hx hb iw_PS hown hK hX 0 rfl rfl 0 (by decide) tw_144 (fun _ h => h) 1 rfl d_PS_checkRoom_3 ?_
  refine z_getiN (i := 0) (v := M 1 0) hx hb iw_Ro hown hK hX 1 rfl rfl 0 (by decide) tw_29 (fun _ h => h) rfl rfl rfl d_PS_checkRoom_6 (fun rg_1 => ?_)
  refine z_const hx hb d_PS_checkRoom_9 ?_
  refine z_isub hx hb d_PS_checkRoom_10 ?_
  refine zt_callS hF hT (k_chkB l hlt D ad cI sd M a 0 ((M 1 0) - 1) (by omega) (by omega) (by omega)) (hK.cS 3 tw_184 tw_182 tw_1 tw_183 (by decide +kernel) rfl rfl ⟨Nat.le_of_ble_eq_true rfl, Nat.le_of_ble_eq_true rfl⟩) hK hX hth hS rfl hl.1 rfl (Nat.le_of_ble_eq_true rfl) d_PS_checkRoom_11 ⟨Nat.le_of_ble_eq_true rfl, Nat.le_of_ble_eq_true rfl⟩ (fun E h9 => ⟨h9.1, fun q9 => h9.2 (by omega)⟩) (Nat.le_of_ble_eq_true rfl) (Nat.le_of_ble_eq_true rfl) (fun u H locs hp hX hS => ?_)
  obtain ⟨hc_2, hu⟩ := hp
  rw [hu] at hX
  exact zt_vret (post := (fun u => ((0 ≤ a ∧ a < M 1 0)) ∧ u = M)) hx hb hr hlk hK hX hS ⟨by omega, rfl⟩ (Nat.le_of_ble_eq_true rfl) (Nat.le_of_ble_eq_true rfl) d_PS_checkRoom_14
set_option maxHeartbeats 4000000 in
set_option maxRecDepth 100000 in
theorem k_chkP (l : Launch) (hlt : l.stackTraces = false) (D : va_G) (ad : Nat → Nat) (cI : Nat → ClassId) (sd : Int64) (M : zM) (a : Int) (h1 : -2147483648 ≤ a ∧ a ≤ 2147483647) (h2 : 0 ≤ M 4 1 ∧ M 4 1 ≤ 60) : zTv l y_PS_checkPerson (.code y_PS_checkPerson c_PS_checkPerson 2 (none)) { frames := 7, cells := 1, slots := 6, locals := 112 } D (xL sd) ad cI M [.ref (ad 0), .int (zI (a))] (fun u => ((0 ≤ a ∧ a < M 4 1)) ∧ u = M) (fun E => (E = "java/lang/IllegalArgumentException" ∧ ¬ (0 ≤ a ∧ a < M 4 1))) 1 6 := by
  refine zt_of (cc := c_PS_checkPerson) (maxL := 2) (ret := none) (own := "PersonSeeds") (by decide) rfl rfl (Nat.le_of_ble_eq_true rfl) ?_
  intro p e s m below meth c ls hF hr hT hX hK hth hl
  obtain ⟨hx, hb, hml, hown, hlk⟩ := id hF
  have hS : va_S (zA ad (xL sd)) s.heap s.heap [] := va_S.rf
  have hl : lv_has ls 2 [(0, .ref (ad 0)), (1, .int (zI (a)))] := hl
  refine lv_iload_n hx hb d_PS_checkPerson_0 rfl (lv_at hl 1 rfl) ?_
  refine z_const hx hb d_PS_checkPerson_1 ?_
  refine lv_aload_n hx hb d_PS_checkPerson_2 rfl (lv_at hl 0 rfl) ?_
  refine z_getr hx hb iw_PS hown hK hX 0 rfl rfl 3 (by decide) tw_147 (fun _ h => h) 4 rfl d_PS_checkPerson_3 ?_
  refine z_getiN (i := 1) (v := M 4 1) hx hb iw_Pe hown hK hX 4 rfl rfl 1 (by decide) tw_110 (fun _ h => h) rfl rfl rfl d_PS_checkPerson_6 (fun rg_1 => ?_)
  refine z_const hx hb d_PS_checkPerson_9 ?_
  refine z_isub hx hb d_PS_checkPerson_10 ?_
  refine zt_callS hF hT (k_chkB l hlt D ad cI sd M a 0 ((M 4 1) - 1) (by omega) (by omega) (by omega)) (hK.cS 3 tw_184 tw_182 tw_1 tw_183 (by decide +kernel) rfl rfl ⟨Nat.le_of_ble_eq_true rfl, Nat.le_of_ble_eq_true rfl⟩) hK hX hth hS rfl hl.1 rfl (Nat.le_of_ble_eq_true rfl) d_PS_checkPerson_11 ⟨Nat.le_of_ble_eq_true rfl, Nat.le_of_ble_eq_true rfl⟩ (fun E h9 => ⟨h9.1, fun q9 => h9.2 (by omega)⟩) (Nat.le_of_ble_eq_true rfl) (Nat.le_of_ble_eq_true rfl) (fun u H locs hp hX hS => ?_)
  obtain ⟨hc_2, hu⟩ := hp
  rw [hu] at hX
  exact zt_vret (post := (fun u => ((0 ≤ a ∧ a < M 4 1)) ∧ u = M)) hx hb hr hlk hK hX hS ⟨by omega, rfl⟩ (Nat.le_of_ble_eq_true rfl) (Nat.le_of_ble_eq_true rfl) d_PS_checkPerson_14
set_option maxHeartbeats 4000000 in
set_option maxRecDepth 100000 in
theorem k_chkO (l : Launch) (hlt : l.stackTraces = false) (D : va_G) (ad : Nat → Nat) (cI : Nat → ClassId) (sd : Int64) (M : zM) (a : Int) (h1 : -2147483648 ≤ a ∧ a ≤ 2147483647) (h2 : 0 ≤ M 0 4 ∧ M 0 4 ≤ 2000) : zTv l y_PS_checkOver (.code y_PS_checkOver c_PS_checkOver 2 (none)) { frames := 7, cells := 1, slots := 6, locals := 112 } D (xL sd) ad cI M [.ref (ad 0), .int (zI (a))] (fun u => ((0 ≤ a ∧ a < M 0 4)) ∧ u = M) (fun E => (E = "java/lang/IllegalArgumentException" ∧ ¬ (0 ≤ a ∧ a < M 0 4))) 1 6 := by
  refine zt_of (cc := c_PS_checkOver) (maxL := 2) (ret := none) (own := "PersonSeeds") (by decide) rfl rfl (Nat.le_of_ble_eq_true rfl) ?_
  intro p e s m below meth c ls hF hr hT hX hK hth hl
  obtain ⟨hx, hb, hml, hown, hlk⟩ := id hF
  have hS : va_S (zA ad (xL sd)) s.heap s.heap [] := va_S.rf
  have hl : lv_has ls 2 [(0, .ref (ad 0)), (1, .int (zI (a)))] := hl
  refine lv_iload_n hx hb d_PS_checkOver_0 rfl (lv_at hl 1 rfl) ?_
  refine z_const hx hb d_PS_checkOver_1 ?_
  refine lv_aload_n hx hb d_PS_checkOver_2 rfl (lv_at hl 0 rfl) ?_
  refine z_geti (i := 4) (v := M 0 4) hx hb iw_PS hown hK hX 0 rfl rfl 4 (by decide) tw_148 (fun _ h => h) rfl rfl rfl d_PS_checkOver_3 (fun rg_1 => ?_)
  refine z_const hx hb d_PS_checkOver_6 ?_
  refine z_isub hx hb d_PS_checkOver_7 ?_
  refine zt_callS hF hT (k_chkB l hlt D ad cI sd M a 0 ((M 0 4) - 1) (by omega) (by omega) (by omega)) (hK.cS 3 tw_184 tw_182 tw_1 tw_183 (by decide +kernel) rfl rfl ⟨Nat.le_of_ble_eq_true rfl, Nat.le_of_ble_eq_true rfl⟩) hK hX hth hS rfl hl.1 rfl (Nat.le_of_ble_eq_true rfl) d_PS_checkOver_8 ⟨Nat.le_of_ble_eq_true rfl, Nat.le_of_ble_eq_true rfl⟩ (fun E h9 => ⟨h9.1, fun q9 => h9.2 (by omega)⟩) (Nat.le_of_ble_eq_true rfl) (Nat.le_of_ble_eq_true rfl) (fun u H locs hp hX hS => ?_)
  obtain ⟨hc_2, hu⟩ := hp
  rw [hu] at hX
  exact zt_vret (post := (fun u => ((0 ≤ a ∧ a < M 0 4)) ∧ u = M)) hx hb hr hlk hK hX hS ⟨by omega, rfl⟩ (Nat.le_of_ble_eq_true rfl) (Nat.le_of_ble_eq_true rfl) d_PS_checkOver_11

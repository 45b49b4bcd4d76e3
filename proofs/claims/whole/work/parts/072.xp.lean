set_option maxHeartbeats 4000000 in
set_option maxRecDepth 100000 in
theorem k_draw (l : Launch) (hlt : l.stackTraces = false) (D : va_G) (ad : Nat → Nat) (cI : Nat → ClassId) (sd : Int64) (M : zM) (p1 k1 m1 : Int) (g0 : -2147483648 ≤ p1 ∧ p1 ≤ 2147483647) (g1 : -2147483648 ≤ k1 ∧ k1 ≤ 2147483647) (g2 : -2147483648 ≤ m1 ∧ m1 ≤ 2147483647) (hO : xOK M) : zTi l y_PS_draw (.code y_PS_draw c_PS_draw 4 (some .int)) { frames := 7, cells := 3, slots := 18, locals := 112 } D (xL sd) ad cI M [.ref (ad 0), .int (zI (p1)), .int (zI (k1)), .int (zI (m1))] (fun z u => (((0 ≤ p1 ∧ p1 ≤ 59) ∧ (0 ≤ k1 ∧ k1 ≤ 7) ∧ (1 ≤ m1 ∧ m1 ≤ 1000000))) ∧ z = (xDraw sd p1 k1 m1) ∧ u = M) (fun E => (E = "java/lang/IllegalArgumentException" ∧ ¬ ((0 ≤ p1 ∧ p1 ≤ 59) ∧ (0 ≤ k1 ∧ k1 ≤ 7) ∧ (1 ≤ m1 ∧ m1 ≤ 1000000)))) 3 18 := by
  refine zt_of (cc := c_PS_draw) (maxL := 4) (ret := some .int) (own := "PersonSeeds") (by decide) rfl rfl (Nat.le_of_ble_eq_true rfl) ?_
  intro p e s m below meth c ls hF hr hT hX hK hth hl
  obtain ⟨hx, hb, hml, hown, hlk⟩ := id hF
  have hS : va_S (zA ad (xL sd)) s.heap s.heap [] := va_S.rf
  have hl : lv_has ls 4 [(0, .ref (ad 0)), (1, .int (zI (p1))), (2, .int (zI (k1))), (3, .int (zI (m1)))] := hl
  have o1 := hO.1
  have o2 := hO.2.1
  have o3 := hO.2.2.1
  have o4 := hO.2.2.2.1
  refine lv_iload_n hx hb d_PS_draw_0 rfl (lv_at hl 1 rfl) ?_
  refine z_const hx hb d_PS_draw_1 ?_
  refine z_bipush hx hb d_PS_draw_2 (by decide) ?_
  refine zt_callS hF hT (k_chkB l hlt D ad cI sd M p1 0 59 (by omega) (by omega) (by omega)) (hK.cS 3 tw_184 tw_182 tw_1 tw_183 (by decide +kernel) rfl rfl ⟨Nat.le_of_ble_eq_true rfl, Nat.le_of_ble_eq_true rfl⟩) hK hX hth hS rfl hl.1 rfl (Nat.le_of_ble_eq_true rfl) d_PS_draw_4 ⟨Nat.le_of_ble_eq_true rfl, Nat.le_of_ble_eq_true rfl⟩ (fun E h9 => ⟨h9.1, fun q9 => h9.2 (by omega)⟩) (Nat.le_of_ble_eq_true rfl) (Nat.le_of_ble_eq_true rfl) (fun u H locs hp hX hS => ?_)
  obtain ⟨hc_1, hu⟩ := hp
  rw [hu] at hX
  refine lv_iload_n hx hb d_PS_draw_7 rfl (lv_at hl 2 rfl) ?_
  refine z_const hx hb d_PS_draw_8 ?_
  refine z_bipush hx hb d_PS_draw_9 (by decide) ?_
  refine zt_callS hF hT (k_chkB l hlt D ad cI sd M k1 0 7 (by omega) (by omega) (by omega)) (hK.cS 3 tw_184 tw_182 tw_1 tw_183 (by decide +kernel) rfl rfl ⟨Nat.le_of_ble_eq_true rfl, Nat.le_of_ble_eq_true rfl⟩) hK hX hth hS rfl hl.1 rfl (Nat.le_of_ble_eq_true rfl) d_PS_draw_11 ⟨Nat.le_of_ble_eq_true rfl, Nat.le_of_ble_eq_true rfl⟩ (fun E h9 => ⟨h9.1, fun q9 => h9.2 (by omega)⟩) (Nat.le_of_ble_eq_true rfl) (Nat.le_of_ble_eq_true rfl) (fun u H locs hp hX hS => ?_)
  obtain ⟨hc_2, hu⟩ := hp
  rw [hu] at hX
  refine lv_iload_n hx hb d_PS_draw_14 rfl (lv_at hl 3 rfl) ?_
  refine z_const hx hb d_PS_draw_15 ?_
  refine z_ldc (n := 1000000) hx hb hown hK tw_334 d_PS_draw_16 ?_
  refine zt_callS hF hT (k_chkB l hlt D ad cI sd M m1 1 1000000 (by omega) (by omega) (by omega)) (hK.cS 3 tw_184 tw_182 tw_1 tw_183 (by decide +kernel) rfl rfl ⟨Nat.le_of_ble_eq_true rfl, Nat.le_of_ble_eq_true rfl⟩) hK hX hth hS rfl hl.1 rfl (Nat.le_of_ble_eq_true rfl) d_PS_draw_18 ⟨Nat.le_of_ble_eq_true rfl, Nat.le_of_ble_eq_true rfl⟩ (fun E h9 => ⟨h9.1, fun q9 => h9.2 (by omega)⟩) (Nat.le_of_ble_eq_true rfl) (Nat.le_of_ble_eq_true rfl) (fun u H locs hp hX hS => ?_)
  obtain ⟨hc_3, hu⟩ := hp
  rw [hu] at hX
  refine lv_aload_n hx hb d_PS_draw_21 rfl (lv_at hl 0 rfl) ?_
  refine z_getr hx hb iw_PS hown hK hX 0 rfl rfl 3 (by decide) tw_147 (fun _ h => h) 4 rfl d_PS_draw_22 ?_
  refine lv_iload_n hx hb d_PS_draw_25 rfl (lv_at hl 1 rfl) ?_
  refine lv_iload_n hx hb d_PS_draw_26 rfl (lv_at hl 2 rfl) ?_
  refine lv_iload_n hx hb d_PS_draw_27 rfl (lv_at hl 3 rfl) ?_
  refine z_callVNi hF (k_Pe_drawn l D ad cI sd M p1 k1 m1 (by omega)) (hK.cN 3 tw_282 tw_335 tw_6 tw_281 ts_3 (by decide +kernel) rfl rfl ⟨Nat.le_of_ble_eq_true rfl, Nat.le_of_ble_eq_true rfl⟩) hK hX hS rfl rfl rfl hl.1 rfl (Nat.le_of_ble_eq_true rfl) d_PS_draw_28 ⟨Nat.le_of_ble_eq_true rfl, Nat.le_of_ble_eq_true rfl⟩ (fun z u H locs rg_4 hp hX hS => ?_)
  obtain ⟨hz, hu⟩ := hp
  rw [hu] at hX
  have hz : z = (xDraw sd p1 k1 m1) := hz
  subst hz
  exact zt_iret (z := xDraw sd p1 k1 m1) (post := (fun z u => (((0 ≤ p1 ∧ p1 ≤ 59) ∧ (0 ≤ k1 ∧ k1 ≤ 7) ∧ (1 ≤ m1 ∧ m1 ≤ 1000000))) ∧ z = (xDraw sd p1 k1 m1) ∧ u = M)) hx hb hr hlk hK hX hS (by omega) ⟨by omega, rfl, rfl⟩ (Nat.le_of_ble_eq_true rfl) (Nat.le_of_ble_eq_true rfl) d_PS_draw_31
set_option maxHeartbeats 4000000 in
set_option maxRecDepth 100000 in
theorem k_at (l : Launch) (hlt : l.stackTraces = false) (D : va_G) (ad : Nat → Nat) (cI : Nat → ClassId) (sd : Int64) (M : zM) (p1 : Int) (g0 : -2147483648 ≤ p1 ∧ p1 ≤ 2147483647) (hO : xOK M) : zTi l y_PS_at (.code y_PS_at c_PS_at 2 (some .int)) { frames := 8, cells := 1, slots := 6, locals := 133 } D (xL sd) ad cI M [.ref (ad 0), .int (zI (p1))] (fun z u => ((0 ≤ p1 ∧ p1 < M 4 1)) ∧ z = (xNow M p1) ∧ u = M) (fun E => (E = "java/lang/IllegalArgumentException" ∧ ¬ (0 ≤ p1 ∧ p1 < M 4 1))) 1 6 := by
  refine zt_of (cc := c_PS_at) (maxL := 2) (ret := some .int) (own := "PersonSeeds") (by decide) rfl rfl (Nat.le_of_ble_eq_true rfl) ?_
  intro p e s m below meth c ls hF hr hT hX hK hth hl
  obtain ⟨hx, hb, hml, hown, hlk⟩ := id hF
  have hS : va_S (zA ad (xL sd)) s.heap s.heap [] := va_S.rf
  have hl : lv_has ls 2 [(0, .ref (ad 0)), (1, .int (zI (p1)))] := hl
  have o1 := hO.1
  have o2 := hO.2.1
  have o3 := hO.2.2.1
  have o4 := hO.2.2.2.1
  refine lv_aload_n hx hb d_PS_at_0 rfl (lv_at hl 0 rfl) ?_
  refine lv_iload_n hx hb d_PS_at_1 rfl (lv_at hl 1 rfl) ?_
  refine zt_callV hF hT (k_chkP l hlt D ad cI sd M p1 (by omega) (by omega)) (hK.cV 1 tw_418 tw_415 tw_1 tw_417 ts_24 (by decide +kernel) rfl rfl ⟨Nat.le_of_ble_eq_true rfl, Nat.le_of_ble_eq_true rfl⟩) hK hX hth hS rfl rfl rfl hl.1 rfl (Nat.le_of_ble_eq_true rfl) d_PS_at_2 ⟨Nat.le_of_ble_eq_true rfl, Nat.le_of_ble_eq_true rfl⟩ (fun E h9 => ⟨h9.1, fun q9 => h9.2 (by omega)⟩) (Nat.le_of_ble_eq_true rfl) (Nat.le_of_ble_eq_true rfl) (fun u H locs hp hX hS => ?_)
  obtain ⟨hc_1, hu⟩ := hp
  rw [hu] at hX
  refine lv_aload_n hx hb d_PS_at_5 rfl (lv_at hl 0 rfl) ?_
  refine z_getr hx hb iw_PS hown hK hX 0 rfl rfl 2 (by decide) tw_146 (fun _ h => h) 3 rfl d_PS_at_6 ?_
  refine lv_iload_n hx hb d_PS_at_9 rfl (lv_at hl 1 rfl) ?_
  refine z_callVNi hF (k_Tr_placeNow l D ad cI sd M p1 (by omega) (hO.2.2.2.2.2.2.1 _ (by omega) (by omega))) (hK.cN 1 tw_358 tw_355 tw_5 tw_357 ts_12 (by decide +kernel) rfl rfl ⟨Nat.le_of_ble_eq_true rfl, Nat.le_of_ble_eq_true rfl⟩) hK hX hS rfl rfl rfl hl.1 rfl (Nat.le_of_ble_eq_true rfl) d_PS_at_10 ⟨Nat.le_of_ble_eq_true rfl, Nat.le_of_ble_eq_true rfl⟩ (fun z u H locs rg_2 hp hX hS => ?_)
  obtain ⟨hz, hu⟩ := hp
  rw [hu] at hX
  have hz : z = (xNow M p1) := hz
  subst hz
  exact zt_iret (z := xNow M p1) (post := (fun z u => ((0 ≤ p1 ∧ p1 < M 4 1)) ∧ z = (xNow M p1) ∧ u = M)) hx hb hr hlk hK hX hS (by omega) ⟨by omega, rfl, rfl⟩ (Nat.le_of_ble_eq_true rfl) (Nat.le_of_ble_eq_true rfl) d_PS_at_13
set_option maxHeartbeats 4000000 in
set_option maxRecDepth 100000 in
theorem k_was (l : Launch) (hlt : l.stackTraces = false) (D : va_G) (ad : Nat → Nat) (cI : Nat → ClassId) (sd : Int64) (M : zM) (p1 t : Int) (g0 : -2147483648 ≤ p1 ∧ p1 ≤ 2147483647) (g1 : -2147483648 ≤ t ∧ t ≤ 2147483647) (hO : xOK M) : zTi l y_PS_was (.code y_PS_was c_PS_was 3 (some .int)) { frames := 8, cells := 2, slots := 12, locals := 133 } D (xL sd) ad cI M [.ref (ad 0), .int (zI (p1)), .int (zI (t))] (fun z u => (((0 ≤ p1 ∧ p1 < M 4 1) ∧ (0 ≤ t ∧ t < M 0 4))) ∧ z = (xBeh M p1 t) ∧ u = M) (fun E => (E = "java/lang/IllegalArgumentException" ∧ ¬ ((0 ≤ p1 ∧ p1 < M 4 1) ∧ (0 ≤ t ∧ t < M 0 4)))) 2 12 := by
  refine zt_of (cc := c_PS_was) (maxL := 3) (ret := some .int) (own := "PersonSeeds") (by decide) rfl rfl (Nat.le_of_ble_eq_true rfl) ?_
  intro p e s m below meth c ls hF hr hT hX hK hth hl
  obtain ⟨hx, hb, hml, hown, hlk⟩ := id hF
  have hS : va_S (zA ad (xL sd)) s.heap s.heap [] := va_S.rf
  have hl : lv_has ls 3 [(0, .ref (ad 0)), (1, .int (zI (p1))), (2, .int (zI (t)))] := hl
  have o1 := hO.1
  have o2 := hO.2.1
  have o3 := hO.2.2.1
  have o4 := hO.2.2.2.1
  refine lv_aload_n hx hb d_PS_was_0 rfl (lv_at hl 0 rfl) ?_
  refine lv_iload_n hx hb d_PS_was_1 rfl (lv_at hl 1 rfl) ?_
  refine zt_callV hF hT (k_chkP l hlt D ad cI sd M p1 (by omega) (by omega)) (hK.cV 1 tw_418 tw_415 tw_1 tw_417 ts_24 (by decide +kernel) rfl rfl ⟨Nat.le_of_ble_eq_true rfl, Nat.le_of_ble_eq_true rfl⟩) hK hX hth hS rfl rfl rfl hl.1 rfl (Nat.le_of_ble_eq_true rfl) d_PS_was_2 ⟨Nat.le_of_ble_eq_true rfl, Nat.le_of_ble_eq_true rfl⟩ (fun E h9 => ⟨h9.1, fun q9 => h9.2 (by omega)⟩) (Nat.le_of_ble_eq_true rfl) (Nat.le_of_ble_eq_true rfl) (fun u H locs hp hX hS => ?_)
  obtain ⟨hc_1, hu⟩ := hp
  rw [hu] at hX
  refine lv_aload_n hx hb d_PS_was_5 rfl (lv_at hl 0 rfl) ?_
  refine lv_iload_n hx hb d_PS_was_6 rfl (lv_at hl 2 rfl) ?_
  refine zt_callV hF hT (k_chkO l hlt D ad cI sd M t (by omega) (by omega)) (hK.cV 1 tw_436 tw_433 tw_1 tw_435 ts_25 (by decide +kernel) rfl rfl ⟨Nat.le_of_ble_eq_true rfl, Nat.le_of_ble_eq_true rfl⟩) hK hX hth hS rfl rfl rfl hl.1 rfl (Nat.le_of_ble_eq_true rfl) d_PS_was_7 ⟨Nat.le_of_ble_eq_true rfl, Nat.le_of_ble_eq_true rfl⟩ (fun E h9 => ⟨h9.1, fun q9 => h9.2 (by omega)⟩) (Nat.le_of_ble_eq_true rfl) (Nat.le_of_ble_eq_true rfl) (fun u H locs hp hX hS => ?_)
  obtain ⟨hc_2, hu⟩ := hp
  rw [hu] at hX
  refine lv_aload_n hx hb d_PS_was_10 rfl (lv_at hl 0 rfl) ?_
  refine z_getr hx hb iw_PS hown hK hX 0 rfl rfl 2 (by decide) tw_146 (fun _ h => h) 3 rfl d_PS_was_11 ?_
  refine lv_iload_n hx hb d_PS_was_14 rfl (lv_at hl 1 rfl) ?_
  refine lv_iload_n hx hb d_PS_was_15 rfl (lv_at hl 2 rfl) ?_
  refine z_callVNi hF (k_Tr_placeBehind l D ad cI sd M p1 t (by omega) (hO.2.2.2.2.2.2.1 _ (by omega) (by omega)) (by omega)) (hK.cN 2 tw_440 tw_437 tw_5 tw_439 ts_26 (by decide +kernel) rfl rfl ⟨Nat.le_of_ble_eq_true rfl, Nat.le_of_ble_eq_true rfl⟩) hK hX hS rfl rfl rfl hl.1 rfl (Nat.le_of_ble_eq_true rfl) d_PS_was_16 ⟨Nat.le_of_ble_eq_true rfl, Nat.le_of_ble_eq_true rfl⟩ (fun z u H locs rg_3 hp hX hS => ?_)
  obtain ⟨hz, hu⟩ := hp
  rw [hu] at hX
  have hz : z = (xBeh M p1 t) := hz
  subst hz
  exact zt_iret (z := xBeh M p1 t) (post := (fun z u => (((0 ≤ p1 ∧ p1 < M 4 1) ∧ (0 ≤ t ∧ t < M 0 4))) ∧ z = (xBeh M p1 t) ∧ u = M)) hx hb hr hlk hK hX hS (by omega) ⟨by omega, rfl, rfl⟩ (Nat.le_of_ble_eq_true rfl) (Nat.le_of_ble_eq_true rfl) d_PS_was_19
set_option maxHeartbeats 4000000 in
set_option maxRecDepth 100000 in
theorem k_waited (l : Launch) (hlt : l.stackTraces = false) (D : va_G) (ad : Nat → Nat) (cI : Nat → ClassId) (sd : Int64) (M : zM) (p1 : Int) (g0 : -2147483648 ≤ p1 ∧ p1 ≤ 2147483647) (hO : xOK M) : zTi l y_PS_waited (.code y_PS_waited c_PS_waited 2 (some .int)) { frames := 8, cells := 1, slots := 6, locals := 133 } D (xL sd) ad cI M [.ref (ad 0), .int (zI (p1))] (fun z u => ((0 ≤ p1 ∧ p1 < M 4 1)) ∧ z = (M 25 p1) ∧ u = M) (fun E => (E = "java/lang/IllegalArgumentException" ∧ ¬ (0 ≤ p1 ∧ p1 < M 4 1))) 1 6 := by
  refine zt_of (cc := c_PS_waited) (maxL := 2) (ret := some .int) (own := "PersonSeeds") (by decide) rfl rfl (Nat.le_of_ble_eq_true rfl) ?_
  intro p e s m below meth c ls hF hr hT hX hK hth hl
  obtain ⟨hx, hb, hml, hown, hlk⟩ := id hF
  have hS : va_S (zA ad (xL sd)) s.heap s.heap [] := va_S.rf
  have hl : lv_has ls 2 [(0, .ref (ad 0)), (1, .int (zI (p1)))] := hl
  have o1 := hO.1
  have o2 := hO.2.1
  have o3 := hO.2.2.1
  have o4 := hO.2.2.2.1
  refine lv_aload_n hx hb d_PS_waited_0 rfl (lv_at hl 0 rfl) ?_
  refine lv_iload_n hx hb d_PS_waited_1 rfl (lv_at hl 1 rfl) ?_
  refine zt_callV hF hT (k_chkP l hlt D ad cI sd M p1 (by omega) (by omega)) (hK.cV 1 tw_418 tw_415 tw_1 tw_417 ts_24 (by decide +kernel) rfl rfl ⟨Nat.le_of_ble_eq_true rfl, Nat.le_of_ble_eq_true rfl⟩) hK hX hth hS rfl rfl rfl hl.1 rfl (Nat.le_of_ble_eq_true rfl) d_PS_waited_2 ⟨Nat.le_of_ble_eq_true rfl, Nat.le_of_ble_eq_true rfl⟩ (fun E h9 => ⟨h9.1, fun q9 => h9.2 (by omega)⟩) (Nat.le_of_ble_eq_true rfl) (Nat.le_of_ble_eq_true rfl) (fun u H locs hp hX hS => ?_)
  obtain ⟨hc_1, hu⟩ := hp
  rw [hu] at hX
  refine lv_aload_n hx hb d_PS_waited_5 rfl (lv_at hl 0 rfl) ?_
  refine z_getr hx hb iw_PS hown hK hX 0 rfl rfl 3 (by decide) tw_147 (fun _ h => h) 4 rfl d_PS_waited_6 ?_
  refine z_getrN hx hb iw_Pe hown hK hX 4 rfl rfl 8 (by decide) tw_124 (fun _ h => h) 25 rfl d_PS_waited_9 ?_
  refine lv_iload_n hx hb d_PS_waited_12 rfl (lv_at hl 1 rfl) ?_
  refine z_iald (i := p1) (v := M 25 p1) hx hb hK hX 25 rfl (by omega) (by decide) rfl d_PS_waited_13 (fun rg_2 => ?_)
  exact zt_iret (z := M 25 p1) (post := (fun z u => ((0 ≤ p1 ∧ p1 < M 4 1)) ∧ z = (M 25 p1) ∧ u = M)) hx hb hr hlk hK hX hS (by omega) ⟨by omega, rfl, rfl⟩ (Nat.le_of_ble_eq_true rfl) (Nat.le_of_ble_eq_true rfl) d_PS_waited_14
set_option maxHeartbeats 4000000 in
set_option maxRecDepth 100000 in
theorem k_through (l : Launch) (hlt : l.stackTraces = false) (D : va_G) (ad : Nat → Nat) (cI : Nat → ClassId) (sd : Int64) (M : zM) (d on : Int) (g0 : -2147483648 ≤ d ∧ d ≤ 2147483647) (g1 : -2147483648 ≤ on ∧ on ≤ 2147483647) (hO : xOK M) : zTi l y_PS_through (.code y_PS_through c_PS_through 3 (some .int)) { frames := 7, cells := 1, slots := 6, locals := 112 } D (xL sd) ad cI M [.ref (ad 0), .int (zI (d)), .int (zI (on))] (fun z u => ((0 ≤ d ∧ d < M 2 0)) ∧ z = (if on = 0 then M 13 d else M 12 d) ∧ u = M) (fun E => (E = "java/lang/IllegalArgumentException" ∧ ¬ (0 ≤ d ∧ d < M 2 0))) 1 6 := by
  refine zt_of (cc := c_PS_through) (maxL := 3) (ret := some .int) (own := "PersonSeeds") (by decide) rfl rfl (Nat.le_of_ble_eq_true rfl) ?_
  intro p e s m below meth c ls hF hr hT hX hK hth hl
  obtain ⟨hx, hb, hml, hown, hlk⟩ := id hF
  have hS : va_S (zA ad (xL sd)) s.heap s.heap [] := va_S.rf
  have hl : lv_has ls 3 [(0, .ref (ad 0)), (1, .int (zI (d))), (2, .int (zI (on)))] := hl
  have o1 := hO.1
  have o2 := hO.2.1
  have o3 := hO.2.2.1
  have o4 := hO.2.2.2.1
  refine lv_iload_n hx hb d_PS_through_0 rfl (lv_at hl 1 rfl) ?_
  refine z_const hx hb d_PS_through_1 ?_
  refine lv_aload_n hx hb d_PS_through_2 rfl (lv_at hl 0 rfl) ?_
  refine z_getr hx hb iw_PS hown hK hX 0 rfl rfl 1 (by decide) tw_145 (fun _ h => h) 2 rfl d_PS_through_3 ?_
  refine z_getiN (i := 0) (v := M 2 0) hx hb iw_Do hown hK hX 2 rfl rfl 0 (by decide) tw_59 (fun _ h => h) rfl rfl rfl d_PS_through_6 (fun rg_1 => ?_)
  refine z_const hx hb d_PS_through_9 ?_
  refine z_isub hx hb d_PS_through_10 ?_
  refine zt_callS hF hT (k_chkB l hlt D ad cI sd M d 0 ((M 2 0) - 1) (by omega) (by omega) (by omega)) (hK.cS 3 tw_184 tw_182 tw_1 tw_183 (by decide +kernel) rfl rfl ⟨Nat.le_of_ble_eq_true rfl, Nat.le_of_ble_eq_true rfl⟩) hK hX hth hS rfl hl.1 rfl (Nat.le_of_ble_eq_true rfl) d_PS_through_11 ⟨Nat.le_of_ble_eq_true rfl, Nat.le_of_ble_eq_true rfl⟩ (fun E h9 => ⟨h9.1, fun q9 => h9.2 (by omega)⟩) (Nat.le_of_ble_eq_true rfl) (Nat.le_of_ble_eq_true rfl) (fun u H locs hp hX hS => ?_)
  obtain ⟨hc_2, hu⟩ := hp
  rw [hu] at hX
  refine lv_iload_n hx hb d_PS_through_14 rfl (lv_at hl 2 rfl) ?_
  refine z_if_eq (a := on) (tgt := 30) hx hb d_PS_through_15 (by decide) (by omega) (fun hb_3 => ?_) (fun hb_4 => ?_)
  · skip
    refine lv_aload_n hx hb d_PS_through_30 rfl (lv_at hl 0 rfl) ?_
    refine z_getr hx hb iw_PS hown hK hX 0 rfl rfl 1 (by decide) tw_145 (fun _ h => h) 2 rfl d_PS_through_31 ?_
    refine z_getrN hx hb iw_Do hown hK hX 2 rfl rfl 5 (by decide) tw_66 (fun _ h => h) 13 rfl d_PS_through_34 ?_
    refine lv_iload_n hx hb d_PS_through_37 rfl (lv_at hl 1 rfl) ?_
    refine z_iald (i := d) (v := M 13 d) hx hb hK hX 13 rfl (by omega) (by decide) rfl d_PS_through_38 (fun rg_5 => ?_)
    exact zt_iret (z := M 13 d) (post := (fun z u => ((0 ≤ d ∧ d < M 2 0)) ∧ z = (if on = 0 then M 13 d else M 12 d) ∧ u = M)) hx hb hr hlk hK hX hS (by omega) ⟨by omega, by first | rfl | omega | (split <;> omega) | (repeat' split) <;> first | rfl | omega | simp_all, rfl⟩ (Nat.le_of_ble_eq_true rfl) (Nat.le_of_ble_eq_true rfl) d_PS_through_39
  · skip
    refine lv_aload_n hx hb d_PS_through_18 rfl (lv_at hl 0 rfl) ?_
    refine z_getr hx hb iw_PS hown hK hX 0 rfl rfl 1 (by decide) tw_145 (fun _ h => h) 2 rfl d_PS_through_19 ?_
    refine z_getrN hx hb iw_Do hown hK hX 2 rfl rfl 4 (by decide) tw_64 (fun _ h => h) 12 rfl d_PS_through_22 ?_
    refine lv_iload_n hx hb d_PS_through_25 rfl (lv_at hl 1 rfl) ?_
    refine z_iald (i := d) (v := M 12 d) hx hb hK hX 12 rfl (by omega) (by decide) rfl d_PS_through_26 (fun rg_6 => ?_)
    refine lv_goto (tgt := 39) hx hb d_PS_through_27 (by decide) ?_
    exact zt_iret (z := M 12 d) (post := (fun z u => ((0 ≤ d ∧ d < M 2 0)) ∧ z = (if on = 0 then M 13 d else M 12 d) ∧ u = M)) hx hb hr hlk hK hX hS (by omega) ⟨by omega, by first | rfl | omega | (split <;> omega) | (repeat' split) <;> first | rfl | omega | simp_all, rfl⟩ (Nat.le_of_ble_eq_true rfl) (Nat.le_of_ble_eq_true rfl) d_PS_through_39
set_option maxHeartbeats 4000000 in
set_option maxRecDepth 100000 in
theorem k_distance (l : Launch) (hlt : l.stackTraces = false) (D : va_G) (ad : Nat → Nat) (cI : Nat → ClassId) (sd : Int64) (M : zM) (a b : Int) (g0 : -2147483648 ≤ a ∧ a ≤ 2147483647) (g1 : -2147483648 ≤ b ∧ b ≤ 2147483647) (hO : xOK M) : zTi l y_PS_distance (.code y_PS_distance c_PS_distance 4 (some .int)) { frames := 8, cells := 2, slots := 12, locals := 133 } D (xL sd) ad cI M [.ref (ad 0), .int (zI (a)), .int (zI (b))] (fun z u => (((0 ≤ a ∧ a < M 1 0) ∧ (0 ≤ b ∧ b < M 1 0))) ∧ z = (if M 15 (a * 12 + b) < 1000 then M 15 (a * 12 + b) else -1) ∧ u = M) (fun E => (E = "java/lang/IllegalArgumentException" ∧ ¬ ((0 ≤ a ∧ a < M 1 0) ∧ (0 ≤ b ∧ b < M 1 0)))) 2 12 := by
  refine zt_of (cc := c_PS_distance) (maxL := 4) (ret := some .int) (own := "PersonSeeds") (by decide) rfl rfl (Nat.le_of_ble_eq_true rfl) ?_
  intro p e s m below meth c ls hF hr hT hX hK hth hl
  obtain ⟨hx, hb, hml, hown, hlk⟩ := id hF
  have hS : va_S (zA ad (xL sd)) s.heap s.heap [] := va_S.rf
  have hl : lv_has ls 4 [(0, .ref (ad 0)), (1, .int (zI (a))), (2, .int (zI (b)))] := hl
  have o1 := hO.1
  have o2 := hO.2.1
  have o3 := hO.2.2.1
  have o4 := hO.2.2.2.1
  refine lv_aload_n hx hb d_PS_distance_0 rfl (lv_at hl 0 rfl) ?_
  refine lv_iload_n hx hb d_PS_distance_1 rfl (lv_at hl 1 rfl) ?_
  refine zt_callV hF hT (k_chkR l hlt D ad cI sd M a (by omega) (by omega)) (hK.cV 1 tw_296 tw_293 tw_1 tw_295 ts_4 (by decide +kernel) rfl rfl ⟨Nat.le_of_ble_eq_true rfl, Nat.le_of_ble_eq_true rfl⟩) hK hX hth hS rfl rfl rfl hl.1 rfl (Nat.le_of_ble_eq_true rfl) d_PS_distance_2 ⟨Nat.le_of_ble_eq_true rfl, Nat.le_of_ble_eq_true rfl⟩ (fun E h9 => ⟨h9.1, fun q9 => h9.2 (by omega)⟩) (Nat.le_of_ble_eq_true rfl) (Nat.le_of_ble_eq_true rfl) (fun u H locs hp hX hS => ?_)
  obtain ⟨hc_1, hu⟩ := hp
  rw [hu] at hX
  refine lv_aload_n hx hb d_PS_distance_5 rfl (lv_at hl 0 rfl) ?_
  refine lv_iload_n hx hb d_PS_distance_6 rfl (lv_at hl 2 rfl) ?_
  refine zt_callV hF hT (k_chkR l hlt D ad cI sd M b (by omega) (by omega)) (hK.cV 1 tw_296 tw_293 tw_1 tw_295 ts_4 (by decide +kernel) rfl rfl ⟨Nat.le_of_ble_eq_true rfl, Nat.le_of_ble_eq_true rfl⟩) hK hX hth hS rfl rfl rfl hl.1 rfl (Nat.le_of_ble_eq_true rfl) d_PS_distance_7 ⟨Nat.le_of_ble_eq_true rfl, Nat.le_of_ble_eq_true rfl⟩ (fun E h9 => ⟨h9.1, fun q9 => h9.2 (by omega)⟩) (Nat.le_of_ble_eq_true rfl) (Nat.le_of_ble_eq_true rfl) (fun u H locs hp hX hS => ?_)
  obtain ⟨hc_2, hu⟩ := hp
  rw [hu] at hX
  refine lv_aload_n hx hb d_PS_distance_10 rfl (lv_at hl 0 rfl) ?_
  refine z_getr hx hb iw_PS hown hK hX 0 rfl rfl 1 (by decide) tw_145 (fun _ h => h) 2 rfl d_PS_distance_11 ?_
  refine lv_iload_n hx hb d_PS_distance_14 rfl (lv_at hl 1 rfl) ?_
  refine lv_iload_n hx hb d_PS_distance_15 rfl (lv_at hl 2 rfl) ?_
  refine z_callVNi hF (k_Do_steps l D ad cI sd M a b (by omega) (by omega)) (hK.cN 2 tw_312 tw_476 tw_3 tw_311 ts_7 (by decide +kernel) rfl rfl ⟨Nat.le_of_ble_eq_true rfl, Nat.le_of_ble_eq_true rfl⟩) hK hX hS rfl rfl rfl hl.1 rfl (Nat.le_of_ble_eq_true rfl) d_PS_distance_16 ⟨Nat.le_of_ble_eq_true rfl, Nat.le_of_ble_eq_true rfl⟩ (fun z u H locs rg_3 hp hX hS => ?_)
  obtain ⟨hz, hu⟩ := hp
  rw [hu] at hX
  have hz : z = (M 15 (a * 12 + b)) := hz
  subst hz
  refine lv_istore_n (lv' := [(3, .int (zI ((M 15 (a * 12 + b))))), (0, .ref (ad 0)), (1, .int (zI (a))), (2, .int (zI (b)))]) hx hb d_PS_distance_19 rfl hl (by decide) rfl (fun ls hl => ?_)
  refine lv_iload_n hx hb d_PS_distance_20 rfl (lv_at hl 0 rfl) ?_
  refine z_sipush hx hb d_PS_distance_21 (by decide) ?_
  refine z_icmp_ge (a := (M 15 (a * 12 + b))) (b := 1000) (tgt := 31) hx hb d_PS_distance_24 (by decide) (by omega) (fun hb_4 => ?_) (fun hb_5 => ?_)
  · skip
    refine z_const hx hb d_PS_distance_31 ?_
    exact zt_iret (z := -1) (post := (fun z u => (((0 ≤ a ∧ a < M 1 0) ∧ (0 ≤ b ∧ b < M 1 0))) ∧ z = (if M 15 (a * 12 + b) < 1000 then M 15 (a * 12 + b) else -1) ∧ u = M)) hx hb hr hlk hK hX hS (by omega) ⟨by omega, by first | rfl | omega | (split <;> omega) | (repeat' split) <;> first | rfl | omega | simp_all, rfl⟩ (Nat.le_of_ble_eq_true rfl) (Nat.le_of_ble_eq_true rfl) d_PS_distance_32
  · skip
    refine lv_iload_n hx hb d_PS_distance_27 rfl (lv_at hl 0 rfl) ?_
    refine lv_goto (tgt := 32) hx hb d_PS_distance_28 (by decide) ?_
    exact zt_iret (z := (M 15 (a * 12 + b))) (post := (fun z u => (((0 ≤ a ∧ a < M 1 0) ∧ (0 ≤ b ∧ b < M 1 0))) ∧ z = (if M 15 (a * 12 + b) < 1000 then M 15 (a * 12 + b) else -1) ∧ u = M)) hx hb hr hlk hK hX hS (by omega) ⟨by omega, by first | rfl | omega | (split <;> omega) | (repeat' split) <;> first | rfl | omega | simp_all, rfl⟩ (Nat.le_of_ble_eq_true rfl) (Nat.le_of_ble_eq_true rfl) d_PS_distance_32
set_option maxHeartbeats 4000000 in
set_option maxRecDepth 100000 in
theorem k_met (l : Launch) (hlt : l.stackTraces = false) (D : va_G) (ad : Nat → Nat) (cI : Nat → ClassId) (sd : Int64) (M : zM) (p1 o : Int) (g0 : -2147483648 ≤ p1 ∧ p1 ≤ 2147483647) (g1 : -2147483648 ≤ o ∧ o ≤ 2147483647) (hO : xOK M) : zTi l y_PS_met (.code y_PS_met c_PS_met 5 (some .int)) { frames := 8, cells := 3, slots := 18, locals := 133 } D (xL sd) ad cI M [.ref (ad 0), .int (zI (p1)), .int (zI (o))] (fun z u => (((0 ≤ p1 ∧ p1 < M 4 1) ∧ (0 ≤ o ∧ o < M 4 1) ∧ ¬ p1 = o)) ∧ z = (xMet M p1 o) ∧ u = M) (fun E => (E = "java/lang/IllegalArgumentException" ∧ ¬ ((0 ≤ p1 ∧ p1 < M 4 1) ∧ (0 ≤ o ∧ o < M 4 1) ∧ ¬ p1 = o))) 3 18 := by
  refine zt_of (cc := c_PS_met) (maxL := 5) (ret := some .int) (own := "PersonSeeds") (by decide) rfl rfl (Nat.le_of_ble_eq_true rfl) ?_
  intro p e s m below meth c ls hF hr hT hX hK hth hl
  obtain ⟨hx, hb, hml, hown, hlk⟩ := id hF
  have hS : va_S (zA ad (xL sd)) s.heap s.heap [] := va_S.rf
  have hl : lv_has ls 5 [(0, .ref (ad 0)), (1, .int (zI (p1))), (2, .int (zI (o)))] := hl
  have o1 := hO.1
  have o2 := hO.2.1
  have o3 := hO.2.2.1
  have o4 := hO.2.2.2.1
  refine lv_aload_n hx hb d_PS_met_0 rfl (lv_at hl 0 rfl) ?_
  refine lv_iload_n hx hb d_PS_met_1 rfl (lv_at hl 1 rfl) ?_
  refine zt_callV hF hT (k_chkP l hlt D ad cI sd M p1 (by omega) (by omega)) (hK.cV 1 tw_418 tw_415 tw_1 tw_417 ts_24 (by decide +kernel) rfl rfl ⟨Nat.le_of_ble_eq_true rfl, Nat.le_of_ble_eq_true rfl⟩) hK hX hth hS rfl rfl rfl hl.1 rfl (Nat.le_of_ble_eq_true rfl) d_PS_met_2 ⟨Nat.le_of_ble_eq_true rfl, Nat.le_of_ble_eq_true rfl⟩ (fun E h9 => ⟨h9.1, fun q9 => h9.2 (by omega)⟩) (Nat.le_of_ble_eq_true rfl) (Nat.le_of_ble_eq_true rfl) (fun u H locs hp hX hS => ?_)
  obtain ⟨hc_1, hu⟩ := hp
  rw [hu] at hX
  refine lv_aload_n hx hb d_PS_met_5 rfl (lv_at hl 0 rfl) ?_
  refine lv_iload_n hx hb d_PS_met_6 rfl (lv_at hl 2 rfl) ?_
  refine zt_callV hF hT (k_chkP l hlt D ad cI sd M o (by omega) (by omega)) (hK.cV 1 tw_418 tw_415 tw_1 tw_417 ts_24 (by decide +kernel) rfl rfl ⟨Nat.le_of_ble_eq_true rfl, Nat.le_of_ble_eq_true rfl⟩) hK hX hth hS rfl rfl rfl hl.1 rfl (Nat.le_of_ble_eq_true rfl) d_PS_met_7 ⟨Nat.le_of_ble_eq_true rfl, Nat.le_of_ble_eq_true rfl⟩ (fun E h9 => ⟨h9.1, fun q9 => h9.2 (by omega)⟩) (Nat.le_of_ble_eq_true rfl) (Nat.le_of_ble_eq_true rfl) (fun u H locs hp hX hS => ?_)
  obtain ⟨hc_2, hu⟩ := hp
  rw [hu] at hX
  refine lv_iload_n hx hb d_PS_met_10 rfl (lv_at hl 1 rfl) ?_
  refine lv_iload_n hx hb d_PS_met_11 rfl (lv_at hl 2 rfl) ?_
  refine zt_callS hF hT (k_chkD l hlt D ad cI sd M p1 o (by omega) (by omega)) (hK.cS 2 tw_299 tw_297 tw_1 tw_298 (by decide +kernel) rfl rfl ⟨Nat.le_of_ble_eq_true rfl, Nat.le_of_ble_eq_true rfl⟩) hK hX hth hS rfl hl.1 rfl (Nat.le_of_ble_eq_true rfl) d_PS_met_12 ⟨Nat.le_of_ble_eq_true rfl, Nat.le_of_ble_eq_true rfl⟩ (fun E h9 => ⟨h9.1, fun q9 => h9.2 (by omega)⟩) (Nat.le_of_ble_eq_true rfl) (Nat.le_of_ble_eq_true rfl) (fun u H locs hp hX hS => ?_)
  obtain ⟨hc_3, hu⟩ := hp
  rw [hu] at hX
  refine lv_aload_n hx hb d_PS_met_15 rfl (lv_at hl 0 rfl) ?_
  refine z_getr hx hb iw_PS hown hK hX 0 rfl rfl 2 (by decide) tw_146 (fun _ h => h) 3 rfl d_PS_met_16 ?_
  refine lv_iload_n hx hb d_PS_met_19 rfl (lv_at hl 1 rfl) ?_
  refine lv_iload_n hx hb d_PS_met_20 rfl (lv_at hl 2 rfl) ?_
  refine z_callVNi hF (k_Tr_firstJoining l D ad cI sd M p1 o (by omega) (by omega) (hO.2.2.2.2.2.2.1 _ (by omega) (by omega)) (hO.2.2.2.2.2.2.1 _ (by omega) (by omega))) (hK.cN 2 tw_487 tw_484 tw_5 tw_486 ts_27 (by decide +kernel) rfl rfl ⟨Nat.le_of_ble_eq_true rfl, Nat.le_of_ble_eq_true rfl⟩) hK hX hS rfl rfl rfl hl.1 rfl (Nat.le_of_ble_eq_true rfl) d_PS_met_21 ⟨Nat.le_of_ble_eq_true rfl, Nat.le_of_ble_eq_true rfl⟩ (fun z u H locs rg_4 hp hX hS => ?_)
  obtain ⟨hz, hu⟩ := hp
  rw [hu] at hX
  have hz : z = (xJoin M p1 o) := hz
  subst hz
  refine lv_istore_n (lv' := [(3, .int (zI (xJoin M p1 o))), (0, .ref (ad 0)), (1, .int (zI (p1))), (2, .int (zI (o)))]) hx hb d_PS_met_24 rfl hl (by decide) rfl (fun ls hl => ?_)
  refine lv_aload_n hx hb d_PS_met_25 rfl (lv_at hl 1 rfl) ?_
  refine z_getr hx hb iw_PS hown hK hX 0 rfl rfl 2 (by decide) tw_146 (fun _ h => h) 3 rfl d_PS_met_26 ?_
  refine lv_iload_n hx hb d_PS_met_29 rfl (lv_at hl 3 rfl) ?_
  refine lv_iload_n hx hb d_PS_met_30 rfl (lv_at hl 2 rfl) ?_
  refine z_callVNi hF (k_Tr_firstJoining l D ad cI sd M o p1 (by omega) (by omega) (hO.2.2.2.2.2.2.1 _ (by omega) (by omega)) (hO.2.2.2.2.2.2.1 _ (by omega) (by omega))) (hK.cN 2 tw_487 tw_484 tw_5 tw_486 ts_27 (by decide +kernel) rfl rfl ⟨Nat.le_of_ble_eq_true rfl, Nat.le_of_ble_eq_true rfl⟩) hK hX hS rfl rfl rfl hl.1 rfl (Nat.le_of_ble_eq_true rfl) d_PS_met_31 ⟨Nat.le_of_ble_eq_true rfl, Nat.le_of_ble_eq_true rfl⟩ (fun z u H locs rg_5 hp hX hS => ?_)
  obtain ⟨hz, hu⟩ := hp
  rw [hu] at hX
  have hz : z = (xJoin M o p1) := hz
  subst hz
  refine lv_istore (lv' := [(4, .int (zI (xJoin M o p1))), (3, .int (zI (xJoin M p1 o))), (0, .ref (ad 0)), (1, .int (zI (p1))), (2, .int (zI (o)))]) hx hb d_PS_met_34 hl (by decide) rfl (fun ls hl => ?_)
  refine lv_iload_n hx hb d_PS_met_36 rfl (lv_at hl 1 rfl) ?_
  refine z_const hx hb d_PS_met_37 ?_
  refine z_icmp_eq (a := xJoin M p1 o) (b := -1) (tgt := 47) hx hb d_PS_met_38 (by decide) (by omega) (fun hb_6 => ?_) (fun hb_7 => ?_)
  · skip
    refine lv_iload_n hx hb d_PS_met_47 rfl (lv_at hl 1 rfl) ?_
    refine lv_iload hx hb d_PS_met_48 (lv_at hl 0 rfl) ?_
    refine z_mmax (a := xJoin M p1 o) (b := xJoin M o p1) hx hb (hml.trans hl.1.symm) hown hK tw_489 tw_405 tw_13 tw_406 (Nat.le_of_ble_eq_true rfl) (Nat.le_of_ble_eq_true rfl) (Nat.le_of_ble_eq_true rfl) (Nat.le_of_ble_eq_true rfl) (by omega) d_PS_met_50 ?_
    exact zt_iret (z := max (xJoin M p1 o) (xJoin M o p1)) (post := (fun z u => (((0 ≤ p1 ∧ p1 < M 4 1) ∧ (0 ≤ o ∧ o < M 4 1) ∧ ¬ p1 = o)) ∧ z = (xMet M p1 o) ∧ u = M)) hx hb hr hlk hK hX hS (by omega) ⟨by omega, by unfold xMet; first | rw [if_pos (by omega)] | rw [if_neg (by omega)], rfl⟩ (Nat.le_of_ble_eq_true rfl) (Nat.le_of_ble_eq_true rfl) d_PS_met_53
  · skip
    refine lv_iload hx hb d_PS_met_41 (lv_at hl 0 rfl) ?_
    refine z_const hx hb d_PS_met_43 ?_
    refine z_icmp_ne (a := xJoin M o p1) (b := -1) (tgt := 54) hx hb d_PS_met_44 (by decide) (by omega) (fun hb_8 => ?_) (fun hb_9 => ?_)
    · skip
      refine lv_iload_n hx hb d_PS_met_54 rfl (lv_at hl 1 rfl) ?_
      refine lv_iload hx hb d_PS_met_55 (lv_at hl 0 rfl) ?_
      refine z_mmin (a := xJoin M p1 o) (b := xJoin M o p1) hx hb (hml.trans hl.1.symm) hown hK tw_490 tw_314 tw_13 tw_315 (Nat.le_of_ble_eq_true rfl) (Nat.le_of_ble_eq_true rfl) (Nat.le_of_ble_eq_true rfl) (Nat.le_of_ble_eq_true rfl) (by omega) d_PS_met_57 ?_
      exact zt_iret (z := min (xJoin M p1 o) (xJoin M o p1)) (post := (fun z u => (((0 ≤ p1 ∧ p1 < M 4 1) ∧ (0 ≤ o ∧ o < M 4 1) ∧ ¬ p1 = o)) ∧ z = (xMet M p1 o) ∧ u = M)) hx hb hr hlk hK hX hS (by omega) ⟨by omega, by unfold xMet; first | rw [if_pos (by omega)] | rw [if_neg (by omega)], rfl⟩ (Nat.le_of_ble_eq_true rfl) (Nat.le_of_ble_eq_true rfl) d_PS_met_60
    · skip
      refine lv_iload_n hx hb d_PS_met_47 rfl (lv_at hl 1 rfl) ?_
      refine lv_iload hx hb d_PS_met_48 (lv_at hl 0 rfl) ?_
      refine z_mmax (a := xJoin M p1 o) (b := xJoin M o p1) hx hb (hml.trans hl.1.symm) hown hK tw_489 tw_405 tw_13 tw_406 (Nat.le_of_ble_eq_true rfl) (Nat.le_of_ble_eq_true rfl) (Nat.le_of_ble_eq_true rfl) (Nat.le_of_ble_eq_true rfl) (by omega) d_PS_met_50 ?_
      exact zt_iret (z := max (xJoin M p1 o) (xJoin M o p1)) (post := (fun z u => (((0 ≤ p1 ∧ p1 < M 4 1) ∧ (0 ≤ o ∧ o < M 4 1) ∧ ¬ p1 = o)) ∧ z = (xMet M p1 o) ∧ u = M)) hx hb hr hlk hK hX hS (by omega) ⟨by omega, by unfold xMet; first | rw [if_pos (by omega)] | rw [if_neg (by omega)], rfl⟩ (Nat.le_of_ble_eq_true rfl) (Nat.le_of_ble_eq_true rfl) d_PS_met_53
set_option maxHeartbeats 4000000 in
set_option maxRecDepth 100000 in
theorem k_person (l : Launch) (hlt : l.stackTraces = false) (D : va_G) (ad : Nat → Nat) (cI : Nat → ClassId) (sd : Int64) (M : zM) (p1 what : Int) (g0 : -2147483648 ≤ p1 ∧ p1 ≤ 2147483647) (g1 : -2147483648 ≤ what ∧ what ≤ 2147483647) (hO : xOK M) : zTi l y_PS_person (.code y_PS_person c_PS_person 3 (some .int)) { frames := 8, cells := 2, slots := 12, locals := 133 } D (xL sd) ad cI M [.ref (ad 0), .int (zI (p1)), .int (zI (what))] (fun z u => (((0 ≤ p1 ∧ p1 < M 4 1) ∧ (0 ≤ what ∧ what ≤ 5))) ∧ z = (xTell M p1 what) ∧ u = M) (fun E => (E = "java/lang/IllegalArgumentException" ∧ ¬ ((0 ≤ p1 ∧ p1 < M 4 1) ∧ (0 ≤ what ∧ what ≤ 5)))) 2 12 := by
  refine zt_of (cc := c_PS_person) (maxL := 3) (ret := some .int) (own := "PersonSeeds") (by decide) rfl rfl (Nat.le_of_ble_eq_true rfl) ?_
  intro p e s m below meth c ls hF hr hT hX hK hth hl
  obtain ⟨hx, hb, hml, hown, hlk⟩ := id hF
  have hS : va_S (zA ad (xL sd)) s.heap s.heap [] := va_S.rf
  have hl : lv_has ls 3 [(0, .ref (ad 0)), (1, .int (zI (p1))), (2, .int (zI (what)))] := hl
  have o1 := hO.1
  have o2 := hO.2.1
  have o3 := hO.2.2.1
  have o4 := hO.2.2.2.1
  refine lv_aload_n hx hb d_PS_person_0 rfl (lv_at hl 0 rfl) ?_
  refine lv_iload_n hx hb d_PS_person_1 rfl (lv_at hl 1 rfl) ?_
  refine zt_callV hF hT (k_chkP l hlt D ad cI sd M p1 (by omega) (by omega)) (hK.cV 1 tw_418 tw_415 tw_1 tw_417 ts_24 (by decide +kernel) rfl rfl ⟨Nat.le_of_ble_eq_true rfl, Nat.le_of_ble_eq_true rfl⟩) hK hX hth hS rfl rfl rfl hl.1 rfl (Nat.le_of_ble_eq_true rfl) d_PS_person_2 ⟨Nat.le_of_ble_eq_true rfl, Nat.le_of_ble_eq_true rfl⟩ (fun E h9 => ⟨h9.1, fun q9 => h9.2 (by omega)⟩) (Nat.le_of_ble_eq_true rfl) (Nat.le_of_ble_eq_true rfl) (fun u H locs hp hX hS => ?_)
  obtain ⟨hc_1, hu⟩ := hp
  rw [hu] at hX
  refine lv_iload_n hx hb d_PS_person_5 rfl (lv_at hl 2 rfl) ?_
  refine z_const hx hb d_PS_person_6 ?_
  refine z_const hx hb d_PS_person_7 ?_
  refine zt_callS hF hT (k_chkB l hlt D ad cI sd M what 0 5 (by omega) (by omega) (by omega)) (hK.cS 3 tw_184 tw_182 tw_1 tw_183 (by decide +kernel) rfl rfl ⟨Nat.le_of_ble_eq_true rfl, Nat.le_of_ble_eq_true rfl⟩) hK hX hth hS rfl hl.1 rfl (Nat.le_of_ble_eq_true rfl) d_PS_person_8 ⟨Nat.le_of_ble_eq_true rfl, Nat.le_of_ble_eq_true rfl⟩ (fun E h9 => ⟨h9.1, fun q9 => h9.2 (by omega)⟩) (Nat.le_of_ble_eq_true rfl) (Nat.le_of_ble_eq_true rfl) (fun u H locs hp hX hS => ?_)
  obtain ⟨hc_2, hu⟩ := hp
  rw [hu] at hX
  refine lv_iload_n hx hb d_PS_person_11 rfl (lv_at hl 2 rfl) ?_
  rcases (show what = 0 ∨ what = 1 ∨ what = 2 ∨ what = 3 ∨ what = 4 ∨ what = 5 by omega) with e9 | e9 | e9 | e9 | e9 | e9
  · skip
    refine lv_tableIn (tgt := 48) hx hb d_PS_person_12 (by rw [e9]; decide +kernel) (by rw [e9]; decide +kernel) (by rw [e9]; rfl) (by decide) ?_
    refine lv_aload_n hx hb d_PS_person_48 rfl (lv_at hl 0 rfl) ?_
    refine z_getr hx hb iw_PS hown hK hX 0 rfl rfl 3 (by decide) tw_147 (fun _ h => h) 4 rfl d_PS_person_49 ?_
    refine z_getrN hx hb iw_Pe hown hK hX 4 rfl rfl 2 (by decide) tw_112 (fun _ h => h) 19 rfl d_PS_person_52 ?_
    refine lv_iload_n hx hb d_PS_person_55 rfl (lv_at hl 1 rfl) ?_
    refine z_iald (i := p1) (v := M 19 p1) hx hb hK hX 19 rfl (by omega) (by decide) rfl d_PS_person_56 (fun rg_3 => ?_)
    exact zt_iret (z := M 19 p1) (post := (fun z u => (((0 ≤ p1 ∧ p1 < M 4 1) ∧ (0 ≤ what ∧ what ≤ 5))) ∧ z = (xTell M p1 what) ∧ u = M)) hx hb hr hlk hK hX hS (by omega) ⟨by omega, by rw [e9]; rfl, rfl⟩ (Nat.le_of_ble_eq_true rfl) (Nat.le_of_ble_eq_true rfl) d_PS_person_57
  · skip
    refine lv_tableIn (tgt := 58) hx hb d_PS_person_12 (by rw [e9]; decide +kernel) (by rw [e9]; decide +kernel) (by rw [e9]; rfl) (by decide) ?_
    refine lv_aload_n hx hb d_PS_person_58 rfl (lv_at hl 0 rfl) ?_
    refine z_getr hx hb iw_PS hown hK hX 0 rfl rfl 3 (by decide) tw_147 (fun _ h => h) 4 rfl d_PS_person_59 ?_
    refine z_getrN hx hb iw_Pe hown hK hX 4 rfl rfl 3 (by decide) tw_114 (fun _ h => h) 20 rfl d_PS_person_62 ?_
    refine lv_iload_n hx hb d_PS_person_65 rfl (lv_at hl 1 rfl) ?_
    refine z_iald (i := p1) (v := M 20 p1) hx hb hK hX 20 rfl (by omega) (by decide) rfl d_PS_person_66 (fun rg_4 => ?_)
    exact zt_iret (z := M 20 p1) (post := (fun z u => (((0 ≤ p1 ∧ p1 < M 4 1) ∧ (0 ≤ what ∧ what ≤ 5))) ∧ z = (xTell M p1 what) ∧ u = M)) hx hb hr hlk hK hX hS (by omega) ⟨by omega, by rw [e9]; rfl, rfl⟩ (Nat.le_of_ble_eq_true rfl) (Nat.le_of_ble_eq_true rfl) d_PS_person_67
  · skip
    refine lv_tableIn (tgt := 68) hx hb d_PS_person_12 (by rw [e9]; decide +kernel) (by rw [e9]; decide +kernel) (by rw [e9]; rfl) (by decide) ?_
    refine lv_aload_n hx hb d_PS_person_68 rfl (lv_at hl 0 rfl) ?_
    refine z_getr hx hb iw_PS hown hK hX 0 rfl rfl 3 (by decide) tw_147 (fun _ h => h) 4 rfl d_PS_person_69 ?_
    refine z_getrN hx hb iw_Pe hown hK hX 4 rfl rfl 4 (by decide) tw_116 (fun _ h => h) 21 rfl d_PS_person_72 ?_
    refine lv_iload_n hx hb d_PS_person_75 rfl (lv_at hl 1 rfl) ?_
    refine z_iald (i := p1) (v := M 21 p1) hx hb hK hX 21 rfl (by omega) (by decide) rfl d_PS_person_76 (fun rg_5 => ?_)
    exact zt_iret (z := M 21 p1) (post := (fun z u => (((0 ≤ p1 ∧ p1 < M 4 1) ∧ (0 ≤ what ∧ what ≤ 5))) ∧ z = (xTell M p1 what) ∧ u = M)) hx hb hr hlk hK hX hS (by omega) ⟨by omega, by rw [e9]; rfl, rfl⟩ (Nat.le_of_ble_eq_true rfl) (Nat.le_of_ble_eq_true rfl) d_PS_person_77
  · skip
    refine lv_tableIn (tgt := 78) hx hb d_PS_person_12 (by rw [e9]; decide +kernel) (by rw [e9]; decide +kernel) (by rw [e9]; rfl) (by decide) ?_
    refine lv_aload_n hx hb d_PS_person_78 rfl (lv_at hl 0 rfl) ?_
    refine z_getr hx hb iw_PS hown hK hX 0 rfl rfl 3 (by decide) tw_147 (fun _ h => h) 4 rfl d_PS_person_79 ?_
    refine z_getrN hx hb iw_Pe hown hK hX 4 rfl rfl 5 (by decide) tw_118 (fun _ h => h) 22 rfl d_PS_person_82 ?_
    refine lv_iload_n hx hb d_PS_person_85 rfl (lv_at hl 1 rfl) ?_
    refine z_iald (i := p1) (v := M 22 p1) hx hb hK hX 22 rfl (by omega) (by decide) rfl d_PS_person_86 (fun rg_6 => ?_)
    exact zt_iret (z := M 22 p1) (post := (fun z u => (((0 ≤ p1 ∧ p1 < M 4 1) ∧ (0 ≤ what ∧ what ≤ 5))) ∧ z = (xTell M p1 what) ∧ u = M)) hx hb hr hlk hK hX hS (by omega) ⟨by omega, by rw [e9]; rfl, rfl⟩ (Nat.le_of_ble_eq_true rfl) (Nat.le_of_ble_eq_true rfl) d_PS_person_87
  · skip
    refine lv_tableIn (tgt := 88) hx hb d_PS_person_12 (by rw [e9]; decide +kernel) (by rw [e9]; decide +kernel) (by rw [e9]; rfl) (by decide) ?_
    refine lv_aload_n hx hb d_PS_person_88 rfl (lv_at hl 0 rfl) ?_
    refine z_getr hx hb iw_PS hown hK hX 0 rfl rfl 3 (by decide) tw_147 (fun _ h => h) 4 rfl d_PS_person_89 ?_
    refine z_getrN hx hb iw_Pe hown hK hX 4 rfl rfl 6 (by decide) tw_120 (fun _ h => h) 23 rfl d_PS_person_92 ?_
    refine lv_iload_n hx hb d_PS_person_95 rfl (lv_at hl 1 rfl) ?_
    refine z_iald (i := p1) (v := M 23 p1) hx hb hK hX 23 rfl (by omega) (by decide) rfl d_PS_person_96 (fun rg_7 => ?_)
    exact zt_iret (z := M 23 p1) (post := (fun z u => (((0 ≤ p1 ∧ p1 < M 4 1) ∧ (0 ≤ what ∧ what ≤ 5))) ∧ z = (xTell M p1 what) ∧ u = M)) hx hb hr hlk hK hX hS (by omega) ⟨by omega, by rw [e9]; rfl, rfl⟩ (Nat.le_of_ble_eq_true rfl) (Nat.le_of_ble_eq_true rfl) d_PS_person_97
  · skip
    refine lv_tableOut (tgt := 98) hx hb d_PS_person_12 (by rw [e9]; decide +kernel) (by decide) ?_
    refine lv_aload_n hx hb d_PS_person_98 rfl (lv_at hl 0 rfl) ?_
    refine z_getr hx hb iw_PS hown hK hX 0 rfl rfl 3 (by decide) tw_147 (fun _ h => h) 4 rfl d_PS_person_99 ?_
    refine z_getrN hx hb iw_Pe hown hK hX 4 rfl rfl 7 (by decide) tw_122 (fun _ h => h) 24 rfl d_PS_person_102 ?_
    refine lv_iload_n hx hb d_PS_person_105 rfl (lv_at hl 1 rfl) ?_
    refine z_iald (i := p1) (v := M 24 p1) hx hb hK hX 24 rfl (by omega) (by decide) rfl d_PS_person_106 (fun rg_8 => ?_)
    exact zt_iret (z := M 24 p1) (post := (fun z u => (((0 ≤ p1 ∧ p1 < M 4 1) ∧ (0 ≤ what ∧ what ≤ 5))) ∧ z = (xTell M p1 what) ∧ u = M)) hx hb hr hlk hK hX hS (by omega) ⟨by omega, by rw [e9]; rfl, rfl⟩ (Nat.le_of_ble_eq_true rfl) (Nat.le_of_ble_eq_true rfl) d_PS_person_107
set_option maxHeartbeats 4000000 in
set_option maxRecDepth 100000 in
theorem k_in (l : Launch) (hlt : l.stackTraces = false) (D : va_G) (ad : Nat → Nat) (cI : Nat → ClassId) (sd : Int64) (M : zM) (r what : Int) (g0 : -2147483648 ≤ r ∧ r ≤ 2147483647) (g1 : -2147483648 ≤ what ∧ what ≤ 2147483647) (hO : xOK M) : zTi l y_PS_in (.code y_PS_in c_PS_in 3 (some .int)) { frames := 8, cells := 2, slots := 12, locals := 133 } D (xL sd) ad cI M [.ref (ad 0), .int (zI (r)), .int (zI (what))] (fun z u => (((0 ≤ r ∧ r < M 1 0) ∧ (0 ≤ what ∧ what ≤ 2))) ∧ z = (xIn M r what) ∧ u = M) (fun E => (E = "java/lang/IllegalArgumentException" ∧ ¬ ((0 ≤ r ∧ r < M 1 0) ∧ (0 ≤ what ∧ what ≤ 2)))) 2 12 := by
  refine zt_of (cc := c_PS_in) (maxL := 3) (ret := some .int) (own := "PersonSeeds") (by decide) rfl rfl (Nat.le_of_ble_eq_true rfl) ?_
  intro p e s m below meth c ls hF hr hT hX hK hth hl
  obtain ⟨hx, hb, hml, hown, hlk⟩ := id hF
  have hS : va_S (zA ad (xL sd)) s.heap s.heap [] := va_S.rf
  have hl : lv_has ls 3 [(0, .ref (ad 0)), (1, .int (zI (r))), (2, .int (zI (what)))] := hl
  have o1 := hO.1
  have o2 := hO.2.1
  have o3 := hO.2.2.1
  have o4 := hO.2.2.2.1
  refine lv_aload_n hx hb d_PS_in_0 rfl (lv_at hl 0 rfl) ?_
  refine lv_iload_n hx hb d_PS_in_1 rfl (lv_at hl 1 rfl) ?_
  refine zt_callV hF hT (k_chkR l hlt D ad cI sd M r (by omega) (by omega)) (hK.cV 1 tw_296 tw_293 tw_1 tw_295 ts_4 (by decide +kernel) rfl rfl ⟨Nat.le_of_ble_eq_true rfl, Nat.le_of_ble_eq_true rfl⟩) hK hX hth hS rfl rfl rfl hl.1 rfl (Nat.le_of_ble_eq_true rfl) d_PS_in_2 ⟨Nat.le_of_ble_eq_true rfl, Nat.le_of_ble_eq_true rfl⟩ (fun E h9 => ⟨h9.1, fun q9 => h9.2 (by omega)⟩) (Nat.le_of_ble_eq_true rfl) (Nat.le_of_ble_eq_true rfl) (fun u H locs hp hX hS => ?_)
  obtain ⟨hc_1, hu⟩ := hp
  rw [hu] at hX
  refine lv_iload_n hx hb d_PS_in_5 rfl (lv_at hl 2 rfl) ?_
  refine z_const hx hb d_PS_in_6 ?_
  refine z_const hx hb d_PS_in_7 ?_
  refine zt_callS hF hT (k_chkB l hlt D ad cI sd M what 0 2 (by omega) (by omega) (by omega)) (hK.cS 3 tw_184 tw_182 tw_1 tw_183 (by decide +kernel) rfl rfl ⟨Nat.le_of_ble_eq_true rfl, Nat.le_of_ble_eq_true rfl⟩) hK hX hth hS rfl hl.1 rfl (Nat.le_of_ble_eq_true rfl) d_PS_in_8 ⟨Nat.le_of_ble_eq_true rfl, Nat.le_of_ble_eq_true rfl⟩ (fun E h9 => ⟨h9.1, fun q9 => h9.2 (by omega)⟩) (Nat.le_of_ble_eq_true rfl) (Nat.le_of_ble_eq_true rfl) (fun u H locs hp hX hS => ?_)
  obtain ⟨hc_2, hu⟩ := hp
  rw [hu] at hX
  refine lv_iload_n hx hb d_PS_in_11 rfl (lv_at hl 2 rfl) ?_
  rcases (show what = 0 ∨ what = 1 ∨ what = 2 by omega) with e9 | e9 | e9
  · skip
    refine lv_lookup (off := 28) (tgt := 40) hx hb d_PS_in_12 (by decide +kernel) (by rw [e9]; rfl) (by decide) ?_
    refine lv_aload_n hx hb d_PS_in_40 rfl (lv_at hl 0 rfl) ?_
    refine z_getr hx hb iw_PS hown hK hX 0 rfl rfl 0 (by decide) tw_144 (fun _ h => h) 1 rfl d_PS_in_41 ?_
    refine z_getrN hx hb iw_Ro hown hK hX 1 rfl rfl 2 (by decide) tw_32 (fun _ h => h) 6 rfl d_PS_in_44 ?_
    refine lv_iload_n hx hb d_PS_in_47 rfl (lv_at hl 1 rfl) ?_
    refine z_iald (i := r) (v := M 6 r) hx hb hK hX 6 rfl (by omega) (by decide) rfl d_PS_in_48 (fun rg_3 => ?_)
    exact zt_iret (z := M 6 r) (post := (fun z u => (((0 ≤ r ∧ r < M 1 0) ∧ (0 ≤ what ∧ what ≤ 2))) ∧ z = (xIn M r what) ∧ u = M)) hx hb hr hlk hK hX hS (by omega) ⟨by omega, by rw [e9]; rfl, rfl⟩ (Nat.le_of_ble_eq_true rfl) (Nat.le_of_ble_eq_true rfl) d_PS_in_49
  · skip
    refine lv_lookup (off := 38) (tgt := 50) hx hb d_PS_in_12 (by decide +kernel) (by rw [e9]; rfl) (by decide) ?_
    refine lv_aload_n hx hb d_PS_in_50 rfl (lv_at hl 0 rfl) ?_
    refine z_getr hx hb iw_PS hown hK hX 0 rfl rfl 0 (by decide) tw_144 (fun _ h => h) 1 rfl d_PS_in_51 ?_
    refine z_getrN hx hb iw_Ro hown hK hX 1 rfl rfl 3 (by decide) tw_34 (fun _ h => h) 7 rfl d_PS_in_54 ?_
    refine lv_iload_n hx hb d_PS_in_57 rfl (lv_at hl 1 rfl) ?_
    refine z_iald (i := r) (v := M 7 r) hx hb hK hX 7 rfl (by omega) (by decide) rfl d_PS_in_58 (fun rg_4 => ?_)
    exact zt_iret (z := M 7 r) (post := (fun z u => (((0 ≤ r ∧ r < M 1 0) ∧ (0 ≤ what ∧ what ≤ 2))) ∧ z = (xIn M r what) ∧ u = M)) hx hb hr hlk hK hX hS (by omega) ⟨by omega, by rw [e9]; rfl, rfl⟩ (Nat.le_of_ble_eq_true rfl) (Nat.le_of_ble_eq_true rfl) d_PS_in_59
  · skip
    refine lv_lookup (off := 48) (tgt := 60) hx hb d_PS_in_12 (by decide +kernel) (by rw [e9]; rfl) (by decide) ?_
    refine lv_aload_n hx hb d_PS_in_60 rfl (lv_at hl 0 rfl) ?_
    refine z_getr hx hb iw_PS hown hK hX 0 rfl rfl 0 (by decide) tw_144 (fun _ h => h) 1 rfl d_PS_in_61 ?_
    refine z_getrN hx hb iw_Ro hown hK hX 1 rfl rfl 4 (by decide) tw_36 (fun _ h => h) 8 rfl d_PS_in_64 ?_
    refine lv_iload_n hx hb d_PS_in_67 rfl (lv_at hl 1 rfl) ?_
    refine z_iald (i := r) (v := M 8 r) hx hb hK hX 8 rfl (by omega) (by decide) rfl d_PS_in_68 (fun rg_5 => ?_)
    exact zt_iret (z := M 8 r) (post := (fun z u => (((0 ≤ r ∧ r < M 1 0) ∧ (0 ≤ what ∧ what ≤ 2))) ∧ z = (xIn M r what) ∧ u = M)) hx hb hr hlk hK hX hS (by omega) ⟨by omega, by rw [e9]; rfl, rfl⟩ (Nat.le_of_ble_eq_true rfl) (Nat.le_of_ble_eq_true rfl) d_PS_in_69
set_option maxHeartbeats 4000000 in
set_option maxRecDepth 100000 in
theorem k_door (l : Launch) (hlt : l.stackTraces = false) (D : va_G) (ad : Nat → Nat) (cI : Nat → ClassId) (sd : Int64) (M : zM) (a b w : Int) (g0 : -2147483648 ≤ a ∧ a ≤ 2147483647) (g1 : -2147483648 ≤ b ∧ b ≤ 2147483647) (g2 : -2147483648 ≤ w ∧ w ≤ 2147483647) (hO : xOK M) : zTi l y_PS_door (.code y_PS_door c_PS_door 4 (some .int)) { frames := 8, cells := 5, slots := 30, locals := 133 } D (xL sd) ad cI M [.ref (ad 0), .int (zI (a)), .int (zI (b)), .int (zI (w))] (fun z u => (((0 ≤ a ∧ a < M 1 0) ∧ (0 ≤ b ∧ b < M 1 0) ∧ (1 ≤ w ∧ w ≤ 20) ∧ ¬ a = b) ∧ (M 0 4 = 0 ∧ M 2 0 < 16)) ∧ z = (M 2 0) ∧ u = xDoorsAdd M a b w) (fun E => (E = "java/lang/IllegalArgumentException" ∧ ¬ ((0 ≤ a ∧ a < M 1 0) ∧ (0 ≤ b ∧ b < M 1 0) ∧ (1 ≤ w ∧ w ≤ 20) ∧ ¬ a = b)) ∨ (E = "java/lang/IllegalStateException" ∧ ((0 ≤ a ∧ a < M 1 0) ∧ (0 ≤ b ∧ b < M 1 0) ∧ (1 ≤ w ∧ w ≤ 20) ∧ ¬ a = b) ∧ ¬ (M 0 4 = 0 ∧ M 2 0 < 16))) 5 30 := by
  refine zt_of (cc := c_PS_door) (maxL := 4) (ret := some .int) (own := "PersonSeeds") (by decide) rfl rfl (Nat.le_of_ble_eq_true rfl) ?_
  intro p e s m below meth c ls hF hr hT hX hK hth hl
  obtain ⟨hx, hb, hml, hown, hlk⟩ := id hF
  have hS : va_S (zA ad (xL sd)) s.heap s.heap [] := va_S.rf
  have hl : lv_has ls 4 [(0, .ref (ad 0)), (1, .int (zI (a))), (2, .int (zI (b))), (3, .int (zI (w)))] := hl
  have o1 := hO.1
  have o2 := hO.2.1
  have o3 := hO.2.2.1
  have o4 := hO.2.2.2.1
  refine lv_aload_n hx hb d_PS_door_0 rfl (lv_at hl 0 rfl) ?_
  refine lv_iload_n hx hb d_PS_door_1 rfl (lv_at hl 1 rfl) ?_
  refine zt_callV hF hT (k_chkR l hlt D ad cI sd M a (by omega) (by omega)) (hK.cV 1 tw_296 tw_293 tw_1 tw_295 ts_4 (by decide +kernel) rfl rfl ⟨Nat.le_of_ble_eq_true rfl, Nat.le_of_ble_eq_true rfl⟩) hK hX hth hS rfl rfl rfl hl.1 rfl (Nat.le_of_ble_eq_true rfl) d_PS_door_2 ⟨Nat.le_of_ble_eq_true rfl, Nat.le_of_ble_eq_true rfl⟩ (fun E h9 => Or.inl ⟨h9.1, fun q9 => h9.2 (by omega)⟩) (Nat.le_of_ble_eq_true rfl) (Nat.le_of_ble_eq_true rfl) (fun u H locs hp hX hS => ?_)
  obtain ⟨hc_1, hu⟩ := hp
  rw [hu] at hX
  refine lv_aload_n hx hb d_PS_door_5 rfl (lv_at hl 0 rfl) ?_
  refine lv_iload_n hx hb d_PS_door_6 rfl (lv_at hl 2 rfl) ?_
  refine zt_callV hF hT (k_chkR l hlt D ad cI sd M b (by omega) (by omega)) (hK.cV 1 tw_296 tw_293 tw_1 tw_295 ts_4 (by decide +kernel) rfl rfl ⟨Nat.le_of_ble_eq_true rfl, Nat.le_of_ble_eq_true rfl⟩) hK hX hth hS rfl rfl rfl hl.1 rfl (Nat.le_of_ble_eq_true rfl) d_PS_door_7 ⟨Nat.le_of_ble_eq_true rfl, Nat.le_of_ble_eq_true rfl⟩ (fun E h9 => Or.inl ⟨h9.1, fun q9 => h9.2 (by omega)⟩) (Nat.le_of_ble_eq_true rfl) (Nat.le_of_ble_eq_true rfl) (fun u H locs hp hX hS => ?_)
  obtain ⟨hc_2, hu⟩ := hp
  rw [hu] at hX
  refine lv_iload_n hx hb d_PS_door_10 rfl (lv_at hl 3 rfl) ?_
  refine z_const hx hb d_PS_door_11 ?_
  refine z_bipush hx hb d_PS_door_12 (by decide) ?_
  refine zt_callS hF hT (k_chkB l hlt D ad cI sd M w 1 20 (by omega) (by omega) (by omega)) (hK.cS 3 tw_184 tw_182 tw_1 tw_183 (by decide +kernel) rfl rfl ⟨Nat.le_of_ble_eq_true rfl, Nat.le_of_ble_eq_true rfl⟩) hK hX hth hS rfl hl.1 rfl (Nat.le_of_ble_eq_true rfl) d_PS_door_14 ⟨Nat.le_of_ble_eq_true rfl, Nat.le_of_ble_eq_true rfl⟩ (fun E h9 => Or.inl ⟨h9.1, fun q9 => h9.2 (by omega)⟩) (Nat.le_of_ble_eq_true rfl) (Nat.le_of_ble_eq_true rfl) (fun u H locs hp hX hS => ?_)
  obtain ⟨hc_3, hu⟩ := hp
  rw [hu] at hX
  refine lv_iload_n hx hb d_PS_door_17 rfl (lv_at hl 1 rfl) ?_
  refine lv_iload_n hx hb d_PS_door_18 rfl (lv_at hl 2 rfl) ?_
  refine zt_callS hF hT (k_chkD l hlt D ad cI sd M a b (by omega) (by omega)) (hK.cS 2 tw_299 tw_297 tw_1 tw_298 (by decide +kernel) rfl rfl ⟨Nat.le_of_ble_eq_true rfl, Nat.le_of_ble_eq_true rfl⟩) hK hX hth hS rfl hl.1 rfl (Nat.le_of_ble_eq_true rfl) d_PS_door_19 ⟨Nat.le_of_ble_eq_true rfl, Nat.le_of_ble_eq_true rfl⟩ (fun E h9 => Or.inl ⟨h9.1, fun q9 => h9.2 (by omega)⟩) (Nat.le_of_ble_eq_true rfl) (Nat.le_of_ble_eq_true rfl) (fun u H locs hp hX hS => ?_)
  obtain ⟨hc_4, hu⟩ := hp
  rw [hu] at hX
  refine lv_aload_n hx hb d_PS_door_22 rfl (lv_at hl 0 rfl) ?_
  refine z_geti (i := 4) (v := M 0 4) hx hb iw_PS hown hK hX 0 rfl rfl 4 (by decide) tw_148 (fun _ h => h) rfl rfl rfl d_PS_door_23 (fun rg_5 => ?_)
  refine z_if_ne (a := M 0 4) (tgt := 45) hx hb d_PS_door_26 (by decide) (by omega) (fun hb_6 => ?_) (fun hb_7 => ?_)
  · skip
    refine z_const hx hb d_PS_door_45 ?_
    refine zt_callS hF hT (k_chkS l hlt D ad cI sd M 0 (by omega)) (hK.cS 1 tw_254 tw_252 tw_1 tw_253 (by decide +kernel) rfl rfl ⟨Nat.le_of_ble_eq_true rfl, Nat.le_of_ble_eq_true rfl⟩) hK hX hth hS rfl hl.1 rfl (Nat.le_of_ble_eq_true rfl) d_PS_door_46 ⟨Nat.le_of_ble_eq_true rfl, Nat.le_of_ble_eq_true rfl⟩ (fun E h9 => Or.inr ⟨h9.1, by omega, fun q9 => h9.2 (by omega)⟩) (Nat.le_of_ble_eq_true rfl) (Nat.le_of_ble_eq_true rfl) (fun u H locs hp hX hS => ?_)
    obtain ⟨hc_8, hu⟩ := hp
    rw [hu] at hX
    exfalso
    omega
  · skip
    refine lv_aload_n hx hb d_PS_door_29 rfl (lv_at hl 0 rfl) ?_
    refine z_getr hx hb iw_PS hown hK hX 0 rfl rfl 1 (by decide) tw_145 (fun _ h => h) 2 rfl d_PS_door_30 ?_
    refine z_getiN (i := 0) (v := M 2 0) hx hb iw_Do hown hK hX 2 rfl rfl 0 (by decide) tw_59 (fun _ h => h) rfl rfl rfl d_PS_door_33 (fun rg_9 => ?_)
    refine z_bipush hx hb d_PS_door_36 (by decide) ?_
    refine z_icmp_ge (a := M 2 0) (b := 16) (tgt := 45) hx hb d_PS_door_38 (by decide) (by omega) (fun hb_10 => ?_) (fun hb_11 => ?_)
    · skip
      refine z_const hx hb d_PS_door_45 ?_
      refine zt_callS hF hT (k_chkS l hlt D ad cI sd M 0 (by omega)) (hK.cS 1 tw_254 tw_252 tw_1 tw_253 (by decide +kernel) rfl rfl ⟨Nat.le_of_ble_eq_true rfl, Nat.le_of_ble_eq_true rfl⟩) hK hX hth hS rfl hl.1 rfl (Nat.le_of_ble_eq_true rfl) d_PS_door_46 ⟨Nat.le_of_ble_eq_true rfl, Nat.le_of_ble_eq_true rfl⟩ (fun E h9 => Or.inr ⟨h9.1, by omega, fun q9 => h9.2 (by omega)⟩) (Nat.le_of_ble_eq_true rfl) (Nat.le_of_ble_eq_true rfl) (fun u H locs hp hX hS => ?_)
      obtain ⟨hc_12, hu⟩ := hp
      rw [hu] at hX
      exfalso
      omega
    · skip
      refine z_const hx hb d_PS_door_41 ?_
      refine lv_goto (tgt := 46) hx hb d_PS_door_42 (by decide) ?_
      refine zt_callS hF hT (k_chkS l hlt D ad cI sd M 1 (by omega)) (hK.cS 1 tw_254 tw_252 tw_1 tw_253 (by decide +kernel) rfl rfl ⟨Nat.le_of_ble_eq_true rfl, Nat.le_of_ble_eq_true rfl⟩) hK hX hth hS rfl hl.1 rfl (Nat.le_of_ble_eq_true rfl) d_PS_door_46 ⟨Nat.le_of_ble_eq_true rfl, Nat.le_of_ble_eq_true rfl⟩ (fun E h9 => Or.inr ⟨h9.1, by omega, fun q9 => h9.2 (by omega)⟩) (Nat.le_of_ble_eq_true rfl) (Nat.le_of_ble_eq_true rfl) (fun u H locs hp hX hS => ?_)
      obtain ⟨hc_13, hu⟩ := hp
      rw [hu] at hX
      refine lv_aload_n hx hb d_PS_door_49 rfl (lv_at hl 0 rfl) ?_
      refine z_getr hx hb iw_PS hown hK hX 0 rfl rfl 1 (by decide) tw_145 (fun _ h => h) 2 rfl d_PS_door_50 ?_
      refine lv_iload_n hx hb d_PS_door_53 rfl (lv_at hl 1 rfl) ?_
      refine lv_iload_n hx hb d_PS_door_54 rfl (lv_at hl 2 rfl) ?_
      refine lv_iload_n hx hb d_PS_door_55 rfl (lv_at hl 3 rfl) ?_
      refine z_callVNi hF (k_Do_add l D ad cI sd M a b w (by omega) (by omega) (by omega) (by omega) hO.2.2.2.2.2.1) (hK.cN 3 tw_304 tw_301 tw_3 tw_303 ts_5 (by decide +kernel) rfl rfl ⟨Nat.le_of_ble_eq_true rfl, Nat.le_of_ble_eq_true rfl⟩) hK hX hS rfl rfl rfl hl.1 rfl (Nat.le_of_ble_eq_true rfl) d_PS_door_56 ⟨Nat.le_of_ble_eq_true rfl, Nat.le_of_ble_eq_true rfl⟩ (fun z u H locs rg_14 hp hX hS => ?_)
      obtain ⟨hz, hu⟩ := hp
      rw [hu] at hX
      have hz : z = (M 2 0) := hz
      subst hz
      exact zt_iret (z := (M 2 0)) (post := (fun z u => (((0 ≤ a ∧ a < M 1 0) ∧ (0 ≤ b ∧ b < M 1 0) ∧ (1 ≤ w ∧ w ≤ 20) ∧ ¬ a = b) ∧ (M 0 4 = 0 ∧ M 2 0 < 16)) ∧ z = (M 2 0) ∧ u = xDoorsAdd M a b w)) hx hb hr hlk hK hX hS (by omega) ⟨by omega, by first | rfl | omega | (split <;> omega) | (repeat' split) <;> first | rfl | omega | simp_all, rfl⟩ (Nat.le_of_ble_eq_true rfl) (Nat.le_of_ble_eq_true rfl) d_PS_door_59

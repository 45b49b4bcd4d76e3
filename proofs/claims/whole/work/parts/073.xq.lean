set_option maxHeartbeats 4000000 in
set_option maxRecDepth 100000 in
theorem k_room (l : Launch) (hlt : l.stackTraces = false) (D : va_G) (ad : Nat → Nat) (cI : Nat → ClassId) (sd : Int64) (M : zM) (v : Int) (g0 : -2147483648 ≤ v ∧ v ≤ 2147483647) (hO : xOK M) : zTi l y_PS_room (.code y_PS_room c_PS_room 3 (some .int)) { frames := 7, cells := 2, slots := 12, locals := 112 } D (xL sd) ad cI M [.ref (ad 0), .int (zI (v))] (fun z u => ((1 ≤ v ∧ v ≤ 100) ∧ (M 0 4 = 0 ∧ M 1 0 < 12)) ∧ z = (M 1 0) ∧ u = xPlan sd (xRoomsAdd M v) (M 1 0 + 1)) (fun E => (E = "java/lang/IllegalArgumentException" ∧ ¬ (1 ≤ v ∧ v ≤ 100)) ∨ (E = "java/lang/IllegalStateException" ∧ (1 ≤ v ∧ v ≤ 100) ∧ ¬ (M 0 4 = 0 ∧ M 1 0 < 12))) 2 12 := by
  refine zt_of (cc := c_PS_room) (maxL := 3) (ret := some .int) (own := "PersonSeeds") (by decide) rfl rfl (Nat.le_of_ble_eq_true rfl) ?_
  intro p e s m below meth c ls hF hr hT hX hK hth hl
  obtain ⟨hx, hb, hml, hown, hlk⟩ := id hF
  have hS : va_S (zA ad (xL sd)) s.heap s.heap [] := va_S.rf
  have hl : lv_has ls 3 [(0, .ref (ad 0)), (1, .int (zI (v)))] := hl
  have o1 := hO.1
  have o2 := hO.2.1
  have o3 := hO.2.2.1
  have o4 := hO.2.2.2.1
  refine lv_iload_n hx hb d_PS_room_0 rfl (lv_at hl 1 rfl) ?_
  refine z_const hx hb d_PS_room_1 ?_
  refine z_bipush hx hb d_PS_room_2 (by decide) ?_
  refine zt_callS hF hT (k_chkB l hlt D ad cI sd M v 1 100 (by omega) (by omega) (by omega)) (hK.cS 3 tw_184 tw_182 tw_1 tw_183 (by decide +kernel) rfl rfl ⟨Nat.le_of_ble_eq_true rfl, Nat.le_of_ble_eq_true rfl⟩) hK hX hth hS rfl hl.1 rfl (Nat.le_of_ble_eq_true rfl) d_PS_room_4 ⟨Nat.le_of_ble_eq_true rfl, Nat.le_of_ble_eq_true rfl⟩ (fun E h9 => Or.inl ⟨h9.1, fun q9 => h9.2 (by omega)⟩) (Nat.le_of_ble_eq_true rfl) (Nat.le_of_ble_eq_true rfl) (fun u H locs hp hX hS => ?_)
  obtain ⟨hc_1, hu⟩ := hp
  rw [hu] at hX
  refine lv_aload_n hx hb d_PS_room_7 rfl (lv_at hl 0 rfl) ?_
  refine z_geti (i := 4) (v := M 0 4) hx hb iw_PS hown hK hX 0 rfl rfl 4 (by decide) tw_148 (fun _ h => h) rfl rfl rfl d_PS_room_8 (fun rg_2 => ?_)
  refine z_if_ne (a := M 0 4) (tgt := 30) hx hb d_PS_room_11 (by decide) (by omega) (fun hb_3 => ?_) (fun hb_4 => ?_)
  · skip
    refine z_const hx hb d_PS_room_30 ?_
    refine zt_callS hF hT (k_chkS l hlt D ad cI sd M 0 (by omega)) (hK.cS 1 tw_254 tw_252 tw_1 tw_253 (by decide +kernel) rfl rfl ⟨Nat.le_of_ble_eq_true rfl, Nat.le_of_ble_eq_true rfl⟩) hK hX hth hS rfl hl.1 rfl (Nat.le_of_ble_eq_true rfl) d_PS_room_31 ⟨Nat.le_of_ble_eq_true rfl, Nat.le_of_ble_eq_true rfl⟩ (fun E h9 => Or.inr ⟨h9.1, by omega, fun q9 => h9.2 (by omega)⟩) (Nat.le_of_ble_eq_true rfl) (Nat.le_of_ble_eq_true rfl) (fun u H locs hp hX hS => ?_)
    obtain ⟨hc_5, hu⟩ := hp
    rw [hu] at hX
    exfalso
    omega
  · skip
    refine lv_aload_n hx hb d_PS_room_14 rfl (lv_at hl 0 rfl) ?_
    refine z_getr hx hb iw_PS hown hK hX 0 rfl rfl 0 (by decide) tw_144 (fun _ h => h) 1 rfl d_PS_room_15 ?_
    refine z_getiN (i := 0) (v := M 1 0) hx hb iw_Ro hown hK hX 1 rfl rfl 0 (by decide) tw_29 (fun _ h => h) rfl rfl rfl d_PS_room_18 (fun rg_6 => ?_)
    refine z_bipush hx hb d_PS_room_21 (by decide) ?_
    refine z_icmp_ge (a := M 1 0) (b := 12) (tgt := 30) hx hb d_PS_room_23 (by decide) (by omega) (fun hb_7 => ?_) (fun hb_8 => ?_)
    · skip
      refine z_const hx hb d_PS_room_30 ?_
      refine zt_callS hF hT (k_chkS l hlt D ad cI sd M 0 (by omega)) (hK.cS 1 tw_254 tw_252 tw_1 tw_253 (by decide +kernel) rfl rfl ⟨Nat.le_of_ble_eq_true rfl, Nat.le_of_ble_eq_true rfl⟩) hK hX hth hS rfl hl.1 rfl (Nat.le_of_ble_eq_true rfl) d_PS_room_31 ⟨Nat.le_of_ble_eq_true rfl, Nat.le_of_ble_eq_true rfl⟩ (fun E h9 => Or.inr ⟨h9.1, by omega, fun q9 => h9.2 (by omega)⟩) (Nat.le_of_ble_eq_true rfl) (Nat.le_of_ble_eq_true rfl) (fun u H locs hp hX hS => ?_)
      obtain ⟨hc_9, hu⟩ := hp
      rw [hu] at hX
      exfalso
      omega
    · skip
      refine z_const hx hb d_PS_room_26 ?_
      refine lv_goto (tgt := 31) hx hb d_PS_room_27 (by decide) ?_
      refine zt_callS hF hT (k_chkS l hlt D ad cI sd M 1 (by omega)) (hK.cS 1 tw_254 tw_252 tw_1 tw_253 (by decide +kernel) rfl rfl ⟨Nat.le_of_ble_eq_true rfl, Nat.le_of_ble_eq_true rfl⟩) hK hX hth hS rfl hl.1 rfl (Nat.le_of_ble_eq_true rfl) d_PS_room_31 ⟨Nat.le_of_ble_eq_true rfl, Nat.le_of_ble_eq_true rfl⟩ (fun E h9 => Or.inr ⟨h9.1, by omega, fun q9 => h9.2 (by omega)⟩) (Nat.le_of_ble_eq_true rfl) (Nat.le_of_ble_eq_true rfl) (fun u H locs hp hX hS => ?_)
      obtain ⟨hc_10, hu⟩ := hp
      rw [hu] at hX
      refine lv_aload_n hx hb d_PS_room_34 rfl (lv_at hl 0 rfl) ?_
      refine z_getr hx hb iw_PS hown hK hX 0 rfl rfl 0 (by decide) tw_144 (fun _ h => h) 1 rfl d_PS_room_35 ?_
      refine lv_iload_n hx hb d_PS_room_38 rfl (lv_at hl 1 rfl) ?_
      refine z_callVNi hF (k_Ro_add l D ad cI sd M v (by omega) (by omega)) (hK.cN 1 tw_274 tw_271 tw_2 tw_273 ts_1 (by decide +kernel) rfl rfl ⟨Nat.le_of_ble_eq_true rfl, Nat.le_of_ble_eq_true rfl⟩) hK hX hS rfl rfl rfl hl.1 rfl (Nat.le_of_ble_eq_true rfl) d_PS_room_39 ⟨Nat.le_of_ble_eq_true rfl, Nat.le_of_ble_eq_true rfl⟩ (fun z u H locs rg_11 hp hX hS => ?_)
      obtain ⟨hz, hu⟩ := hp
      rw [hu] at hX
      have hz : z = (M 1 0) := hz
      subst hz
      refine lv_istore_n (lv' := [(2, .int (zI ((M 1 0)))), (0, .ref (ad 0)), (1, .int (zI (v)))]) hx hb d_PS_room_42 rfl hl (by decide) rfl (fun ls hl => ?_)
      refine lv_aload_n hx hb d_PS_room_43 rfl (lv_at hl 1 rfl) ?_
      refine z_getr hx hb iw_PS hown hK hX 0 rfl rfl 3 (by decide) tw_147 (fun _ h => h) 4 rfl d_PS_room_44 ?_
      refine lv_aload_n hx hb d_PS_room_47 rfl (lv_at hl 1 rfl) ?_
      refine z_getr hx hb iw_PS hown hK hX 0 rfl rfl 0 (by decide) tw_144 (fun _ h => h) 1 rfl d_PS_room_48 ?_
      refine z_getiN (i := 0) (v := (xRoomsAdd M v) 1 0) hx hb iw_Ro hown hK hX 1 rfl rfl 0 (by decide) tw_29 (fun _ h => h) rfl rfl rfl d_PS_room_51 (fun rg_12 => ?_)
      refine z_callVNv hF (k_Pe_plan l D ad cI sd (xRoomsAdd M v) ((xRoomsAdd M v) 1 0) (by rw [xRoomsAdd_1]; omega) (by have e9 : xRoomsAdd M v 4 = M 4 := xRoomsAdd_c (by decide) (by decide); rw [e9]; exact o3) (by have e9 : xRoomsAdd M v 4 = M 4 := xRoomsAdd_c (by decide) (by decide); have e8 : xRoomsAdd M v 19 = M 19 := xRoomsAdd_c (by decide) (by decide); rw [e9, e8]; exact hO.2.2.2.2.2.2.2.2.2)) (hK.cN 1 tw_278 tw_275 tw_6 tw_277 ts_2 (by decide +kernel) rfl rfl ⟨Nat.le_of_ble_eq_true rfl, Nat.le_of_ble_eq_true rfl⟩) hK hX hS rfl rfl rfl hl.1 rfl (Nat.le_of_ble_eq_true rfl) d_PS_room_54 ⟨Nat.le_of_ble_eq_true rfl, Nat.le_of_ble_eq_true rfl⟩ (fun u H locs hp hX hS => ?_)
      rw [hp] at hX
      refine lv_iload_n hx hb d_PS_room_57 rfl (lv_at hl 0 rfl) ?_
      exact zt_iret (z := (M 1 0)) (post := (fun z u => ((1 ≤ v ∧ v ≤ 100) ∧ (M 0 4 = 0 ∧ M 1 0 < 12)) ∧ z = (M 1 0) ∧ u = xPlan sd (xRoomsAdd M v) (M 1 0 + 1))) hx hb hr hlk hK hX hS (by omega) ⟨by omega, rfl, by rw [xRoomsAdd_1]⟩ (Nat.le_of_ble_eq_true rfl) (Nat.le_of_ble_eq_true rfl) d_PS_room_58
set_option maxHeartbeats 4000000 in
set_option maxRecDepth 100000 in
theorem k_arrives (l : Launch) (hlt : l.stackTraces = false) (D : va_G) (ad : Nat → Nat) (cI : Nat → ClassId) (sd : Int64) (M : zM) (t n : Int) (g0 : -2147483648 ≤ t ∧ t ≤ 2147483647) (g1 : -2147483648 ≤ n ∧ n ≤ 2147483647) (hO : xOK M) : zTi l y_PS_arrives (.code y_PS_arrives c_PS_arrives 3 (some .int)) { frames := 7, cells := 3, slots := 18, locals := 112 } D (xL sd) ad cI M [.ref (ad 0), .int (zI (t)), .int (zI (n))] (fun z u => (((0 ≤ t ∧ t ≤ 1439) ∧ (1 ≤ n ∧ n ≤ 20)) ∧ (M 0 4 = 0 ∧ 0 < M 1 0 ∧ M 4 1 + n ≤ 60)) ∧ z = (M 4 1 + n) ∧ u = xPlan sd (xPersAdd M t n) (M 1 0)) (fun E => (E = "java/lang/IllegalArgumentException" ∧ ¬ ((0 ≤ t ∧ t ≤ 1439) ∧ (1 ≤ n ∧ n ≤ 20))) ∨ (E = "java/lang/IllegalStateException" ∧ ((0 ≤ t ∧ t ≤ 1439) ∧ (1 ≤ n ∧ n ≤ 20)) ∧ ¬ (M 0 4 = 0 ∧ 0 < M 1 0 ∧ M 4 1 + n ≤ 60))) 3 18 := by
  refine zt_of (cc := c_PS_arrives) (maxL := 3) (ret := some .int) (own := "PersonSeeds") (by decide) rfl rfl (Nat.le_of_ble_eq_true rfl) ?_
  intro p e s m below meth c ls hF hr hT hX hK hth hl
  obtain ⟨hx, hb, hml, hown, hlk⟩ := id hF
  have hS : va_S (zA ad (xL sd)) s.heap s.heap [] := va_S.rf
  have hl : lv_has ls 3 [(0, .ref (ad 0)), (1, .int (zI (t))), (2, .int (zI (n)))] := hl
  have o1 := hO.1
  have o2 := hO.2.1
  have o3 := hO.2.2.1
  have o4 := hO.2.2.2.1
  refine lv_iload_n hx hb d_PS_arrives_0 rfl (lv_at hl 1 rfl) ?_
  refine z_const hx hb d_PS_arrives_1 ?_
  refine z_sipush hx hb d_PS_arrives_2 (by decide) ?_
  refine zt_callS hF hT (k_chkB l hlt D ad cI sd M t 0 1439 (by omega) (by omega) (by omega)) (hK.cS 3 tw_184 tw_182 tw_1 tw_183 (by decide +kernel) rfl rfl ⟨Nat.le_of_ble_eq_true rfl, Nat.le_of_ble_eq_true rfl⟩) hK hX hth hS rfl hl.1 rfl (Nat.le_of_ble_eq_true rfl) d_PS_arrives_5 ⟨Nat.le_of_ble_eq_true rfl, Nat.le_of_ble_eq_true rfl⟩ (fun E h9 => Or.inl ⟨h9.1, fun q9 => h9.2 (by omega)⟩) (Nat.le_of_ble_eq_true rfl) (Nat.le_of_ble_eq_true rfl) (fun u H locs hp hX hS => ?_)
  obtain ⟨hc_1, hu⟩ := hp
  rw [hu] at hX
  refine lv_iload_n hx hb d_PS_arrives_8 rfl (lv_at hl 2 rfl) ?_
  refine z_const hx hb d_PS_arrives_9 ?_
  refine z_bipush hx hb d_PS_arrives_10 (by decide) ?_
  refine zt_callS hF hT (k_chkB l hlt D ad cI sd M n 1 20 (by omega) (by omega) (by omega)) (hK.cS 3 tw_184 tw_182 tw_1 tw_183 (by decide +kernel) rfl rfl ⟨Nat.le_of_ble_eq_true rfl, Nat.le_of_ble_eq_true rfl⟩) hK hX hth hS rfl hl.1 rfl (Nat.le_of_ble_eq_true rfl) d_PS_arrives_12 ⟨Nat.le_of_ble_eq_true rfl, Nat.le_of_ble_eq_true rfl⟩ (fun E h9 => Or.inl ⟨h9.1, fun q9 => h9.2 (by omega)⟩) (Nat.le_of_ble_eq_true rfl) (Nat.le_of_ble_eq_true rfl) (fun u H locs hp hX hS => ?_)
  obtain ⟨hc_2, hu⟩ := hp
  rw [hu] at hX
  refine lv_aload_n hx hb d_PS_arrives_15 rfl (lv_at hl 0 rfl) ?_
  refine z_geti (i := 4) (v := M 0 4) hx hb iw_PS hown hK hX 0 rfl rfl 4 (by decide) tw_148 (fun _ h => h) rfl rfl rfl d_PS_arrives_16 (fun rg_3 => ?_)
  refine z_if_ne (a := M 0 4) (tgt := 50) hx hb d_PS_arrives_19 (by decide) (by omega) (fun hb_4 => ?_) (fun hb_5 => ?_)
  · skip
    refine z_const hx hb d_PS_arrives_50 ?_
    refine zt_callS hF hT (k_chkS l hlt D ad cI sd M 0 (by omega)) (hK.cS 1 tw_254 tw_252 tw_1 tw_253 (by decide +kernel) rfl rfl ⟨Nat.le_of_ble_eq_true rfl, Nat.le_of_ble_eq_true rfl⟩) hK hX hth hS rfl hl.1 rfl (Nat.le_of_ble_eq_true rfl) d_PS_arrives_51 ⟨Nat.le_of_ble_eq_true rfl, Nat.le_of_ble_eq_true rfl⟩ (fun E h9 => Or.inr ⟨h9.1, by omega, fun q9 => h9.2 (by omega)⟩) (Nat.le_of_ble_eq_true rfl) (Nat.le_of_ble_eq_true rfl) (fun u H locs hp hX hS => ?_)
    obtain ⟨hc_6, hu⟩ := hp
    rw [hu] at hX
    exfalso
    omega
  · skip
    refine lv_aload_n hx hb d_PS_arrives_22 rfl (lv_at hl 0 rfl) ?_
    refine z_getr hx hb iw_PS hown hK hX 0 rfl rfl 0 (by decide) tw_144 (fun _ h => h) 1 rfl d_PS_arrives_23 ?_
    refine z_getiN (i := 0) (v := M 1 0) hx hb iw_Ro hown hK hX 1 rfl rfl 0 (by decide) tw_29 (fun _ h => h) rfl rfl rfl d_PS_arrives_26 (fun rg_7 => ?_)
    refine z_if_le (a := M 1 0) (tgt := 50) hx hb d_PS_arrives_29 (by decide) (by omega) (fun hb_8 => ?_) (fun hb_9 => ?_)
    · skip
      refine z_const hx hb d_PS_arrives_50 ?_
      refine zt_callS hF hT (k_chkS l hlt D ad cI sd M 0 (by omega)) (hK.cS 1 tw_254 tw_252 tw_1 tw_253 (by decide +kernel) rfl rfl ⟨Nat.le_of_ble_eq_true rfl, Nat.le_of_ble_eq_true rfl⟩) hK hX hth hS rfl hl.1 rfl (Nat.le_of_ble_eq_true rfl) d_PS_arrives_51 ⟨Nat.le_of_ble_eq_true rfl, Nat.le_of_ble_eq_true rfl⟩ (fun E h9 => Or.inr ⟨h9.1, by omega, fun q9 => h9.2 (by omega)⟩) (Nat.le_of_ble_eq_true rfl) (Nat.le_of_ble_eq_true rfl) (fun u H locs hp hX hS => ?_)
      obtain ⟨hc_10, hu⟩ := hp
      rw [hu] at hX
      exfalso
      omega
    · skip
      refine lv_aload_n hx hb d_PS_arrives_32 rfl (lv_at hl 0 rfl) ?_
      refine z_getr hx hb iw_PS hown hK hX 0 rfl rfl 3 (by decide) tw_147 (fun _ h => h) 4 rfl d_PS_arrives_33 ?_
      refine z_getiN (i := 1) (v := M 4 1) hx hb iw_Pe hown hK hX 4 rfl rfl 1 (by decide) tw_110 (fun _ h => h) rfl rfl rfl d_PS_arrives_36 (fun rg_11 => ?_)
      refine lv_iload_n hx hb d_PS_arrives_39 rfl (lv_at hl 2 rfl) ?_
      refine z_iadd hx hb d_PS_arrives_40 ?_
      refine z_bipush hx hb d_PS_arrives_41 (by decide) ?_
      refine z_icmp_gt (a := (M 4 1) + n) (b := 60) (tgt := 50) hx hb d_PS_arrives_43 (by decide) (by omega) (fun hb_12 => ?_) (fun hb_13 => ?_)
      · skip
        refine z_const hx hb d_PS_arrives_50 ?_
        refine zt_callS hF hT (k_chkS l hlt D ad cI sd M 0 (by omega)) (hK.cS 1 tw_254 tw_252 tw_1 tw_253 (by decide +kernel) rfl rfl ⟨Nat.le_of_ble_eq_true rfl, Nat.le_of_ble_eq_true rfl⟩) hK hX hth hS rfl hl.1 rfl (Nat.le_of_ble_eq_true rfl) d_PS_arrives_51 ⟨Nat.le_of_ble_eq_true rfl, Nat.le_of_ble_eq_true rfl⟩ (fun E h9 => Or.inr ⟨h9.1, by omega, fun q9 => h9.2 (by omega)⟩) (Nat.le_of_ble_eq_true rfl) (Nat.le_of_ble_eq_true rfl) (fun u H locs hp hX hS => ?_)
        obtain ⟨hc_14, hu⟩ := hp
        rw [hu] at hX
        exfalso
        omega
      · skip
        refine z_const hx hb d_PS_arrives_46 ?_
        refine lv_goto (tgt := 51) hx hb d_PS_arrives_47 (by decide) ?_
        refine zt_callS hF hT (k_chkS l hlt D ad cI sd M 1 (by omega)) (hK.cS 1 tw_254 tw_252 tw_1 tw_253 (by decide +kernel) rfl rfl ⟨Nat.le_of_ble_eq_true rfl, Nat.le_of_ble_eq_true rfl⟩) hK hX hth hS rfl hl.1 rfl (Nat.le_of_ble_eq_true rfl) d_PS_arrives_51 ⟨Nat.le_of_ble_eq_true rfl, Nat.le_of_ble_eq_true rfl⟩ (fun E h9 => Or.inr ⟨h9.1, by omega, fun q9 => h9.2 (by omega)⟩) (Nat.le_of_ble_eq_true rfl) (Nat.le_of_ble_eq_true rfl) (fun u H locs hp hX hS => ?_)
        obtain ⟨hc_15, hu⟩ := hp
        rw [hu] at hX
        refine lv_aload_n hx hb d_PS_arrives_54 rfl (lv_at hl 0 rfl) ?_
        refine z_getr hx hb iw_PS hown hK hX 0 rfl rfl 3 (by decide) tw_147 (fun _ h => h) 4 rfl d_PS_arrives_55 ?_
        refine lv_iload_n hx hb d_PS_arrives_58 rfl (lv_at hl 1 rfl) ?_
        refine lv_iload_n hx hb d_PS_arrives_59 rfl (lv_at hl 2 rfl) ?_
        refine z_callVNv hF (k_Pe_add l D ad cI sd M t n (by omega) (by omega) (by omega) (by omega)) (hK.cN 2 tw_326 tw_323 tw_6 tw_325 ts_8 (by decide +kernel) rfl rfl ⟨Nat.le_of_ble_eq_true rfl, Nat.le_of_ble_eq_true rfl⟩) hK hX hS rfl rfl rfl hl.1 rfl (Nat.le_of_ble_eq_true rfl) d_PS_arrives_60 ⟨Nat.le_of_ble_eq_true rfl, Nat.le_of_ble_eq_true rfl⟩ (fun u H locs hp hX hS => ?_)
        rw [hp] at hX
        refine lv_aload_n hx hb d_PS_arrives_63 rfl (lv_at hl 0 rfl) ?_
        refine z_getr hx hb iw_PS hown hK hX 0 rfl rfl 3 (by decide) tw_147 (fun _ h => h) 4 rfl d_PS_arrives_64 ?_
        refine lv_aload_n hx hb d_PS_arrives_67 rfl (lv_at hl 0 rfl) ?_
        refine z_getr hx hb iw_PS hown hK hX 0 rfl rfl 0 (by decide) tw_144 (fun _ h => h) 1 rfl d_PS_arrives_68 ?_
        refine z_getiN (i := 0) (v := (xPersAdd M t n) 1 0) hx hb iw_Ro hown hK hX 1 rfl rfl 0 (by decide) tw_29 (fun _ h => h) rfl rfl rfl d_PS_arrives_71 (fun rg_16 => ?_)
        refine z_callVNv hF (k_Pe_plan l D ad cI sd (xPersAdd M t n) ((xPersAdd M t n) 1 0) (by have e9 : xPersAdd M t n 1 = M 1 := xPersAdd_c (by decide) (by decide); rw [e9]; omega) (by rw [xPersAdd_41]; omega) (xPersAdd_b hO.2.2.2.2.2.2.2.2.2 (by omega) (by omega) (by omega) (by omega))) (hK.cN 1 tw_278 tw_275 tw_6 tw_277 ts_2 (by decide +kernel) rfl rfl ⟨Nat.le_of_ble_eq_true rfl, Nat.le_of_ble_eq_true rfl⟩) hK hX hS rfl rfl rfl hl.1 rfl (Nat.le_of_ble_eq_true rfl) d_PS_arrives_74 ⟨Nat.le_of_ble_eq_true rfl, Nat.le_of_ble_eq_true rfl⟩ (fun u H locs hp hX hS => ?_)
        rw [hp] at hX
        have e8 : xPlan sd (xPersAdd M t n) (xPersAdd M t n 1 0) 4 1 = M 4 1 + n := by unfold xPlan; rw [xPlanN_c (by decide) (by decide) (by decide) (by decide) (by decide), xPersAdd_41]
        refine lv_aload_n hx hb d_PS_arrives_77 rfl (lv_at hl 0 rfl) ?_
        refine z_getr hx hb iw_PS hown hK hX 0 rfl rfl 3 (by decide) tw_147 (fun _ h => h) 4 rfl d_PS_arrives_78 ?_
        refine z_getiN (i := 1) (v := (xPlan sd (xPersAdd M t n) ((xPersAdd M t n) 1 0)) 4 1) hx hb iw_Pe hown hK hX 4 rfl rfl 1 (by decide) tw_110 (fun _ h => h) rfl rfl rfl d_PS_arrives_81 (fun rg_17 => ?_)
        exact zt_iret (z := (xPlan sd (xPersAdd M t n) ((xPersAdd M t n) 1 0)) 4 1) (post := (fun z u => (((0 ≤ t ∧ t ≤ 1439) ∧ (1 ≤ n ∧ n ≤ 20)) ∧ (M 0 4 = 0 ∧ 0 < M 1 0 ∧ M 4 1 + n ≤ 60)) ∧ z = (M 4 1 + n) ∧ u = xPlan sd (xPersAdd M t n) (M 1 0))) hx hb hr hlk hK hX hS (by omega) ⟨by omega, e8, by have e9 : xPersAdd M t n 1 = M 1 := xPersAdd_c (by decide) (by decide); rw [e9]⟩ (Nat.le_of_ble_eq_true rfl) (Nat.le_of_ble_eq_true rfl) d_PS_arrives_84
set_option maxHeartbeats 4000000 in
set_option maxRecDepth 100000 in
theorem k_run (l : Launch) (hlt : l.stackTraces = false) (D : va_G) (ad : Nat → Nat) (cI : Nat → ClassId) (sd : Int64) (M : zM) (n : Int) (g0 : -2147483648 ≤ n ∧ n ≤ 2147483647) (hO : xOK M) : zTi l y_PS_run (.code y_PS_run c_PS_run 3 (some .int)) { frames := 7, cells := 2, slots := 12, locals := 116 } D (xL sd) ad cI M [.ref (ad 0), .int (zI (n))] (fun z u => ((1 ≤ n ∧ n ≤ 500) ∧ (0 < M 1 0 ∧ M 0 4 + n ≤ 2000)) ∧ z = (bm (xRun M n.toNat 0 5 - xRun M n.toNat 0 6)) ∧ u = xRun M n.toNat) (fun E => (E = "java/lang/IllegalArgumentException" ∧ ¬ (1 ≤ n ∧ n ≤ 500)) ∨ (E = "java/lang/IllegalStateException" ∧ (1 ≤ n ∧ n ≤ 500) ∧ ¬ (0 < M 1 0 ∧ M 0 4 + n ≤ 2000))) 2 12 := by
  refine zt_of (cc := c_PS_run) (maxL := 3) (ret := some .int) (own := "PersonSeeds") (by decide) rfl rfl (Nat.le_of_ble_eq_true rfl) ?_
  intro p e s m below meth c ls hF hr hT hX hK hth hl
  obtain ⟨hx, hb, hml, hown, hlk⟩ := id hF
  have hS : va_S (zA ad (xL sd)) s.heap s.heap [] := va_S.rf
  have hl : lv_has ls 3 [(0, .ref (ad 0)), (1, .int (zI (n)))] := hl
  have o1 := hO.1
  have o2 := hO.2.1
  have o3 := hO.2.2.1
  have o4 := hO.2.2.2.1
  refine lv_iload_n hx hb d_PS_run_0 rfl (lv_at hl 1 rfl) ?_
  refine z_const hx hb d_PS_run_1 ?_
  refine z_sipush hx hb d_PS_run_2 (by decide) ?_
  refine zt_callS hF hT (k_chkB l hlt D ad cI sd M n 1 500 (by omega) (by omega) (by omega)) (hK.cS 3 tw_184 tw_182 tw_1 tw_183 (by decide +kernel) rfl rfl ⟨Nat.le_of_ble_eq_true rfl, Nat.le_of_ble_eq_true rfl⟩) hK hX hth hS rfl hl.1 rfl (Nat.le_of_ble_eq_true rfl) d_PS_run_5 ⟨Nat.le_of_ble_eq_true rfl, Nat.le_of_ble_eq_true rfl⟩ (fun E h9 => Or.inl ⟨h9.1, fun q9 => h9.2 (by omega)⟩) (Nat.le_of_ble_eq_true rfl) (Nat.le_of_ble_eq_true rfl) (fun u H locs hp hX hS => ?_)
  obtain ⟨hc_1, hu⟩ := hp
  rw [hu] at hX
  refine lv_aload_n hx hb d_PS_run_8 rfl (lv_at hl 0 rfl) ?_
  refine z_getr hx hb iw_PS hown hK hX 0 rfl rfl 0 (by decide) tw_144 (fun _ h => h) 1 rfl d_PS_run_9 ?_
  refine z_getiN (i := 0) (v := M 1 0) hx hb iw_Ro hown hK hX 1 rfl rfl 0 (by decide) tw_29 (fun _ h => h) rfl rfl rfl d_PS_run_12 (fun rg_2 => ?_)
  refine z_if_le (a := M 1 0) (tgt := 34) hx hb d_PS_run_15 (by decide) (by omega) (fun hb_3 => ?_) (fun hb_4 => ?_)
  · skip
    refine z_const hx hb d_PS_run_34 ?_
    refine zt_callS hF hT (k_chkS l hlt D ad cI sd M 0 (by omega)) (hK.cS 1 tw_254 tw_252 tw_1 tw_253 (by decide +kernel) rfl rfl ⟨Nat.le_of_ble_eq_true rfl, Nat.le_of_ble_eq_true rfl⟩) hK hX hth hS rfl hl.1 rfl (Nat.le_of_ble_eq_true rfl) d_PS_run_35 ⟨Nat.le_of_ble_eq_true rfl, Nat.le_of_ble_eq_true rfl⟩ (fun E h9 => Or.inr ⟨h9.1, by omega, fun q9 => h9.2 (by omega)⟩) (Nat.le_of_ble_eq_true rfl) (Nat.le_of_ble_eq_true rfl) (fun u H locs hp hX hS => ?_)
    obtain ⟨hc_5, hu⟩ := hp
    rw [hu] at hX
    exfalso
    omega
  · skip
    refine lv_aload_n hx hb d_PS_run_18 rfl (lv_at hl 0 rfl) ?_
    refine z_geti (i := 4) (v := M 0 4) hx hb iw_PS hown hK hX 0 rfl rfl 4 (by decide) tw_148 (fun _ h => h) rfl rfl rfl d_PS_run_19 (fun rg_6 => ?_)
    refine lv_iload_n hx hb d_PS_run_22 rfl (lv_at hl 1 rfl) ?_
    refine z_iadd hx hb d_PS_run_23 ?_
    refine z_sipush hx hb d_PS_run_24 (by decide) ?_
    refine z_icmp_gt (a := (M 0 4) + n) (b := 2000) (tgt := 34) hx hb d_PS_run_27 (by decide) (by omega) (fun hb_7 => ?_) (fun hb_8 => ?_)
    · skip
      refine z_const hx hb d_PS_run_34 ?_
      refine zt_callS hF hT (k_chkS l hlt D ad cI sd M 0 (by omega)) (hK.cS 1 tw_254 tw_252 tw_1 tw_253 (by decide +kernel) rfl rfl ⟨Nat.le_of_ble_eq_true rfl, Nat.le_of_ble_eq_true rfl⟩) hK hX hth hS rfl hl.1 rfl (Nat.le_of_ble_eq_true rfl) d_PS_run_35 ⟨Nat.le_of_ble_eq_true rfl, Nat.le_of_ble_eq_true rfl⟩ (fun E h9 => Or.inr ⟨h9.1, by omega, fun q9 => h9.2 (by omega)⟩) (Nat.le_of_ble_eq_true rfl) (Nat.le_of_ble_eq_true rfl) (fun u H locs hp hX hS => ?_)
      obtain ⟨hc_9, hu⟩ := hp
      rw [hu] at hX
      exfalso
      omega
    · skip
      refine z_const hx hb d_PS_run_30 ?_
      refine lv_goto (tgt := 35) hx hb d_PS_run_31 (by decide) ?_
      refine zt_callS hF hT (k_chkS l hlt D ad cI sd M 1 (by omega)) (hK.cS 1 tw_254 tw_252 tw_1 tw_253 (by decide +kernel) rfl rfl ⟨Nat.le_of_ble_eq_true rfl, Nat.le_of_ble_eq_true rfl⟩) hK hX hth hS rfl hl.1 rfl (Nat.le_of_ble_eq_true rfl) d_PS_run_35 ⟨Nat.le_of_ble_eq_true rfl, Nat.le_of_ble_eq_true rfl⟩ (fun E h9 => Or.inr ⟨h9.1, by omega, fun q9 => h9.2 (by omega)⟩) (Nat.le_of_ble_eq_true rfl) (Nat.le_of_ble_eq_true rfl) (fun u H locs hp hX hS => ?_)
      obtain ⟨hc_10, hu⟩ := hp
      rw [hu] at hX
      refine z_const hx hb d_PS_run_38 ?_
      refine lv_istore_n (lv' := [(2, .int (zI (0))), (0, .ref (ad 0)), (1, .int (zI (n)))]) hx hb d_PS_run_39 rfl hl (by decide) rfl (fun ls hl => ?_)
      have loop40 : ∀ (n40 : Nat) (k : Nat) (H : Heap) (locs : List Loc) (ls : Array Slot), ((k : Int) ≤ n ∧ xOK (xRun M k) ∧ xRun M k 0 4 = M 0 4 + k) → n.toNat - k < n40 → zX D (xL sd) ad cI (xRun M k) H → va_S (zA ad (xL sd)) s.heap H locs → lv_has ls 3 [(2, .int (zI ((k : Int)))), (0, .ref (ad 0)), (1, .int (zI (n)))] → W p l e { frames := 7, cells := 2, slots := 12, locals := 116 } s m ([.ref (ad 0), .int (zI (n))] : List Value).toArray below meth c H locs (0 + 1 + 1) (0 + 6 + 6) (vx_MQ below (zQi D (xL sd) ad cI (fun z u => ((1 ≤ n ∧ n ≤ 500) ∧ (0 < M 1 0 ∧ M 0 4 + n ≤ 2000)) ∧ z = (bm (xRun M n.toNat 0 5 - xRun M n.toNat 0 6)) ∧ u = xRun M n.toNat)) (zXc D (xL sd) ad cI M (fun E => (E = "java/lang/IllegalArgumentException" ∧ ¬ (1 ≤ n ∧ n ≤ 500)) ∨ (E = "java/lang/IllegalStateException" ∧ (1 ≤ n ∧ n ≤ 500) ∧ ¬ (0 < M 1 0 ∧ M 0 4 + n ≤ 2000)))) ([.ref (ad 0), .int (zI (n))] : List Value).toArray s 2 12 (zA ad (xL sd))) (F0 m 40 ls []) := by
        intro n40
        induction n40 with
        | zero => intro k H locs ls hI hn; exact absurd hn (Nat.not_lt_zero _)
        | succ n40 ih40 =>
          intro k H locs ls hI40 hn40 hX hS hl
          refine lv_iload_n hx hb d_PS_run_40 rfl (lv_at hl 0 rfl) ?_
          refine lv_iload_n hx hb d_PS_run_41 rfl (lv_at hl 2 rfl) ?_
          refine z_icmp_ge (a := (k : Int)) (b := n) (tgt := 55) hx hb d_PS_run_42 (by decide) (by omega) (fun hb_11 => ?_) (fun hb_12 => ?_)
          · skip
            refine lv_aload_n hx hb d_PS_run_55 rfl (lv_at hl 1 rfl) ?_
            refine z_geti (i := 5) (v := (xRun M k) 0 5) hx hb iw_PS hown hK hX 0 rfl rfl 5 (by decide) tw_149 (fun _ h => h) rfl rfl rfl d_PS_run_56 (fun rg_13 => ?_)
            refine lv_aload_n hx hb d_PS_run_59 rfl (lv_at hl 1 rfl) ?_
            refine z_geti (i := 6) (v := (xRun M k) 0 6) hx hb iw_PS hown hK hX 0 rfl rfl 6 (by decide) tw_150 (fun _ h => h) rfl rfl rfl d_PS_run_60 (fun rg_14 => ?_)
            refine z_isub hx hb d_PS_run_63 ?_
            refine z_bm ?_
            exact zt_iret (z := bm (((xRun M k) 0 5) - ((xRun M k) 0 6))) (post := (fun z u => ((1 ≤ n ∧ n ≤ 500) ∧ (0 < M 1 0 ∧ M 0 4 + n ≤ 2000)) ∧ z = (bm (xRun M n.toNat 0 5 - xRun M n.toNat 0 6)) ∧ u = xRun M n.toNat)) hx hb hr hlk hK hX hS (bm_rg _) ⟨by omega, by rw [show k = n.toNat by omega], by rw [show k = n.toNat by omega]⟩ (Nat.le_of_ble_eq_true rfl) (Nat.le_of_ble_eq_true rfl) d_PS_run_64
          · skip
            refine lv_aload_n hx hb d_PS_run_45 rfl (lv_at hl 1 rfl) ?_
            refine z_callVv hF (k_PS_minute l D ad cI sd (xRun M k)  hI40.2.1 (by omega)) (hK.cV 0 tw_346 tw_343 tw_1 tw_345 ts_9 (by decide +kernel) rfl rfl ⟨Nat.le_of_ble_eq_true rfl, Nat.le_of_ble_eq_true rfl⟩) hK hX hS rfl rfl rfl hl.1 rfl (Nat.le_of_ble_eq_true rfl) d_PS_run_46 ⟨Nat.le_of_ble_eq_true rfl, Nat.le_of_ble_eq_true rfl⟩ (fun u H locs hp hX hS => ?_)
            rw [hp] at hX
            refine z_iinc (lv' := [(2, .int (zI ((k : Int) + 1))), (0, .ref (ad 0)), (1, .int (zI (n)))]) hx hb d_PS_run_49 hl (k := 0) rfl (by decide) rfl (fun ls hl => ?_)
            refine lv_goto (tgt := 40) hx hb d_PS_run_52 (by decide) ?_
            exact ih40 (k + 1) _ _ _ ⟨by omega, (xMin_ok hI40.2.1 (by omega)).1, by show xMin (xRun M k) 0 4 = _; rw [(xMin_ok hI40.2.1 (by omega)).2]; omega⟩ (by omega) hX hS (lv_sub hl [0, 1, 2] rfl)
      exact loop40 _ 0 _ _ _ ⟨by omega, hO, by show M 0 4 = _; omega⟩ (Nat.lt_succ_self _) hX hS (lv_sub hl [0, 1, 2] rfl)
set_option maxHeartbeats 4000000 in
set_option maxRecDepth 100000 in
theorem k_inThen (l : Launch) (hlt : l.stackTraces = false) (D : va_G) (ad : Nat → Nat) (cI : Nat → ClassId) (sd : Int64) (M : zM) (r t : Int) (g0 : -2147483648 ≤ r ∧ r ≤ 2147483647) (g1 : -2147483648 ≤ t ∧ t ≤ 2147483647) (hO : xOK M) : zTi l y_PS_inThen (.code y_PS_inThen c_PS_inThen 5 (some .int)) { frames := 8, cells := 2, slots := 12, locals := 133 } D (xL sd) ad cI M [.ref (ad 0), .int (zI (r)), .int (zI (t))] (fun z u => (((0 ≤ r ∧ r < M 1 0) ∧ (0 ≤ t ∧ t < M 0 4))) ∧ z = (xCnt M r t (M 4 1).toNat) ∧ u = M) (fun E => (E = "java/lang/IllegalArgumentException" ∧ ¬ ((0 ≤ r ∧ r < M 1 0) ∧ (0 ≤ t ∧ t < M 0 4)))) 2 12 := by
  refine zt_of (cc := c_PS_inThen) (maxL := 5) (ret := some .int) (own := "PersonSeeds") (by decide) rfl rfl (Nat.le_of_ble_eq_true rfl) ?_
  intro p e s m below meth c ls hF hr hT hX hK hth hl
  obtain ⟨hx, hb, hml, hown, hlk⟩ := id hF
  have hS : va_S (zA ad (xL sd)) s.heap s.heap [] := va_S.rf
  have hl : lv_has ls 5 [(0, .ref (ad 0)), (1, .int (zI (r))), (2, .int (zI (t)))] := hl
  have o1 := hO.1
  have o2 := hO.2.1
  have o3 := hO.2.2.1
  have o4 := hO.2.2.2.1
  refine lv_aload_n hx hb d_PS_inThen_0 rfl (lv_at hl 0 rfl) ?_
  refine lv_iload_n hx hb d_PS_inThen_1 rfl (lv_at hl 1 rfl) ?_
  refine zt_callV hF hT (k_chkR l hlt D ad cI sd M r (by omega) (by omega)) (hK.cV 1 tw_296 tw_293 tw_1 tw_295 ts_4 (by decide +kernel) rfl rfl ⟨Nat.le_of_ble_eq_true rfl, Nat.le_of_ble_eq_true rfl⟩) hK hX hth hS rfl rfl rfl hl.1 rfl (Nat.le_of_ble_eq_true rfl) d_PS_inThen_2 ⟨Nat.le_of_ble_eq_true rfl, Nat.le_of_ble_eq_true rfl⟩ (fun E h9 => ⟨h9.1, fun q9 => h9.2 (by omega)⟩) (Nat.le_of_ble_eq_true rfl) (Nat.le_of_ble_eq_true rfl) (fun u H locs hp hX hS => ?_)
  obtain ⟨hc_1, hu⟩ := hp
  rw [hu] at hX
  refine lv_aload_n hx hb d_PS_inThen_5 rfl (lv_at hl 0 rfl) ?_
  refine lv_iload_n hx hb d_PS_inThen_6 rfl (lv_at hl 2 rfl) ?_
  refine zt_callV hF hT (k_chkO l hlt D ad cI sd M t (by omega) (by omega)) (hK.cV 1 tw_436 tw_433 tw_1 tw_435 ts_25 (by decide +kernel) rfl rfl ⟨Nat.le_of_ble_eq_true rfl, Nat.le_of_ble_eq_true rfl⟩) hK hX hth hS rfl rfl rfl hl.1 rfl (Nat.le_of_ble_eq_true rfl) d_PS_inThen_7 ⟨Nat.le_of_ble_eq_true rfl, Nat.le_of_ble_eq_true rfl⟩ (fun E h9 => ⟨h9.1, fun q9 => h9.2 (by omega)⟩) (Nat.le_of_ble_eq_true rfl) (Nat.le_of_ble_eq_true rfl) (fun u H locs hp hX hS => ?_)
  obtain ⟨hc_2, hu⟩ := hp
  rw [hu] at hX
  refine z_const hx hb d_PS_inThen_10 ?_
  refine lv_istore_n (lv' := [(3, .int (zI (0))), (0, .ref (ad 0)), (1, .int (zI (r))), (2, .int (zI (t)))]) hx hb d_PS_inThen_11 rfl hl (by decide) rfl (fun ls hl => ?_)
  refine z_const hx hb d_PS_inThen_12 ?_
  refine lv_istore (lv' := [(4, .int (zI (0))), (3, .int (zI (0))), (0, .ref (ad 0)), (1, .int (zI (r))), (2, .int (zI (t)))]) hx hb d_PS_inThen_13 hl (by decide) rfl (fun ls hl => ?_)
  have loop15 : ∀ (n15 : Nat) (k : Nat) (H : Heap) (locs : List Loc) (ls : Array Slot), (k : Int) ≤ M 4 1 → (M 4 1).toNat - k < n15 → zX D (xL sd) ad cI M H → va_S (zA ad (xL sd)) s.heap H locs → lv_has ls 5 [(4, .int (zI ((k : Int)))), (3, .int (zI (xCnt M r t k))), (0, .ref (ad 0)), (1, .int (zI (r))), (2, .int (zI (t)))] → W p l e { frames := 8, cells := 2, slots := 12, locals := 133 } s m ([.ref (ad 0), .int (zI (r)), .int (zI (t))] : List Value).toArray below meth c H locs (0 + 1 + 1) (0 + 6 + 6) (vx_MQ below (zQi D (xL sd) ad cI (fun z u => (((0 ≤ r ∧ r < M 1 0) ∧ (0 ≤ t ∧ t < M 0 4))) ∧ z = (xCnt M r t (M 4 1).toNat) ∧ u = M)) (zXc D (xL sd) ad cI M (fun E => (E = "java/lang/IllegalArgumentException" ∧ ¬ ((0 ≤ r ∧ r < M 1 0) ∧ (0 ≤ t ∧ t < M 0 4))))) ([.ref (ad 0), .int (zI (r)), .int (zI (t))] : List Value).toArray s 2 12 (zA ad (xL sd))) (F0 m 15 ls []) := by
    intro n15
    induction n15 with
    | zero => intro k H locs ls hI hn; exact absurd hn (Nat.not_lt_zero _)
    | succ n15 ih15 =>
      intro k H locs ls hI15 hn15 hX hS hl
      have cb := xCnt_b M r t k
      refine lv_iload hx hb d_PS_inThen_15 (lv_at hl 0 rfl) ?_
      refine lv_aload_n hx hb d_PS_inThen_17 rfl (lv_at hl 2 rfl) ?_
      refine z_getr hx hb iw_PS hown hK hX 0 rfl rfl 3 (by decide) tw_147 (fun _ h => h) 4 rfl d_PS_inThen_18 ?_
      refine z_getiN (i := 1) (v := M 4 1) hx hb iw_Pe hown hK hX 4 rfl rfl 1 (by decide) tw_110 (fun _ h => h) rfl rfl rfl d_PS_inThen_21 (fun rg_3 => ?_)
      refine z_icmp_ge (a := (k : Int)) (b := M 4 1) (tgt := 50) hx hb d_PS_inThen_24 (by decide) (by omega) (fun hb_4 => ?_) (fun hb_5 => ?_)
      · skip
        refine lv_iload_n hx hb d_PS_inThen_50 rfl (lv_at hl 1 rfl) ?_
        exact zt_iret (z := xCnt M r t k) (post := (fun z u => (((0 ≤ r ∧ r < M 1 0) ∧ (0 ≤ t ∧ t < M 0 4))) ∧ z = (xCnt M r t (M 4 1).toNat) ∧ u = M)) hx hb hr hlk hK hX hS (by omega) ⟨by omega, by rw [show k = (M 4 1).toNat by omega], rfl⟩ (Nat.le_of_ble_eq_true rfl) (Nat.le_of_ble_eq_true rfl) d_PS_inThen_51
      · skip
        refine lv_aload_n hx hb d_PS_inThen_27 rfl (lv_at hl 2 rfl) ?_
        refine z_getr hx hb iw_PS hown hK hX 0 rfl rfl 2 (by decide) tw_146 (fun _ h => h) 3 rfl d_PS_inThen_28 ?_
        refine lv_iload hx hb d_PS_inThen_31 (lv_at hl 0 rfl) ?_
        refine lv_iload_n hx hb d_PS_inThen_33 rfl (lv_at hl 4 rfl) ?_
        refine z_callVNi hF (k_Tr_placeBehind l D ad cI sd M (k : Int) t (by omega) (hO.2.2.2.2.2.2.1 _ (by omega) (by omega)) (by omega)) (hK.cN 2 tw_440 tw_437 tw_5 tw_439 ts_26 (by decide +kernel) rfl rfl ⟨Nat.le_of_ble_eq_true rfl, Nat.le_of_ble_eq_true rfl⟩) hK hX hS rfl rfl rfl hl.1 rfl (Nat.le_of_ble_eq_true rfl) d_PS_inThen_34 ⟨Nat.le_of_ble_eq_true rfl, Nat.le_of_ble_eq_true rfl⟩ (fun z u H locs rg_6 hp hX hS => ?_)
        obtain ⟨hz, hu⟩ := hp
        rw [hu] at hX
        have hz : z = (xBeh M (k : Int) t) := hz
        subst hz
        refine lv_iload_n hx hb d_PS_inThen_37 rfl (lv_at hl 3 rfl) ?_
        refine z_icmp_ne (a := xBeh M (k : Int) t) (b := r) (tgt := 44) hx hb d_PS_inThen_38 (by decide) (by omega) (fun hb_7 => ?_) (fun hb_8 => ?_)
        · skip
          refine z_iinc (lv' := [(4, .int (zI ((k : Int) + 1))), (3, .int (zI (xCnt M r t k))), (0, .ref (ad 0)), (1, .int (zI (r))), (2, .int (zI (t)))]) hx hb d_PS_inThen_44 hl (k := 0) rfl (by decide) rfl (fun ls hl => ?_)
          refine lv_goto (tgt := 15) hx hb d_PS_inThen_47 (by decide) ?_
          exact ih15 (k + 1) _ _ _ (by omega) (by omega) hX hS (by have e9 : xCnt M r t (k + 1) = xCnt M r t k := (by show xCnt M r t k + _ = _; first | rw [if_pos (by omega)] | (rw [if_neg (by omega)]; omega)); rw [e9]; exact lv_sub hl [0, 1, 2, 3, 4] rfl)
        · skip
          refine z_iinc (lv' := [(3, .int (zI ((xCnt M r t k) + 1))), (4, .int (zI ((k : Int)))), (0, .ref (ad 0)), (1, .int (zI (r))), (2, .int (zI (t)))]) hx hb d_PS_inThen_41 hl (k := 1) rfl (by decide) rfl (fun ls hl => ?_)
          refine z_iinc (lv' := [(4, .int (zI ((k : Int) + 1))), (3, .int (zI ((xCnt M r t k) + 1))), (0, .ref (ad 0)), (1, .int (zI (r))), (2, .int (zI (t)))]) hx hb d_PS_inThen_44 hl (k := 1) rfl (by decide) rfl (fun ls hl => ?_)
          refine lv_goto (tgt := 15) hx hb d_PS_inThen_47 (by decide) ?_
          exact ih15 (k + 1) _ _ _ (by omega) (by omega) hX hS (by have e9 : xCnt M r t (k + 1) = (xCnt M r t k) + 1 := (by show xCnt M r t k + _ = _; first | rw [if_pos (by omega)] | (rw [if_neg (by omega)]; omega)); rw [e9]; exact lv_sub hl [0, 1, 2, 3, 4] rfl)
  exact loop15 _ 0 _ _ _ (by omega) (Nat.lt_succ_self _) hX hS (lv_sub hl [0, 1, 2, 3, 4] rfl)
set_option maxHeartbeats 4000000 in
set_option maxRecDepth 100000 in
theorem k_entered (l : Launch) (D : va_G) (ad : Nat → Nat) (cI : Nat → ClassId) (sd : Int64) (M : zM) (on : Int) (h1 : -2147483648 ≤ on ∧ on ≤ 2147483647) : zMi l y_PS_entered (.code y_PS_entered c_PS_entered 2 (some .int)) { frames := 0, cells := 0, slots := 0, locals := 0 } D (xL sd) ad cI M [.ref (ad 0), .int (zI (on))] (fun z u => z = (if on = 0 then M 0 6 else M 0 5) ∧ u = M) := by
  refine z_of (cc := c_PS_entered) (maxL := 2) (ret := some .int) (own := "PersonSeeds") (by decide) rfl rfl (Nat.le_of_ble_eq_true rfl) ?_
  intro p e s m below meth c ls hF hr hX hK hl
  obtain ⟨hx, hb, hml, hown, hlk⟩ := id hF
  have hS : va_S (zA ad (xL sd)) s.heap s.heap [] := va_S.rf
  have hl : lv_has ls 2 [(0, .ref (ad 0)), (1, .int (zI (on)))] := hl
  refine lv_iload_n hx hb d_PS_entered_0 rfl (lv_at hl 1 rfl) ?_
  refine z_if_eq (a := on) (tgt := 11) hx hb d_PS_entered_1 (by decide) (by omega) (fun hb_1 => ?_) (fun hb_2 => ?_)
  · skip
    refine lv_aload_n hx hb d_PS_entered_11 rfl (lv_at hl 0 rfl) ?_
    refine z_geti (i := 6) (v := M 0 6) hx hb iw_PS hown hK hX 0 rfl rfl 6 (by decide) tw_150 (fun _ h => h) rfl rfl rfl d_PS_entered_12 (fun rg_3 => ?_)
    exact z_iret (z := M 0 6) (post := fun z u => z = (if on = 0 then M 0 6 else M 0 5) ∧ u = M) hx hb hr hlk hK hX hS (by omega) ⟨by first | rfl | omega | (split <;> omega) | (repeat' split) <;> first | rfl | omega | simp_all, rfl⟩ d_PS_entered_15
  · skip
    refine lv_aload_n hx hb d_PS_entered_4 rfl (lv_at hl 0 rfl) ?_
    refine z_geti (i := 5) (v := M 0 5) hx hb iw_PS hown hK hX 0 rfl rfl 5 (by decide) tw_149 (fun _ h => h) rfl rfl rfl d_PS_entered_5 (fun rg_4 => ?_)
    refine lv_goto (tgt := 15) hx hb d_PS_entered_8 (by decide) ?_
    exact z_iret (z := M 0 5) (post := fun z u => z = (if on = 0 then M 0 6 else M 0 5) ∧ u = M) hx hb hr hlk hK hX hS (by omega) ⟨by first | rfl | omega | (split <;> omega) | (repeat' split) <;> first | rfl | omega | simp_all, rfl⟩ d_PS_entered_15

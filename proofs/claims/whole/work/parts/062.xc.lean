set_option maxHeartbeats 4000000 in
set_option maxRecDepth 100000 in
theorem k_PS_entr (l : Launch) (D : va_G) (ad : Nat → Nat) (cI : Nat → ClassId) (sd : Int64) (M : zM) (p1 : Int) (h1 : 0 ≤ p1 ∧ p1 < 60) (h2 : 0 ≤ M 16 p1 ∧ M 16 p1 ≤ 46) : zMv l y_PS_tryEntrance (.code y_PS_tryEntrance c_PS_tryEntrance 2 (none)) { frames := 1, cells := 0, slots := 0, locals := 24 } D (xL sd) ad cI M [.ref (ad 0), .int (zI (p1))] (fun u => u = xEntr M p1) := by
  refine z_of (cc := c_PS_tryEntrance) (maxL := 2) (ret := none) (own := "PersonSeeds") (by decide) rfl rfl (Nat.le_of_ble_eq_true rfl) ?_
  intro p e s m below meth c ls hF hr hX hK hl
  obtain ⟨hx, hb, hml, hown, hlk⟩ := id hF
  have hS : va_S (zA ad (xL sd)) s.heap s.heap [] := va_S.rf
  have hl : lv_has ls 2 [(0, .ref (ad 0)), (1, .int (zI (p1)))] := hl
  refine lv_aload_n hx hb d_PS_tryEntrance_0 rfl (lv_at hl 0 rfl) ?_
  refine z_getr hx hb iw_PS hown hK hX 0 rfl rfl 0 (by decide) tw_144 (fun _ h => h) 1 rfl d_PS_tryEntrance_1 ?_
  refine z_const hx hb d_PS_tryEntrance_4 ?_
  refine z_callVNi hF (k_Ro_hasSpace l D ad cI sd M 0 (by omega)) (hK.cN 1 tw_370 tw_367 tw_2 tw_369 ts_15 (by decide +kernel) rfl rfl ⟨Nat.le_of_ble_eq_true rfl, Nat.le_of_ble_eq_true rfl⟩) hK hX hS rfl rfl rfl hl.1 rfl (Nat.le_of_ble_eq_true rfl) d_PS_tryEntrance_5 ⟨Nat.zero_le _, Nat.zero_le _⟩ (fun z u H locs rg_1 hp hX hS => ?_)
  obtain ⟨hz, hu⟩ := hp
  rw [hu] at hX
  have hz : z = (if (M 6 0) < (M 5 0) then 1 else 0) := hz
  subst hz
  refine z_if_ne (a := if (M 6 0) < (M 5 0) then 1 else 0) (tgt := 25) hx hb d_PS_tryEntrance_8 (by decide) (by omega) (fun hb_2 => ?_) (fun hb_3 => ?_)
  · skip
    refine lv_aload_n hx hb d_PS_tryEntrance_25 rfl (lv_at hl 0 rfl) ?_
    refine z_getr hx hb iw_PS hown hK hX 0 rfl rfl 0 (by decide) tw_144 (fun _ h => h) 1 rfl d_PS_tryEntrance_26 ?_
    refine z_getrN hx hb iw_Ro hown hK hX 1 rfl rfl 2 (by decide) tw_32 (fun _ h => h) 6 rfl d_PS_tryEntrance_29 ?_
    refine z_const hx hb d_PS_tryEntrance_32 ?_
    refine lv_dup2_11 hx hb d_PS_tryEntrance_33 rfl rfl ?_
    refine z_iald (i := 0) (v := M 6 0) hx hb hK hX 6 rfl (by omega) (by decide) rfl d_PS_tryEntrance_34 (fun rg_4 => ?_)
    refine z_const hx hb d_PS_tryEntrance_35 ?_
    refine z_iadd hx hb d_PS_tryEntrance_36 ?_
    refine z_iastw (i := 0) (v := (M 6 0) + 1) hx hb hK hX hS 6 rfl (by omega) (by decide) d_PS_tryEntrance_37 (fun H locs hX hS => ?_)
    refine lv_aload_n hx hb d_PS_tryEntrance_38 rfl (lv_at hl 0 rfl) ?_
    refine lv_dup hx hb d_PS_tryEntrance_39 rfl ?_
    refine z_geti (i := 5) (v := M 0 5) hx hb iw_PS hown hK hX 0 rfl rfl 5 (by decide) tw_149 (fun _ h => h) rfl rfl rfl d_PS_tryEntrance_40 (fun rg_5 => ?_)
    refine z_const hx hb d_PS_tryEntrance_43 ?_
    refine z_iadd hx hb d_PS_tryEntrance_44 ?_
    refine z_putiw (i := 5) (v := (M 0 5) + 1) hx hb iw_PS ty_PS tyo_PS n_PS hown hK hX hS 0 rfl rfl 5 (by decide) tw_149 (fun _ h => h) rfl (by decide +kernel) rfl rfl d_PS_tryEntrance_45 (fun H locs hX hS => ?_)
    refine lv_aload_n hx hb d_PS_tryEntrance_48 rfl (lv_at hl 0 rfl) ?_
    refine z_getr hx hb iw_PS hown hK hX 0 rfl rfl 2 (by decide) tw_146 (fun _ h => h) 3 rfl d_PS_tryEntrance_49 ?_
    refine lv_iload_n hx hb d_PS_tryEntrance_52 rfl (lv_at hl 1 rfl) ?_
    refine lv_aload_n hx hb d_PS_tryEntrance_53 rfl (lv_at hl 0 rfl) ?_
    refine z_geti (i := 4) (v := M 0 4) hx hb iw_PS hown hK hX 0 rfl rfl 4 (by decide) tw_148 (fun _ h => h) rfl rfl (by simp [zU]) d_PS_tryEntrance_54 (fun rg_6 => ?_)
    refine z_const hx hb d_PS_tryEntrance_57 ?_
    refine z_callVNv hF (k_Tr_add l D ad cI sd (zU (zU M 6 0 (bm ((M 6 0) + 1))) 0 5 (bm ((M 0 5) + 1))) p1 (M 0 4) 0 h1 h2 (by omega) (by omega)) (hK.cN 3 tw_374 tw_371 tw_5 tw_373 ts_16 (by decide +kernel) rfl rfl ⟨Nat.le_of_ble_eq_true rfl, Nat.le_of_ble_eq_true rfl⟩) hK hX hS rfl rfl rfl hl.1 rfl (Nat.le_of_ble_eq_true rfl) d_PS_tryEntrance_58 ⟨Nat.zero_le _, Nat.zero_le _⟩ (fun u H locs hp hX hS => ?_)
    rw [hp] at hX
    exact z_vret (post := fun u => u = xEntr M p1) hx hb hr hlk hK hX hS (by unfold xEntr; first | rw [if_pos (by omega)] | rw [if_neg (by omega)]) d_PS_tryEntrance_61
  · skip
    refine lv_aload_n hx hb d_PS_tryEntrance_11 rfl (lv_at hl 0 rfl) ?_
    refine z_getr hx hb iw_PS hown hK hX 0 rfl rfl 3 (by decide) tw_147 (fun _ h => h) 4 rfl d_PS_tryEntrance_12 ?_
    refine z_getrN hx hb iw_Pe hown hK hX 4 rfl rfl 8 (by decide) tw_124 (fun _ h => h) 25 rfl d_PS_tryEntrance_15 ?_
    refine lv_iload_n hx hb d_PS_tryEntrance_18 rfl (lv_at hl 1 rfl) ?_
    refine lv_dup2_11 hx hb d_PS_tryEntrance_19 rfl rfl ?_
    refine z_iald (i := p1) (v := M 25 p1) hx hb hK hX 25 rfl (by omega) (by decide) rfl d_PS_tryEntrance_20 (fun rg_7 => ?_)
    refine z_const hx hb d_PS_tryEntrance_21 ?_
    refine z_iadd hx hb d_PS_tryEntrance_22 ?_
    refine z_iastw (i := p1) (v := (M 25 p1) + 1) hx hb hK hX hS 25 rfl (by omega) (by decide) d_PS_tryEntrance_23 (fun H locs hX hS => ?_)
    exact z_vret (post := fun u => u = xEntr M p1) hx hb hr hlk hK hX hS (by unfold xEntr; first | rw [if_pos (by omega)] | rw [if_neg (by omega)]) d_PS_tryEntrance_24
set_option maxHeartbeats 4000000 in
set_option maxRecDepth 100000 in
theorem k_PS_out (l : Launch) (D : va_G) (ad : Nat → Nat) (cI : Nat → ClassId) (sd : Int64) (M : zM) (p1 : Int) (h1 : 0 ≤ p1 ∧ p1 < 60) (h2 : 0 ≤ M 16 p1 ∧ M 16 p1 ≤ 46) : zMv l y_PS_goOut (.code y_PS_goOut c_PS_goOut 2 (none)) { frames := 1, cells := 0, slots := 0, locals := 24 } D (xL sd) ad cI M [.ref (ad 0), .int (zI (p1))] (fun u => u = xOut M p1) := by
  refine z_of (cc := c_PS_goOut) (maxL := 2) (ret := none) (own := "PersonSeeds") (by decide) rfl rfl (Nat.le_of_ble_eq_true rfl) ?_
  intro p e s m below meth c ls hF hr hX hK hl
  obtain ⟨hx, hb, hml, hown, hlk⟩ := id hF
  have hS : va_S (zA ad (xL sd)) s.heap s.heap [] := va_S.rf
  have hl : lv_has ls 2 [(0, .ref (ad 0)), (1, .int (zI (p1)))] := hl
  refine lv_aload_n hx hb d_PS_goOut_0 rfl (lv_at hl 0 rfl) ?_
  refine z_getr hx hb iw_PS hown hK hX 0 rfl rfl 0 (by decide) tw_144 (fun _ h => h) 1 rfl d_PS_goOut_1 ?_
  refine z_getrN hx hb iw_Ro hown hK hX 1 rfl rfl 2 (by decide) tw_32 (fun _ h => h) 6 rfl d_PS_goOut_4 ?_
  refine z_const hx hb d_PS_goOut_7 ?_
  refine lv_dup2_11 hx hb d_PS_goOut_8 rfl rfl ?_
  refine z_iald (i := 0) (v := M 6 0) hx hb hK hX 6 rfl (by omega) (by decide) rfl d_PS_goOut_9 (fun rg_1 => ?_)
  refine z_const hx hb d_PS_goOut_10 ?_
  refine z_isub hx hb d_PS_goOut_11 ?_
  refine z_iastw (i := 0) (v := (M 6 0) - 1) hx hb hK hX hS 6 rfl (by omega) (by decide) d_PS_goOut_12 (fun H locs hX hS => ?_)
  refine lv_aload_n hx hb d_PS_goOut_13 rfl (lv_at hl 0 rfl) ?_
  refine lv_dup hx hb d_PS_goOut_14 rfl ?_
  refine z_geti (i := 6) (v := M 0 6) hx hb iw_PS hown hK hX 0 rfl rfl 6 (by decide) tw_150 (fun _ h => h) rfl rfl rfl d_PS_goOut_15 (fun rg_2 => ?_)
  refine z_const hx hb d_PS_goOut_18 ?_
  refine z_iadd hx hb d_PS_goOut_19 ?_
  refine z_putiw (i := 6) (v := (M 0 6) + 1) hx hb iw_PS ty_PS tyo_PS n_PS hown hK hX hS 0 rfl rfl 6 (by decide) tw_150 (fun _ h => h) rfl (by decide +kernel) rfl rfl d_PS_goOut_20 (fun H locs hX hS => ?_)
  refine lv_aload_n hx hb d_PS_goOut_23 rfl (lv_at hl 0 rfl) ?_
  refine z_getr hx hb iw_PS hown hK hX 0 rfl rfl 2 (by decide) tw_146 (fun _ h => h) 3 rfl d_PS_goOut_24 ?_
  refine lv_iload_n hx hb d_PS_goOut_27 rfl (lv_at hl 1 rfl) ?_
  refine lv_aload_n hx hb d_PS_goOut_28 rfl (lv_at hl 0 rfl) ?_
  refine z_geti (i := 4) (v := M 0 4) hx hb iw_PS hown hK hX 0 rfl rfl 4 (by decide) tw_148 (fun _ h => h) rfl rfl (by simp [zU]) d_PS_goOut_29 (fun rg_3 => ?_)
  refine z_const hx hb d_PS_goOut_32 ?_
  refine z_callVNv hF (k_Tr_add l D ad cI sd (zU (zU M 6 0 (bm ((M 6 0) - 1))) 0 6 (bm ((M 0 6) + 1))) p1 (M 0 4) (-1) h1 h2 (by omega) (by omega)) (hK.cN 3 tw_374 tw_371 tw_5 tw_373 ts_16 (by decide +kernel) rfl rfl ⟨Nat.le_of_ble_eq_true rfl, Nat.le_of_ble_eq_true rfl⟩) hK hX hS rfl rfl rfl hl.1 rfl (Nat.le_of_ble_eq_true rfl) d_PS_goOut_33 ⟨Nat.zero_le _, Nat.zero_le _⟩ (fun u H locs hp hX hS => ?_)
  rw [hp] at hX
  exact z_vret (post := fun u => u = xOut M p1) hx hb hr hlk hK hX hS rfl d_PS_goOut_36
set_option maxHeartbeats 4000000 in
set_option maxRecDepth 100000 in
theorem k_PS_tryDoor (l : Launch) (D : va_G) (ad : Nat → Nat) (cI : Nat → ClassId) (sd : Int64) (M : zM) (p1 h g : Int) (h1 : 0 ≤ p1 ∧ p1 < 60) (h2 : 0 ≤ M 16 p1 ∧ M 16 p1 ≤ 46) (h3 : 0 ≤ M 2 0 ∧ M 2 0 ≤ 16) (h4 : ∀ d, 0 ≤ d → d < M 2 0 → (0 ≤ M 9 d ∧ M 9 d < 12) ∧ 0 ≤ M 10 d ∧ M 10 d < 12) (h5 : 0 ≤ h ∧ h < 12) (h6 : 0 ≤ g ∧ g < 12) : zMv l y_PS_tryDoor (.code y_PS_tryDoor c_PS_tryDoor 6 (none)) { frames := 2, cells := 0, slots := 0, locals := 47 } D (xL sd) ad cI M [.ref (ad 0), .int (zI (p1)), .int (zI (h)), .int (zI (g))] (fun u => u = xTryDoor M p1 h g) := by
  refine z_of (cc := c_PS_tryDoor) (maxL := 6) (ret := none) (own := "PersonSeeds") (by decide) rfl rfl (Nat.le_of_ble_eq_true rfl) ?_
  intro p e s m below meth c ls hF hr hX hK hl
  obtain ⟨hx, hb, hml, hown, hlk⟩ := id hF
  have hS : va_S (zA ad (xL sd)) s.heap s.heap [] := va_S.rf
  have hl : lv_has ls 6 [(0, .ref (ad 0)), (1, .int (zI (p1))), (2, .int (zI (h))), (3, .int (zI (g)))] := hl
  refine lv_aload_n hx hb d_PS_tryDoor_0 rfl (lv_at hl 0 rfl) ?_
  refine z_getr hx hb iw_PS hown hK hX 0 rfl rfl 1 (by decide) tw_145 (fun _ h => h) 2 rfl d_PS_tryDoor_1 ?_
  refine lv_iload_n hx hb d_PS_tryDoor_4 rfl (lv_at hl 2 rfl) ?_
  refine lv_iload_n hx hb d_PS_tryDoor_5 rfl (lv_at hl 3 rfl) ?_
  refine z_callVNi hF (k_Do_towards l D ad cI sd M h g h5 h6 h3 h4) (hK.cN 2 tw_382 tw_379 tw_3 tw_381 ts_18 (by decide +kernel) rfl rfl ⟨Nat.le_of_ble_eq_true rfl, Nat.le_of_ble_eq_true rfl⟩) hK hX hS rfl rfl rfl hl.1 rfl (Nat.le_of_ble_eq_true rfl) d_PS_tryDoor_6 ⟨Nat.zero_le _, Nat.zero_le _⟩ (fun z u H locs rg_1 hp hX hS => ?_)
  obtain ⟨hz, hu⟩ := hp
  rw [hu] at hX
  have hz : z = (xTow M h g) := hz
  subst hz
  refine lv_istore (lv' := [(4, .int (zI (xTow M h g))), (0, .ref (ad 0)), (1, .int (zI (p1))), (2, .int (zI (h))), (3, .int (zI (g)))]) hx hb d_PS_tryDoor_9 hl (by decide) rfl (fun ls hl => ?_)
  refine lv_iload hx hb d_PS_tryDoor_11 (lv_at hl 0 rfl) ?_
  refine z_const hx hb d_PS_tryDoor_13 ?_
  refine z_icmp_ne (a := xTow M h g) (b := -1) (tgt := 21) hx hb d_PS_tryDoor_14 (by decide) (by omega) (fun hb_2 => ?_) (fun hb_3 => ?_)
  · skip
    refine lv_aload_n hx hb d_PS_tryDoor_21 rfl (lv_at hl 1 rfl) ?_
    refine z_getr hx hb iw_PS hown hK hX 0 rfl rfl 1 (by decide) tw_145 (fun _ h => h) 2 rfl d_PS_tryDoor_22 ?_
    refine lv_iload hx hb d_PS_tryDoor_25 (lv_at hl 0 rfl) ?_
    refine lv_iload_n hx hb d_PS_tryDoor_27 rfl (lv_at hl 3 rfl) ?_
    refine z_callVNi hF (k_Do_behind l D ad cI sd M (xTow M h g) h (by have e8 := xTow_rg M h g h3.1; omega) (by omega)) (hK.cN 2 tw_386 tw_387 tw_3 tw_385 ts_19 (by decide +kernel) rfl rfl ⟨Nat.le_of_ble_eq_true rfl, Nat.le_of_ble_eq_true rfl⟩) hK hX hS rfl rfl rfl hl.1 rfl (Nat.le_of_ble_eq_true rfl) d_PS_tryDoor_28 ⟨Nat.zero_le _, Nat.zero_le _⟩ (fun z u H locs rg_4 hp hX hS => ?_)
    obtain ⟨hz, hu⟩ := hp
    rw [hu] at hX
    have hz : z = (xSide M (xTow M h g) h) := hz
    subst hz
    refine lv_istore (lv' := [(5, .int (zI (xSide M (xTow M h g) h))), (4, .int (zI (xTow M h g))), (0, .ref (ad 0)), (1, .int (zI (p1))), (2, .int (zI (h))), (3, .int (zI (g)))]) hx hb d_PS_tryDoor_31 hl (by decide) rfl (fun ls hl => ?_)
    refine lv_iload hx hb d_PS_tryDoor_33 (lv_at hl 0 rfl) ?_
    refine z_const hx hb d_PS_tryDoor_35 ?_
    refine z_icmp_ne (a := xSide M (xTow M h g) h) (b := -1) (tgt := 40) hx hb d_PS_tryDoor_36 (by decide) (by omega) (fun hb_5 => ?_) (fun hb_6 => ?_)
    · skip
      refine lv_aload_n hx hb d_PS_tryDoor_40 rfl (lv_at hl 2 rfl) ?_
      refine z_getr hx hb iw_PS hown hK hX 0 rfl rfl 0 (by decide) tw_144 (fun _ h => h) 1 rfl d_PS_tryDoor_41 ?_
      refine lv_iload hx hb d_PS_tryDoor_44 (lv_at hl 0 rfl) ?_
      refine z_callVNi hF (k_Ro_hasSpace l D ad cI sd M (xSide M (xTow M h g) h) (by have e8 := xTow_rg M h g h3.1; have h9 := h4 (xTow M h g) (by omega) (by omega); have e9 := xSide_or M (xTow M h g) h; omega)) (hK.cN 1 tw_370 tw_367 tw_2 tw_369 ts_15 (by decide +kernel) rfl rfl ⟨Nat.le_of_ble_eq_true rfl, Nat.le_of_ble_eq_true rfl⟩) hK hX hS rfl rfl rfl hl.1 rfl (Nat.le_of_ble_eq_true rfl) d_PS_tryDoor_46 ⟨Nat.zero_le _, Nat.zero_le _⟩ (fun z u H locs rg_7 hp hX hS => ?_)
      obtain ⟨hz, hu⟩ := hp
      rw [hu] at hX
      have hz : z = (if (M 6 (xSide M (xTow M h g) h)) < (M 5 (xSide M (xTow M h g) h)) then 1 else 0) := hz
      subst hz
      refine z_if_eq (a := if (M 6 (xSide M (xTow M h g) h)) < (M 5 (xSide M (xTow M h g) h)) then 1 else 0) (tgt := 64) hx hb d_PS_tryDoor_49 (by decide) (by omega) (fun hb_8 => ?_) (fun hb_9 => ?_)
      · skip
        refine lv_aload_n hx hb d_PS_tryDoor_64 rfl (lv_at hl 2 rfl) ?_
        refine z_getr hx hb iw_PS hown hK hX 0 rfl rfl 3 (by decide) tw_147 (fun _ h => h) 4 rfl d_PS_tryDoor_65 ?_
        refine z_getrN hx hb iw_Pe hown hK hX 4 rfl rfl 8 (by decide) tw_124 (fun _ h => h) 25 rfl d_PS_tryDoor_68 ?_
        refine lv_iload_n hx hb d_PS_tryDoor_71 rfl (lv_at hl 3 rfl) ?_
        refine lv_dup2_11 hx hb d_PS_tryDoor_72 rfl rfl ?_
        refine z_iald (i := p1) (v := M 25 p1) hx hb hK hX 25 rfl (by omega) (by decide) rfl d_PS_tryDoor_73 (fun rg_10 => ?_)
        refine z_const hx hb d_PS_tryDoor_74 ?_
        refine z_iadd hx hb d_PS_tryDoor_75 ?_
        refine z_iastw (i := p1) (v := (M 25 p1) + 1) hx hb hK hX hS 25 rfl (by omega) (by decide) d_PS_tryDoor_76 (fun H locs hX hS => ?_)
        exact z_vret (post := fun u => u = xTryDoor M p1 h g) hx hb hr hlk hK hX hS (by unfold xTryDoor; rw [show xNext M h g = xSide M (xTow M h g) h from (by unfold xNext; first | rw [if_pos (by omega)] | rw [if_neg (by omega)])]; first | (rw [if_pos (by omega)]; done) | (rw [if_neg (by omega), if_pos (by omega)]; rfl) | (rw [if_neg (by omega), if_neg (by omega)]; done)) d_PS_tryDoor_77
      · skip
        refine lv_aload_n hx hb d_PS_tryDoor_52 rfl (lv_at hl 2 rfl) ?_
        refine z_getr hx hb iw_PS hown hK hX 0 rfl rfl 1 (by decide) tw_145 (fun _ h => h) 2 rfl d_PS_tryDoor_53 ?_
        refine lv_iload hx hb d_PS_tryDoor_56 (lv_at hl 1 rfl) ?_
        refine z_callVNi hF (k_Do_isFree l D ad cI sd M (xTow M h g) (by have e8 := xTow_rg M h g h3.1; omega)) (hK.cN 1 tw_391 tw_388 tw_3 tw_390 ts_20 (by decide +kernel) rfl rfl ⟨Nat.le_of_ble_eq_true rfl, Nat.le_of_ble_eq_true rfl⟩) hK hX hS rfl rfl rfl hl.1 rfl (Nat.le_of_ble_eq_true rfl) d_PS_tryDoor_58 ⟨Nat.zero_le _, Nat.zero_le _⟩ (fun z u H locs rg_11 hp hX hS => ?_)
        obtain ⟨hz, hu⟩ := hp
        rw [hu] at hX
        have hz : z = (if (M 14 (xTow M h g)) < (M 11 (xTow M h g)) then 1 else 0) := hz
        subst hz
        refine z_if_ne (a := if (M 14 (xTow M h g)) < (M 11 (xTow M h g)) then 1 else 0) (tgt := 78) hx hb d_PS_tryDoor_61 (by decide) (by omega) (fun hb_12 => ?_) (fun hb_13 => ?_)
        · skip
          refine lv_aload_n hx hb d_PS_tryDoor_78 rfl (lv_at hl 2 rfl) ?_
          refine z_getr hx hb iw_PS hown hK hX 0 rfl rfl 1 (by decide) tw_145 (fun _ h => h) 2 rfl d_PS_tryDoor_79 ?_
          refine lv_iload hx hb d_PS_tryDoor_82 (lv_at hl 1 rfl) ?_
          refine lv_iload_n hx hb d_PS_tryDoor_84 rfl (lv_at hl 4 rfl) ?_
          refine z_callVNv hF (k_Do_pass l D ad cI sd M (xTow M h g) h (by have e8 := xTow_rg M h g h3.1; omega) (by omega)) (hK.cN 2 tw_395 tw_392 tw_3 tw_394 ts_21 (by decide +kernel) rfl rfl ⟨Nat.le_of_ble_eq_true rfl, Nat.le_of_ble_eq_true rfl⟩) hK hX hS rfl rfl rfl hl.1 rfl (Nat.le_of_ble_eq_true rfl) d_PS_tryDoor_85 ⟨Nat.zero_le _, Nat.zero_le _⟩ (fun u H locs hp hX hS => ?_)
          rw [hp] at hX
          refine lv_aload_n hx hb d_PS_tryDoor_88 rfl (lv_at hl 2 rfl) ?_
          refine z_getr hx hb iw_PS hown hK hX 0 rfl rfl 0 (by decide) tw_144 (fun _ h => h) 1 rfl d_PS_tryDoor_89 ?_
          refine z_getrN hx hb iw_Ro hown hK hX 1 rfl rfl 2 (by decide) tw_32 (fun _ h => h) 6 rfl d_PS_tryDoor_92 ?_
          refine lv_iload_n hx hb d_PS_tryDoor_95 rfl (lv_at hl 4 rfl) ?_
          refine lv_dup2_11 hx hb d_PS_tryDoor_96 rfl rfl ?_
          refine z_iald (i := h) (v := (xPass M (xTow M h g) h) 6 h) hx hb hK hX 6 rfl (by omega) (by decide) rfl d_PS_tryDoor_97 (fun rg_14 => ?_)
          refine z_const hx hb d_PS_tryDoor_98 ?_
          refine z_isub hx hb d_PS_tryDoor_99 ?_
          refine z_iastw (i := h) (v := ((xPass M (xTow M h g) h) 6 h) - 1) hx hb hK hX hS 6 rfl (by omega) (by decide) d_PS_tryDoor_100 (fun H locs hX hS => ?_)
          refine lv_aload_n hx hb d_PS_tryDoor_101 rfl (lv_at hl 2 rfl) ?_
          refine z_getr hx hb iw_PS hown hK hX 0 rfl rfl 0 (by decide) tw_144 (fun _ h => h) 1 rfl d_PS_tryDoor_102 ?_
          refine z_getrN hx hb iw_Ro hown hK hX 1 rfl rfl 2 (by decide) tw_32 (fun _ h => h) 6 rfl d_PS_tryDoor_105 ?_
          refine lv_iload hx hb d_PS_tryDoor_108 (lv_at hl 0 rfl) ?_
          refine lv_dup2_11 hx hb d_PS_tryDoor_110 rfl rfl ?_
          refine z_iald (i := xSide M (xTow M h g) h) (v := (zU (xPass M (xTow M h g) h) 6 h (bm (((xPass M (xTow M h g) h) 6 h) - 1))) 6 (xSide M (xTow M h g) h)) hx hb hK hX 6 rfl (by have e8 := xTow_rg M h g h3.1; have h9 := h4 (xTow M h g) (by omega) (by omega); have e9 := xSide_or M (xTow M h g) h; omega) (by decide) (by simp [zU]) d_PS_tryDoor_111 (fun rg_15 => ?_)
          refine z_const hx hb d_PS_tryDoor_112 ?_
          refine z_iadd hx hb d_PS_tryDoor_113 ?_
          refine z_iastw (i := xSide M (xTow M h g) h) (v := ((zU (xPass M (xTow M h g) h) 6 h (bm (((xPass M (xTow M h g) h) 6 h) - 1))) 6 (xSide M (xTow M h g) h)) + 1) hx hb hK hX hS 6 rfl (by have e8 := xTow_rg M h g h3.1; have h9 := h4 (xTow M h g) (by omega) (by omega); have e9 := xSide_or M (xTow M h g) h; omega) (by decide) d_PS_tryDoor_114 (fun H locs hX hS => ?_)
          refine lv_aload_n hx hb d_PS_tryDoor_115 rfl (lv_at hl 2 rfl) ?_
          refine z_getr hx hb iw_PS hown hK hX 0 rfl rfl 2 (by decide) tw_146 (fun _ h => h) 3 rfl d_PS_tryDoor_116 ?_
          refine lv_iload_n hx hb d_PS_tryDoor_119 rfl (lv_at hl 3 rfl) ?_
          refine lv_aload_n hx hb d_PS_tryDoor_120 rfl (lv_at hl 2 rfl) ?_
          refine z_geti (i := 4) (v := (xPass M (xTow M h g) h) 0 4) hx hb iw_PS hown hK hX 0 rfl rfl 4 (by decide) tw_148 (fun _ h => h) rfl rfl rfl d_PS_tryDoor_121 (fun rg_16 => ?_)
          refine lv_iload hx hb d_PS_tryDoor_124 (lv_at hl 0 rfl) ?_
          refine z_callVNv hF (k_Tr_add l D ad cI sd (zU (zU (xPass M (xTow M h g) h) 6 h (bm (((xPass M (xTow M h g) h) 6 h) - 1))) 6 (xSide M (xTow M h g) h) (bm (((zU (xPass M (xTow M h g) h) 6 h (bm (((xPass M (xTow M h g) h) 6 h) - 1))) 6 (xSide M (xTow M h g) h)) + 1))) p1 ((xPass M (xTow M h g) h) 0 4) (xSide M (xTow M h g) h) h1 (by have e9 : xPass M (xTow M h g) h 16 = M 16 := xPass_c (by decide) (by decide) (by decide); show 0 ≤ xPass M (xTow M h g) h 16 p1 ∧ xPass M (xTow M h g) h 16 p1 ≤ 46; rw [e9]; exact h2) (by omega) (by omega)) (hK.cN 3 tw_374 tw_371 tw_5 tw_373 ts_16 (by decide +kernel) rfl rfl ⟨Nat.le_of_ble_eq_true rfl, Nat.le_of_ble_eq_true rfl⟩) hK hX hS rfl rfl rfl hl.1 rfl (Nat.le_of_ble_eq_true rfl) d_PS_tryDoor_126 ⟨Nat.zero_le _, Nat.zero_le _⟩ (fun u H locs hp hX hS => ?_)
          rw [hp] at hX
          exact z_vret (post := fun u => u = xTryDoor M p1 h g) hx hb hr hlk hK hX hS (by unfold xTryDoor; rw [show xNext M h g = xSide M (xTow M h g) h from (by unfold xNext; first | rw [if_pos (by omega)] | rw [if_neg (by omega)])]; first | (rw [if_pos (by omega)]; done) | (rw [if_neg (by omega), if_pos (by omega)]; rfl) | (rw [if_neg (by omega), if_neg (by omega)]; done)) d_PS_tryDoor_129
        · skip
          refine lv_aload_n hx hb d_PS_tryDoor_64 rfl (lv_at hl 2 rfl) ?_
          refine z_getr hx hb iw_PS hown hK hX 0 rfl rfl 3 (by decide) tw_147 (fun _ h => h) 4 rfl d_PS_tryDoor_65 ?_
          refine z_getrN hx hb iw_Pe hown hK hX 4 rfl rfl 8 (by decide) tw_124 (fun _ h => h) 25 rfl d_PS_tryDoor_68 ?_
          refine lv_iload_n hx hb d_PS_tryDoor_71 rfl (lv_at hl 3 rfl) ?_
          refine lv_dup2_11 hx hb d_PS_tryDoor_72 rfl rfl ?_
          refine z_iald (i := p1) (v := M 25 p1) hx hb hK hX 25 rfl (by omega) (by decide) rfl d_PS_tryDoor_73 (fun rg_17 => ?_)
          refine z_const hx hb d_PS_tryDoor_74 ?_
          refine z_iadd hx hb d_PS_tryDoor_75 ?_
          refine z_iastw (i := p1) (v := (M 25 p1) + 1) hx hb hK hX hS 25 rfl (by omega) (by decide) d_PS_tryDoor_76 (fun H locs hX hS => ?_)
          exact z_vret (post := fun u => u = xTryDoor M p1 h g) hx hb hr hlk hK hX hS (by unfold xTryDoor; rw [show xNext M h g = xSide M (xTow M h g) h from (by unfold xNext; first | rw [if_pos (by omega)] | rw [if_neg (by omega)])]; first | (rw [if_pos (by omega)]; done) | (rw [if_neg (by omega), if_pos (by omega)]; rfl) | (rw [if_neg (by omega), if_neg (by omega)]; done)) d_PS_tryDoor_77
    · skip
      exact z_vret (post := fun u => u = xTryDoor M p1 h g) hx hb hr hlk hK hX hS (by unfold xTryDoor; rw [show xNext M h g = xSide M (xTow M h g) h from (by unfold xNext; first | rw [if_pos (by omega)] | rw [if_neg (by omega)])]; first | (rw [if_pos (by omega)]; done) | (rw [if_neg (by omega), if_pos (by omega)]; rfl) | (rw [if_neg (by omega), if_neg (by omega)]; done)) d_PS_tryDoor_39
  · skip
    refine z_const hx hb d_PS_tryDoor_17 ?_
    refine lv_goto (tgt := 31) hx hb d_PS_tryDoor_18 (by decide) ?_
    refine lv_istore (lv' := [(5, .int (zI (-1))), (4, .int (zI (xTow M h g))), (0, .ref (ad 0)), (1, .int (zI (p1))), (2, .int (zI (h))), (3, .int (zI (g)))]) hx hb d_PS_tryDoor_31 hl (by decide) rfl (fun ls hl => ?_)
    refine lv_iload hx hb d_PS_tryDoor_33 (lv_at hl 0 rfl) ?_
    refine z_const hx hb d_PS_tryDoor_35 ?_
    refine z_icmp_ne (a := -1) (b := -1) (tgt := 40) hx hb d_PS_tryDoor_36 (by decide) (by omega) (fun hb_18 => ?_) (fun hb_19 => ?_)
    · skip
      exfalso
      omega
    · skip
      exact z_vret (post := fun u => u = xTryDoor M p1 h g) hx hb hr hlk hK hX hS (by unfold xTryDoor; rw [show xNext M h g = -1 from (by unfold xNext; first | rw [if_pos (by omega)] | rw [if_neg (by omega)])]; first | (rw [if_pos (by omega)]; done) | (rw [if_neg (by omega), if_pos (by omega)]; rfl) | (rw [if_neg (by omega), if_neg (by omega)]; done)) d_PS_tryDoor_39
set_option maxHeartbeats 4000000 in
set_option maxRecDepth 100000 in
theorem k_PS_step (l : Launch) (D : va_G) (ad : Nat → Nat) (cI : Nat → ClassId) (sd : Int64) (M : zM) (p1 : Int) (h1 : 0 ≤ p1 ∧ p1 < 60) (h2 : 0 ≤ M 16 p1 ∧ M 16 p1 ≤ 46) (h3 : 0 ≤ M 2 0 ∧ M 2 0 ≤ 16) (h4 : ∀ d, 0 ≤ d → d < M 2 0 → (0 ≤ M 9 d ∧ M 9 d < 12) ∧ 0 ≤ M 10 d ∧ M 10 d < 12) (h5 : -1 ≤ xNow M p1 ∧ xNow M p1 < 12) (h6 : (0 ≤ M 20 p1 ∧ M 20 p1 < 12) ∧ 0 ≤ M 23 p1 ∧ M 23 p1 < 12) : zMv l y_PS_tryStep (.code y_PS_tryStep c_PS_tryStep 4 (none)) { frames := 3, cells := 0, slots := 0, locals := 72 } D (xL sd) ad cI M [.ref (ad 0), .int (zI (p1))] (fun u => u = xStep M p1) := by
  refine z_of (cc := c_PS_tryStep) (maxL := 4) (ret := none) (own := "PersonSeeds") (by decide) rfl rfl (Nat.le_of_ble_eq_true rfl) ?_
  intro p e s m below meth c ls hF hr hX hK hl
  obtain ⟨hx, hb, hml, hown, hlk⟩ := id hF
  have hS : va_S (zA ad (xL sd)) s.heap s.heap [] := va_S.rf
  have hl : lv_has ls 4 [(0, .ref (ad 0)), (1, .int (zI (p1)))] := hl
  refine lv_aload_n hx hb d_PS_tryStep_0 rfl (lv_at hl 0 rfl) ?_
  refine z_getr hx hb iw_PS hown hK hX 0 rfl rfl 2 (by decide) tw_146 (fun _ h => h) 3 rfl d_PS_tryStep_1 ?_
  refine lv_iload_n hx hb d_PS_tryStep_4 rfl (lv_at hl 1 rfl) ?_
  refine z_callVNi hF (k_Tr_placeNow l D ad cI sd M p1 h1 h2) (hK.cN 1 tw_358 tw_355 tw_5 tw_357 ts_12 (by decide +kernel) rfl rfl ⟨Nat.le_of_ble_eq_true rfl, Nat.le_of_ble_eq_true rfl⟩) hK hX hS rfl rfl rfl hl.1 rfl (Nat.le_of_ble_eq_true rfl) d_PS_tryStep_5 ⟨Nat.zero_le _, Nat.zero_le _⟩ (fun z u H locs rg_1 hp hX hS => ?_)
  obtain ⟨hz, hu⟩ := hp
  rw [hu] at hX
  have hz : z = (xNow M p1) := hz
  subst hz
  refine lv_istore_n (lv' := [(2, .int (zI (xNow M p1))), (0, .ref (ad 0)), (1, .int (zI (p1)))]) hx hb d_PS_tryStep_8 rfl hl (by decide) rfl (fun ls hl => ?_)
  refine lv_aload_n hx hb d_PS_tryStep_9 rfl (lv_at hl 1 rfl) ?_
  refine z_getr hx hb iw_PS hown hK hX 0 rfl rfl 3 (by decide) tw_147 (fun _ h => h) 4 rfl d_PS_tryStep_10 ?_
  refine lv_iload_n hx hb d_PS_tryStep_13 rfl (lv_at hl 2 rfl) ?_
  refine lv_aload_n hx hb d_PS_tryStep_14 rfl (lv_at hl 1 rfl) ?_
  refine z_geti (i := 4) (v := M 0 4) hx hb iw_PS hown hK hX 0 rfl rfl 4 (by decide) tw_148 (fun _ h => h) rfl rfl rfl d_PS_tryStep_15 (fun rg_2 => ?_)
  refine z_callVNi hF (k_Pe_wants l D ad cI sd M p1 (M 0 4) h1 (by omega)) (hK.cN 2 tw_362 tw_359 tw_6 tw_361 ts_13 (by decide +kernel) rfl rfl ⟨Nat.le_of_ble_eq_true rfl, Nat.le_of_ble_eq_true rfl⟩) hK hX hS rfl rfl rfl hl.1 rfl (Nat.le_of_ble_eq_true rfl) d_PS_tryStep_18 ⟨Nat.zero_le _, Nat.zero_le _⟩ (fun z u H locs rg_3 hp hX hS => ?_)
  obtain ⟨hz, hu⟩ := hp
  rw [hu] at hX
  have hz : z = (xWants M p1 (M 0 4)) := hz
  subst hz
  refine lv_istore_n (lv' := [(3, .int (zI (xWants M p1 (M 0 4)))), (2, .int (zI (xNow M p1))), (0, .ref (ad 0)), (1, .int (zI (p1)))]) hx hb d_PS_tryStep_21 rfl hl (by decide) rfl (fun ls hl => ?_)
  refine lv_iload_n hx hb d_PS_tryStep_22 rfl (lv_at hl 1 rfl) ?_
  refine lv_iload_n hx hb d_PS_tryStep_23 rfl (lv_at hl 0 rfl) ?_
  refine z_icmp_ne (a := xNow M p1) (b := xWants M p1 (M 0 4)) (tgt := 28) hx hb d_PS_tryStep_24 (by decide) (by omega) (fun hb_4 => ?_) (fun hb_5 => ?_)
  · skip
    refine lv_iload_n hx hb d_PS_tryStep_28 rfl (lv_at hl 1 rfl) ?_
    refine z_const hx hb d_PS_tryStep_29 ?_
    refine z_icmp_ne (a := xNow M p1) (b := -1) (tgt := 41) hx hb d_PS_tryStep_30 (by decide) (by omega) (fun hb_6 => ?_) (fun hb_7 => ?_)
    · skip
      refine lv_iload_n hx hb d_PS_tryStep_41 rfl (lv_at hl 0 rfl) ?_
      refine z_const hx hb d_PS_tryStep_42 ?_
      refine z_icmp_eq (a := xWants M p1 (M 0 4)) (b := -1) (tgt := 56) hx hb d_PS_tryStep_43 (by decide) (by omega) (fun hb_8 => ?_) (fun hb_9 => ?_)
      · skip
        refine lv_iload_n hx hb d_PS_tryStep_56 rfl (lv_at hl 1 rfl) ?_
        refine z_if_eq (a := xNow M p1) (tgt := 70) hx hb d_PS_tryStep_57 (by decide) (by omega) (fun hb_10 => ?_) (fun hb_11 => ?_)
        · skip
          refine lv_aload_n hx hb d_PS_tryStep_70 rfl (lv_at hl 2 rfl) ?_
          refine lv_iload_n hx hb d_PS_tryStep_71 rfl (lv_at hl 3 rfl) ?_
          refine z_callVv hF (k_PS_out l D ad cI sd M p1 h1 h2) (hK.cV 1 tw_399 tw_396 tw_1 tw_398 ts_22 (by decide +kernel) rfl rfl ⟨Nat.le_of_ble_eq_true rfl, Nat.le_of_ble_eq_true rfl⟩) hK hX hS rfl rfl rfl hl.1 rfl (Nat.le_of_ble_eq_true rfl) d_PS_tryStep_72 ⟨Nat.zero_le _, Nat.zero_le _⟩ (fun u H locs hp hX hS => ?_)
          rw [hp] at hX
          exact z_vret (post := fun u => u = xStep M p1) hx hb hr hlk hK hX hS (by unfold xStep; first | rw [if_pos (by omega)] | rw [if_neg (by omega), if_pos (by omega)] | rw [if_neg (by omega), if_neg (by omega), if_pos (by omega)] | rw [if_neg (by omega), if_neg (by omega), if_neg (by omega), if_pos (by omega)] | rw [if_neg (by omega), if_neg (by omega), if_neg (by omega), if_neg (by omega)]) d_PS_tryStep_75
        · skip
          refine lv_aload_n hx hb d_PS_tryStep_60 rfl (lv_at hl 2 rfl) ?_
          refine lv_iload_n hx hb d_PS_tryStep_61 rfl (lv_at hl 3 rfl) ?_
          refine lv_iload_n hx hb d_PS_tryStep_62 rfl (lv_at hl 1 rfl) ?_
          refine z_const hx hb d_PS_tryStep_63 ?_
          refine z_callVv hF (k_PS_tryDoor l D ad cI sd M p1 (xNow M p1) 0 h1 h2 h3 h4 (by omega) (by omega)) (hK.cV 3 tw_378 tw_375 tw_1 tw_377 ts_17 (by decide +kernel) rfl rfl ⟨Nat.le_of_ble_eq_true rfl, Nat.le_of_ble_eq_true rfl⟩) hK hX hS rfl rfl rfl hl.1 rfl (Nat.le_of_ble_eq_true rfl) d_PS_tryStep_64 ⟨Nat.zero_le _, Nat.zero_le _⟩ (fun u H locs hp hX hS => ?_)
          rw [hp] at hX
          refine lv_goto (tgt := 75) hx hb d_PS_tryStep_67 (by decide) ?_
          exact z_vret (post := fun u => u = xStep M p1) hx hb hr hlk hK hX hS (by unfold xStep; first | rw [if_pos (by omega)] | rw [if_neg (by omega), if_pos (by omega)] | rw [if_neg (by omega), if_neg (by omega), if_pos (by omega)] | rw [if_neg (by omega), if_neg (by omega), if_neg (by omega), if_pos (by omega)] | rw [if_neg (by omega), if_neg (by omega), if_neg (by omega), if_neg (by omega)]) d_PS_tryStep_75
      · skip
        refine lv_aload_n hx hb d_PS_tryStep_46 rfl (lv_at hl 2 rfl) ?_
        refine lv_iload_n hx hb d_PS_tryStep_47 rfl (lv_at hl 3 rfl) ?_
        refine lv_iload_n hx hb d_PS_tryStep_48 rfl (lv_at hl 1 rfl) ?_
        refine lv_iload_n hx hb d_PS_tryStep_49 rfl (lv_at hl 0 rfl) ?_
        refine z_callVv hF (k_PS_tryDoor l D ad cI sd M p1 (xNow M p1) (xWants M p1 (M 0 4)) h1 h2 h3 h4 (by omega) (by have e9 := xWants_or M p1 (M 0 4); omega)) (hK.cV 3 tw_378 tw_375 tw_1 tw_377 ts_17 (by decide +kernel) rfl rfl ⟨Nat.le_of_ble_eq_true rfl, Nat.le_of_ble_eq_true rfl⟩) hK hX hS rfl rfl rfl hl.1 rfl (Nat.le_of_ble_eq_true rfl) d_PS_tryStep_50 ⟨Nat.zero_le _, Nat.zero_le _⟩ (fun u H locs hp hX hS => ?_)
        rw [hp] at hX
        refine lv_goto (tgt := 75) hx hb d_PS_tryStep_53 (by decide) ?_
        exact z_vret (post := fun u => u = xStep M p1) hx hb hr hlk hK hX hS (by unfold xStep; first | rw [if_pos (by omega)] | rw [if_neg (by omega), if_pos (by omega)] | rw [if_neg (by omega), if_neg (by omega), if_pos (by omega)] | rw [if_neg (by omega), if_neg (by omega), if_neg (by omega), if_pos (by omega)] | rw [if_neg (by omega), if_neg (by omega), if_neg (by omega), if_neg (by omega)]) d_PS_tryStep_75
    · skip
      refine lv_aload_n hx hb d_PS_tryStep_33 rfl (lv_at hl 2 rfl) ?_
      refine lv_iload_n hx hb d_PS_tryStep_34 rfl (lv_at hl 3 rfl) ?_
      refine z_callVv hF (k_PS_entr l D ad cI sd M p1 h1 h2) (hK.cV 1 tw_366 tw_363 tw_1 tw_365 ts_14 (by decide +kernel) rfl rfl ⟨Nat.le_of_ble_eq_true rfl, Nat.le_of_ble_eq_true rfl⟩) hK hX hS rfl rfl rfl hl.1 rfl (Nat.le_of_ble_eq_true rfl) d_PS_tryStep_35 ⟨Nat.zero_le _, Nat.zero_le _⟩ (fun u H locs hp hX hS => ?_)
      rw [hp] at hX
      refine lv_goto (tgt := 75) hx hb d_PS_tryStep_38 (by decide) ?_
      exact z_vret (post := fun u => u = xStep M p1) hx hb hr hlk hK hX hS (by unfold xStep; first | rw [if_pos (by omega)] | rw [if_neg (by omega), if_pos (by omega)] | rw [if_neg (by omega), if_neg (by omega), if_pos (by omega)] | rw [if_neg (by omega), if_neg (by omega), if_neg (by omega), if_pos (by omega)] | rw [if_neg (by omega), if_neg (by omega), if_neg (by omega), if_neg (by omega)]) d_PS_tryStep_75
  · skip
    exact z_vret (post := fun u => u = xStep M p1) hx hb hr hlk hK hX hS (by unfold xStep; first | rw [if_pos (by omega)] | rw [if_neg (by omega), if_pos (by omega)] | rw [if_neg (by omega), if_neg (by omega), if_pos (by omega)] | rw [if_neg (by omega), if_neg (by omega), if_neg (by omega), if_pos (by omega)] | rw [if_neg (by omega), if_neg (by omega), if_neg (by omega), if_neg (by omega)]) d_PS_tryStep_27

set_option maxHeartbeats 4000000 in
set_option maxRecDepth 100000 in
theorem m_tell (l : Launch) (D : va_G) (ad : Nat → Nat) (cI : Nat → ClassId) (sd : Int64) (M : zM) (p1 what : Int) (h1 : 0 ≤ p1 ∧ p1 < 60) (h2 : 0 ≤ what ∧ what ≤ 5) (h3 : 1 ≤ M 0 3 ∧ M 0 3 ≤ 12) (h4 : 0 ≤ M 12 p1 ∧ M 12 p1 ≤ 1439) : zMi l y_Mo_tell (.code y_Mo_tell c_Mo_tell 4 (some .int)) { frames := 1, cells := 0, slots := 0, locals := 25 } D (nL sd) ad cI M [.ref (ad 0), .int (zI (p1)), .int (zI (what))] (fun z u => z = (nTell sd M p1 what) ∧ u = M) := by
  refine z_of (cc := c_Mo_tell) (maxL := 4) (ret := some .int) (own := "PersonSeedsModel") (by decide) rfl rfl (Nat.le_of_ble_eq_true rfl) ?_
  intro p e s m below meth c ls hF hr hX hK hl
  obtain ⟨hx, hb, hml, hown, hlk⟩ := id hF
  have hS : va_S (zA ad (nL sd)) s.heap s.heap [] := va_S.rf
  have hl : lv_has ls 4 [(0, .ref (ad 0)), (1, .int (zI (p1))), (2, .int (zI (what)))] := hl
  refine lv_aload_n hx hb d_Mo_tell_0 rfl (lv_at hl 0 rfl) ?_
  refine z_getr hx hb iw_Mo hown hK hX 0 rfl rfl 17 (by decide) tw_515 (fun _ h => h) 12 rfl d_Mo_tell_1 ?_
  refine lv_iload_n hx hb d_Mo_tell_4 rfl (lv_at hl 1 rfl) ?_
  refine z_iald (i := p1) (v := M 12 p1) hx hb hK hX 12 rfl (by omega) (by decide) rfl d_Mo_tell_5 (fun rg_1 => ?_)
  refine z_bipush hx hb d_Mo_tell_6 (by decide) ?_
  refine z_iadd hx hb d_Mo_tell_8 ?_
  refine lv_aload_n hx hb d_Mo_tell_9 rfl (lv_at hl 0 rfl) ?_
  refine lv_iload_n hx hb d_Mo_tell_10 rfl (lv_at hl 1 rfl) ?_
  refine z_const hx hb d_Mo_tell_11 ?_
  refine z_bipush hx hb d_Mo_tell_12 (by decide) ?_
  refine z_callVi hF (m_drawn l D ad cI sd M p1 1 90 h1 (by omega) (by omega)) (hK.cV 3 tw_612 tw_609 tw_7 tw_611 ts_31 (by decide +kernel) rfl rfl ⟨Nat.le_of_ble_eq_true rfl, Nat.le_of_ble_eq_true rfl⟩) hK hX hS rfl rfl rfl hl.1 rfl (Nat.le_of_ble_eq_true rfl) d_Mo_tell_14 ⟨Nat.le_of_ble_eq_true rfl, Nat.le_of_ble_eq_true rfl⟩ (fun zo_3 u H locs rg_2 hp hX hS => ?_)
  obtain ⟨ezo_3, hu⟩ := hp
  rw [hu] at hX
  replace ezo_3 : zSame zo_3 (xDraw sd p1 1 90) := ezo_3
  have dzo_3 := xDraw_rg sd p1 1 (m := 90) (by omega)
  rw [← show zo_3 = xDraw sd p1 1 90 from ezo_3] at dzo_3
  refine z_iadd hx hb d_Mo_tell_17 ?_
  refine lv_istore_n (lv' := [(3, .int (zI (((M 12 p1) + 30) + zo_3))), (0, .ref (ad 0)), (1, .int (zI (p1))), (2, .int (zI (what)))]) hx hb d_Mo_tell_18 rfl hl (by decide) rfl (fun ls hl => ?_)
  refine lv_iload_n hx hb d_Mo_tell_19 rfl (lv_at hl 3 rfl) ?_
  rcases (show what = 0 ∨ what = 1 ∨ what = 2 ∨ what = 3 ∨ what = 4 ∨ what = 5 by omega) with e9 | e9 | e9 | e9 | e9 | e9
  · skip
    refine lv_tableIn (tgt := 56) hx hb d_Mo_tell_20 (by rw [e9]; decide +kernel) (by rw [e9]; decide +kernel) (by rw [e9]; rfl) (by decide) ?_
    refine lv_aload_n hx hb d_Mo_tell_56 rfl (lv_at hl 1 rfl) ?_
    refine z_getr hx hb iw_Mo hown hK hX 0 rfl rfl 17 (by decide) tw_515 (fun _ h => h) 12 rfl d_Mo_tell_57 ?_
    refine lv_iload_n hx hb d_Mo_tell_60 rfl (lv_at hl 2 rfl) ?_
    refine z_iald (i := p1) (v := M 12 p1) hx hb hK hX 12 rfl (by omega) (by decide) rfl d_Mo_tell_61 (fun rg_4 => ?_)
    exact z_iret (z := M 12 p1) (post := (fun z u => z = (nTell sd M p1 what) ∧ u = M)) hx hb hr hlk hK hX hS (by omega) ⟨by unfold zSame at ezo_3; subst ezo_3; first | rw [e9, nTell_0] | rw [e9, nTell_1] | rw [e9, nTell_2] | rw [e9, nTell_3] | rw [e9, nTell_4] | rw [e9, nTell_5], rfl⟩ d_Mo_tell_62
  · skip
    refine lv_tableIn (tgt := 63) hx hb d_Mo_tell_20 (by rw [e9]; decide +kernel) (by rw [e9]; decide +kernel) (by rw [e9]; rfl) (by decide) ?_
    refine lv_aload_n hx hb d_Mo_tell_63 rfl (lv_at hl 1 rfl) ?_
    refine lv_iload_n hx hb d_Mo_tell_64 rfl (lv_at hl 2 rfl) ?_
    refine z_const hx hb d_Mo_tell_65 ?_
    refine lv_aload_n hx hb d_Mo_tell_66 rfl (lv_at hl 1 rfl) ?_
    refine z_geti (i := 3) (v := M 0 3) hx hb iw_Mo hown hK hX 0 rfl rfl 3 (by decide) tw_501 (fun _ h => h) rfl rfl rfl d_Mo_tell_67 (fun rg_5 => ?_)
    refine z_callVi hF (m_drawn l D ad cI sd M p1 0 (M 0 3) h1 (by omega) (by omega)) (hK.cV 3 tw_612 tw_609 tw_7 tw_611 ts_31 (by decide +kernel) rfl rfl ⟨Nat.le_of_ble_eq_true rfl, Nat.le_of_ble_eq_true rfl⟩) hK hX hS rfl rfl rfl hl.1 rfl (Nat.le_of_ble_eq_true rfl) d_Mo_tell_70 ⟨Nat.le_of_ble_eq_true rfl, Nat.le_of_ble_eq_true rfl⟩ (fun zo_7 u H locs rg_6 hp hX hS => ?_)
    obtain ⟨ezo_7, hu⟩ := hp
    rw [hu] at hX
    replace ezo_7 : zSame zo_7 (xDraw sd p1 0 (M 0 3)) := ezo_7
    have dzo_7 := xDraw_rg sd p1 0 (m := (M 0 3)) (by omega)
    rw [← show zo_7 = xDraw sd p1 0 (M 0 3) from ezo_7] at dzo_7
    exact z_iret (z := zo_7) (post := (fun z u => z = (nTell sd M p1 what) ∧ u = M)) hx hb hr hlk hK hX hS (by omega) ⟨by unfold zSame at ezo_3 ezo_7; subst ezo_3 ezo_7; first | rw [e9, nTell_0] | rw [e9, nTell_1] | rw [e9, nTell_2] | rw [e9, nTell_3] | rw [e9, nTell_4] | rw [e9, nTell_5], rfl⟩ d_Mo_tell_73
  · skip
    refine lv_tableIn (tgt := 74) hx hb d_Mo_tell_20 (by rw [e9]; decide +kernel) (by rw [e9]; decide +kernel) (by rw [e9]; rfl) (by decide) ?_
    refine lv_iload_n hx hb d_Mo_tell_74 rfl (lv_at hl 0 rfl) ?_
    exact z_iret (z := ((M 12 p1) + 30) + zo_3) (post := (fun z u => z = (nTell sd M p1 what) ∧ u = M)) hx hb hr hlk hK hX hS (by omega) ⟨by unfold zSame at ezo_3; subst ezo_3; first | rw [e9, nTell_0] | rw [e9, nTell_1] | rw [e9, nTell_2] | rw [e9, nTell_3] | rw [e9, nTell_4] | rw [e9, nTell_5], rfl⟩ d_Mo_tell_75
  · skip
    refine lv_tableIn (tgt := 76) hx hb d_Mo_tell_20 (by rw [e9]; decide +kernel) (by rw [e9]; decide +kernel) (by rw [e9]; rfl) (by decide) ?_
    refine lv_iload_n hx hb d_Mo_tell_76 rfl (lv_at hl 0 rfl) ?_
    refine z_bipush hx hb d_Mo_tell_77 (by decide) ?_
    refine z_iadd hx hb d_Mo_tell_79 ?_
    refine lv_aload_n hx hb d_Mo_tell_80 rfl (lv_at hl 1 rfl) ?_
    refine lv_iload_n hx hb d_Mo_tell_81 rfl (lv_at hl 2 rfl) ?_
    refine z_const hx hb d_Mo_tell_82 ?_
    refine z_bipush hx hb d_Mo_tell_83 (by decide) ?_
    refine z_callVi hF (m_drawn l D ad cI sd M p1 2 20 h1 (by omega) (by omega)) (hK.cV 3 tw_612 tw_609 tw_7 tw_611 ts_31 (by decide +kernel) rfl rfl ⟨Nat.le_of_ble_eq_true rfl, Nat.le_of_ble_eq_true rfl⟩) hK hX hS rfl rfl rfl hl.1 rfl (Nat.le_of_ble_eq_true rfl) d_Mo_tell_85 ⟨Nat.le_of_ble_eq_true rfl, Nat.le_of_ble_eq_true rfl⟩ (fun zo_9 u H locs rg_8 hp hX hS => ?_)
    obtain ⟨ezo_9, hu⟩ := hp
    rw [hu] at hX
    replace ezo_9 : zSame zo_9 (xDraw sd p1 2 20) := ezo_9
    have dzo_9 := xDraw_rg sd p1 2 (m := 20) (by omega)
    rw [← show zo_9 = xDraw sd p1 2 20 from ezo_9] at dzo_9
    refine z_iadd hx hb d_Mo_tell_88 ?_
    exact z_iret (z := ((((M 12 p1) + 30) + zo_3) + 20) + zo_9) (post := (fun z u => z = (nTell sd M p1 what) ∧ u = M)) hx hb hr hlk hK hX hS (by omega) ⟨by unfold zSame at ezo_3 ezo_9; subst ezo_3 ezo_9; first | rw [e9, nTell_0] | rw [e9, nTell_1] | rw [e9, nTell_2] | rw [e9, nTell_3] | rw [e9, nTell_4] | rw [e9, nTell_5], rfl⟩ d_Mo_tell_89
  · skip
    refine lv_tableIn (tgt := 90) hx hb d_Mo_tell_20 (by rw [e9]; decide +kernel) (by rw [e9]; decide +kernel) (by rw [e9]; rfl) (by decide) ?_
    refine lv_aload_n hx hb d_Mo_tell_90 rfl (lv_at hl 1 rfl) ?_
    refine lv_iload_n hx hb d_Mo_tell_91 rfl (lv_at hl 2 rfl) ?_
    refine z_const hx hb d_Mo_tell_92 ?_
    refine lv_aload_n hx hb d_Mo_tell_93 rfl (lv_at hl 1 rfl) ?_
    refine z_geti (i := 3) (v := M 0 3) hx hb iw_Mo hown hK hX 0 rfl rfl 3 (by decide) tw_501 (fun _ h => h) rfl rfl rfl d_Mo_tell_94 (fun rg_10 => ?_)
    refine z_callVi hF (m_drawn l D ad cI sd M p1 3 (M 0 3) h1 (by omega) (by omega)) (hK.cV 3 tw_612 tw_609 tw_7 tw_611 ts_31 (by decide +kernel) rfl rfl ⟨Nat.le_of_ble_eq_true rfl, Nat.le_of_ble_eq_true rfl⟩) hK hX hS rfl rfl rfl hl.1 rfl (Nat.le_of_ble_eq_true rfl) d_Mo_tell_97 ⟨Nat.le_of_ble_eq_true rfl, Nat.le_of_ble_eq_true rfl⟩ (fun zo_12 u H locs rg_11 hp hX hS => ?_)
    obtain ⟨ezo_12, hu⟩ := hp
    rw [hu] at hX
    replace ezo_12 : zSame zo_12 (xDraw sd p1 3 (M 0 3)) := ezo_12
    have dzo_12 := xDraw_rg sd p1 3 (m := (M 0 3)) (by omega)
    rw [← show zo_12 = xDraw sd p1 3 (M 0 3) from ezo_12] at dzo_12
    exact z_iret (z := zo_12) (post := (fun z u => z = (nTell sd M p1 what) ∧ u = M)) hx hb hr hlk hK hX hS (by omega) ⟨by unfold zSame at ezo_3 ezo_12; subst ezo_3 ezo_12; first | rw [e9, nTell_0] | rw [e9, nTell_1] | rw [e9, nTell_2] | rw [e9, nTell_3] | rw [e9, nTell_4] | rw [e9, nTell_5], rfl⟩ d_Mo_tell_100
  · skip
    refine lv_tableOut (tgt := 101) hx hb d_Mo_tell_20 (by rw [e9]; decide +kernel) (by decide) ?_
    refine lv_aload_n hx hb d_Mo_tell_101 rfl (lv_at hl 1 rfl) ?_
    refine z_getr hx hb iw_Mo hown hK hX 0 rfl rfl 17 (by decide) tw_515 (fun _ h => h) 12 rfl d_Mo_tell_102 ?_
    refine lv_iload_n hx hb d_Mo_tell_105 rfl (lv_at hl 2 rfl) ?_
    refine z_iald (i := p1) (v := M 12 p1) hx hb hK hX 12 rfl (by omega) (by decide) rfl d_Mo_tell_106 (fun rg_13 => ?_)
    refine z_sipush hx hb d_Mo_tell_107 (by decide) ?_
    refine z_iadd hx hb d_Mo_tell_110 ?_
    refine lv_aload_n hx hb d_Mo_tell_111 rfl (lv_at hl 1 rfl) ?_
    refine lv_iload_n hx hb d_Mo_tell_112 rfl (lv_at hl 2 rfl) ?_
    refine z_const hx hb d_Mo_tell_113 ?_
    refine z_sipush hx hb d_Mo_tell_114 (by decide) ?_
    refine z_callVi hF (m_drawn l D ad cI sd M p1 4 200 h1 (by omega) (by omega)) (hK.cV 3 tw_612 tw_609 tw_7 tw_611 ts_31 (by decide +kernel) rfl rfl ⟨Nat.le_of_ble_eq_true rfl, Nat.le_of_ble_eq_true rfl⟩) hK hX hS rfl rfl rfl hl.1 rfl (Nat.le_of_ble_eq_true rfl) d_Mo_tell_117 ⟨Nat.le_of_ble_eq_true rfl, Nat.le_of_ble_eq_true rfl⟩ (fun zo_15 u H locs rg_14 hp hX hS => ?_)
    obtain ⟨ezo_15, hu⟩ := hp
    rw [hu] at hX
    replace ezo_15 : zSame zo_15 (xDraw sd p1 4 200) := ezo_15
    have dzo_15 := xDraw_rg sd p1 4 (m := 200) (by omega)
    rw [← show zo_15 = xDraw sd p1 4 200 from ezo_15] at dzo_15
    refine z_iadd hx hb d_Mo_tell_120 ?_
    exact z_iret (z := ((M 12 p1) + 200) + zo_15) (post := (fun z u => z = (nTell sd M p1 what) ∧ u = M)) hx hb hr hlk hK hX hS (by omega) ⟨by unfold zSame at ezo_3 ezo_15; subst ezo_3 ezo_15; first | rw [e9, nTell_0] | rw [e9, nTell_1] | rw [e9, nTell_2] | rw [e9, nTell_3] | rw [e9, nTell_4] | rw [e9, nTell_5], rfl⟩ d_Mo_tell_121
set_option maxHeartbeats 4000000 in
set_option maxRecDepth 100000 in
theorem m_wants (l : Launch) (D : va_G) (ad : Nat → Nat) (cI : Nat → ClassId) (sd : Int64) (M : zM) (p1 : Int) (h1 : 0 ≤ p1 ∧ p1 < 60) (h3 : 1 ≤ M 0 3 ∧ M 0 3 ≤ 12) (h4 : 0 ≤ M 12 p1 ∧ M 12 p1 ≤ 1439) : zMi l y_Mo_wants (.code y_Mo_wants c_Mo_wants 2 (some .int)) { frames := 2, cells := 0, slots := 0, locals := 48 } D (nL sd) ad cI M [.ref (ad 0), .int (zI (p1))] (fun z u => z = (nWants sd M p1) ∧ u = M) := by
  refine z_of (cc := c_Mo_wants) (maxL := 2) (ret := some .int) (own := "PersonSeedsModel") (by decide) rfl rfl (Nat.le_of_ble_eq_true rfl) ?_
  intro p e s m below meth c ls hF hr hX hK hl
  obtain ⟨hx, hb, hml, hown, hlk⟩ := id hF
  have hS : va_S (zA ad (nL sd)) s.heap s.heap [] := va_S.rf
  have hl : lv_has ls 2 [(0, .ref (ad 0)), (1, .int (zI (p1)))] := hl
  refine lv_aload_n hx hb d_Mo_wants_0 rfl (lv_at hl 0 rfl) ?_
  refine z_geti (i := 2) (v := M 0 2) hx hb iw_Mo hown hK hX 0 rfl rfl 2 (by decide) tw_500 (fun _ h => h) rfl rfl rfl d_Mo_wants_1 (fun rg_1 => ?_)
  refine lv_aload_n hx hb d_Mo_wants_4 rfl (lv_at hl 0 rfl) ?_
  refine lv_iload_n hx hb d_Mo_wants_5 rfl (lv_at hl 1 rfl) ?_
  refine z_const hx hb d_Mo_wants_6 ?_
  refine z_callVi hF (m_tell l D ad cI sd M p1 5 h1 (by omega) h3 h4) (hK.cV 2 tw_637 tw_634 tw_7 tw_636 ts_35 (by decide +kernel) rfl rfl ⟨Nat.le_of_ble_eq_true rfl, Nat.le_of_ble_eq_true rfl⟩) hK hX hS rfl rfl rfl hl.1 rfl (Nat.le_of_ble_eq_true rfl) d_Mo_wants_7 ⟨Nat.le_of_ble_eq_true rfl, Nat.le_of_ble_eq_true rfl⟩ (fun zo_3 u H locs rg_2 hp hX hS => ?_)
  obtain ⟨ezo_3, hu⟩ := hp
  rw [hu] at hX
  replace ezo_3 : zSame zo_3 (nTell sd M p1 5) := ezo_3
  refine z_icmp_lt (a := M 0 2) (b := zo_3) (tgt := 15) hx hb d_Mo_wants_10 (by decide) (by omega) (fun hb_4 => ?_) (fun hb_5 => ?_)
  · skip
    refine lv_aload_n hx hb d_Mo_wants_15 rfl (lv_at hl 0 rfl) ?_
    refine z_geti (i := 2) (v := M 0 2) hx hb iw_Mo hown hK hX 0 rfl rfl 2 (by decide) tw_500 (fun _ h => h) rfl rfl rfl d_Mo_wants_16 (fun rg_6 => ?_)
    refine lv_aload_n hx hb d_Mo_wants_19 rfl (lv_at hl 0 rfl) ?_
    refine lv_iload_n hx hb d_Mo_wants_20 rfl (lv_at hl 1 rfl) ?_
    refine z_const hx hb d_Mo_wants_21 ?_
    refine z_callVi hF (m_tell l D ad cI sd M p1 2 h1 (by omega) h3 h4) (hK.cV 2 tw_637 tw_634 tw_7 tw_636 ts_35 (by decide +kernel) rfl rfl ⟨Nat.le_of_ble_eq_true rfl, Nat.le_of_ble_eq_true rfl⟩) hK hX hS rfl rfl rfl hl.1 rfl (Nat.le_of_ble_eq_true rfl) d_Mo_wants_22 ⟨Nat.le_of_ble_eq_true rfl, Nat.le_of_ble_eq_true rfl⟩ (fun zo_8 u H locs rg_7 hp hX hS => ?_)
    obtain ⟨ezo_8, hu⟩ := hp
    rw [hu] at hX
    replace ezo_8 : zSame zo_8 (nTell sd M p1 2) := ezo_8
    refine z_icmp_lt (a := M 0 2) (b := zo_8) (tgt := 50) hx hb d_Mo_wants_25 (by decide) (by omega) (fun hb_9 => ?_) (fun hb_10 => ?_)
    · skip
      refine lv_aload_n hx hb d_Mo_wants_50 rfl (lv_at hl 0 rfl) ?_
      refine lv_iload_n hx hb d_Mo_wants_51 rfl (lv_at hl 1 rfl) ?_
      refine z_const hx hb d_Mo_wants_52 ?_
      refine z_callVi hF (m_tell l D ad cI sd M p1 1 h1 (by omega) h3 h4) (hK.cV 2 tw_637 tw_634 tw_7 tw_636 ts_35 (by decide +kernel) rfl rfl ⟨Nat.le_of_ble_eq_true rfl, Nat.le_of_ble_eq_true rfl⟩) hK hX hS rfl rfl rfl hl.1 rfl (Nat.le_of_ble_eq_true rfl) d_Mo_wants_53 ⟨Nat.le_of_ble_eq_true rfl, Nat.le_of_ble_eq_true rfl⟩ (fun zo_12 u H locs rg_11 hp hX hS => ?_)
      obtain ⟨ezo_12, hu⟩ := hp
      rw [hu] at hX
      replace ezo_12 : zSame zo_12 (nTell sd M p1 1) := ezo_12
      exact z_iret (z := zo_12) (post := (fun z u => z = (nWants sd M p1) ∧ u = M)) hx hb hr hlk hK hX hS (by omega) ⟨by unfold nWants; unfold zSame at ezo_3 ezo_8 ezo_12; subst ezo_3 ezo_8 ezo_12; first | rw [if_pos (by assumption)] | rw [if_neg (Int.not_le.mpr (by assumption)), if_pos ⟨by assumption, by assumption⟩] | rw [if_neg (Int.not_le.mpr (by assumption)), if_neg (fun q9 => Int.not_le.mpr (by assumption) q9.1)] | rw [if_neg (Int.not_le.mpr (by assumption)), if_neg (fun q9 => Int.not_lt.mpr (by assumption) q9.2)], rfl⟩ d_Mo_wants_56
    · skip
      refine lv_aload_n hx hb d_Mo_wants_28 rfl (lv_at hl 0 rfl) ?_
      refine z_geti (i := 2) (v := M 0 2) hx hb iw_Mo hown hK hX 0 rfl rfl 2 (by decide) tw_500 (fun _ h => h) rfl rfl rfl d_Mo_wants_29 (fun rg_13 => ?_)
      refine lv_aload_n hx hb d_Mo_wants_32 rfl (lv_at hl 0 rfl) ?_
      refine lv_iload_n hx hb d_Mo_wants_33 rfl (lv_at hl 1 rfl) ?_
      refine z_const hx hb d_Mo_wants_34 ?_
      refine z_callVi hF (m_tell l D ad cI sd M p1 3 h1 (by omega) h3 h4) (hK.cV 2 tw_637 tw_634 tw_7 tw_636 ts_35 (by decide +kernel) rfl rfl ⟨Nat.le_of_ble_eq_true rfl, Nat.le_of_ble_eq_true rfl⟩) hK hX hS rfl rfl rfl hl.1 rfl (Nat.le_of_ble_eq_true rfl) d_Mo_wants_35 ⟨Nat.le_of_ble_eq_true rfl, Nat.le_of_ble_eq_true rfl⟩ (fun zo_15 u H locs rg_14 hp hX hS => ?_)
      obtain ⟨ezo_15, hu⟩ := hp
      rw [hu] at hX
      replace ezo_15 : zSame zo_15 (nTell sd M p1 3) := ezo_15
      refine z_icmp_ge (a := M 0 2) (b := zo_15) (tgt := 50) hx hb d_Mo_wants_38 (by decide) (by omega) (fun hb_16 => ?_) (fun hb_17 => ?_)
      · skip
        refine lv_aload_n hx hb d_Mo_wants_50 rfl (lv_at hl 0 rfl) ?_
        refine lv_iload_n hx hb d_Mo_wants_51 rfl (lv_at hl 1 rfl) ?_
        refine z_const hx hb d_Mo_wants_52 ?_
        refine z_callVi hF (m_tell l D ad cI sd M p1 1 h1 (by omega) h3 h4) (hK.cV 2 tw_637 tw_634 tw_7 tw_636 ts_35 (by decide +kernel) rfl rfl ⟨Nat.le_of_ble_eq_true rfl, Nat.le_of_ble_eq_true rfl⟩) hK hX hS rfl rfl rfl hl.1 rfl (Nat.le_of_ble_eq_true rfl) d_Mo_wants_53 ⟨Nat.le_of_ble_eq_true rfl, Nat.le_of_ble_eq_true rfl⟩ (fun zo_19 u H locs rg_18 hp hX hS => ?_)
        obtain ⟨ezo_19, hu⟩ := hp
        rw [hu] at hX
        replace ezo_19 : zSame zo_19 (nTell sd M p1 1) := ezo_19
        exact z_iret (z := zo_19) (post := (fun z u => z = (nWants sd M p1) ∧ u = M)) hx hb hr hlk hK hX hS (by omega) ⟨by unfold nWants; unfold zSame at ezo_3 ezo_8 ezo_15 ezo_19; subst ezo_3 ezo_8 ezo_15 ezo_19; first | rw [if_pos (by assumption)] | rw [if_neg (Int.not_le.mpr (by assumption)), if_pos ⟨by assumption, by assumption⟩] | rw [if_neg (Int.not_le.mpr (by assumption)), if_neg (fun q9 => Int.not_le.mpr (by assumption) q9.1)] | rw [if_neg (Int.not_le.mpr (by assumption)), if_neg (fun q9 => Int.not_lt.mpr (by assumption) q9.2)], rfl⟩ d_Mo_wants_56
      · skip
        refine lv_aload_n hx hb d_Mo_wants_41 rfl (lv_at hl 0 rfl) ?_
        refine lv_iload_n hx hb d_Mo_wants_42 rfl (lv_at hl 1 rfl) ?_
        refine z_const hx hb d_Mo_wants_43 ?_
        refine z_callVi hF (m_tell l D ad cI sd M p1 4 h1 (by omega) h3 h4) (hK.cV 2 tw_637 tw_634 tw_7 tw_636 ts_35 (by decide +kernel) rfl rfl ⟨Nat.le_of_ble_eq_true rfl, Nat.le_of_ble_eq_true rfl⟩) hK hX hS rfl rfl rfl hl.1 rfl (Nat.le_of_ble_eq_true rfl) d_Mo_wants_44 ⟨Nat.le_of_ble_eq_true rfl, Nat.le_of_ble_eq_true rfl⟩ (fun zo_21 u H locs rg_20 hp hX hS => ?_)
        obtain ⟨ezo_21, hu⟩ := hp
        rw [hu] at hX
        replace ezo_21 : zSame zo_21 (nTell sd M p1 4) := ezo_21
        refine lv_goto (tgt := 56) hx hb d_Mo_wants_47 (by decide) ?_
        exact z_iret (z := zo_21) (post := (fun z u => z = (nWants sd M p1) ∧ u = M)) hx hb hr hlk hK hX hS (by omega) ⟨by unfold nWants; unfold zSame at ezo_3 ezo_8 ezo_15 ezo_21; subst ezo_3 ezo_8 ezo_15 ezo_21; first | rw [if_pos (by assumption)] | rw [if_neg (Int.not_le.mpr (by assumption)), if_pos ⟨by assumption, by assumption⟩] | rw [if_neg (Int.not_le.mpr (by assumption)), if_neg (fun q9 => Int.not_le.mpr (by assumption) q9.1)] | rw [if_neg (Int.not_le.mpr (by assumption)), if_neg (fun q9 => Int.not_lt.mpr (by assumption) q9.2)], rfl⟩ d_Mo_wants_56
  · skip
    refine z_const hx hb d_Mo_wants_13 ?_
    exact z_iret (z := -1) (post := (fun z u => z = (nWants sd M p1) ∧ u = M)) hx hb hr hlk hK hX hS (by omega) ⟨by unfold nWants; unfold zSame at ezo_3; subst ezo_3; first | rw [if_pos (by assumption)] | rw [if_neg (Int.not_le.mpr (by assumption)), if_pos ⟨by assumption, by assumption⟩] | rw [if_neg (Int.not_le.mpr (by assumption)), if_neg (fun q9 => Int.not_le.mpr (by assumption) q9.1)] | rw [if_neg (Int.not_le.mpr (by assumption)), if_neg (fun q9 => Int.not_lt.mpr (by assumption) q9.2)], rfl⟩ d_Mo_wants_14
set_option maxHeartbeats 4000000 in
set_option maxRecDepth 100000 in
theorem m_goes (l : Launch) (D : va_G) (ad : Nat → Nat) (cI : Nat → ClassId) (sd : Int64) (M : zM) (p1 r : Int) (h1 : 0 ≤ p1 ∧ p1 < 60) (h2 : -1 ≤ r ∧ r < 12) (h3 : -1 ≤ M 13 p1 ∧ M 13 p1 < 12) : zMi l y_Mo_goes (.code y_Mo_goes c_Mo_goes 3 (some .boolean)) { frames := 0, cells := 0, slots := 0, locals := 0 } D (nL sd) ad cI M [.ref (ad 0), .int (zI (p1)), .int (zI (r))] (fun z u => ((¬ r = -1 ∧ M 1 r ≤ M 2 r) ∧ z = 0 ∧ u = M) ∨ (¬ (¬ r = -1 ∧ M 1 r ≤ M 2 r) ∧ z = 1 ∧ u = nMove M p1 r)) := by
  refine z_of (cc := c_Mo_goes) (maxL := 3) (ret := some .boolean) (own := "PersonSeedsModel") (by decide) rfl rfl (Nat.le_of_ble_eq_true rfl) ?_
  intro p e s m below meth c ls hF hr hX hK hl
  obtain ⟨hx, hb, hml, hown, hlk⟩ := id hF
  have hS : va_S (zA ad (nL sd)) s.heap s.heap [] := va_S.rf
  have hl : lv_has ls 3 [(0, .ref (ad 0)), (1, .int (zI (p1))), (2, .int (zI (r)))] := hl
  refine lv_iload_n hx hb d_Mo_goes_0 rfl (lv_at hl 2 rfl) ?_
  refine z_const hx hb d_Mo_goes_1 ?_
  refine z_icmp_eq (a := r) (b := -1) (tgt := 22) hx hb d_Mo_goes_2 (by decide) (by omega) (fun hb_1 => ?_) (fun hb_2 => ?_)
  · skip
    refine lv_aload_n hx hb d_Mo_goes_22 rfl (lv_at hl 0 rfl) ?_
    refine z_getr hx hb iw_Mo hown hK hX 0 rfl rfl 18 (by decide) tw_516 (fun _ h => h) 13 rfl d_Mo_goes_23 ?_
    refine lv_iload_n hx hb d_Mo_goes_26 rfl (lv_at hl 1 rfl) ?_
    refine z_iald (i := p1) (v := M 13 p1) hx hb hK hX 13 rfl (by omega) (by decide) rfl d_Mo_goes_27 (fun rg_3 => ?_)
    refine z_const hx hb d_Mo_goes_28 ?_
    refine z_icmp_eq (a := M 13 p1) (b := -1) (tgt := 47) hx hb d_Mo_goes_29 (by decide) (by omega) (fun hb_4 => ?_) (fun hb_5 => ?_)
    · skip
      refine lv_iload_n hx hb d_Mo_goes_47 rfl (lv_at hl 2 rfl) ?_
      refine z_const hx hb d_Mo_goes_48 ?_
      refine z_icmp_eq (a := r) (b := -1) (tgt := 62) hx hb d_Mo_goes_49 (by decide) (by omega) (fun hb_6 => ?_) (fun hb_7 => ?_)
      · skip
        refine lv_aload_n hx hb d_Mo_goes_62 rfl (lv_at hl 0 rfl) ?_
        refine z_getr hx hb iw_Mo hown hK hX 0 rfl rfl 18 (by decide) tw_516 (fun _ h => h) 13 rfl d_Mo_goes_63 ?_
        refine lv_iload_n hx hb d_Mo_goes_66 rfl (lv_at hl 1 rfl) ?_
        refine lv_iload_n hx hb d_Mo_goes_67 rfl (lv_at hl 2 rfl) ?_
        refine z_iast (i := p1) (v := r) hx hb hK hX hS 13 rfl (by omega) (by decide) (by omega) d_Mo_goes_68 (fun H locs hX hS => ?_)
        refine z_const hx hb d_Mo_goes_69 ?_
        exact z_zret (z := 1) (post := (fun z u => ((¬ r = -1 ∧ M 1 r ≤ M 2 r) ∧ z = 0 ∧ u = M) ∨ (¬ (¬ r = -1 ∧ M 1 r ≤ M 2 r) ∧ z = 1 ∧ u = nMove M p1 r))) hx hb hr hlk hK hX hS (by omega) (by first | (exfalso; omega) | exact Or.inl ⟨by omega, rfl, rfl⟩ | exact Or.inr ⟨by omega, rfl, by unfold nMove nOn nOff; first | rw [if_pos (by omega), if_pos (by omega)] | rw [if_pos (by omega), if_neg (by omega)] | rw [if_neg (by omega), if_pos (by omega)] | rw [if_neg (by omega), if_neg (by omega)]⟩) d_Mo_goes_70
      · skip
        refine lv_aload_n hx hb d_Mo_goes_52 rfl (lv_at hl 0 rfl) ?_
        refine z_getr hx hb iw_Mo hown hK hX 0 rfl rfl 5 (by decide) tw_503 (fun _ h => h) 2 rfl d_Mo_goes_53 ?_
        refine lv_iload_n hx hb d_Mo_goes_56 rfl (lv_at hl 2 rfl) ?_
        refine lv_dup2_11 hx hb d_Mo_goes_57 rfl rfl ?_
        refine z_iald (i := r) (v := M 2 r) hx hb hK hX 2 rfl (by omega) (by decide) rfl d_Mo_goes_58 (fun rg_8 => ?_)
        refine z_const hx hb d_Mo_goes_59 ?_
        refine z_iadd hx hb d_Mo_goes_60 ?_
        refine z_iastw (i := r) (v := (M 2 r) + 1) hx hb hK hX hS 2 rfl (by omega) (by decide) d_Mo_goes_61 (fun H locs hX hS => ?_)
        refine lv_aload_n hx hb d_Mo_goes_62 rfl (lv_at hl 0 rfl) ?_
        refine z_getr hx hb iw_Mo hown hK hX 0 rfl rfl 18 (by decide) tw_516 (fun _ h => h) 13 rfl d_Mo_goes_63 ?_
        refine lv_iload_n hx hb d_Mo_goes_66 rfl (lv_at hl 1 rfl) ?_
        refine lv_iload_n hx hb d_Mo_goes_67 rfl (lv_at hl 2 rfl) ?_
        refine z_iast (i := p1) (v := r) hx hb hK hX hS 13 rfl (by omega) (by decide) (by omega) d_Mo_goes_68 (fun H locs hX hS => ?_)
        refine z_const hx hb d_Mo_goes_69 ?_
        exact z_zret (z := 1) (post := (fun z u => ((¬ r = -1 ∧ M 1 r ≤ M 2 r) ∧ z = 0 ∧ u = M) ∨ (¬ (¬ r = -1 ∧ M 1 r ≤ M 2 r) ∧ z = 1 ∧ u = nMove M p1 r))) hx hb hr hlk hK hX hS (by omega) (by first | (exfalso; omega) | exact Or.inl ⟨by omega, rfl, rfl⟩ | exact Or.inr ⟨by omega, rfl, by unfold nMove nOn nOff; first | rw [if_pos (by omega), if_pos (by omega)] | rw [if_pos (by omega), if_neg (by omega)] | rw [if_neg (by omega), if_pos (by omega)] | rw [if_neg (by omega), if_neg (by omega)]⟩) d_Mo_goes_70
    · skip
      refine lv_aload_n hx hb d_Mo_goes_32 rfl (lv_at hl 0 rfl) ?_
      refine z_getr hx hb iw_Mo hown hK hX 0 rfl rfl 5 (by decide) tw_503 (fun _ h => h) 2 rfl d_Mo_goes_33 ?_
      refine lv_aload_n hx hb d_Mo_goes_36 rfl (lv_at hl 0 rfl) ?_
      refine z_getr hx hb iw_Mo hown hK hX 0 rfl rfl 18 (by decide) tw_516 (fun _ h => h) 13 rfl d_Mo_goes_37 ?_
      refine lv_iload_n hx hb d_Mo_goes_40 rfl (lv_at hl 1 rfl) ?_
      refine z_iald (i := p1) (v := M 13 p1) hx hb hK hX 13 rfl (by omega) (by decide) rfl d_Mo_goes_41 (fun rg_9 => ?_)
      refine lv_dup2_11 hx hb d_Mo_goes_42 rfl rfl ?_
      refine z_iald (i := M 13 p1) (v := M 2 (M 13 p1)) hx hb hK hX 2 rfl (by omega) (by decide) rfl d_Mo_goes_43 (fun rg_10 => ?_)
      refine z_const hx hb d_Mo_goes_44 ?_
      refine z_isub hx hb d_Mo_goes_45 ?_
      refine z_iastw (i := M 13 p1) (v := (M 2 (M 13 p1)) - 1) hx hb hK hX hS 2 rfl (by omega) (by decide) d_Mo_goes_46 (fun H locs hX hS => ?_)
      refine lv_iload_n hx hb d_Mo_goes_47 rfl (lv_at hl 2 rfl) ?_
      refine z_const hx hb d_Mo_goes_48 ?_
      refine z_icmp_eq (a := r) (b := -1) (tgt := 62) hx hb d_Mo_goes_49 (by decide) (by omega) (fun hb_11 => ?_) (fun hb_12 => ?_)
      · skip
        refine lv_aload_n hx hb d_Mo_goes_62 rfl (lv_at hl 0 rfl) ?_
        refine z_getr hx hb iw_Mo hown hK hX 0 rfl rfl 18 (by decide) tw_516 (fun _ h => h) 13 rfl d_Mo_goes_63 ?_
        refine lv_iload_n hx hb d_Mo_goes_66 rfl (lv_at hl 1 rfl) ?_
        refine lv_iload_n hx hb d_Mo_goes_67 rfl (lv_at hl 2 rfl) ?_
        refine z_iast (i := p1) (v := r) hx hb hK hX hS 13 rfl (by omega) (by decide) (by omega) d_Mo_goes_68 (fun H locs hX hS => ?_)
        refine z_const hx hb d_Mo_goes_69 ?_
        exact z_zret (z := 1) (post := (fun z u => ((¬ r = -1 ∧ M 1 r ≤ M 2 r) ∧ z = 0 ∧ u = M) ∨ (¬ (¬ r = -1 ∧ M 1 r ≤ M 2 r) ∧ z = 1 ∧ u = nMove M p1 r))) hx hb hr hlk hK hX hS (by omega) (by first | (exfalso; omega) | exact Or.inl ⟨by omega, rfl, rfl⟩ | exact Or.inr ⟨by omega, rfl, by unfold nMove nOn nOff; first | rw [if_pos (by omega), if_pos (by omega)] | rw [if_pos (by omega), if_neg (by omega)] | rw [if_neg (by omega), if_pos (by omega)] | rw [if_neg (by omega), if_neg (by omega)]⟩) d_Mo_goes_70
      · skip
        refine lv_aload_n hx hb d_Mo_goes_52 rfl (lv_at hl 0 rfl) ?_
        refine z_getr hx hb iw_Mo hown hK hX 0 rfl rfl 5 (by decide) tw_503 (fun _ h => h) 2 rfl d_Mo_goes_53 ?_
        refine lv_iload_n hx hb d_Mo_goes_56 rfl (lv_at hl 2 rfl) ?_
        refine lv_dup2_11 hx hb d_Mo_goes_57 rfl rfl ?_
        refine z_iald (i := r) (v := (zU M 2 (M 13 p1) (bm ((M 2 (M 13 p1)) - 1))) 2 r) hx hb hK hX 2 rfl (by omega) (by decide) (by simp [zU]) d_Mo_goes_58 (fun rg_13 => ?_)
        refine z_const hx hb d_Mo_goes_59 ?_
        refine z_iadd hx hb d_Mo_goes_60 ?_
        refine z_iastw (i := r) (v := ((zU M 2 (M 13 p1) (bm ((M 2 (M 13 p1)) - 1))) 2 r) + 1) hx hb hK hX hS 2 rfl (by omega) (by decide) d_Mo_goes_61 (fun H locs hX hS => ?_)
        refine lv_aload_n hx hb d_Mo_goes_62 rfl (lv_at hl 0 rfl) ?_
        refine z_getr hx hb iw_Mo hown hK hX 0 rfl rfl 18 (by decide) tw_516 (fun _ h => h) 13 rfl d_Mo_goes_63 ?_
        refine lv_iload_n hx hb d_Mo_goes_66 rfl (lv_at hl 1 rfl) ?_
        refine lv_iload_n hx hb d_Mo_goes_67 rfl (lv_at hl 2 rfl) ?_
        refine z_iast (i := p1) (v := r) hx hb hK hX hS 13 rfl (by omega) (by decide) (by omega) d_Mo_goes_68 (fun H locs hX hS => ?_)
        refine z_const hx hb d_Mo_goes_69 ?_
        exact z_zret (z := 1) (post := (fun z u => ((¬ r = -1 ∧ M 1 r ≤ M 2 r) ∧ z = 0 ∧ u = M) ∨ (¬ (¬ r = -1 ∧ M 1 r ≤ M 2 r) ∧ z = 1 ∧ u = nMove M p1 r))) hx hb hr hlk hK hX hS (by omega) (by first | (exfalso; omega) | exact Or.inl ⟨by omega, rfl, rfl⟩ | exact Or.inr ⟨by omega, rfl, by unfold nMove nOn nOff; first | rw [if_pos (by omega), if_pos (by omega)] | rw [if_pos (by omega), if_neg (by omega)] | rw [if_neg (by omega), if_pos (by omega)] | rw [if_neg (by omega), if_neg (by omega)]⟩) d_Mo_goes_70
  · skip
    refine lv_aload_n hx hb d_Mo_goes_5 rfl (lv_at hl 0 rfl) ?_
    refine z_getr hx hb iw_Mo hown hK hX 0 rfl rfl 5 (by decide) tw_503 (fun _ h => h) 2 rfl d_Mo_goes_6 ?_
    refine lv_iload_n hx hb d_Mo_goes_9 rfl (lv_at hl 2 rfl) ?_
    refine z_iald (i := r) (v := M 2 r) hx hb hK hX 2 rfl (by omega) (by decide) rfl d_Mo_goes_10 (fun rg_14 => ?_)
    refine lv_aload_n hx hb d_Mo_goes_11 rfl (lv_at hl 0 rfl) ?_
    refine z_getr hx hb iw_Mo hown hK hX 0 rfl rfl 4 (by decide) tw_502 (fun _ h => h) 1 rfl d_Mo_goes_12 ?_
    refine lv_iload_n hx hb d_Mo_goes_15 rfl (lv_at hl 2 rfl) ?_
    refine z_iald (i := r) (v := M 1 r) hx hb hK hX 1 rfl (by omega) (by decide) rfl d_Mo_goes_16 (fun rg_15 => ?_)
    refine z_icmp_lt (a := M 2 r) (b := M 1 r) (tgt := 22) hx hb d_Mo_goes_17 (by decide) (by omega) (fun hb_16 => ?_) (fun hb_17 => ?_)
    · skip
      refine lv_aload_n hx hb d_Mo_goes_22 rfl (lv_at hl 0 rfl) ?_
      refine z_getr hx hb iw_Mo hown hK hX 0 rfl rfl 18 (by decide) tw_516 (fun _ h => h) 13 rfl d_Mo_goes_23 ?_
      refine lv_iload_n hx hb d_Mo_goes_26 rfl (lv_at hl 1 rfl) ?_
      refine z_iald (i := p1) (v := M 13 p1) hx hb hK hX 13 rfl (by omega) (by decide) rfl d_Mo_goes_27 (fun rg_18 => ?_)
      refine z_const hx hb d_Mo_goes_28 ?_
      refine z_icmp_eq (a := M 13 p1) (b := -1) (tgt := 47) hx hb d_Mo_goes_29 (by decide) (by omega) (fun hb_19 => ?_) (fun hb_20 => ?_)
      · skip
        refine lv_iload_n hx hb d_Mo_goes_47 rfl (lv_at hl 2 rfl) ?_
        refine z_const hx hb d_Mo_goes_48 ?_
        refine z_icmp_eq (a := r) (b := -1) (tgt := 62) hx hb d_Mo_goes_49 (by decide) (by omega) (fun hb_21 => ?_) (fun hb_22 => ?_)
        · skip
          refine lv_aload_n hx hb d_Mo_goes_62 rfl (lv_at hl 0 rfl) ?_
          refine z_getr hx hb iw_Mo hown hK hX 0 rfl rfl 18 (by decide) tw_516 (fun _ h => h) 13 rfl d_Mo_goes_63 ?_
          refine lv_iload_n hx hb d_Mo_goes_66 rfl (lv_at hl 1 rfl) ?_
          refine lv_iload_n hx hb d_Mo_goes_67 rfl (lv_at hl 2 rfl) ?_
          refine z_iast (i := p1) (v := r) hx hb hK hX hS 13 rfl (by omega) (by decide) (by omega) d_Mo_goes_68 (fun H locs hX hS => ?_)
          refine z_const hx hb d_Mo_goes_69 ?_
          exact z_zret (z := 1) (post := (fun z u => ((¬ r = -1 ∧ M 1 r ≤ M 2 r) ∧ z = 0 ∧ u = M) ∨ (¬ (¬ r = -1 ∧ M 1 r ≤ M 2 r) ∧ z = 1 ∧ u = nMove M p1 r))) hx hb hr hlk hK hX hS (by omega) (by first | (exfalso; omega) | exact Or.inl ⟨by omega, rfl, rfl⟩ | exact Or.inr ⟨by omega, rfl, by unfold nMove nOn nOff; first | rw [if_pos (by omega), if_pos (by omega)] | rw [if_pos (by omega), if_neg (by omega)] | rw [if_neg (by omega), if_pos (by omega)] | rw [if_neg (by omega), if_neg (by omega)]⟩) d_Mo_goes_70
        · skip
          refine lv_aload_n hx hb d_Mo_goes_52 rfl (lv_at hl 0 rfl) ?_
          refine z_getr hx hb iw_Mo hown hK hX 0 rfl rfl 5 (by decide) tw_503 (fun _ h => h) 2 rfl d_Mo_goes_53 ?_
          refine lv_iload_n hx hb d_Mo_goes_56 rfl (lv_at hl 2 rfl) ?_
          refine lv_dup2_11 hx hb d_Mo_goes_57 rfl rfl ?_
          refine z_iald (i := r) (v := M 2 r) hx hb hK hX 2 rfl (by omega) (by decide) rfl d_Mo_goes_58 (fun rg_23 => ?_)
          refine z_const hx hb d_Mo_goes_59 ?_
          refine z_iadd hx hb d_Mo_goes_60 ?_
          refine z_iastw (i := r) (v := (M 2 r) + 1) hx hb hK hX hS 2 rfl (by omega) (by decide) d_Mo_goes_61 (fun H locs hX hS => ?_)
          refine lv_aload_n hx hb d_Mo_goes_62 rfl (lv_at hl 0 rfl) ?_
          refine z_getr hx hb iw_Mo hown hK hX 0 rfl rfl 18 (by decide) tw_516 (fun _ h => h) 13 rfl d_Mo_goes_63 ?_
          refine lv_iload_n hx hb d_Mo_goes_66 rfl (lv_at hl 1 rfl) ?_
          refine lv_iload_n hx hb d_Mo_goes_67 rfl (lv_at hl 2 rfl) ?_
          refine z_iast (i := p1) (v := r) hx hb hK hX hS 13 rfl (by omega) (by decide) (by omega) d_Mo_goes_68 (fun H locs hX hS => ?_)
          refine z_const hx hb d_Mo_goes_69 ?_
          exact z_zret (z := 1) (post := (fun z u => ((¬ r = -1 ∧ M 1 r ≤ M 2 r) ∧ z = 0 ∧ u = M) ∨ (¬ (¬ r = -1 ∧ M 1 r ≤ M 2 r) ∧ z = 1 ∧ u = nMove M p1 r))) hx hb hr hlk hK hX hS (by omega) (by first | (exfalso; omega) | exact Or.inl ⟨by omega, rfl, rfl⟩ | exact Or.inr ⟨by omega, rfl, by unfold nMove nOn nOff; first | rw [if_pos (by omega), if_pos (by omega)] | rw [if_pos (by omega), if_neg (by omega)] | rw [if_neg (by omega), if_pos (by omega)] | rw [if_neg (by omega), if_neg (by omega)]⟩) d_Mo_goes_70
      · skip
        refine lv_aload_n hx hb d_Mo_goes_32 rfl (lv_at hl 0 rfl) ?_
        refine z_getr hx hb iw_Mo hown hK hX 0 rfl rfl 5 (by decide) tw_503 (fun _ h => h) 2 rfl d_Mo_goes_33 ?_
        refine lv_aload_n hx hb d_Mo_goes_36 rfl (lv_at hl 0 rfl) ?_
        refine z_getr hx hb iw_Mo hown hK hX 0 rfl rfl 18 (by decide) tw_516 (fun _ h => h) 13 rfl d_Mo_goes_37 ?_
        refine lv_iload_n hx hb d_Mo_goes_40 rfl (lv_at hl 1 rfl) ?_
        refine z_iald (i := p1) (v := M 13 p1) hx hb hK hX 13 rfl (by omega) (by decide) rfl d_Mo_goes_41 (fun rg_24 => ?_)
        refine lv_dup2_11 hx hb d_Mo_goes_42 rfl rfl ?_
        refine z_iald (i := M 13 p1) (v := M 2 (M 13 p1)) hx hb hK hX 2 rfl (by omega) (by decide) rfl d_Mo_goes_43 (fun rg_25 => ?_)
        refine z_const hx hb d_Mo_goes_44 ?_
        refine z_isub hx hb d_Mo_goes_45 ?_
        refine z_iastw (i := M 13 p1) (v := (M 2 (M 13 p1)) - 1) hx hb hK hX hS 2 rfl (by omega) (by decide) d_Mo_goes_46 (fun H locs hX hS => ?_)
        refine lv_iload_n hx hb d_Mo_goes_47 rfl (lv_at hl 2 rfl) ?_
        refine z_const hx hb d_Mo_goes_48 ?_
        refine z_icmp_eq (a := r) (b := -1) (tgt := 62) hx hb d_Mo_goes_49 (by decide) (by omega) (fun hb_26 => ?_) (fun hb_27 => ?_)
        · skip
          refine lv_aload_n hx hb d_Mo_goes_62 rfl (lv_at hl 0 rfl) ?_
          refine z_getr hx hb iw_Mo hown hK hX 0 rfl rfl 18 (by decide) tw_516 (fun _ h => h) 13 rfl d_Mo_goes_63 ?_
          refine lv_iload_n hx hb d_Mo_goes_66 rfl (lv_at hl 1 rfl) ?_
          refine lv_iload_n hx hb d_Mo_goes_67 rfl (lv_at hl 2 rfl) ?_
          refine z_iast (i := p1) (v := r) hx hb hK hX hS 13 rfl (by omega) (by decide) (by omega) d_Mo_goes_68 (fun H locs hX hS => ?_)
          refine z_const hx hb d_Mo_goes_69 ?_
          exact z_zret (z := 1) (post := (fun z u => ((¬ r = -1 ∧ M 1 r ≤ M 2 r) ∧ z = 0 ∧ u = M) ∨ (¬ (¬ r = -1 ∧ M 1 r ≤ M 2 r) ∧ z = 1 ∧ u = nMove M p1 r))) hx hb hr hlk hK hX hS (by omega) (by first | (exfalso; omega) | exact Or.inl ⟨by omega, rfl, rfl⟩ | exact Or.inr ⟨by omega, rfl, by unfold nMove nOn nOff; first | rw [if_pos (by omega), if_pos (by omega)] | rw [if_pos (by omega), if_neg (by omega)] | rw [if_neg (by omega), if_pos (by omega)] | rw [if_neg (by omega), if_neg (by omega)]⟩) d_Mo_goes_70
        · skip
          refine lv_aload_n hx hb d_Mo_goes_52 rfl (lv_at hl 0 rfl) ?_
          refine z_getr hx hb iw_Mo hown hK hX 0 rfl rfl 5 (by decide) tw_503 (fun _ h => h) 2 rfl d_Mo_goes_53 ?_
          refine lv_iload_n hx hb d_Mo_goes_56 rfl (lv_at hl 2 rfl) ?_
          refine lv_dup2_11 hx hb d_Mo_goes_57 rfl rfl ?_
          refine z_iald (i := r) (v := (zU M 2 (M 13 p1) (bm ((M 2 (M 13 p1)) - 1))) 2 r) hx hb hK hX 2 rfl (by omega) (by decide) (by simp [zU]) d_Mo_goes_58 (fun rg_28 => ?_)
          refine z_const hx hb d_Mo_goes_59 ?_
          refine z_iadd hx hb d_Mo_goes_60 ?_
          refine z_iastw (i := r) (v := ((zU M 2 (M 13 p1) (bm ((M 2 (M 13 p1)) - 1))) 2 r) + 1) hx hb hK hX hS 2 rfl (by omega) (by decide) d_Mo_goes_61 (fun H locs hX hS => ?_)
          refine lv_aload_n hx hb d_Mo_goes_62 rfl (lv_at hl 0 rfl) ?_
          refine z_getr hx hb iw_Mo hown hK hX 0 rfl rfl 18 (by decide) tw_516 (fun _ h => h) 13 rfl d_Mo_goes_63 ?_
          refine lv_iload_n hx hb d_Mo_goes_66 rfl (lv_at hl 1 rfl) ?_
          refine lv_iload_n hx hb d_Mo_goes_67 rfl (lv_at hl 2 rfl) ?_
          refine z_iast (i := p1) (v := r) hx hb hK hX hS 13 rfl (by omega) (by decide) (by omega) d_Mo_goes_68 (fun H locs hX hS => ?_)
          refine z_const hx hb d_Mo_goes_69 ?_
          exact z_zret (z := 1) (post := (fun z u => ((¬ r = -1 ∧ M 1 r ≤ M 2 r) ∧ z = 0 ∧ u = M) ∨ (¬ (¬ r = -1 ∧ M 1 r ≤ M 2 r) ∧ z = 1 ∧ u = nMove M p1 r))) hx hb hr hlk hK hX hS (by omega) (by first | (exfalso; omega) | exact Or.inl ⟨by omega, rfl, rfl⟩ | exact Or.inr ⟨by omega, rfl, by unfold nMove nOn nOff; first | rw [if_pos (by omega), if_pos (by omega)] | rw [if_pos (by omega), if_neg (by omega)] | rw [if_neg (by omega), if_pos (by omega)] | rw [if_neg (by omega), if_neg (by omega)]⟩) d_Mo_goes_70
    · skip
      refine z_const hx hb d_Mo_goes_20 ?_
      exact z_zret (z := 0) (post := (fun z u => ((¬ r = -1 ∧ M 1 r ≤ M 2 r) ∧ z = 0 ∧ u = M) ∨ (¬ (¬ r = -1 ∧ M 1 r ≤ M 2 r) ∧ z = 1 ∧ u = nMove M p1 r))) hx hb hr hlk hK hX hS (by omega) (by first | (exfalso; omega) | exact Or.inl ⟨by omega, rfl, rfl⟩ | exact Or.inr ⟨by omega, rfl, by unfold nMove nOn nOff; first | rw [if_pos (by omega), if_pos (by omega)] | rw [if_pos (by omega), if_neg (by omega)] | rw [if_neg (by omega), if_pos (by omega)] | rw [if_neg (by omega), if_neg (by omega)]⟩) d_Mo_goes_21
set_option maxHeartbeats 4000000 in
set_option maxRecDepth 100000 in
theorem m_doorOf (l : Launch) (D : va_G) (ad : Nat → Nat) (cI : Nat → ClassId) (sd : Int64) (M : zM) (h g : Int) (h1 : 0 ≤ h ∧ h < 12) (h2 : 0 ≤ g ∧ g < 12) (h3 : 0 ≤ M 0 9 ∧ M 0 9 ≤ 16) (h4 : ∀ d, 0 ≤ d → d < M 0 9 → (0 ≤ M 6 d ∧ M 6 d < 12) ∧ 0 ≤ M 7 d ∧ M 7 d < 12) : zMi l y_Mo_doorOf (.code y_Mo_doorOf c_Mo_doorOf 6 (some .int)) { frames := 0, cells := 0, slots := 0, locals := 0 } D (nL sd) ad cI M [.ref (ad 0), .int (zI (h)), .int (zI (g))] (fun z u => z = (nDoor M h g) ∧ u = M) := by
  refine z_of (cc := c_Mo_doorOf) (maxL := 6) (ret := some .int) (own := "PersonSeedsModel") (by decide) rfl rfl (Nat.le_of_ble_eq_true rfl) ?_
  intro p e s m below meth c ls hF hr hX hK hl
  obtain ⟨hx, hb, hml, hown, hlk⟩ := id hF
  have hS : va_S (zA ad (nL sd)) s.heap s.heap [] := va_S.rf
  have hl : lv_has ls 6 [(0, .ref (ad 0)), (1, .int (zI (h))), (2, .int (zI (g)))] := hl
  refine lv_aload_n hx hb d_Mo_doorOf_0 rfl (lv_at hl 0 rfl) ?_
  refine z_getr hx hb iw_Mo hown hK hX 0 rfl rfl 8 (by decide) tw_506 (fun _ h => h) 5 rfl d_Mo_doorOf_1 ?_
  refine z_bipush hx hb d_Mo_doorOf_4 (by decide) ?_
  refine lv_iload_n hx hb d_Mo_doorOf_6 rfl (lv_at hl 1 rfl) ?_
  refine z_imul hx hb d_Mo_doorOf_7 ?_
  refine lv_iload_n hx hb d_Mo_doorOf_8 rfl (lv_at hl 2 rfl) ?_
  refine z_iadd hx hb d_Mo_doorOf_9 ?_
  refine z_iald (i := (12 * h) + g) (v := M 5 ((12 * h) + g)) hx hb hK hX 5 rfl (by omega) (by decide) rfl d_Mo_doorOf_10 (fun rg_1 => ?_)
  refine lv_istore_n (lv' := [(3, .int (zI (M 5 ((12 * h) + g)))), (0, .ref (ad 0)), (1, .int (zI (h))), (2, .int (zI (g)))]) hx hb d_Mo_doorOf_11 rfl hl (by decide) rfl (fun ls hl => ?_)
  refine z_const hx hb d_Mo_doorOf_12 ?_
  refine lv_istore (lv' := [(4, .int (zI (0))), (3, .int (zI (M 5 ((12 * h) + g)))), (0, .ref (ad 0)), (1, .int (zI (h))), (2, .int (zI (g)))]) hx hb d_Mo_doorOf_13 hl (by decide) rfl (fun ls hl => ?_)
  have loop15 : ∀ (n15 : Nat) (k : Nat) (H : Heap) (locs : List Loc) (ls : Array Slot), ((k : Int) ≤ M 0 9 ∧ nDoor M h g = if 0 < M 5 (12 * h + g) then nDoorN M h g ((M 0 9).toNat - k) k else -1) → (M 0 9).toNat - k < n15 → zX D (nL sd) ad cI M H → va_S (zA ad (nL sd)) s.heap H locs → lv_has ls 6 [(4, .int (zI ((k : Int)))), (3, .int (zI (M 5 (12 * h + g)))), (0, .ref (ad 0)), (1, .int (zI (h))), (2, .int (zI (g)))] → W p l e { frames := 0, cells := 0, slots := 0, locals := 0 } s m ([.ref (ad 0), .int (zI (h)), .int (zI (g))] : List Value).toArray below meth c H locs 0 0 (MQ below (zQi D (nL sd) ad cI (fun z u => z = (nDoor M h g) ∧ u = M)) ([.ref (ad 0), .int (zI (h)), .int (zI (g))] : List Value).toArray s 0 0 (zA ad (nL sd))) (F0 m 15 ls []) := by
    intro n15
    induction n15 with
    | zero => intro k H locs ls hI hn; exact absurd hn (Nat.not_lt_zero _)
    | succ n15 ih15 =>
      intro k H locs ls hI15 hn15 hX hS hl
      have h5 : (k : Int) < M 0 9 → (0 ≤ M 6 (k : Int) ∧ M 6 (k : Int) < 12) ∧ 0 ≤ M 7 (k : Int) ∧ M 7 (k : Int) < 12 := fun h9 => h4 _ (by omega) h9
      have h6 : nSide M (k : Int) h = if M 6 (k : Int) = h then M 7 (k : Int) else if M 7 (k : Int) = h then M 6 (k : Int) else -1 := rfl
      refine lv_iload hx hb d_Mo_doorOf_15 (lv_at hl 0 rfl) ?_
      refine lv_aload_n hx hb d_Mo_doorOf_17 rfl (lv_at hl 2 rfl) ?_
      refine z_geti (i := 9) (v := M 0 9) hx hb iw_Mo hown hK hX 0 rfl rfl 9 (by decide) tw_507 (fun _ h => h) rfl rfl rfl d_Mo_doorOf_18 (fun rg_2 => ?_)
      refine z_icmp_ge (a := (k : Int)) (b := M 0 9) (tgt := 119) hx hb d_Mo_doorOf_21 (by decide) (by omega) (fun hb_3 => ?_) (fun hb_4 => ?_)
      · skip
        refine z_const hx hb d_Mo_doorOf_119 ?_
        exact z_iret (z := -1) (post := (fun z u => z = (nDoor M h g) ∧ u = M)) hx hb hr hlk hK hX hS (by omega) ⟨by first | (rw [hI15.2, show (M 0 9).toNat - k = 0 by omega]; simp [nDoorN]; done) | (rw [hI15.2, if_neg (by omega)]; done) | (rw [hI15.2, if_pos (by omega), show (M 0 9).toNat - k = ((M 0 9).toNat - (k + 1)) + 1 by omega, nDoorN, if_pos (by omega)]; done), rfl⟩ d_Mo_doorOf_120
      · skip
        refine lv_iload_n hx hb d_Mo_doorOf_24 rfl (lv_at hl 1 rfl) ?_
        refine z_if_le (a := M 5 (12 * h + g)) (tgt := 119) hx hb d_Mo_doorOf_25 (by decide) (by omega) (fun hb_5 => ?_) (fun hb_6 => ?_)
        · skip
          refine z_const hx hb d_Mo_doorOf_119 ?_
          exact z_iret (z := -1) (post := (fun z u => z = (nDoor M h g) ∧ u = M)) hx hb hr hlk hK hX hS (by omega) ⟨by first | (rw [hI15.2, show (M 0 9).toNat - k = 0 by omega]; simp [nDoorN]; done) | (rw [hI15.2, if_neg (by omega)]; done) | (rw [hI15.2, if_pos (by omega), show (M 0 9).toNat - k = ((M 0 9).toNat - (k + 1)) + 1 by omega, nDoorN, if_pos (by omega)]; done), rfl⟩ d_Mo_doorOf_120
        · skip
          refine lv_aload_n hx hb d_Mo_doorOf_28 rfl (lv_at hl 2 rfl) ?_
          refine z_getr hx hb iw_Mo hown hK hX 0 rfl rfl 10 (by decide) tw_508 (fun _ h => h) 6 rfl d_Mo_doorOf_29 ?_
          refine lv_iload hx hb d_Mo_doorOf_32 (lv_at hl 0 rfl) ?_
          refine z_iald (i := (k : Int)) (v := M 6 (k : Int)) hx hb hK hX 6 rfl (by omega) (by decide) rfl d_Mo_doorOf_34 (fun rg_7 => ?_)
          refine lv_iload_n hx hb d_Mo_doorOf_35 rfl (lv_at hl 3 rfl) ?_
          refine z_icmp_ne (a := M 6 (k : Int)) (b := h) (tgt := 49) hx hb d_Mo_doorOf_36 (by decide) (by omega) (fun hb_8 => ?_) (fun hb_9 => ?_)
          · skip
            refine lv_aload_n hx hb d_Mo_doorOf_49 rfl (lv_at hl 2 rfl) ?_
            refine z_getr hx hb iw_Mo hown hK hX 0 rfl rfl 11 (by decide) tw_509 (fun _ h => h) 7 rfl d_Mo_doorOf_50 ?_
            refine lv_iload hx hb d_Mo_doorOf_53 (lv_at hl 0 rfl) ?_
            refine z_iald (i := (k : Int)) (v := M 7 (k : Int)) hx hb hK hX 7 rfl (by omega) (by decide) rfl d_Mo_doorOf_55 (fun rg_10 => ?_)
            refine lv_iload_n hx hb d_Mo_doorOf_56 rfl (lv_at hl 3 rfl) ?_
            refine z_icmp_ne (a := M 7 (k : Int)) (b := h) (tgt := 70) hx hb d_Mo_doorOf_57 (by decide) (by omega) (fun hb_11 => ?_) (fun hb_12 => ?_)
            · skip
              refine z_const hx hb d_Mo_doorOf_70 ?_
              rw [show -1 = nSide M (k : Int) h by omega]
              refine lv_istore (lv' := [(5, .int (zI (nSide M (k : Int) h))), (4, .int (zI ((k : Int)))), (3, .int (zI (M 5 (12 * h + g)))), (0, .ref (ad 0)), (1, .int (zI (h))), (2, .int (zI (g)))]) hx hb d_Mo_doorOf_71 hl (by decide) rfl (fun ls hl => ?_)
              refine lv_iload hx hb d_Mo_doorOf_73 (lv_at hl 0 rfl) ?_
              refine z_const hx hb d_Mo_doorOf_75 ?_
              refine z_icmp_eq (a := nSide M (k : Int) h) (b := -1) (tgt := 113) hx hb d_Mo_doorOf_76 (by decide) (by omega) (fun hb_13 => ?_) (fun hb_14 => ?_)
              · skip
                refine z_iinc (lv' := [(4, .int (zI ((k : Int) + 1))), (5, .int (zI (nSide M (k : Int) h))), (3, .int (zI (M 5 (12 * h + g)))), (0, .ref (ad 0)), (1, .int (zI (h))), (2, .int (zI (g)))]) hx hb d_Mo_doorOf_113 hl (k := 1) rfl (by decide) rfl (fun ls hl => ?_)
                refine lv_goto (tgt := 15) hx hb d_Mo_doorOf_116 (by decide) ?_
                exact ih15 (k + 1) _ _ _ ⟨by omega, by rw [hI15.2, if_pos (by omega), if_pos (by omega), show (M 0 9).toNat - k = ((M 0 9).toNat - (k + 1)) + 1 by omega, nDoorN, if_neg (by omega)]; rfl⟩ (by omega) hX hS (lv_sub hl [0, 2, 3, 4, 5] rfl)
              · skip
                refine lv_aload_n hx hb d_Mo_doorOf_79 rfl (lv_at hl 3 rfl) ?_
                refine z_getr hx hb iw_Mo hown hK hX 0 rfl rfl 8 (by decide) tw_506 (fun _ h => h) 5 rfl d_Mo_doorOf_80 ?_
                refine z_bipush hx hb d_Mo_doorOf_83 (by decide) ?_
                refine lv_iload hx hb d_Mo_doorOf_85 (lv_at hl 0 rfl) ?_
                refine z_imul hx hb d_Mo_doorOf_87 ?_
                refine lv_iload_n hx hb d_Mo_doorOf_88 rfl (lv_at hl 5 rfl) ?_
                refine z_iadd hx hb d_Mo_doorOf_89 ?_
                refine z_iald (i := (12 * (nSide M (k : Int) h)) + g) (v := M 5 ((12 * (nSide M (k : Int) h)) + g)) hx hb hK hX 5 rfl (by omega) (by decide) rfl d_Mo_doorOf_90 (fun rg_15 => ?_)
                refine z_if_lt (a := M 5 ((12 * (nSide M (k : Int) h)) + g)) (tgt := 113) hx hb d_Mo_doorOf_91 (by decide) (by omega) (fun hb_16 => ?_) (fun hb_17 => ?_)
                · skip
                  refine z_iinc (lv' := [(4, .int (zI ((k : Int) + 1))), (5, .int (zI (nSide M (k : Int) h))), (3, .int (zI (M 5 (12 * h + g)))), (0, .ref (ad 0)), (1, .int (zI (h))), (2, .int (zI (g)))]) hx hb d_Mo_doorOf_113 hl (k := 1) rfl (by decide) rfl (fun ls hl => ?_)
                  refine lv_goto (tgt := 15) hx hb d_Mo_doorOf_116 (by decide) ?_
                  exact ih15 (k + 1) _ _ _ ⟨by omega, by rw [hI15.2, if_pos (by omega), if_pos (by omega), show (M 0 9).toNat - k = ((M 0 9).toNat - (k + 1)) + 1 by omega, nDoorN, if_neg (by omega)]; rfl⟩ (by omega) hX hS (lv_sub hl [0, 2, 3, 4, 5] rfl)
                · skip
                  refine lv_aload_n hx hb d_Mo_doorOf_94 rfl (lv_at hl 3 rfl) ?_
                  refine z_getr hx hb iw_Mo hown hK hX 0 rfl rfl 8 (by decide) tw_506 (fun _ h => h) 5 rfl d_Mo_doorOf_95 ?_
                  refine z_bipush hx hb d_Mo_doorOf_98 (by decide) ?_
                  refine lv_iload hx hb d_Mo_doorOf_100 (lv_at hl 0 rfl) ?_
                  refine z_imul hx hb d_Mo_doorOf_102 ?_
                  refine lv_iload_n hx hb d_Mo_doorOf_103 rfl (lv_at hl 5 rfl) ?_
                  refine z_iadd hx hb d_Mo_doorOf_104 ?_
                  refine z_iald (i := (12 * (nSide M (k : Int) h)) + g) (v := M 5 ((12 * (nSide M (k : Int) h)) + g)) hx hb hK hX 5 rfl (by omega) (by decide) rfl d_Mo_doorOf_105 (fun rg_18 => ?_)
                  refine lv_iload_n hx hb d_Mo_doorOf_106 rfl (lv_at hl 2 rfl) ?_
                  refine z_icmp_ge (a := M 5 ((12 * (nSide M (k : Int) h)) + g)) (b := M 5 (12 * h + g)) (tgt := 113) hx hb d_Mo_doorOf_107 (by decide) (by omega) (fun hb_19 => ?_) (fun hb_20 => ?_)
                  · skip
                    refine z_iinc (lv' := [(4, .int (zI ((k : Int) + 1))), (5, .int (zI (nSide M (k : Int) h))), (3, .int (zI (M 5 (12 * h + g)))), (0, .ref (ad 0)), (1, .int (zI (h))), (2, .int (zI (g)))]) hx hb d_Mo_doorOf_113 hl (k := 1) rfl (by decide) rfl (fun ls hl => ?_)
                    refine lv_goto (tgt := 15) hx hb d_Mo_doorOf_116 (by decide) ?_
                    exact ih15 (k + 1) _ _ _ ⟨by omega, by rw [hI15.2, if_pos (by omega), if_pos (by omega), show (M 0 9).toNat - k = ((M 0 9).toNat - (k + 1)) + 1 by omega, nDoorN, if_neg (by omega)]; rfl⟩ (by omega) hX hS (lv_sub hl [0, 2, 3, 4, 5] rfl)
                  · skip
                    refine lv_iload hx hb d_Mo_doorOf_110 (lv_at hl 1 rfl) ?_
                    exact z_iret (z := (k : Int)) (post := (fun z u => z = (nDoor M h g) ∧ u = M)) hx hb hr hlk hK hX hS (by omega) ⟨by first | (rw [hI15.2, show (M 0 9).toNat - k = 0 by omega]; simp [nDoorN]; done) | (rw [hI15.2, if_neg (by omega)]; done) | (rw [hI15.2, if_pos (by omega), show (M 0 9).toNat - k = ((M 0 9).toNat - (k + 1)) + 1 by omega, nDoorN, if_pos (by omega)]; done), rfl⟩ d_Mo_doorOf_112
            · skip
              refine lv_aload_n hx hb d_Mo_doorOf_60 rfl (lv_at hl 2 rfl) ?_
              refine z_getr hx hb iw_Mo hown hK hX 0 rfl rfl 10 (by decide) tw_508 (fun _ h => h) 6 rfl d_Mo_doorOf_61 ?_
              refine lv_iload hx hb d_Mo_doorOf_64 (lv_at hl 0 rfl) ?_
              refine z_iald (i := (k : Int)) (v := M 6 (k : Int)) hx hb hK hX 6 rfl (by omega) (by decide) rfl d_Mo_doorOf_66 (fun rg_21 => ?_)
              refine lv_goto (tgt := 71) hx hb d_Mo_doorOf_67 (by decide) ?_
              rw [show M 6 (k : Int) = nSide M (k : Int) h by omega]
              refine lv_istore (lv' := [(5, .int (zI (nSide M (k : Int) h))), (4, .int (zI ((k : Int)))), (3, .int (zI (M 5 (12 * h + g)))), (0, .ref (ad 0)), (1, .int (zI (h))), (2, .int (zI (g)))]) hx hb d_Mo_doorOf_71 hl (by decide) rfl (fun ls hl => ?_)
              refine lv_iload hx hb d_Mo_doorOf_73 (lv_at hl 0 rfl) ?_
              refine z_const hx hb d_Mo_doorOf_75 ?_
              refine z_icmp_eq (a := nSide M (k : Int) h) (b := -1) (tgt := 113) hx hb d_Mo_doorOf_76 (by decide) (by omega) (fun hb_22 => ?_) (fun hb_23 => ?_)
              · skip
                refine z_iinc (lv' := [(4, .int (zI ((k : Int) + 1))), (5, .int (zI (nSide M (k : Int) h))), (3, .int (zI (M 5 (12 * h + g)))), (0, .ref (ad 0)), (1, .int (zI (h))), (2, .int (zI (g)))]) hx hb d_Mo_doorOf_113 hl (k := 1) rfl (by decide) rfl (fun ls hl => ?_)
                refine lv_goto (tgt := 15) hx hb d_Mo_doorOf_116 (by decide) ?_
                exact ih15 (k + 1) _ _ _ ⟨by omega, by rw [hI15.2, if_pos (by omega), if_pos (by omega), show (M 0 9).toNat - k = ((M 0 9).toNat - (k + 1)) + 1 by omega, nDoorN, if_neg (by omega)]; rfl⟩ (by omega) hX hS (lv_sub hl [0, 2, 3, 4, 5] rfl)
              · skip
                refine lv_aload_n hx hb d_Mo_doorOf_79 rfl (lv_at hl 3 rfl) ?_
                refine z_getr hx hb iw_Mo hown hK hX 0 rfl rfl 8 (by decide) tw_506 (fun _ h => h) 5 rfl d_Mo_doorOf_80 ?_
                refine z_bipush hx hb d_Mo_doorOf_83 (by decide) ?_
                refine lv_iload hx hb d_Mo_doorOf_85 (lv_at hl 0 rfl) ?_
                refine z_imul hx hb d_Mo_doorOf_87 ?_
                refine lv_iload_n hx hb d_Mo_doorOf_88 rfl (lv_at hl 5 rfl) ?_
                refine z_iadd hx hb d_Mo_doorOf_89 ?_
                refine z_iald (i := (12 * (nSide M (k : Int) h)) + g) (v := M 5 ((12 * (nSide M (k : Int) h)) + g)) hx hb hK hX 5 rfl (by omega) (by decide) rfl d_Mo_doorOf_90 (fun rg_24 => ?_)
                refine z_if_lt (a := M 5 ((12 * (nSide M (k : Int) h)) + g)) (tgt := 113) hx hb d_Mo_doorOf_91 (by decide) (by omega) (fun hb_25 => ?_) (fun hb_26 => ?_)
                · skip
                  refine z_iinc (lv' := [(4, .int (zI ((k : Int) + 1))), (5, .int (zI (nSide M (k : Int) h))), (3, .int (zI (M 5 (12 * h + g)))), (0, .ref (ad 0)), (1, .int (zI (h))), (2, .int (zI (g)))]) hx hb d_Mo_doorOf_113 hl (k := 1) rfl (by decide) rfl (fun ls hl => ?_)
                  refine lv_goto (tgt := 15) hx hb d_Mo_doorOf_116 (by decide) ?_
                  exact ih15 (k + 1) _ _ _ ⟨by omega, by rw [hI15.2, if_pos (by omega), if_pos (by omega), show (M 0 9).toNat - k = ((M 0 9).toNat - (k + 1)) + 1 by omega, nDoorN, if_neg (by omega)]; rfl⟩ (by omega) hX hS (lv_sub hl [0, 2, 3, 4, 5] rfl)
                · skip
                  refine lv_aload_n hx hb d_Mo_doorOf_94 rfl (lv_at hl 3 rfl) ?_
                  refine z_getr hx hb iw_Mo hown hK hX 0 rfl rfl 8 (by decide) tw_506 (fun _ h => h) 5 rfl d_Mo_doorOf_95 ?_
                  refine z_bipush hx hb d_Mo_doorOf_98 (by decide) ?_
                  refine lv_iload hx hb d_Mo_doorOf_100 (lv_at hl 0 rfl) ?_
                  refine z_imul hx hb d_Mo_doorOf_102 ?_
                  refine lv_iload_n hx hb d_Mo_doorOf_103 rfl (lv_at hl 5 rfl) ?_
                  refine z_iadd hx hb d_Mo_doorOf_104 ?_
                  refine z_iald (i := (12 * (nSide M (k : Int) h)) + g) (v := M 5 ((12 * (nSide M (k : Int) h)) + g)) hx hb hK hX 5 rfl (by omega) (by decide) rfl d_Mo_doorOf_105 (fun rg_27 => ?_)
                  refine lv_iload_n hx hb d_Mo_doorOf_106 rfl (lv_at hl 2 rfl) ?_
                  refine z_icmp_ge (a := M 5 ((12 * (nSide M (k : Int) h)) + g)) (b := M 5 (12 * h + g)) (tgt := 113) hx hb d_Mo_doorOf_107 (by decide) (by omega) (fun hb_28 => ?_) (fun hb_29 => ?_)
                  · skip
                    refine z_iinc (lv' := [(4, .int (zI ((k : Int) + 1))), (5, .int (zI (nSide M (k : Int) h))), (3, .int (zI (M 5 (12 * h + g)))), (0, .ref (ad 0)), (1, .int (zI (h))), (2, .int (zI (g)))]) hx hb d_Mo_doorOf_113 hl (k := 1) rfl (by decide) rfl (fun ls hl => ?_)
                    refine lv_goto (tgt := 15) hx hb d_Mo_doorOf_116 (by decide) ?_
                    exact ih15 (k + 1) _ _ _ ⟨by omega, by rw [hI15.2, if_pos (by omega), if_pos (by omega), show (M 0 9).toNat - k = ((M 0 9).toNat - (k + 1)) + 1 by omega, nDoorN, if_neg (by omega)]; rfl⟩ (by omega) hX hS (lv_sub hl [0, 2, 3, 4, 5] rfl)
                  · skip
                    refine lv_iload hx hb d_Mo_doorOf_110 (lv_at hl 1 rfl) ?_
                    exact z_iret (z := (k : Int)) (post := (fun z u => z = (nDoor M h g) ∧ u = M)) hx hb hr hlk hK hX hS (by omega) ⟨by first | (rw [hI15.2, show (M 0 9).toNat - k = 0 by omega]; simp [nDoorN]; done) | (rw [hI15.2, if_neg (by omega)]; done) | (rw [hI15.2, if_pos (by omega), show (M 0 9).toNat - k = ((M 0 9).toNat - (k + 1)) + 1 by omega, nDoorN, if_pos (by omega)]; done), rfl⟩ d_Mo_doorOf_112
          · skip
            refine lv_aload_n hx hb d_Mo_doorOf_39 rfl (lv_at hl 2 rfl) ?_
            refine z_getr hx hb iw_Mo hown hK hX 0 rfl rfl 11 (by decide) tw_509 (fun _ h => h) 7 rfl d_Mo_doorOf_40 ?_
            refine lv_iload hx hb d_Mo_doorOf_43 (lv_at hl 0 rfl) ?_
            refine z_iald (i := (k : Int)) (v := M 7 (k : Int)) hx hb hK hX 7 rfl (by omega) (by decide) rfl d_Mo_doorOf_45 (fun rg_30 => ?_)
            refine lv_goto (tgt := 71) hx hb d_Mo_doorOf_46 (by decide) ?_
            rw [show M 7 (k : Int) = nSide M (k : Int) h by omega]
            refine lv_istore (lv' := [(5, .int (zI (nSide M (k : Int) h))), (4, .int (zI ((k : Int)))), (3, .int (zI (M 5 (12 * h + g)))), (0, .ref (ad 0)), (1, .int (zI (h))), (2, .int (zI (g)))]) hx hb d_Mo_doorOf_71 hl (by decide) rfl (fun ls hl => ?_)
            refine lv_iload hx hb d_Mo_doorOf_73 (lv_at hl 0 rfl) ?_
            refine z_const hx hb d_Mo_doorOf_75 ?_
            refine z_icmp_eq (a := nSide M (k : Int) h) (b := -1) (tgt := 113) hx hb d_Mo_doorOf_76 (by decide) (by omega) (fun hb_31 => ?_) (fun hb_32 => ?_)
            · skip
              refine z_iinc (lv' := [(4, .int (zI ((k : Int) + 1))), (5, .int (zI (nSide M (k : Int) h))), (3, .int (zI (M 5 (12 * h + g)))), (0, .ref (ad 0)), (1, .int (zI (h))), (2, .int (zI (g)))]) hx hb d_Mo_doorOf_113 hl (k := 1) rfl (by decide) rfl (fun ls hl => ?_)
              refine lv_goto (tgt := 15) hx hb d_Mo_doorOf_116 (by decide) ?_
              exact ih15 (k + 1) _ _ _ ⟨by omega, by rw [hI15.2, if_pos (by omega), if_pos (by omega), show (M 0 9).toNat - k = ((M 0 9).toNat - (k + 1)) + 1 by omega, nDoorN, if_neg (by omega)]; rfl⟩ (by omega) hX hS (lv_sub hl [0, 2, 3, 4, 5] rfl)
            · skip
              refine lv_aload_n hx hb d_Mo_doorOf_79 rfl (lv_at hl 3 rfl) ?_
              refine z_getr hx hb iw_Mo hown hK hX 0 rfl rfl 8 (by decide) tw_506 (fun _ h => h) 5 rfl d_Mo_doorOf_80 ?_
              refine z_bipush hx hb d_Mo_doorOf_83 (by decide) ?_
              refine lv_iload hx hb d_Mo_doorOf_85 (lv_at hl 0 rfl) ?_
              refine z_imul hx hb d_Mo_doorOf_87 ?_
              refine lv_iload_n hx hb d_Mo_doorOf_88 rfl (lv_at hl 5 rfl) ?_
              refine z_iadd hx hb d_Mo_doorOf_89 ?_
              refine z_iald (i := (12 * (nSide M (k : Int) h)) + g) (v := M 5 ((12 * (nSide M (k : Int) h)) + g)) hx hb hK hX 5 rfl (by omega) (by decide) rfl d_Mo_doorOf_90 (fun rg_33 => ?_)
              refine z_if_lt (a := M 5 ((12 * (nSide M (k : Int) h)) + g)) (tgt := 113) hx hb d_Mo_doorOf_91 (by decide) (by omega) (fun hb_34 => ?_) (fun hb_35 => ?_)
              · skip
                refine z_iinc (lv' := [(4, .int (zI ((k : Int) + 1))), (5, .int (zI (nSide M (k : Int) h))), (3, .int (zI (M 5 (12 * h + g)))), (0, .ref (ad 0)), (1, .int (zI (h))), (2, .int (zI (g)))]) hx hb d_Mo_doorOf_113 hl (k := 1) rfl (by decide) rfl (fun ls hl => ?_)
                refine lv_goto (tgt := 15) hx hb d_Mo_doorOf_116 (by decide) ?_
                exact ih15 (k + 1) _ _ _ ⟨by omega, by rw [hI15.2, if_pos (by omega), if_pos (by omega), show (M 0 9).toNat - k = ((M 0 9).toNat - (k + 1)) + 1 by omega, nDoorN, if_neg (by omega)]; rfl⟩ (by omega) hX hS (lv_sub hl [0, 2, 3, 4, 5] rfl)
              · skip
                refine lv_aload_n hx hb d_Mo_doorOf_94 rfl (lv_at hl 3 rfl) ?_
                refine z_getr hx hb iw_Mo hown hK hX 0 rfl rfl 8 (by decide) tw_506 (fun _ h => h) 5 rfl d_Mo_doorOf_95 ?_
                refine z_bipush hx hb d_Mo_doorOf_98 (by decide) ?_
                refine lv_iload hx hb d_Mo_doorOf_100 (lv_at hl 0 rfl) ?_
                refine z_imul hx hb d_Mo_doorOf_102 ?_
                refine lv_iload_n hx hb d_Mo_doorOf_103 rfl (lv_at hl 5 rfl) ?_
                refine z_iadd hx hb d_Mo_doorOf_104 ?_
                refine z_iald (i := (12 * (nSide M (k : Int) h)) + g) (v := M 5 ((12 * (nSide M (k : Int) h)) + g)) hx hb hK hX 5 rfl (by omega) (by decide) rfl d_Mo_doorOf_105 (fun rg_36 => ?_)
                refine lv_iload_n hx hb d_Mo_doorOf_106 rfl (lv_at hl 2 rfl) ?_
                refine z_icmp_ge (a := M 5 ((12 * (nSide M (k : Int) h)) + g)) (b := M 5 (12 * h + g)) (tgt := 113) hx hb d_Mo_doorOf_107 (by decide) (by omega) (fun hb_37 => ?_) (fun hb_38 => ?_)
                · skip
                  refine z_iinc (lv' := [(4, .int (zI ((k : Int) + 1))), (5, .int (zI (nSide M (k : Int) h))), (3, .int (zI (M 5 (12 * h + g)))), (0, .ref (ad 0)), (1, .int (zI (h))), (2, .int (zI (g)))]) hx hb d_Mo_doorOf_113 hl (k := 1) rfl (by decide) rfl (fun ls hl => ?_)
                  refine lv_goto (tgt := 15) hx hb d_Mo_doorOf_116 (by decide) ?_
                  exact ih15 (k + 1) _ _ _ ⟨by omega, by rw [hI15.2, if_pos (by omega), if_pos (by omega), show (M 0 9).toNat - k = ((M 0 9).toNat - (k + 1)) + 1 by omega, nDoorN, if_neg (by omega)]; rfl⟩ (by omega) hX hS (lv_sub hl [0, 2, 3, 4, 5] rfl)
                · skip
                  refine lv_iload hx hb d_Mo_doorOf_110 (lv_at hl 1 rfl) ?_
                  exact z_iret (z := (k : Int)) (post := (fun z u => z = (nDoor M h g) ∧ u = M)) hx hb hr hlk hK hX hS (by omega) ⟨by first | (rw [hI15.2, show (M 0 9).toNat - k = 0 by omega]; simp [nDoorN]; done) | (rw [hI15.2, if_neg (by omega)]; done) | (rw [hI15.2, if_pos (by omega), show (M 0 9).toNat - k = ((M 0 9).toNat - (k + 1)) + 1 by omega, nDoorN, if_pos (by omega)]; done), rfl⟩ d_Mo_doorOf_112
  exact loop15 _ 0 _ _ _ ⟨by omega, rfl⟩ (Nat.lt_succ_self _) hX hS (lv_sub hl [0, 1, 2, 3, 4] rfl)

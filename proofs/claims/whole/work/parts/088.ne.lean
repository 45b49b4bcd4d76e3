set_option maxHeartbeats 4000000 in
set_option maxRecDepth 100000 in
theorem m_room (l : Launch) (D : va_G) (ad : Nat → Nat) (cI : Nat → ClassId) (sd : Int64) (M : zM) (v : Int) (g0 : -2147483648 ≤ v ∧ v ≤ 2147483647) (hO : nOK M) : zMi l y_Mo_room (.code y_Mo_room c_Mo_room 2 (some .int)) { frames := 1, cells := 0, slots := 0, locals := 25 } D (nL sd) ad cI M [.ref (ad 0), .int (zI (v))] (fun z u => ((1 ≤ v ∧ v ≤ 100) ∧ (M 0 2 = 0 ∧ M 0 3 < 12) ∧ z = (M 0 3) ∧ u = zU (zU (zU M 0 1 0) 1 (M 0 3) v) 0 3 (M 0 3 + 1)) ∨ ((1 ≤ v ∧ v ≤ 100) ∧ ¬ (M 0 2 = 0 ∧ M 0 3 < 12) ∧ u = zU M 0 1 2) ∨ (¬ (1 ≤ v ∧ v ≤ 100) ∧ u = zU M 0 1 1)) := by
  refine z_of (cc := c_Mo_room) (maxL := 2) (ret := some .int) (own := "PersonSeedsModel") (by decide) rfl rfl (Nat.le_of_ble_eq_true rfl) ?_
  intro p e s m below meth c ls hF hr hX hK hl
  obtain ⟨hx, hb, hml, hown, hlk⟩ := id hF
  have hS : va_S (zA ad (nL sd)) s.heap s.heap [] := va_S.rf
  have hl : lv_has ls 2 [(0, .ref (ad 0)), (1, .int (zI (v)))] := hl
  have o1 := hO.1
  refine lv_aload_n hx hb d_Mo_room_0 rfl (lv_at hl 0 rfl) ?_
  refine lv_iload_n hx hb d_Mo_room_1 rfl (lv_at hl 1 rfl) ?_
  refine z_i2l (a := v) hx hb (by omega) d_Mo_room_2 ?_
  refine z_lconst (v := 1) hx hb d_Mo_room_3 (by decide) ?_
  refine z_ldcl (v := 100) hx hb hown hK tw_576 (by decide) d_Mo_room_4 ?_
  refine z_callSi hF (m_within l D ad cI sd M v 1 100 (by omega) (by omega) (by omega)) (hK.cS 3 tw_579 tw_577 tw_7 tw_578 (by decide +kernel) rfl rfl ⟨Nat.le_of_ble_eq_true rfl, Nat.le_of_ble_eq_true rfl⟩) hK hX hS rfl hl.1 rfl (Nat.le_of_ble_eq_true rfl) d_Mo_room_7 ⟨Nat.le_of_ble_eq_true rfl, Nat.le_of_ble_eq_true rfl⟩ (fun z u H locs rg_1 hp hX hS => ?_)
  obtain ⟨hz, hu⟩ := hp
  rw [hu] at hX
  have hz : z = (if 1 ≤ v ∧ v ≤ 100 then 1 else 0) := hz
  subst hz
  refine lv_aload_n hx hb d_Mo_room_10 rfl (lv_at hl 0 rfl) ?_
  refine z_geti (i := 2) (v := M 0 2) hx hb iw_Mo hown hK hX 0 rfl rfl 2 (by decide) tw_500 (fun _ h => h) rfl rfl rfl d_Mo_room_11 (fun rg_2 => ?_)
  refine z_if_ne (a := M 0 2) (tgt := 30) hx hb d_Mo_room_14 (by decide) (by omega) (fun hb_3 => ?_) (fun hb_4 => ?_)
  · skip
    refine z_const hx hb d_Mo_room_30 ?_
    by_cases hA_5 : 1 ≤ v ∧ v ≤ 100
    · skip
      rw [if_pos hA_5]
      refine z_callVi hF (m_may l D ad cI sd M 1 0 (by omega) (by omega)) (hK.cV 2 tw_583 tw_580 tw_7 tw_582 ts_28 (by decide +kernel) rfl rfl ⟨Nat.le_of_ble_eq_true rfl, Nat.le_of_ble_eq_true rfl⟩) hK hX hS rfl rfl rfl hl.1 rfl (Nat.le_of_ble_eq_true rfl) d_Mo_room_31 ⟨Nat.le_of_ble_eq_true rfl, Nat.le_of_ble_eq_true rfl⟩ (fun z u H locs rgz hp hX hS => ?_)
      obtain ⟨hz, hu⟩ := hp
      replace hz : z = 0 := hz.trans (by decide)
      subst hz
      replace hu : u = zU M 0 1 2 := hu.trans (by congr 1)
      rw [hu] at hX
      refine z_if_ne (a := 0) (tgt := 39) hx hb d_Mo_room_34 (by decide) (by omega) (fun hb_6 => ?_) (fun hb_7 => ?_)
      · skip
        exfalso
        omega
      · skip
        refine z_const hx hb d_Mo_room_37 ?_
        exact z_iret (z := 0) (post := (fun z u => ((1 ≤ v ∧ v ≤ 100) ∧ (M 0 2 = 0 ∧ M 0 3 < 12) ∧ z = (M 0 3) ∧ u = zU (zU (zU M 0 1 0) 1 (M 0 3) v) 0 3 (M 0 3 + 1)) ∨ ((1 ≤ v ∧ v ≤ 100) ∧ ¬ (M 0 2 = 0 ∧ M 0 3 < 12) ∧ u = zU M 0 1 2) ∨ (¬ (1 ≤ v ∧ v ≤ 100) ∧ u = zU M 0 1 1))) hx hb hr hlk hK hX hS (by omega) (by first | (exfalso; omega) | exact Or.inr (Or.inr ⟨by omega, rfl⟩) | exact Or.inl ⟨by omega, by omega, by omega, rfl⟩ | exact Or.inr (Or.inl ⟨by omega, by omega, rfl⟩)) d_Mo_room_38
    · skip
      rw [if_neg hA_5]
      refine z_callVi hF (m_may l D ad cI sd M 0 0 (by omega) (by omega)) (hK.cV 2 tw_583 tw_580 tw_7 tw_582 ts_28 (by decide +kernel) rfl rfl ⟨Nat.le_of_ble_eq_true rfl, Nat.le_of_ble_eq_true rfl⟩) hK hX hS rfl rfl rfl hl.1 rfl (Nat.le_of_ble_eq_true rfl) d_Mo_room_31 ⟨Nat.le_of_ble_eq_true rfl, Nat.le_of_ble_eq_true rfl⟩ (fun z u H locs rgz hp hX hS => ?_)
      obtain ⟨hz, hu⟩ := hp
      replace hz : z = 0 := hz.trans (by decide)
      subst hz
      replace hu : u = zU M 0 1 1 := hu.trans (by congr 1)
      rw [hu] at hX
      refine z_if_ne (a := 0) (tgt := 39) hx hb d_Mo_room_34 (by decide) (by omega) (fun hb_8 => ?_) (fun hb_9 => ?_)
      · skip
        exfalso
        omega
      · skip
        refine z_const hx hb d_Mo_room_37 ?_
        exact z_iret (z := 0) (post := (fun z u => ((1 ≤ v ∧ v ≤ 100) ∧ (M 0 2 = 0 ∧ M 0 3 < 12) ∧ z = (M 0 3) ∧ u = zU (zU (zU M 0 1 0) 1 (M 0 3) v) 0 3 (M 0 3 + 1)) ∨ ((1 ≤ v ∧ v ≤ 100) ∧ ¬ (M 0 2 = 0 ∧ M 0 3 < 12) ∧ u = zU M 0 1 2) ∨ (¬ (1 ≤ v ∧ v ≤ 100) ∧ u = zU M 0 1 1))) hx hb hr hlk hK hX hS (by omega) (by first | (exfalso; omega) | exact Or.inr (Or.inr ⟨by omega, rfl⟩) | exact Or.inl ⟨by omega, by omega, by omega, rfl⟩ | exact Or.inr (Or.inl ⟨by omega, by omega, rfl⟩)) d_Mo_room_38
  · skip
    refine lv_aload_n hx hb d_Mo_room_17 rfl (lv_at hl 0 rfl) ?_
    refine z_geti (i := 3) (v := M 0 3) hx hb iw_Mo hown hK hX 0 rfl rfl 3 (by decide) tw_501 (fun _ h => h) rfl rfl rfl d_Mo_room_18 (fun rg_10 => ?_)
    refine z_bipush hx hb d_Mo_room_21 (by decide) ?_
    refine z_icmp_ge (a := M 0 3) (b := 12) (tgt := 30) hx hb d_Mo_room_23 (by decide) (by omega) (fun hb_11 => ?_) (fun hb_12 => ?_)
    · skip
      refine z_const hx hb d_Mo_room_30 ?_
      by_cases hA_13 : 1 ≤ v ∧ v ≤ 100
      · skip
        rw [if_pos hA_13]
        refine z_callVi hF (m_may l D ad cI sd M 1 0 (by omega) (by omega)) (hK.cV 2 tw_583 tw_580 tw_7 tw_582 ts_28 (by decide +kernel) rfl rfl ⟨Nat.le_of_ble_eq_true rfl, Nat.le_of_ble_eq_true rfl⟩) hK hX hS rfl rfl rfl hl.1 rfl (Nat.le_of_ble_eq_true rfl) d_Mo_room_31 ⟨Nat.le_of_ble_eq_true rfl, Nat.le_of_ble_eq_true rfl⟩ (fun z u H locs rgz hp hX hS => ?_)
        obtain ⟨hz, hu⟩ := hp
        replace hz : z = 0 := hz.trans (by decide)
        subst hz
        replace hu : u = zU M 0 1 2 := hu.trans (by congr 1)
        rw [hu] at hX
        refine z_if_ne (a := 0) (tgt := 39) hx hb d_Mo_room_34 (by decide) (by omega) (fun hb_14 => ?_) (fun hb_15 => ?_)
        · skip
          exfalso
          omega
        · skip
          refine z_const hx hb d_Mo_room_37 ?_
          exact z_iret (z := 0) (post := (fun z u => ((1 ≤ v ∧ v ≤ 100) ∧ (M 0 2 = 0 ∧ M 0 3 < 12) ∧ z = (M 0 3) ∧ u = zU (zU (zU M 0 1 0) 1 (M 0 3) v) 0 3 (M 0 3 + 1)) ∨ ((1 ≤ v ∧ v ≤ 100) ∧ ¬ (M 0 2 = 0 ∧ M 0 3 < 12) ∧ u = zU M 0 1 2) ∨ (¬ (1 ≤ v ∧ v ≤ 100) ∧ u = zU M 0 1 1))) hx hb hr hlk hK hX hS (by omega) (by first | (exfalso; omega) | exact Or.inr (Or.inr ⟨by omega, rfl⟩) | exact Or.inl ⟨by omega, by omega, by omega, rfl⟩ | exact Or.inr (Or.inl ⟨by omega, by omega, rfl⟩)) d_Mo_room_38
      · skip
        rw [if_neg hA_13]
        refine z_callVi hF (m_may l D ad cI sd M 0 0 (by omega) (by omega)) (hK.cV 2 tw_583 tw_580 tw_7 tw_582 ts_28 (by decide +kernel) rfl rfl ⟨Nat.le_of_ble_eq_true rfl, Nat.le_of_ble_eq_true rfl⟩) hK hX hS rfl rfl rfl hl.1 rfl (Nat.le_of_ble_eq_true rfl) d_Mo_room_31 ⟨Nat.le_of_ble_eq_true rfl, Nat.le_of_ble_eq_true rfl⟩ (fun z u H locs rgz hp hX hS => ?_)
        obtain ⟨hz, hu⟩ := hp
        replace hz : z = 0 := hz.trans (by decide)
        subst hz
        replace hu : u = zU M 0 1 1 := hu.trans (by congr 1)
        rw [hu] at hX
        refine z_if_ne (a := 0) (tgt := 39) hx hb d_Mo_room_34 (by decide) (by omega) (fun hb_16 => ?_) (fun hb_17 => ?_)
        · skip
          exfalso
          omega
        · skip
          refine z_const hx hb d_Mo_room_37 ?_
          exact z_iret (z := 0) (post := (fun z u => ((1 ≤ v ∧ v ≤ 100) ∧ (M 0 2 = 0 ∧ M 0 3 < 12) ∧ z = (M 0 3) ∧ u = zU (zU (zU M 0 1 0) 1 (M 0 3) v) 0 3 (M 0 3 + 1)) ∨ ((1 ≤ v ∧ v ≤ 100) ∧ ¬ (M 0 2 = 0 ∧ M 0 3 < 12) ∧ u = zU M 0 1 2) ∨ (¬ (1 ≤ v ∧ v ≤ 100) ∧ u = zU M 0 1 1))) hx hb hr hlk hK hX hS (by omega) (by first | (exfalso; omega) | exact Or.inr (Or.inr ⟨by omega, rfl⟩) | exact Or.inl ⟨by omega, by omega, by omega, rfl⟩ | exact Or.inr (Or.inl ⟨by omega, by omega, rfl⟩)) d_Mo_room_38
    · skip
      refine z_const hx hb d_Mo_room_26 ?_
      refine lv_goto (tgt := 31) hx hb d_Mo_room_27 (by decide) ?_
      by_cases hA_18 : 1 ≤ v ∧ v ≤ 100
      · skip
        rw [if_pos hA_18]
        refine z_callVi hF (m_may l D ad cI sd M 1 1 (by omega) (by omega)) (hK.cV 2 tw_583 tw_580 tw_7 tw_582 ts_28 (by decide +kernel) rfl rfl ⟨Nat.le_of_ble_eq_true rfl, Nat.le_of_ble_eq_true rfl⟩) hK hX hS rfl rfl rfl hl.1 rfl (Nat.le_of_ble_eq_true rfl) d_Mo_room_31 ⟨Nat.le_of_ble_eq_true rfl, Nat.le_of_ble_eq_true rfl⟩ (fun z u H locs rgz hp hX hS => ?_)
        obtain ⟨hz, hu⟩ := hp
        replace hz : z = 1 := hz.trans (by decide)
        subst hz
        replace hu : u = zU M 0 1 0 := hu.trans (by congr 1)
        rw [hu] at hX
        refine z_if_ne (a := 1) (tgt := 39) hx hb d_Mo_room_34 (by decide) (by omega) (fun hb_19 => ?_) (fun hb_20 => ?_)
        · skip
          refine lv_aload_n hx hb d_Mo_room_39 rfl (lv_at hl 0 rfl) ?_
          refine z_getr hx hb iw_Mo hown hK hX 0 rfl rfl 4 (by decide) tw_502 (fun _ h => h) 1 rfl d_Mo_room_40 ?_
          refine lv_aload_n hx hb d_Mo_room_43 rfl (lv_at hl 0 rfl) ?_
          refine z_geti (i := 3) (v := M 0 3) hx hb iw_Mo hown hK hX 0 rfl rfl 3 (by decide) tw_501 (fun _ h => h) rfl rfl (by simp [zU]) d_Mo_room_44 (fun rg_21 => ?_)
          refine lv_iload_n hx hb d_Mo_room_47 rfl (lv_at hl 1 rfl) ?_
          refine z_iast (i := M 0 3) (v := v) hx hb hK hX hS 1 rfl (by omega) (by decide) (by omega) d_Mo_room_48 (fun H locs hX hS => ?_)
          refine lv_aload_n hx hb d_Mo_room_49 rfl (lv_at hl 0 rfl) ?_
          refine lv_dup hx hb d_Mo_room_50 rfl ?_
          refine z_geti (i := 3) (v := M 0 3) hx hb iw_Mo hown hK hX 0 rfl rfl 3 (by decide) tw_501 (fun _ h => h) rfl rfl (by simp [zU]) d_Mo_room_51 (fun rg_22 => ?_)
          refine z_const hx hb d_Mo_room_54 ?_
          refine z_iadd hx hb d_Mo_room_55 ?_
          refine z_puti (i := 3) (v := (M 0 3) + 1) hx hb iw_Mo ty_Mo tyo_Mo n_Mo hown hK hX hS 0 rfl rfl 3 (by decide) tw_501 (fun _ h => h) rfl (by decide +kernel) rfl rfl (by omega) d_Mo_room_56 (fun H locs hX hS => ?_)
          refine lv_aload_n hx hb d_Mo_room_59 rfl (lv_at hl 0 rfl) ?_
          refine z_geti (i := 3) (v := (M 0 3) + 1) hx hb iw_Mo hown hK hX 0 rfl rfl 3 (by decide) tw_501 (fun _ h => h) rfl rfl (by simp [zU]) d_Mo_room_60 (fun rg_23 => ?_)
          refine z_const hx hb d_Mo_room_63 ?_
          refine z_isub hx hb d_Mo_room_64 ?_
          exact z_iret (z := ((M 0 3) + 1) - 1) (post := (fun z u => ((1 ≤ v ∧ v ≤ 100) ∧ (M 0 2 = 0 ∧ M 0 3 < 12) ∧ z = (M 0 3) ∧ u = zU (zU (zU M 0 1 0) 1 (M 0 3) v) 0 3 (M 0 3 + 1)) ∨ ((1 ≤ v ∧ v ≤ 100) ∧ ¬ (M 0 2 = 0 ∧ M 0 3 < 12) ∧ u = zU M 0 1 2) ∨ (¬ (1 ≤ v ∧ v ≤ 100) ∧ u = zU M 0 1 1))) hx hb hr hlk hK hX hS (by omega) (by first | (exfalso; omega) | exact Or.inr (Or.inr ⟨by omega, rfl⟩) | exact Or.inl ⟨by omega, by omega, by omega, rfl⟩ | exact Or.inr (Or.inl ⟨by omega, by omega, rfl⟩)) d_Mo_room_65
        · skip
          exfalso
          omega
      · skip
        rw [if_neg hA_18]
        refine z_callVi hF (m_may l D ad cI sd M 0 1 (by omega) (by omega)) (hK.cV 2 tw_583 tw_580 tw_7 tw_582 ts_28 (by decide +kernel) rfl rfl ⟨Nat.le_of_ble_eq_true rfl, Nat.le_of_ble_eq_true rfl⟩) hK hX hS rfl rfl rfl hl.1 rfl (Nat.le_of_ble_eq_true rfl) d_Mo_room_31 ⟨Nat.le_of_ble_eq_true rfl, Nat.le_of_ble_eq_true rfl⟩ (fun z u H locs rgz hp hX hS => ?_)
        obtain ⟨hz, hu⟩ := hp
        replace hz : z = 0 := hz.trans (by decide)
        subst hz
        replace hu : u = zU M 0 1 1 := hu.trans (by congr 1)
        rw [hu] at hX
        refine z_if_ne (a := 0) (tgt := 39) hx hb d_Mo_room_34 (by decide) (by omega) (fun hb_24 => ?_) (fun hb_25 => ?_)
        · skip
          exfalso
          omega
        · skip
          refine z_const hx hb d_Mo_room_37 ?_
          exact z_iret (z := 0) (post := (fun z u => ((1 ≤ v ∧ v ≤ 100) ∧ (M 0 2 = 0 ∧ M 0 3 < 12) ∧ z = (M 0 3) ∧ u = zU (zU (zU M 0 1 0) 1 (M 0 3) v) 0 3 (M 0 3 + 1)) ∨ ((1 ≤ v ∧ v ≤ 100) ∧ ¬ (M 0 2 = 0 ∧ M 0 3 < 12) ∧ u = zU M 0 1 2) ∨ (¬ (1 ≤ v ∧ v ≤ 100) ∧ u = zU M 0 1 1))) hx hb hr hlk hK hX hS (by omega) (by first | (exfalso; omega) | exact Or.inr (Or.inr ⟨by omega, rfl⟩) | exact Or.inl ⟨by omega, by omega, by omega, rfl⟩ | exact Or.inr (Or.inl ⟨by omega, by omega, rfl⟩)) d_Mo_room_38
set_option maxHeartbeats 4000000 in
set_option maxRecDepth 100000 in
theorem m_draw (l : Launch) (D : va_G) (ad : Nat → Nat) (cI : Nat → ClassId) (sd : Int64) (M : zM) (p1 k1 m1 : Int) (g0 : -2147483648 ≤ p1 ∧ p1 ≤ 2147483647) (g1 : -2147483648 ≤ k1 ∧ k1 ≤ 2147483647) (g2 : -2147483648 ≤ m1 ∧ m1 ≤ 2147483647) : zMi l y_Mo_draw (.code y_Mo_draw c_Mo_draw 4 (some .int)) { frames := 1, cells := 0, slots := 0, locals := 25 } D (nL sd) ad cI M [.ref (ad 0), .int (zI (p1)), .int (zI (k1)), .int (zI (m1))] (fun z u => (((0 ≤ p1 ∧ p1 ≤ 59) ∧ (0 ≤ k1 ∧ k1 ≤ 7) ∧ (1 ≤ m1 ∧ m1 ≤ 1000000)) ∧ z = (xDraw sd p1 k1 m1) ∧ u = zU M 0 1 0) ∨ (¬ ((0 ≤ p1 ∧ p1 ≤ 59) ∧ (0 ≤ k1 ∧ k1 ≤ 7) ∧ (1 ≤ m1 ∧ m1 ≤ 1000000)) ∧ u = zU M 0 1 1)) := by
  refine z_of (cc := c_Mo_draw) (maxL := 4) (ret := some .int) (own := "PersonSeedsModel") (by decide) rfl rfl (Nat.le_of_ble_eq_true rfl) ?_
  intro p e s m below meth c ls hF hr hX hK hl
  obtain ⟨hx, hb, hml, hown, hlk⟩ := id hF
  have hS : va_S (zA ad (nL sd)) s.heap s.heap [] := va_S.rf
  have hl : lv_has ls 4 [(0, .ref (ad 0)), (1, .int (zI (p1))), (2, .int (zI (k1))), (3, .int (zI (m1)))] := hl
  refine lv_aload_n hx hb d_Mo_draw_0 rfl (lv_at hl 0 rfl) ?_
  refine lv_iload_n hx hb d_Mo_draw_1 rfl (lv_at hl 1 rfl) ?_
  refine z_i2l (a := p1) hx hb (by omega) d_Mo_draw_2 ?_
  refine z_lconst (v := 0) hx hb d_Mo_draw_3 (by decide) ?_
  refine z_ldcl (v := 59) hx hb hown hK tw_606 (by decide) d_Mo_draw_4 ?_
  refine z_callSi hF (m_within l D ad cI sd M p1 0 59 (by omega) (by omega) (by omega)) (hK.cS 3 tw_579 tw_577 tw_7 tw_578 (by decide +kernel) rfl rfl ⟨Nat.le_of_ble_eq_true rfl, Nat.le_of_ble_eq_true rfl⟩) hK hX hS rfl hl.1 rfl (Nat.le_of_ble_eq_true rfl) d_Mo_draw_7 ⟨Nat.le_of_ble_eq_true rfl, Nat.le_of_ble_eq_true rfl⟩ (fun z u H locs rg_1 hp hX hS => ?_)
  obtain ⟨hz, hu⟩ := hp
  rw [hu] at hX
  have hz : z = (if 0 ≤ p1 ∧ p1 ≤ 59 then 1 else 0) := hz
  subst hz
  refine z_if_eq (a := if 0 ≤ p1 ∧ p1 ≤ 59 then 1 else 0) (tgt := 41) hx hb d_Mo_draw_10 (by decide) (by omega) (fun hb_2 => ?_) (fun hb_3 => ?_)
  · skip
    refine z_const hx hb d_Mo_draw_41 ?_
    refine z_const hx hb d_Mo_draw_42 ?_
    refine z_callVi hF (m_may l D ad cI sd M 0 1 (by omega) (by omega)) (hK.cV 2 tw_583 tw_580 tw_7 tw_582 ts_28 (by decide +kernel) rfl rfl ⟨Nat.le_of_ble_eq_true rfl, Nat.le_of_ble_eq_true rfl⟩) hK hX hS rfl rfl rfl hl.1 rfl (Nat.le_of_ble_eq_true rfl) d_Mo_draw_43 ⟨Nat.le_of_ble_eq_true rfl, Nat.le_of_ble_eq_true rfl⟩ (fun z u H locs rgz hp hX hS => ?_)
    obtain ⟨hz, hu⟩ := hp
    replace hz : z = 0 := hz.trans (by decide)
    subst hz
    replace hu : u = zU M 0 1 1 := hu.trans (by congr 1)
    rw [hu] at hX
    refine z_if_eq (a := 0) (tgt := 59) hx hb d_Mo_draw_46 (by decide) (by omega) (fun hb_4 => ?_) (fun hb_5 => ?_)
    · skip
      refine z_const hx hb d_Mo_draw_59 ?_
      exact z_iret (z := 0) (post := (fun z u => (((0 ≤ p1 ∧ p1 ≤ 59) ∧ (0 ≤ k1 ∧ k1 ≤ 7) ∧ (1 ≤ m1 ∧ m1 ≤ 1000000)) ∧ z = (xDraw sd p1 k1 m1) ∧ u = zU M 0 1 0) ∨ (¬ ((0 ≤ p1 ∧ p1 ≤ 59) ∧ (0 ≤ k1 ∧ k1 ≤ 7) ∧ (1 ≤ m1 ∧ m1 ≤ 1000000)) ∧ u = zU M 0 1 1))) hx hb hr hlk hK hX hS (by omega) (by first | (exfalso; omega) | exact Or.inr ⟨by omega, rfl⟩ | exact Or.inl ⟨by omega, rfl, rfl⟩) d_Mo_draw_60
    · skip
      exfalso
      omega
  · skip
    refine lv_iload_n hx hb d_Mo_draw_13 rfl (lv_at hl 2 rfl) ?_
    refine z_i2l (a := k1) hx hb (by omega) d_Mo_draw_14 ?_
    refine z_lconst (v := 0) hx hb d_Mo_draw_15 (by decide) ?_
    refine z_ldcl (v := 7) hx hb hown hK tw_607 (by decide) d_Mo_draw_16 ?_
    refine z_callSi hF (m_within l D ad cI sd M k1 0 7 (by omega) (by omega) (by omega)) (hK.cS 3 tw_579 tw_577 tw_7 tw_578 (by decide +kernel) rfl rfl ⟨Nat.le_of_ble_eq_true rfl, Nat.le_of_ble_eq_true rfl⟩) hK hX hS rfl hl.1 rfl (Nat.le_of_ble_eq_true rfl) d_Mo_draw_19 ⟨Nat.le_of_ble_eq_true rfl, Nat.le_of_ble_eq_true rfl⟩ (fun z u H locs rg_6 hp hX hS => ?_)
    obtain ⟨hz, hu⟩ := hp
    rw [hu] at hX
    have hz : z = (if 0 ≤ k1 ∧ k1 ≤ 7 then 1 else 0) := hz
    subst hz
    refine z_if_eq (a := if 0 ≤ k1 ∧ k1 ≤ 7 then 1 else 0) (tgt := 41) hx hb d_Mo_draw_22 (by decide) (by omega) (fun hb_7 => ?_) (fun hb_8 => ?_)
    · skip
      refine z_const hx hb d_Mo_draw_41 ?_
      refine z_const hx hb d_Mo_draw_42 ?_
      refine z_callVi hF (m_may l D ad cI sd M 0 1 (by omega) (by omega)) (hK.cV 2 tw_583 tw_580 tw_7 tw_582 ts_28 (by decide +kernel) rfl rfl ⟨Nat.le_of_ble_eq_true rfl, Nat.le_of_ble_eq_true rfl⟩) hK hX hS rfl rfl rfl hl.1 rfl (Nat.le_of_ble_eq_true rfl) d_Mo_draw_43 ⟨Nat.le_of_ble_eq_true rfl, Nat.le_of_ble_eq_true rfl⟩ (fun z u H locs rgz hp hX hS => ?_)
      obtain ⟨hz, hu⟩ := hp
      replace hz : z = 0 := hz.trans (by decide)
      subst hz
      replace hu : u = zU M 0 1 1 := hu.trans (by congr 1)
      rw [hu] at hX
      refine z_if_eq (a := 0) (tgt := 59) hx hb d_Mo_draw_46 (by decide) (by omega) (fun hb_9 => ?_) (fun hb_10 => ?_)
      · skip
        refine z_const hx hb d_Mo_draw_59 ?_
        exact z_iret (z := 0) (post := (fun z u => (((0 ≤ p1 ∧ p1 ≤ 59) ∧ (0 ≤ k1 ∧ k1 ≤ 7) ∧ (1 ≤ m1 ∧ m1 ≤ 1000000)) ∧ z = (xDraw sd p1 k1 m1) ∧ u = zU M 0 1 0) ∨ (¬ ((0 ≤ p1 ∧ p1 ≤ 59) ∧ (0 ≤ k1 ∧ k1 ≤ 7) ∧ (1 ≤ m1 ∧ m1 ≤ 1000000)) ∧ u = zU M 0 1 1))) hx hb hr hlk hK hX hS (by omega) (by first | (exfalso; omega) | exact Or.inr ⟨by omega, rfl⟩ | exact Or.inl ⟨by omega, rfl, rfl⟩) d_Mo_draw_60
      · skip
        exfalso
        omega
    · skip
      refine lv_iload_n hx hb d_Mo_draw_25 rfl (lv_at hl 3 rfl) ?_
      refine z_i2l (a := m1) hx hb (by omega) d_Mo_draw_26 ?_
      refine z_lconst (v := 1) hx hb d_Mo_draw_27 (by decide) ?_
      refine z_ldcl (v := 1000000) hx hb hown hK tw_608 (by decide) d_Mo_draw_28 ?_
      refine z_callSi hF (m_within l D ad cI sd M m1 1 1000000 (by omega) (by omega) (by omega)) (hK.cS 3 tw_579 tw_577 tw_7 tw_578 (by decide +kernel) rfl rfl ⟨Nat.le_of_ble_eq_true rfl, Nat.le_of_ble_eq_true rfl⟩) hK hX hS rfl hl.1 rfl (Nat.le_of_ble_eq_true rfl) d_Mo_draw_31 ⟨Nat.le_of_ble_eq_true rfl, Nat.le_of_ble_eq_true rfl⟩ (fun z u H locs rg_11 hp hX hS => ?_)
      obtain ⟨hz, hu⟩ := hp
      rw [hu] at hX
      have hz : z = (if 1 ≤ m1 ∧ m1 ≤ 1000000 then 1 else 0) := hz
      subst hz
      refine z_if_eq (a := if 1 ≤ m1 ∧ m1 ≤ 1000000 then 1 else 0) (tgt := 41) hx hb d_Mo_draw_34 (by decide) (by omega) (fun hb_12 => ?_) (fun hb_13 => ?_)
      · skip
        refine z_const hx hb d_Mo_draw_41 ?_
        refine z_const hx hb d_Mo_draw_42 ?_
        refine z_callVi hF (m_may l D ad cI sd M 0 1 (by omega) (by omega)) (hK.cV 2 tw_583 tw_580 tw_7 tw_582 ts_28 (by decide +kernel) rfl rfl ⟨Nat.le_of_ble_eq_true rfl, Nat.le_of_ble_eq_true rfl⟩) hK hX hS rfl rfl rfl hl.1 rfl (Nat.le_of_ble_eq_true rfl) d_Mo_draw_43 ⟨Nat.le_of_ble_eq_true rfl, Nat.le_of_ble_eq_true rfl⟩ (fun z u H locs rgz hp hX hS => ?_)
        obtain ⟨hz, hu⟩ := hp
        replace hz : z = 0 := hz.trans (by decide)
        subst hz
        replace hu : u = zU M 0 1 1 := hu.trans (by congr 1)
        rw [hu] at hX
        refine z_if_eq (a := 0) (tgt := 59) hx hb d_Mo_draw_46 (by decide) (by omega) (fun hb_14 => ?_) (fun hb_15 => ?_)
        · skip
          refine z_const hx hb d_Mo_draw_59 ?_
          exact z_iret (z := 0) (post := (fun z u => (((0 ≤ p1 ∧ p1 ≤ 59) ∧ (0 ≤ k1 ∧ k1 ≤ 7) ∧ (1 ≤ m1 ∧ m1 ≤ 1000000)) ∧ z = (xDraw sd p1 k1 m1) ∧ u = zU M 0 1 0) ∨ (¬ ((0 ≤ p1 ∧ p1 ≤ 59) ∧ (0 ≤ k1 ∧ k1 ≤ 7) ∧ (1 ≤ m1 ∧ m1 ≤ 1000000)) ∧ u = zU M 0 1 1))) hx hb hr hlk hK hX hS (by omega) (by first | (exfalso; omega) | exact Or.inr ⟨by omega, rfl⟩ | exact Or.inl ⟨by omega, rfl, rfl⟩) d_Mo_draw_60
        · skip
          exfalso
          omega
      · skip
        refine z_const hx hb d_Mo_draw_37 ?_
        refine lv_goto (tgt := 42) hx hb d_Mo_draw_38 (by decide) ?_
        refine z_const hx hb d_Mo_draw_42 ?_
        refine z_callVi hF (m_may l D ad cI sd M 1 1 (by omega) (by omega)) (hK.cV 2 tw_583 tw_580 tw_7 tw_582 ts_28 (by decide +kernel) rfl rfl ⟨Nat.le_of_ble_eq_true rfl, Nat.le_of_ble_eq_true rfl⟩) hK hX hS rfl rfl rfl hl.1 rfl (Nat.le_of_ble_eq_true rfl) d_Mo_draw_43 ⟨Nat.le_of_ble_eq_true rfl, Nat.le_of_ble_eq_true rfl⟩ (fun z u H locs rgz hp hX hS => ?_)
        obtain ⟨hz, hu⟩ := hp
        replace hz : z = 1 := hz.trans (by decide)
        subst hz
        replace hu : u = zU M 0 1 0 := hu.trans (by congr 1)
        rw [hu] at hX
        refine z_if_eq (a := 1) (tgt := 59) hx hb d_Mo_draw_46 (by decide) (by omega) (fun hb_16 => ?_) (fun hb_17 => ?_)
        · skip
          exfalso
          omega
        · skip
          refine lv_aload_n hx hb d_Mo_draw_49 rfl (lv_at hl 0 rfl) ?_
          refine lv_iload_n hx hb d_Mo_draw_50 rfl (lv_at hl 1 rfl) ?_
          refine lv_iload_n hx hb d_Mo_draw_51 rfl (lv_at hl 2 rfl) ?_
          refine lv_iload_n hx hb d_Mo_draw_52 rfl (lv_at hl 3 rfl) ?_
          refine z_callVi hF (m_drawn l D ad cI sd (zU M 0 1 0) p1 k1 m1 (by omega) (by omega) (by omega)) (hK.cV 3 tw_612 tw_609 tw_7 tw_611 ts_31 (by decide +kernel) rfl rfl ⟨Nat.le_of_ble_eq_true rfl, Nat.le_of_ble_eq_true rfl⟩) hK hX hS rfl rfl rfl hl.1 rfl (Nat.le_of_ble_eq_true rfl) d_Mo_draw_53 ⟨Nat.le_of_ble_eq_true rfl, Nat.le_of_ble_eq_true rfl⟩ (fun zo_19 u H locs rg_18 hp hX hS => ?_)
          obtain ⟨ezo_19, hu⟩ := hp
          rw [hu] at hX
          replace ezo_19 : zSame zo_19 (xDraw sd p1 k1 m1) := ezo_19
          refine lv_goto (tgt := 60) hx hb d_Mo_draw_56 (by decide) ?_
          exact z_iret (z := zo_19) (post := (fun z u => (((0 ≤ p1 ∧ p1 ≤ 59) ∧ (0 ≤ k1 ∧ k1 ≤ 7) ∧ (1 ≤ m1 ∧ m1 ≤ 1000000)) ∧ z = (xDraw sd p1 k1 m1) ∧ u = zU M 0 1 0) ∨ (¬ ((0 ≤ p1 ∧ p1 ≤ 59) ∧ (0 ≤ k1 ∧ k1 ≤ 7) ∧ (1 ≤ m1 ∧ m1 ≤ 1000000)) ∧ u = zU M 0 1 1))) hx hb hr hlk hK hX hS (by omega) (by first | (exfalso; omega) | exact Or.inr ⟨by omega, rfl⟩ | exact Or.inl ⟨by omega, ezo_19, rfl⟩) d_Mo_draw_60
set_option maxHeartbeats 4000000 in
set_option maxRecDepth 100000 in
theorem m_at (l : Launch) (D : va_G) (ad : Nat → Nat) (cI : Nat → ClassId) (sd : Int64) (M : zM) (p1 : Int) (g0 : -2147483648 ≤ p1 ∧ p1 ≤ 2147483647) (hO : nOK M) : zMi l y_Mo_at (.code y_Mo_at c_Mo_at 2 (some .int)) { frames := 1, cells := 0, slots := 0, locals := 22 } D (nL sd) ad cI M [.ref (ad 0), .int (zI (p1))] (fun z u => ((0 ≤ p1 ∧ p1 < M 0 16) ∧ z = (M 13 p1) ∧ u = zU M 0 1 0) ∨ (¬ (0 ≤ p1 ∧ p1 < M 0 16) ∧ u = zU M 0 1 1)) := by
  refine z_of (cc := c_Mo_at) (maxL := 2) (ret := some .int) (own := "PersonSeedsModel") (by decide) rfl rfl (Nat.le_of_ble_eq_true rfl) ?_
  intro p e s m below meth c ls hF hr hX hK hl
  obtain ⟨hx, hb, hml, hown, hlk⟩ := id hF
  have hS : va_S (zA ad (nL sd)) s.heap s.heap [] := va_S.rf
  have hl : lv_has ls 2 [(0, .ref (ad 0)), (1, .int (zI (p1)))] := hl
  have o3 := hO.2.2.1
  refine lv_aload_n hx hb d_Mo_at_0 rfl (lv_at hl 0 rfl) ?_
  refine lv_aload_n hx hb d_Mo_at_1 rfl (lv_at hl 0 rfl) ?_
  refine lv_iload_n hx hb d_Mo_at_2 rfl (lv_at hl 1 rfl) ?_
  refine z_callVi hF (m_isPerson l D ad cI sd M p1 (by omega)) (hK.cV 1 tw_657 tw_654 tw_7 tw_656 ts_39 (by decide +kernel) rfl rfl ⟨Nat.le_of_ble_eq_true rfl, Nat.le_of_ble_eq_true rfl⟩) hK hX hS rfl rfl rfl hl.1 rfl (Nat.le_of_ble_eq_true rfl) d_Mo_at_3 ⟨Nat.le_of_ble_eq_true rfl, Nat.le_of_ble_eq_true rfl⟩ (fun z u H locs rg_1 hp hX hS => ?_)
  obtain ⟨hz, hu⟩ := hp
  rw [hu] at hX
  have hz : z = (if 0 ≤ p1 ∧ p1 < (M 0 16) then 1 else 0) := hz
  subst hz
  refine z_const hx hb d_Mo_at_6 ?_
  by_cases hA_2 : 0 ≤ p1 ∧ p1 < (M 0 16)
  · skip
    rw [if_pos hA_2]
    refine z_callVi hF (m_may l D ad cI sd M 1 1 (by omega) (by omega)) (hK.cV 2 tw_583 tw_580 tw_7 tw_582 ts_28 (by decide +kernel) rfl rfl ⟨Nat.le_of_ble_eq_true rfl, Nat.le_of_ble_eq_true rfl⟩) hK hX hS rfl rfl rfl hl.1 rfl (Nat.le_of_ble_eq_true rfl) d_Mo_at_7 ⟨Nat.le_of_ble_eq_true rfl, Nat.le_of_ble_eq_true rfl⟩ (fun z u H locs rgz hp hX hS => ?_)
    obtain ⟨hz, hu⟩ := hp
    replace hz : z = 1 := hz.trans (by decide)
    subst hz
    replace hu : u = zU M 0 1 0 := hu.trans (by congr 1)
    rw [hu] at hX
    refine z_if_eq (a := 1) (tgt := 22) hx hb d_Mo_at_10 (by decide) (by omega) (fun hb_3 => ?_) (fun hb_4 => ?_)
    · skip
      exfalso
      omega
    · skip
      refine lv_aload_n hx hb d_Mo_at_13 rfl (lv_at hl 0 rfl) ?_
      refine z_getr hx hb iw_Mo hown hK hX 0 rfl rfl 18 (by decide) tw_516 (fun _ h => h) 13 rfl d_Mo_at_14 ?_
      refine lv_iload_n hx hb d_Mo_at_17 rfl (lv_at hl 1 rfl) ?_
      refine z_iald (i := p1) (v := M 13 p1) hx hb hK hX 13 rfl (by omega) (by decide) rfl d_Mo_at_18 (fun rg_5 => ?_)
      refine lv_goto (tgt := 23) hx hb d_Mo_at_19 (by decide) ?_
      exact z_iret (z := M 13 p1) (post := (fun z u => ((0 ≤ p1 ∧ p1 < M 0 16) ∧ z = (M 13 p1) ∧ u = zU M 0 1 0) ∨ (¬ (0 ≤ p1 ∧ p1 < M 0 16) ∧ u = zU M 0 1 1))) hx hb hr hlk hK hX hS (by omega) (by first | (exfalso; omega) | exact Or.inr ⟨by omega, rfl⟩ | exact Or.inl ⟨by omega, rfl, rfl⟩) d_Mo_at_23
  · skip
    rw [if_neg hA_2]
    refine z_callVi hF (m_may l D ad cI sd M 0 1 (by omega) (by omega)) (hK.cV 2 tw_583 tw_580 tw_7 tw_582 ts_28 (by decide +kernel) rfl rfl ⟨Nat.le_of_ble_eq_true rfl, Nat.le_of_ble_eq_true rfl⟩) hK hX hS rfl rfl rfl hl.1 rfl (Nat.le_of_ble_eq_true rfl) d_Mo_at_7 ⟨Nat.le_of_ble_eq_true rfl, Nat.le_of_ble_eq_true rfl⟩ (fun z u H locs rgz hp hX hS => ?_)
    obtain ⟨hz, hu⟩ := hp
    replace hz : z = 0 := hz.trans (by decide)
    subst hz
    replace hu : u = zU M 0 1 1 := hu.trans (by congr 1)
    rw [hu] at hX
    refine z_if_eq (a := 0) (tgt := 22) hx hb d_Mo_at_10 (by decide) (by omega) (fun hb_6 => ?_) (fun hb_7 => ?_)
    · skip
      refine z_const hx hb d_Mo_at_22 ?_
      exact z_iret (z := 0) (post := (fun z u => ((0 ≤ p1 ∧ p1 < M 0 16) ∧ z = (M 13 p1) ∧ u = zU M 0 1 0) ∨ (¬ (0 ≤ p1 ∧ p1 < M 0 16) ∧ u = zU M 0 1 1))) hx hb hr hlk hK hX hS (by omega) (by first | (exfalso; omega) | exact Or.inr ⟨by omega, rfl⟩ | exact Or.inl ⟨by omega, rfl, rfl⟩) d_Mo_at_23
    · skip
      exfalso
      omega
set_option maxHeartbeats 4000000 in
set_option maxRecDepth 100000 in
theorem m_waited (l : Launch) (D : va_G) (ad : Nat → Nat) (cI : Nat → ClassId) (sd : Int64) (M : zM) (p1 : Int) (g0 : -2147483648 ≤ p1 ∧ p1 ≤ 2147483647) (hO : nOK M) : zMi l y_Mo_waited (.code y_Mo_waited c_Mo_waited 2 (some .int)) { frames := 1, cells := 0, slots := 0, locals := 22 } D (nL sd) ad cI M [.ref (ad 0), .int (zI (p1))] (fun z u => ((0 ≤ p1 ∧ p1 < M 0 16) ∧ z = (M 14 p1) ∧ u = zU M 0 1 0) ∨ (¬ (0 ≤ p1 ∧ p1 < M 0 16) ∧ u = zU M 0 1 1)) := by
  refine z_of (cc := c_Mo_waited) (maxL := 2) (ret := some .int) (own := "PersonSeedsModel") (by decide) rfl rfl (Nat.le_of_ble_eq_true rfl) ?_
  intro p e s m below meth c ls hF hr hX hK hl
  obtain ⟨hx, hb, hml, hown, hlk⟩ := id hF
  have hS : va_S (zA ad (nL sd)) s.heap s.heap [] := va_S.rf
  have hl : lv_has ls 2 [(0, .ref (ad 0)), (1, .int (zI (p1)))] := hl
  have o3 := hO.2.2.1
  refine lv_aload_n hx hb d_Mo_waited_0 rfl (lv_at hl 0 rfl) ?_
  refine lv_aload_n hx hb d_Mo_waited_1 rfl (lv_at hl 0 rfl) ?_
  refine lv_iload_n hx hb d_Mo_waited_2 rfl (lv_at hl 1 rfl) ?_
  refine z_callVi hF (m_isPerson l D ad cI sd M p1 (by omega)) (hK.cV 1 tw_657 tw_654 tw_7 tw_656 ts_39 (by decide +kernel) rfl rfl ⟨Nat.le_of_ble_eq_true rfl, Nat.le_of_ble_eq_true rfl⟩) hK hX hS rfl rfl rfl hl.1 rfl (Nat.le_of_ble_eq_true rfl) d_Mo_waited_3 ⟨Nat.le_of_ble_eq_true rfl, Nat.le_of_ble_eq_true rfl⟩ (fun z u H locs rg_1 hp hX hS => ?_)
  obtain ⟨hz, hu⟩ := hp
  rw [hu] at hX
  have hz : z = (if 0 ≤ p1 ∧ p1 < (M 0 16) then 1 else 0) := hz
  subst hz
  refine z_const hx hb d_Mo_waited_6 ?_
  by_cases hA_2 : 0 ≤ p1 ∧ p1 < (M 0 16)
  · skip
    rw [if_pos hA_2]
    refine z_callVi hF (m_may l D ad cI sd M 1 1 (by omega) (by omega)) (hK.cV 2 tw_583 tw_580 tw_7 tw_582 ts_28 (by decide +kernel) rfl rfl ⟨Nat.le_of_ble_eq_true rfl, Nat.le_of_ble_eq_true rfl⟩) hK hX hS rfl rfl rfl hl.1 rfl (Nat.le_of_ble_eq_true rfl) d_Mo_waited_7 ⟨Nat.le_of_ble_eq_true rfl, Nat.le_of_ble_eq_true rfl⟩ (fun z u H locs rgz hp hX hS => ?_)
    obtain ⟨hz, hu⟩ := hp
    replace hz : z = 1 := hz.trans (by decide)
    subst hz
    replace hu : u = zU M 0 1 0 := hu.trans (by congr 1)
    rw [hu] at hX
    refine z_if_eq (a := 1) (tgt := 22) hx hb d_Mo_waited_10 (by decide) (by omega) (fun hb_3 => ?_) (fun hb_4 => ?_)
    · skip
      exfalso
      omega
    · skip
      refine lv_aload_n hx hb d_Mo_waited_13 rfl (lv_at hl 0 rfl) ?_
      refine z_getr hx hb iw_Mo hown hK hX 0 rfl rfl 19 (by decide) tw_517 (fun _ h => h) 14 rfl d_Mo_waited_14 ?_
      refine lv_iload_n hx hb d_Mo_waited_17 rfl (lv_at hl 1 rfl) ?_
      refine z_iald (i := p1) (v := M 14 p1) hx hb hK hX 14 rfl (by omega) (by decide) rfl d_Mo_waited_18 (fun rg_5 => ?_)
      refine lv_goto (tgt := 23) hx hb d_Mo_waited_19 (by decide) ?_
      exact z_iret (z := M 14 p1) (post := (fun z u => ((0 ≤ p1 ∧ p1 < M 0 16) ∧ z = (M 14 p1) ∧ u = zU M 0 1 0) ∨ (¬ (0 ≤ p1 ∧ p1 < M 0 16) ∧ u = zU M 0 1 1))) hx hb hr hlk hK hX hS (by omega) (by first | (exfalso; omega) | exact Or.inr ⟨by omega, rfl⟩ | exact Or.inl ⟨by omega, rfl, rfl⟩) d_Mo_waited_23
  · skip
    rw [if_neg hA_2]
    refine z_callVi hF (m_may l D ad cI sd M 0 1 (by omega) (by omega)) (hK.cV 2 tw_583 tw_580 tw_7 tw_582 ts_28 (by decide +kernel) rfl rfl ⟨Nat.le_of_ble_eq_true rfl, Nat.le_of_ble_eq_true rfl⟩) hK hX hS rfl rfl rfl hl.1 rfl (Nat.le_of_ble_eq_true rfl) d_Mo_waited_7 ⟨Nat.le_of_ble_eq_true rfl, Nat.le_of_ble_eq_true rfl⟩ (fun z u H locs rgz hp hX hS => ?_)
    obtain ⟨hz, hu⟩ := hp
    replace hz : z = 0 := hz.trans (by decide)
    subst hz
    replace hu : u = zU M 0 1 1 := hu.trans (by congr 1)
    rw [hu] at hX
    refine z_if_eq (a := 0) (tgt := 22) hx hb d_Mo_waited_10 (by decide) (by omega) (fun hb_6 => ?_) (fun hb_7 => ?_)
    · skip
      refine z_const hx hb d_Mo_waited_22 ?_
      exact z_iret (z := 0) (post := (fun z u => ((0 ≤ p1 ∧ p1 < M 0 16) ∧ z = (M 14 p1) ∧ u = zU M 0 1 0) ∨ (¬ (0 ≤ p1 ∧ p1 < M 0 16) ∧ u = zU M 0 1 1))) hx hb hr hlk hK hX hS (by omega) (by first | (exfalso; omega) | exact Or.inr ⟨by omega, rfl⟩ | exact Or.inl ⟨by omega, rfl, rfl⟩) d_Mo_waited_23
    · skip
      exfalso
      omega
set_option maxHeartbeats 4000000 in
set_option maxRecDepth 100000 in
theorem m_was (l : Launch) (D : va_G) (ad : Nat → Nat) (cI : Nat → ClassId) (sd : Int64) (M : zM) (p1 t : Int) (g0 : -2147483648 ≤ p1 ∧ p1 ≤ 2147483647) (g1 : -2147483648 ≤ t ∧ t ≤ 2147483647) (hO : nOK M) : zMi l y_Mo_was (.code y_Mo_was c_Mo_was 3 (some .int)) { frames := 1, cells := 0, slots := 0, locals := 22 } D (nL sd) ad cI M [.ref (ad 0), .int (zI (p1)), .int (zI (t))] (fun z u => (((0 ≤ p1 ∧ p1 < M 0 16) ∧ (0 ≤ t ∧ t < M 0 2)) ∧ z = (M 15 (2000 * p1 + t)) ∧ u = zU M 0 1 0) ∨ (¬ ((0 ≤ p1 ∧ p1 < M 0 16) ∧ (0 ≤ t ∧ t < M 0 2)) ∧ u = zU M 0 1 1)) := by
  refine z_of (cc := c_Mo_was) (maxL := 3) (ret := some .int) (own := "PersonSeedsModel") (by decide) rfl rfl (Nat.le_of_ble_eq_true rfl) ?_
  intro p e s m below meth c ls hF hr hX hK hl
  obtain ⟨hx, hb, hml, hown, hlk⟩ := id hF
  have hS : va_S (zA ad (nL sd)) s.heap s.heap [] := va_S.rf
  have hl : lv_has ls 3 [(0, .ref (ad 0)), (1, .int (zI (p1))), (2, .int (zI (t)))] := hl
  have o3 := hO.2.2.1
  have o4 := hO.2.2.2.1
  refine lv_aload_n hx hb d_Mo_was_0 rfl (lv_at hl 0 rfl) ?_
  refine lv_aload_n hx hb d_Mo_was_1 rfl (lv_at hl 0 rfl) ?_
  refine lv_iload_n hx hb d_Mo_was_2 rfl (lv_at hl 1 rfl) ?_
  refine z_callVi hF (m_isPerson l D ad cI sd M p1 (by omega)) (hK.cV 1 tw_657 tw_654 tw_7 tw_656 ts_39 (by decide +kernel) rfl rfl ⟨Nat.le_of_ble_eq_true rfl, Nat.le_of_ble_eq_true rfl⟩) hK hX hS rfl rfl rfl hl.1 rfl (Nat.le_of_ble_eq_true rfl) d_Mo_was_3 ⟨Nat.le_of_ble_eq_true rfl, Nat.le_of_ble_eq_true rfl⟩ (fun z u H locs rg_1 hp hX hS => ?_)
  obtain ⟨hz, hu⟩ := hp
  rw [hu] at hX
  have hz : z = (if 0 ≤ p1 ∧ p1 < (M 0 16) then 1 else 0) := hz
  subst hz
  refine z_if_eq (a := if 0 ≤ p1 ∧ p1 < (M 0 16) then 1 else 0) (tgt := 21) hx hb d_Mo_was_6 (by decide) (by omega) (fun hb_2 => ?_) (fun hb_3 => ?_)
  · skip
    refine z_const hx hb d_Mo_was_21 ?_
    refine z_const hx hb d_Mo_was_22 ?_
    refine z_callVi hF (m_may l D ad cI sd M 0 1 (by omega) (by omega)) (hK.cV 2 tw_583 tw_580 tw_7 tw_582 ts_28 (by decide +kernel) rfl rfl ⟨Nat.le_of_ble_eq_true rfl, Nat.le_of_ble_eq_true rfl⟩) hK hX hS rfl rfl rfl hl.1 rfl (Nat.le_of_ble_eq_true rfl) d_Mo_was_23 ⟨Nat.le_of_ble_eq_true rfl, Nat.le_of_ble_eq_true rfl⟩ (fun z u H locs rgz hp hX hS => ?_)
    obtain ⟨hz, hu⟩ := hp
    replace hz : z = 0 := hz.trans (by decide)
    subst hz
    replace hu : u = zU M 0 1 1 := hu.trans (by congr 1)
    rw [hu] at hX
    refine z_if_eq (a := 0) (tgt := 44) hx hb d_Mo_was_26 (by decide) (by omega) (fun hb_4 => ?_) (fun hb_5 => ?_)
    · skip
      refine z_const hx hb d_Mo_was_44 ?_
      exact z_iret (z := 0) (post := (fun z u => (((0 ≤ p1 ∧ p1 < M 0 16) ∧ (0 ≤ t ∧ t < M 0 2)) ∧ z = (M 15 (2000 * p1 + t)) ∧ u = zU M 0 1 0) ∨ (¬ ((0 ≤ p1 ∧ p1 < M 0 16) ∧ (0 ≤ t ∧ t < M 0 2)) ∧ u = zU M 0 1 1))) hx hb hr hlk hK hX hS (by omega) (by first | (exfalso; omega) | exact Or.inr ⟨by omega, rfl⟩ | exact Or.inl ⟨by omega, rfl, rfl⟩) d_Mo_was_45
    · skip
      exfalso
      omega
  · skip
    refine lv_aload_n hx hb d_Mo_was_9 rfl (lv_at hl 0 rfl) ?_
    refine lv_iload_n hx hb d_Mo_was_10 rfl (lv_at hl 2 rfl) ?_
    refine z_callVi hF (m_isOver l D ad cI sd M t (by omega)) (hK.cV 1 tw_670 tw_667 tw_7 tw_669 ts_40 (by decide +kernel) rfl rfl ⟨Nat.le_of_ble_eq_true rfl, Nat.le_of_ble_eq_true rfl⟩) hK hX hS rfl rfl rfl hl.1 rfl (Nat.le_of_ble_eq_true rfl) d_Mo_was_11 ⟨Nat.le_of_ble_eq_true rfl, Nat.le_of_ble_eq_true rfl⟩ (fun z u H locs rg_6 hp hX hS => ?_)
    obtain ⟨hz, hu⟩ := hp
    rw [hu] at hX
    have hz : z = (if 0 ≤ t ∧ t < (M 0 2) then 1 else 0) := hz
    subst hz
    refine z_if_eq (a := if 0 ≤ t ∧ t < (M 0 2) then 1 else 0) (tgt := 21) hx hb d_Mo_was_14 (by decide) (by omega) (fun hb_7 => ?_) (fun hb_8 => ?_)
    · skip
      refine z_const hx hb d_Mo_was_21 ?_
      refine z_const hx hb d_Mo_was_22 ?_
      refine z_callVi hF (m_may l D ad cI sd M 0 1 (by omega) (by omega)) (hK.cV 2 tw_583 tw_580 tw_7 tw_582 ts_28 (by decide +kernel) rfl rfl ⟨Nat.le_of_ble_eq_true rfl, Nat.le_of_ble_eq_true rfl⟩) hK hX hS rfl rfl rfl hl.1 rfl (Nat.le_of_ble_eq_true rfl) d_Mo_was_23 ⟨Nat.le_of_ble_eq_true rfl, Nat.le_of_ble_eq_true rfl⟩ (fun z u H locs rgz hp hX hS => ?_)
      obtain ⟨hz, hu⟩ := hp
      replace hz : z = 0 := hz.trans (by decide)
      subst hz
      replace hu : u = zU M 0 1 1 := hu.trans (by congr 1)
      rw [hu] at hX
      refine z_if_eq (a := 0) (tgt := 44) hx hb d_Mo_was_26 (by decide) (by omega) (fun hb_9 => ?_) (fun hb_10 => ?_)
      · skip
        refine z_const hx hb d_Mo_was_44 ?_
        exact z_iret (z := 0) (post := (fun z u => (((0 ≤ p1 ∧ p1 < M 0 16) ∧ (0 ≤ t ∧ t < M 0 2)) ∧ z = (M 15 (2000 * p1 + t)) ∧ u = zU M 0 1 0) ∨ (¬ ((0 ≤ p1 ∧ p1 < M 0 16) ∧ (0 ≤ t ∧ t < M 0 2)) ∧ u = zU M 0 1 1))) hx hb hr hlk hK hX hS (by omega) (by first | (exfalso; omega) | exact Or.inr ⟨by omega, rfl⟩ | exact Or.inl ⟨by omega, rfl, rfl⟩) d_Mo_was_45
      · skip
        exfalso
        omega
    · skip
      refine z_const hx hb d_Mo_was_17 ?_
      refine lv_goto (tgt := 22) hx hb d_Mo_was_18 (by decide) ?_
      refine z_const hx hb d_Mo_was_22 ?_
      refine z_callVi hF (m_may l D ad cI sd M 1 1 (by omega) (by omega)) (hK.cV 2 tw_583 tw_580 tw_7 tw_582 ts_28 (by decide +kernel) rfl rfl ⟨Nat.le_of_ble_eq_true rfl, Nat.le_of_ble_eq_true rfl⟩) hK hX hS rfl rfl rfl hl.1 rfl (Nat.le_of_ble_eq_true rfl) d_Mo_was_23 ⟨Nat.le_of_ble_eq_true rfl, Nat.le_of_ble_eq_true rfl⟩ (fun z u H locs rgz hp hX hS => ?_)
      obtain ⟨hz, hu⟩ := hp
      replace hz : z = 1 := hz.trans (by decide)
      subst hz
      replace hu : u = zU M 0 1 0 := hu.trans (by congr 1)
      rw [hu] at hX
      refine z_if_eq (a := 1) (tgt := 44) hx hb d_Mo_was_26 (by decide) (by omega) (fun hb_11 => ?_) (fun hb_12 => ?_)
      · skip
        exfalso
        omega
      · skip
        refine lv_aload_n hx hb d_Mo_was_29 rfl (lv_at hl 0 rfl) ?_
        refine z_getr hx hb iw_Mo hown hK hX 0 rfl rfl 20 (by decide) tw_518 (fun _ h => h) 15 rfl d_Mo_was_30 ?_
        refine z_sipush hx hb d_Mo_was_33 (by decide) ?_
        refine lv_iload_n hx hb d_Mo_was_36 rfl (lv_at hl 1 rfl) ?_
        refine z_imul hx hb d_Mo_was_37 ?_
        refine lv_iload_n hx hb d_Mo_was_38 rfl (lv_at hl 2 rfl) ?_
        refine z_iadd hx hb d_Mo_was_39 ?_
        refine z_bald (i := (2000 * p1) + t) (v := M 15 ((2000 * p1) + t)) hx hb hK hX 15 rfl (by omega) (by decide) rfl d_Mo_was_40 (fun rg_13 => ?_)
        refine lv_goto (tgt := 45) hx hb d_Mo_was_41 (by decide) ?_
        exact z_iret (z := M 15 ((2000 * p1) + t)) (post := (fun z u => (((0 ≤ p1 ∧ p1 < M 0 16) ∧ (0 ≤ t ∧ t < M 0 2)) ∧ z = (M 15 (2000 * p1 + t)) ∧ u = zU M 0 1 0) ∨ (¬ ((0 ≤ p1 ∧ p1 < M 0 16) ∧ (0 ≤ t ∧ t < M 0 2)) ∧ u = zU M 0 1 1))) hx hb hr hlk hK hX hS (by omega) (by first | (exfalso; omega) | exact Or.inr ⟨by omega, rfl⟩ | exact Or.inl ⟨by omega, rfl, rfl⟩) d_Mo_was_45
set_option maxHeartbeats 4000000 in
set_option maxRecDepth 100000 in
theorem m_in (l : Launch) (D : va_G) (ad : Nat → Nat) (cI : Nat → ClassId) (sd : Int64) (M : zM) (r what : Int) (g0 : -2147483648 ≤ r ∧ r ≤ 2147483647) (g1 : -2147483648 ≤ what ∧ what ≤ 2147483647) (hO : nOK M) : zMi l y_Mo_in (.code y_Mo_in c_Mo_in 3 (some .int)) { frames := 1, cells := 0, slots := 0, locals := 25 } D (nL sd) ad cI M [.ref (ad 0), .int (zI (r)), .int (zI (what))] (fun z u => (((0 ≤ r ∧ r < M 0 3) ∧ (0 ≤ what ∧ what ≤ 2)) ∧ z = (nIn M r what) ∧ u = zU M 0 1 0) ∨ (¬ ((0 ≤ r ∧ r < M 0 3) ∧ (0 ≤ what ∧ what ≤ 2)) ∧ u = zU M 0 1 1)) := by
  refine z_of (cc := c_Mo_in) (maxL := 3) (ret := some .int) (own := "PersonSeedsModel") (by decide) rfl rfl (Nat.le_of_ble_eq_true rfl) ?_
  intro p e s m below meth c ls hF hr hX hK hl
  obtain ⟨hx, hb, hml, hown, hlk⟩ := id hF
  have hS : va_S (zA ad (nL sd)) s.heap s.heap [] := va_S.rf
  have hl : lv_has ls 3 [(0, .ref (ad 0)), (1, .int (zI (r))), (2, .int (zI (what)))] := hl
  have o1 := hO.1
  refine lv_aload_n hx hb d_Mo_in_0 rfl (lv_at hl 0 rfl) ?_
  refine lv_aload_n hx hb d_Mo_in_1 rfl (lv_at hl 0 rfl) ?_
  refine lv_iload_n hx hb d_Mo_in_2 rfl (lv_at hl 1 rfl) ?_
  refine z_callVi hF (m_isRoom l D ad cI sd M r (by omega)) (hK.cV 1 tw_591 tw_588 tw_7 tw_590 ts_29 (by decide +kernel) rfl rfl ⟨Nat.le_of_ble_eq_true rfl, Nat.le_of_ble_eq_true rfl⟩) hK hX hS rfl rfl rfl hl.1 rfl (Nat.le_of_ble_eq_true rfl) d_Mo_in_3 ⟨Nat.le_of_ble_eq_true rfl, Nat.le_of_ble_eq_true rfl⟩ (fun z u H locs rg_1 hp hX hS => ?_)
  obtain ⟨hz, hu⟩ := hp
  rw [hu] at hX
  have hz : z = (if 0 ≤ r ∧ r < (M 0 3) then 1 else 0) := hz
  subst hz
  refine z_if_eq (a := if 0 ≤ r ∧ r < (M 0 3) then 1 else 0) (tgt := 25) hx hb d_Mo_in_6 (by decide) (by omega) (fun hb_2 => ?_) (fun hb_3 => ?_)
  · skip
    refine z_const hx hb d_Mo_in_25 ?_
    refine z_const hx hb d_Mo_in_26 ?_
    refine z_callVi hF (m_may l D ad cI sd M 0 1 (by omega) (by omega)) (hK.cV 2 tw_583 tw_580 tw_7 tw_582 ts_28 (by decide +kernel) rfl rfl ⟨Nat.le_of_ble_eq_true rfl, Nat.le_of_ble_eq_true rfl⟩) hK hX hS rfl rfl rfl hl.1 rfl (Nat.le_of_ble_eq_true rfl) d_Mo_in_27 ⟨Nat.le_of_ble_eq_true rfl, Nat.le_of_ble_eq_true rfl⟩ (fun z u H locs rgz hp hX hS => ?_)
    obtain ⟨hz, hu⟩ := hp
    replace hz : z = 0 := hz.trans (by decide)
    subst hz
    replace hu : u = zU M 0 1 1 := hu.trans (by congr 1)
    rw [hu] at hX
    refine z_if_ne (a := 0) (tgt := 35) hx hb d_Mo_in_30 (by decide) (by omega) (fun hb_4 => ?_) (fun hb_5 => ?_)
    · skip
      exfalso
      omega
    · skip
      refine z_const hx hb d_Mo_in_33 ?_
      exact z_iret (z := 0) (post := (fun z u => (((0 ≤ r ∧ r < M 0 3) ∧ (0 ≤ what ∧ what ≤ 2)) ∧ z = (nIn M r what) ∧ u = zU M 0 1 0) ∨ (¬ ((0 ≤ r ∧ r < M 0 3) ∧ (0 ≤ what ∧ what ≤ 2)) ∧ u = zU M 0 1 1))) hx hb hr hlk hK hX hS (by omega) (by first | (exfalso; omega) | exact Or.inr ⟨by omega, rfl⟩ | exact Or.inl ⟨by omega, by unfold nIn; (repeat' split) <;> first | rfl | omega, rfl⟩) d_Mo_in_34
  · skip
    refine lv_iload_n hx hb d_Mo_in_9 rfl (lv_at hl 2 rfl) ?_
    refine z_i2l (a := what) hx hb (by omega) d_Mo_in_10 ?_
    refine z_lconst (v := 0) hx hb d_Mo_in_11 (by decide) ?_
    refine z_ldcl (v := 2) hx hb hown hK tw_679 (by decide) d_Mo_in_12 ?_
    refine z_callSi hF (m_within l D ad cI sd M what 0 2 (by omega) (by omega) (by omega)) (hK.cS 3 tw_579 tw_577 tw_7 tw_578 (by decide +kernel) rfl rfl ⟨Nat.le_of_ble_eq_true rfl, Nat.le_of_ble_eq_true rfl⟩) hK hX hS rfl hl.1 rfl (Nat.le_of_ble_eq_true rfl) d_Mo_in_15 ⟨Nat.le_of_ble_eq_true rfl, Nat.le_of_ble_eq_true rfl⟩ (fun z u H locs rg_6 hp hX hS => ?_)
    obtain ⟨hz, hu⟩ := hp
    rw [hu] at hX
    have hz : z = (if 0 ≤ what ∧ what ≤ 2 then 1 else 0) := hz
    subst hz
    refine z_if_eq (a := if 0 ≤ what ∧ what ≤ 2 then 1 else 0) (tgt := 25) hx hb d_Mo_in_18 (by decide) (by omega) (fun hb_7 => ?_) (fun hb_8 => ?_)
    · skip
      refine z_const hx hb d_Mo_in_25 ?_
      refine z_const hx hb d_Mo_in_26 ?_
      refine z_callVi hF (m_may l D ad cI sd M 0 1 (by omega) (by omega)) (hK.cV 2 tw_583 tw_580 tw_7 tw_582 ts_28 (by decide +kernel) rfl rfl ⟨Nat.le_of_ble_eq_true rfl, Nat.le_of_ble_eq_true rfl⟩) hK hX hS rfl rfl rfl hl.1 rfl (Nat.le_of_ble_eq_true rfl) d_Mo_in_27 ⟨Nat.le_of_ble_eq_true rfl, Nat.le_of_ble_eq_true rfl⟩ (fun z u H locs rgz hp hX hS => ?_)
      obtain ⟨hz, hu⟩ := hp
      replace hz : z = 0 := hz.trans (by decide)
      subst hz
      replace hu : u = zU M 0 1 1 := hu.trans (by congr 1)
      rw [hu] at hX
      refine z_if_ne (a := 0) (tgt := 35) hx hb d_Mo_in_30 (by decide) (by omega) (fun hb_9 => ?_) (fun hb_10 => ?_)
      · skip
        exfalso
        omega
      · skip
        refine z_const hx hb d_Mo_in_33 ?_
        exact z_iret (z := 0) (post := (fun z u => (((0 ≤ r ∧ r < M 0 3) ∧ (0 ≤ what ∧ what ≤ 2)) ∧ z = (nIn M r what) ∧ u = zU M 0 1 0) ∨ (¬ ((0 ≤ r ∧ r < M 0 3) ∧ (0 ≤ what ∧ what ≤ 2)) ∧ u = zU M 0 1 1))) hx hb hr hlk hK hX hS (by omega) (by first | (exfalso; omega) | exact Or.inr ⟨by omega, rfl⟩ | exact Or.inl ⟨by omega, by unfold nIn; (repeat' split) <;> first | rfl | omega, rfl⟩) d_Mo_in_34
    · skip
      refine z_const hx hb d_Mo_in_21 ?_
      refine lv_goto (tgt := 26) hx hb d_Mo_in_22 (by decide) ?_
      refine z_const hx hb d_Mo_in_26 ?_
      refine z_callVi hF (m_may l D ad cI sd M 1 1 (by omega) (by omega)) (hK.cV 2 tw_583 tw_580 tw_7 tw_582 ts_28 (by decide +kernel) rfl rfl ⟨Nat.le_of_ble_eq_true rfl, Nat.le_of_ble_eq_true rfl⟩) hK hX hS rfl rfl rfl hl.1 rfl (Nat.le_of_ble_eq_true rfl) d_Mo_in_27 ⟨Nat.le_of_ble_eq_true rfl, Nat.le_of_ble_eq_true rfl⟩ (fun z u H locs rgz hp hX hS => ?_)
      obtain ⟨hz, hu⟩ := hp
      replace hz : z = 1 := hz.trans (by decide)
      subst hz
      replace hu : u = zU M 0 1 0 := hu.trans (by congr 1)
      rw [hu] at hX
      refine z_if_ne (a := 1) (tgt := 35) hx hb d_Mo_in_30 (by decide) (by omega) (fun hb_11 => ?_) (fun hb_12 => ?_)
      · skip
        refine lv_iload_n hx hb d_Mo_in_35 rfl (lv_at hl 2 rfl) ?_
        refine z_if_ne (a := what) (tgt := 48) hx hb d_Mo_in_36 (by decide) (by omega) (fun hb_13 => ?_) (fun hb_14 => ?_)
        · skip
          refine lv_iload_n hx hb d_Mo_in_48 rfl (lv_at hl 2 rfl) ?_
          refine z_const hx hb d_Mo_in_49 ?_
          refine z_icmp_ne (a := what) (b := 1) (tgt := 62) hx hb d_Mo_in_50 (by decide) (by omega) (fun hb_15 => ?_) (fun hb_16 => ?_)
          · skip
            refine lv_aload_n hx hb d_Mo_in_62 rfl (lv_at hl 0 rfl) ?_
            refine z_getr hx hb iw_Mo hown hK hX 0 rfl rfl 7 (by decide) tw_505 (fun _ h => h) 4 rfl d_Mo_in_63 ?_
            refine lv_iload_n hx hb d_Mo_in_66 rfl (lv_at hl 1 rfl) ?_
            refine z_iald (i := r) (v := M 4 r) hx hb hK hX 4 rfl (by omega) (by decide) rfl d_Mo_in_67 (fun rg_17 => ?_)
            exact z_iret (z := M 4 r) (post := (fun z u => (((0 ≤ r ∧ r < M 0 3) ∧ (0 ≤ what ∧ what ≤ 2)) ∧ z = (nIn M r what) ∧ u = zU M 0 1 0) ∨ (¬ ((0 ≤ r ∧ r < M 0 3) ∧ (0 ≤ what ∧ what ≤ 2)) ∧ u = zU M 0 1 1))) hx hb hr hlk hK hX hS (by omega) (by first | (exfalso; omega) | exact Or.inr ⟨by omega, rfl⟩ | exact Or.inl ⟨by omega, by unfold nIn; (repeat' split) <;> first | rfl | omega, rfl⟩) d_Mo_in_68
          · skip
            refine lv_aload_n hx hb d_Mo_in_53 rfl (lv_at hl 0 rfl) ?_
            refine z_getr hx hb iw_Mo hown hK hX 0 rfl rfl 6 (by decide) tw_504 (fun _ h => h) 3 rfl d_Mo_in_54 ?_
            refine lv_iload_n hx hb d_Mo_in_57 rfl (lv_at hl 1 rfl) ?_
            refine z_iald (i := r) (v := M 3 r) hx hb hK hX 3 rfl (by omega) (by decide) rfl d_Mo_in_58 (fun rg_18 => ?_)
            refine lv_goto (tgt := 68) hx hb d_Mo_in_59 (by decide) ?_
            exact z_iret (z := M 3 r) (post := (fun z u => (((0 ≤ r ∧ r < M 0 3) ∧ (0 ≤ what ∧ what ≤ 2)) ∧ z = (nIn M r what) ∧ u = zU M 0 1 0) ∨ (¬ ((0 ≤ r ∧ r < M 0 3) ∧ (0 ≤ what ∧ what ≤ 2)) ∧ u = zU M 0 1 1))) hx hb hr hlk hK hX hS (by omega) (by first | (exfalso; omega) | exact Or.inr ⟨by omega, rfl⟩ | exact Or.inl ⟨by omega, by unfold nIn; (repeat' split) <;> first | rfl | omega, rfl⟩) d_Mo_in_68
        · skip
          refine lv_aload_n hx hb d_Mo_in_39 rfl (lv_at hl 0 rfl) ?_
          refine z_getr hx hb iw_Mo hown hK hX 0 rfl rfl 5 (by decide) tw_503 (fun _ h => h) 2 rfl d_Mo_in_40 ?_
          refine lv_iload_n hx hb d_Mo_in_43 rfl (lv_at hl 1 rfl) ?_
          refine z_iald (i := r) (v := M 2 r) hx hb hK hX 2 rfl (by omega) (by decide) rfl d_Mo_in_44 (fun rg_19 => ?_)
          refine lv_goto (tgt := 68) hx hb d_Mo_in_45 (by decide) ?_
          exact z_iret (z := M 2 r) (post := (fun z u => (((0 ≤ r ∧ r < M 0 3) ∧ (0 ≤ what ∧ what ≤ 2)) ∧ z = (nIn M r what) ∧ u = zU M 0 1 0) ∨ (¬ ((0 ≤ r ∧ r < M 0 3) ∧ (0 ≤ what ∧ what ≤ 2)) ∧ u = zU M 0 1 1))) hx hb hr hlk hK hX hS (by omega) (by first | (exfalso; omega) | exact Or.inr ⟨by omega, rfl⟩ | exact Or.inl ⟨by omega, by unfold nIn; (repeat' split) <;> first | rfl | omega, rfl⟩) d_Mo_in_68
      · skip
        exfalso
        omega
set_option maxHeartbeats 4000000 in
set_option maxRecDepth 100000 in
theorem m_through (l : Launch) (D : va_G) (ad : Nat → Nat) (cI : Nat → ClassId) (sd : Int64) (M : zM) (d on : Int) (g0 : -2147483648 ≤ d ∧ d ≤ 2147483647) (g1 : -2147483648 ≤ on ∧ on ≤ 2147483647) (hO : nOK M) : zMi l y_Mo_through (.code y_Mo_through c_Mo_through 3 (some .int)) { frames := 1, cells := 0, slots := 0, locals := 25 } D (nL sd) ad cI M [.ref (ad 0), .int (zI (d)), .int (zI (on))] (fun z u => ((0 ≤ d ∧ d < M 0 9) ∧ z = (if on = 0 then M 11 d else M 10 d) ∧ u = zU M 0 1 0) ∨ (¬ (0 ≤ d ∧ d < M 0 9) ∧ u = zU M 0 1 1)) := by
  refine z_of (cc := c_Mo_through) (maxL := 3) (ret := some .int) (own := "PersonSeedsModel") (by decide) rfl rfl (Nat.le_of_ble_eq_true rfl) ?_
  intro p e s m below meth c ls hF hr hX hK hl
  obtain ⟨hx, hb, hml, hown, hlk⟩ := id hF
  have hS : va_S (zA ad (nL sd)) s.heap s.heap [] := va_S.rf
  have hl : lv_has ls 3 [(0, .ref (ad 0)), (1, .int (zI (d))), (2, .int (zI (on)))] := hl
  have o2 := hO.2.1
  refine lv_aload_n hx hb d_Mo_through_0 rfl (lv_at hl 0 rfl) ?_
  refine lv_iload_n hx hb d_Mo_through_1 rfl (lv_at hl 1 rfl) ?_
  refine z_i2l (a := d) hx hb (by omega) d_Mo_through_2 ?_
  refine z_lconst (v := 0) hx hb d_Mo_through_3 (by decide) ?_
  refine lv_aload_n hx hb d_Mo_through_4 rfl (lv_at hl 0 rfl) ?_
  refine z_geti (i := 9) (v := M 0 9) hx hb iw_Mo hown hK hX 0 rfl rfl 9 (by decide) tw_507 (fun _ h => h) rfl rfl rfl d_Mo_through_5 (fun rg_1 => ?_)
  refine z_i2l (a := M 0 9) hx hb (by omega) d_Mo_through_8 ?_
  refine z_lconst (v := 1) hx hb d_Mo_through_9 (by decide) ?_
  refine z_lsub hx hb d_Mo_through_10 ?_
  refine z_callSi hF (m_within l D ad cI sd M d 0 ((M 0 9) - 1) (by omega) (by omega) (by omega)) (hK.cS 3 tw_579 tw_577 tw_7 tw_578 (by decide +kernel) rfl rfl ⟨Nat.le_of_ble_eq_true rfl, Nat.le_of_ble_eq_true rfl⟩) hK hX hS rfl hl.1 rfl (Nat.le_of_ble_eq_true rfl) d_Mo_through_11 ⟨Nat.le_of_ble_eq_true rfl, Nat.le_of_ble_eq_true rfl⟩ (fun z u H locs rg_2 hp hX hS => ?_)
  obtain ⟨hz, hu⟩ := hp
  rw [hu] at hX
  have hz : z = (if 0 ≤ d ∧ d ≤ ((M 0 9) - 1) then 1 else 0) := hz
  subst hz
  refine z_const hx hb d_Mo_through_14 ?_
  by_cases hA_3 : 0 ≤ d ∧ d ≤ ((M 0 9) - 1)
  · skip
    rw [if_pos hA_3]
    refine z_callVi hF (m_may l D ad cI sd M 1 1 (by omega) (by omega)) (hK.cV 2 tw_583 tw_580 tw_7 tw_582 ts_28 (by decide +kernel) rfl rfl ⟨Nat.le_of_ble_eq_true rfl, Nat.le_of_ble_eq_true rfl⟩) hK hX hS rfl rfl rfl hl.1 rfl (Nat.le_of_ble_eq_true rfl) d_Mo_through_15 ⟨Nat.le_of_ble_eq_true rfl, Nat.le_of_ble_eq_true rfl⟩ (fun z u H locs rgz hp hX hS => ?_)
    obtain ⟨hz, hu⟩ := hp
    replace hz : z = 1 := hz.trans (by decide)
    subst hz
    replace hu : u = zU M 0 1 0 := hu.trans (by congr 1)
    rw [hu] at hX
    refine z_if_eq (a := 1) (tgt := 43) hx hb d_Mo_through_18 (by decide) (by omega) (fun hb_4 => ?_) (fun hb_5 => ?_)
    · skip
      exfalso
      omega
    · skip
      refine lv_iload_n hx hb d_Mo_through_21 rfl (lv_at hl 2 rfl) ?_
      refine z_if_eq (a := on) (tgt := 34) hx hb d_Mo_through_22 (by decide) (by omega) (fun hb_6 => ?_) (fun hb_7 => ?_)
      · skip
        refine lv_aload_n hx hb d_Mo_through_34 rfl (lv_at hl 0 rfl) ?_
        refine z_getr hx hb iw_Mo hown hK hX 0 rfl rfl 15 (by decide) tw_513 (fun _ h => h) 11 rfl d_Mo_through_35 ?_
        refine lv_iload_n hx hb d_Mo_through_38 rfl (lv_at hl 1 rfl) ?_
        refine z_iald (i := d) (v := M 11 d) hx hb hK hX 11 rfl (by omega) (by decide) rfl d_Mo_through_39 (fun rg_8 => ?_)
        refine lv_goto (tgt := 44) hx hb d_Mo_through_40 (by decide) ?_
        exact z_iret (z := M 11 d) (post := (fun z u => ((0 ≤ d ∧ d < M 0 9) ∧ z = (if on = 0 then M 11 d else M 10 d) ∧ u = zU M 0 1 0) ∨ (¬ (0 ≤ d ∧ d < M 0 9) ∧ u = zU M 0 1 1))) hx hb hr hlk hK hX hS (by omega) (by first | (exfalso; omega) | exact Or.inr ⟨by omega, rfl⟩ | exact Or.inl ⟨by omega, by split <;> first | rfl | omega, rfl⟩) d_Mo_through_44
      · skip
        refine lv_aload_n hx hb d_Mo_through_25 rfl (lv_at hl 0 rfl) ?_
        refine z_getr hx hb iw_Mo hown hK hX 0 rfl rfl 14 (by decide) tw_512 (fun _ h => h) 10 rfl d_Mo_through_26 ?_
        refine lv_iload_n hx hb d_Mo_through_29 rfl (lv_at hl 1 rfl) ?_
        refine z_iald (i := d) (v := M 10 d) hx hb hK hX 10 rfl (by omega) (by decide) rfl d_Mo_through_30 (fun rg_9 => ?_)
        refine lv_goto (tgt := 44) hx hb d_Mo_through_31 (by decide) ?_
        exact z_iret (z := M 10 d) (post := (fun z u => ((0 ≤ d ∧ d < M 0 9) ∧ z = (if on = 0 then M 11 d else M 10 d) ∧ u = zU M 0 1 0) ∨ (¬ (0 ≤ d ∧ d < M 0 9) ∧ u = zU M 0 1 1))) hx hb hr hlk hK hX hS (by omega) (by first | (exfalso; omega) | exact Or.inr ⟨by omega, rfl⟩ | exact Or.inl ⟨by omega, by split <;> first | rfl | omega, rfl⟩) d_Mo_through_44
  · skip
    rw [if_neg hA_3]
    refine z_callVi hF (m_may l D ad cI sd M 0 1 (by omega) (by omega)) (hK.cV 2 tw_583 tw_580 tw_7 tw_582 ts_28 (by decide +kernel) rfl rfl ⟨Nat.le_of_ble_eq_true rfl, Nat.le_of_ble_eq_true rfl⟩) hK hX hS rfl rfl rfl hl.1 rfl (Nat.le_of_ble_eq_true rfl) d_Mo_through_15 ⟨Nat.le_of_ble_eq_true rfl, Nat.le_of_ble_eq_true rfl⟩ (fun z u H locs rgz hp hX hS => ?_)
    obtain ⟨hz, hu⟩ := hp
    replace hz : z = 0 := hz.trans (by decide)
    subst hz
    replace hu : u = zU M 0 1 1 := hu.trans (by congr 1)
    rw [hu] at hX
    refine z_if_eq (a := 0) (tgt := 43) hx hb d_Mo_through_18 (by decide) (by omega) (fun hb_10 => ?_) (fun hb_11 => ?_)
    · skip
      refine z_const hx hb d_Mo_through_43 ?_
      exact z_iret (z := 0) (post := (fun z u => ((0 ≤ d ∧ d < M 0 9) ∧ z = (if on = 0 then M 11 d else M 10 d) ∧ u = zU M 0 1 0) ∨ (¬ (0 ≤ d ∧ d < M 0 9) ∧ u = zU M 0 1 1))) hx hb hr hlk hK hX hS (by omega) (by first | (exfalso; omega) | exact Or.inr ⟨by omega, rfl⟩ | exact Or.inl ⟨by omega, by split <;> first | rfl | omega, rfl⟩) d_Mo_through_44
    · skip
      exfalso
      omega
set_option maxHeartbeats 4000000 in
set_option maxRecDepth 100000 in
theorem m_distance (l : Launch) (D : va_G) (ad : Nat → Nat) (cI : Nat → ClassId) (sd : Int64) (M : zM) (a b : Int) (g0 : -2147483648 ≤ a ∧ a ≤ 2147483647) (g1 : -2147483648 ≤ b ∧ b ≤ 2147483647) (hO : nOK M) : zMi l y_Mo_distance (.code y_Mo_distance c_Mo_distance 3 (some .int)) { frames := 1, cells := 0, slots := 0, locals := 22 } D (nL sd) ad cI M [.ref (ad 0), .int (zI (a)), .int (zI (b))] (fun z u => (((0 ≤ a ∧ a < M 0 3) ∧ (0 ≤ b ∧ b < M 0 3)) ∧ z = (M 5 (12 * a + b)) ∧ u = zU M 0 1 0) ∨ (¬ ((0 ≤ a ∧ a < M 0 3) ∧ (0 ≤ b ∧ b < M 0 3)) ∧ u = zU M 0 1 1)) := by
  refine z_of (cc := c_Mo_distance) (maxL := 3) (ret := some .int) (own := "PersonSeedsModel") (by decide) rfl rfl (Nat.le_of_ble_eq_true rfl) ?_
  intro p e s m below meth c ls hF hr hX hK hl
  obtain ⟨hx, hb, hml, hown, hlk⟩ := id hF
  have hS : va_S (zA ad (nL sd)) s.heap s.heap [] := va_S.rf
  have hl : lv_has ls 3 [(0, .ref (ad 0)), (1, .int (zI (a))), (2, .int (zI (b)))] := hl
  have o1 := hO.1
  refine lv_aload_n hx hb d_Mo_distance_0 rfl (lv_at hl 0 rfl) ?_
  refine lv_aload_n hx hb d_Mo_distance_1 rfl (lv_at hl 0 rfl) ?_
  refine lv_iload_n hx hb d_Mo_distance_2 rfl (lv_at hl 1 rfl) ?_
  refine z_callVi hF (m_isRoom l D ad cI sd M a (by omega)) (hK.cV 1 tw_591 tw_588 tw_7 tw_590 ts_29 (by decide +kernel) rfl rfl ⟨Nat.le_of_ble_eq_true rfl, Nat.le_of_ble_eq_true rfl⟩) hK hX hS rfl rfl rfl hl.1 rfl (Nat.le_of_ble_eq_true rfl) d_Mo_distance_3 ⟨Nat.le_of_ble_eq_true rfl, Nat.le_of_ble_eq_true rfl⟩ (fun z u H locs rg_1 hp hX hS => ?_)
  obtain ⟨hz, hu⟩ := hp
  rw [hu] at hX
  have hz : z = (if 0 ≤ a ∧ a < (M 0 3) then 1 else 0) := hz
  subst hz
  refine z_if_eq (a := if 0 ≤ a ∧ a < (M 0 3) then 1 else 0) (tgt := 21) hx hb d_Mo_distance_6 (by decide) (by omega) (fun hb_2 => ?_) (fun hb_3 => ?_)
  · skip
    refine z_const hx hb d_Mo_distance_21 ?_
    refine z_const hx hb d_Mo_distance_22 ?_
    refine z_callVi hF (m_may l D ad cI sd M 0 1 (by omega) (by omega)) (hK.cV 2 tw_583 tw_580 tw_7 tw_582 ts_28 (by decide +kernel) rfl rfl ⟨Nat.le_of_ble_eq_true rfl, Nat.le_of_ble_eq_true rfl⟩) hK hX hS rfl rfl rfl hl.1 rfl (Nat.le_of_ble_eq_true rfl) d_Mo_distance_23 ⟨Nat.le_of_ble_eq_true rfl, Nat.le_of_ble_eq_true rfl⟩ (fun z u H locs rgz hp hX hS => ?_)
    obtain ⟨hz, hu⟩ := hp
    replace hz : z = 0 := hz.trans (by decide)
    subst hz
    replace hu : u = zU M 0 1 1 := hu.trans (by congr 1)
    rw [hu] at hX
    refine z_if_eq (a := 0) (tgt := 43) hx hb d_Mo_distance_26 (by decide) (by omega) (fun hb_4 => ?_) (fun hb_5 => ?_)
    · skip
      refine z_const hx hb d_Mo_distance_43 ?_
      exact z_iret (z := 0) (post := (fun z u => (((0 ≤ a ∧ a < M 0 3) ∧ (0 ≤ b ∧ b < M 0 3)) ∧ z = (M 5 (12 * a + b)) ∧ u = zU M 0 1 0) ∨ (¬ ((0 ≤ a ∧ a < M 0 3) ∧ (0 ≤ b ∧ b < M 0 3)) ∧ u = zU M 0 1 1))) hx hb hr hlk hK hX hS (by omega) (by first | (exfalso; omega) | exact Or.inr ⟨by omega, rfl⟩ | exact Or.inl ⟨by omega, rfl, rfl⟩) d_Mo_distance_44
    · skip
      exfalso
      omega
  · skip
    refine lv_aload_n hx hb d_Mo_distance_9 rfl (lv_at hl 0 rfl) ?_
    refine lv_iload_n hx hb d_Mo_distance_10 rfl (lv_at hl 2 rfl) ?_
    refine z_callVi hF (m_isRoom l D ad cI sd M b (by omega)) (hK.cV 1 tw_591 tw_588 tw_7 tw_590 ts_29 (by decide +kernel) rfl rfl ⟨Nat.le_of_ble_eq_true rfl, Nat.le_of_ble_eq_true rfl⟩) hK hX hS rfl rfl rfl hl.1 rfl (Nat.le_of_ble_eq_true rfl) d_Mo_distance_11 ⟨Nat.le_of_ble_eq_true rfl, Nat.le_of_ble_eq_true rfl⟩ (fun z u H locs rg_6 hp hX hS => ?_)
    obtain ⟨hz, hu⟩ := hp
    rw [hu] at hX
    have hz : z = (if 0 ≤ b ∧ b < (M 0 3) then 1 else 0) := hz
    subst hz
    refine z_if_eq (a := if 0 ≤ b ∧ b < (M 0 3) then 1 else 0) (tgt := 21) hx hb d_Mo_distance_14 (by decide) (by omega) (fun hb_7 => ?_) (fun hb_8 => ?_)
    · skip
      refine z_const hx hb d_Mo_distance_21 ?_
      refine z_const hx hb d_Mo_distance_22 ?_
      refine z_callVi hF (m_may l D ad cI sd M 0 1 (by omega) (by omega)) (hK.cV 2 tw_583 tw_580 tw_7 tw_582 ts_28 (by decide +kernel) rfl rfl ⟨Nat.le_of_ble_eq_true rfl, Nat.le_of_ble_eq_true rfl⟩) hK hX hS rfl rfl rfl hl.1 rfl (Nat.le_of_ble_eq_true rfl) d_Mo_distance_23 ⟨Nat.le_of_ble_eq_true rfl, Nat.le_of_ble_eq_true rfl⟩ (fun z u H locs rgz hp hX hS => ?_)
      obtain ⟨hz, hu⟩ := hp
      replace hz : z = 0 := hz.trans (by decide)
      subst hz
      replace hu : u = zU M 0 1 1 := hu.trans (by congr 1)
      rw [hu] at hX
      refine z_if_eq (a := 0) (tgt := 43) hx hb d_Mo_distance_26 (by decide) (by omega) (fun hb_9 => ?_) (fun hb_10 => ?_)
      · skip
        refine z_const hx hb d_Mo_distance_43 ?_
        exact z_iret (z := 0) (post := (fun z u => (((0 ≤ a ∧ a < M 0 3) ∧ (0 ≤ b ∧ b < M 0 3)) ∧ z = (M 5 (12 * a + b)) ∧ u = zU M 0 1 0) ∨ (¬ ((0 ≤ a ∧ a < M 0 3) ∧ (0 ≤ b ∧ b < M 0 3)) ∧ u = zU M 0 1 1))) hx hb hr hlk hK hX hS (by omega) (by first | (exfalso; omega) | exact Or.inr ⟨by omega, rfl⟩ | exact Or.inl ⟨by omega, rfl, rfl⟩) d_Mo_distance_44
      · skip
        exfalso
        omega
    · skip
      refine z_const hx hb d_Mo_distance_17 ?_
      refine lv_goto (tgt := 22) hx hb d_Mo_distance_18 (by decide) ?_
      refine z_const hx hb d_Mo_distance_22 ?_
      refine z_callVi hF (m_may l D ad cI sd M 1 1 (by omega) (by omega)) (hK.cV 2 tw_583 tw_580 tw_7 tw_582 ts_28 (by decide +kernel) rfl rfl ⟨Nat.le_of_ble_eq_true rfl, Nat.le_of_ble_eq_true rfl⟩) hK hX hS rfl rfl rfl hl.1 rfl (Nat.le_of_ble_eq_true rfl) d_Mo_distance_23 ⟨Nat.le_of_ble_eq_true rfl, Nat.le_of_ble_eq_true rfl⟩ (fun z u H locs rgz hp hX hS => ?_)
      obtain ⟨hz, hu⟩ := hp
      replace hz : z = 1 := hz.trans (by decide)
      subst hz
      replace hu : u = zU M 0 1 0 := hu.trans (by congr 1)
      rw [hu] at hX
      refine z_if_eq (a := 1) (tgt := 43) hx hb d_Mo_distance_26 (by decide) (by omega) (fun hb_11 => ?_) (fun hb_12 => ?_)
      · skip
        exfalso
        omega
      · skip
        refine lv_aload_n hx hb d_Mo_distance_29 rfl (lv_at hl 0 rfl) ?_
        refine z_getr hx hb iw_Mo hown hK hX 0 rfl rfl 8 (by decide) tw_506 (fun _ h => h) 5 rfl d_Mo_distance_30 ?_
        refine z_bipush hx hb d_Mo_distance_33 (by decide) ?_
        refine lv_iload_n hx hb d_Mo_distance_35 rfl (lv_at hl 1 rfl) ?_
        refine z_imul hx hb d_Mo_distance_36 ?_
        refine lv_iload_n hx hb d_Mo_distance_37 rfl (lv_at hl 2 rfl) ?_
        refine z_iadd hx hb d_Mo_distance_38 ?_
        refine z_iald (i := (12 * a) + b) (v := M 5 ((12 * a) + b)) hx hb hK hX 5 rfl (by omega) (by decide) rfl d_Mo_distance_39 (fun rg_13 => ?_)
        refine lv_goto (tgt := 44) hx hb d_Mo_distance_40 (by decide) ?_
        exact z_iret (z := M 5 ((12 * a) + b)) (post := (fun z u => (((0 ≤ a ∧ a < M 0 3) ∧ (0 ≤ b ∧ b < M 0 3)) ∧ z = (M 5 (12 * a + b)) ∧ u = zU M 0 1 0) ∨ (¬ ((0 ≤ a ∧ a < M 0 3) ∧ (0 ≤ b ∧ b < M 0 3)) ∧ u = zU M 0 1 1))) hx hb hr hlk hK hX hS (by omega) (by first | (exfalso; omega) | exact Or.inr ⟨by omega, rfl⟩ | exact Or.inl ⟨by omega, rfl, rfl⟩) d_Mo_distance_44
set_option maxHeartbeats 4000000 in
set_option maxRecDepth 100000 in
theorem m_person (l : Launch) (D : va_G) (ad : Nat → Nat) (cI : Nat → ClassId) (sd : Int64) (M : zM) (p1 what : Int) (g0 : -2147483648 ≤ p1 ∧ p1 ≤ 2147483647) (g1 : -2147483648 ≤ what ∧ what ≤ 2147483647) (hO : nOK M) : zMi l y_Mo_person (.code y_Mo_person c_Mo_person 3 (some .int)) { frames := 2, cells := 0, slots := 0, locals := 48 } D (nL sd) ad cI M [.ref (ad 0), .int (zI (p1)), .int (zI (what))] (fun z u => (((0 ≤ p1 ∧ p1 < M 0 16) ∧ (0 ≤ what ∧ what ≤ 5)) ∧ z = (nTell sd (zU M 0 1 0) p1 what) ∧ u = zU M 0 1 0) ∨ (¬ ((0 ≤ p1 ∧ p1 < M 0 16) ∧ (0 ≤ what ∧ what ≤ 5)) ∧ u = zU M 0 1 1)) := by
  refine z_of (cc := c_Mo_person) (maxL := 3) (ret := some .int) (own := "PersonSeedsModel") (by decide) rfl rfl (Nat.le_of_ble_eq_true rfl) ?_
  intro p e s m below meth c ls hF hr hX hK hl
  obtain ⟨hx, hb, hml, hown, hlk⟩ := id hF
  have hS : va_S (zA ad (nL sd)) s.heap s.heap [] := va_S.rf
  have hl : lv_has ls 3 [(0, .ref (ad 0)), (1, .int (zI (p1))), (2, .int (zI (what)))] := hl
  have o3 := hO.2.2.1
  have o1 := hO.1
  have o5 := hO.2.2.2.2.1
  refine lv_aload_n hx hb d_Mo_person_0 rfl (lv_at hl 0 rfl) ?_
  refine lv_aload_n hx hb d_Mo_person_1 rfl (lv_at hl 0 rfl) ?_
  refine lv_iload_n hx hb d_Mo_person_2 rfl (lv_at hl 1 rfl) ?_
  refine z_callVi hF (m_isPerson l D ad cI sd M p1 (by omega)) (hK.cV 1 tw_657 tw_654 tw_7 tw_656 ts_39 (by decide +kernel) rfl rfl ⟨Nat.le_of_ble_eq_true rfl, Nat.le_of_ble_eq_true rfl⟩) hK hX hS rfl rfl rfl hl.1 rfl (Nat.le_of_ble_eq_true rfl) d_Mo_person_3 ⟨Nat.le_of_ble_eq_true rfl, Nat.le_of_ble_eq_true rfl⟩ (fun z u H locs rg_1 hp hX hS => ?_)
  obtain ⟨hz, hu⟩ := hp
  rw [hu] at hX
  have hz : z = (if 0 ≤ p1 ∧ p1 < (M 0 16) then 1 else 0) := hz
  subst hz
  refine z_if_eq (a := if 0 ≤ p1 ∧ p1 < (M 0 16) then 1 else 0) (tgt := 25) hx hb d_Mo_person_6 (by decide) (by omega) (fun hb_2 => ?_) (fun hb_3 => ?_)
  · skip
    refine z_const hx hb d_Mo_person_25 ?_
    refine z_const hx hb d_Mo_person_26 ?_
    refine z_callVi hF (m_may l D ad cI sd M 0 1 (by omega) (by omega)) (hK.cV 2 tw_583 tw_580 tw_7 tw_582 ts_28 (by decide +kernel) rfl rfl ⟨Nat.le_of_ble_eq_true rfl, Nat.le_of_ble_eq_true rfl⟩) hK hX hS rfl rfl rfl hl.1 rfl (Nat.le_of_ble_eq_true rfl) d_Mo_person_27 ⟨Nat.le_of_ble_eq_true rfl, Nat.le_of_ble_eq_true rfl⟩ (fun z u H locs rgz hp hX hS => ?_)
    obtain ⟨hz, hu⟩ := hp
    replace hz : z = 0 := hz.trans (by decide)
    subst hz
    replace hu : u = zU M 0 1 1 := hu.trans (by congr 1)
    rw [hu] at hX
    refine z_if_eq (a := 0) (tgt := 42) hx hb d_Mo_person_30 (by decide) (by omega) (fun hb_4 => ?_) (fun hb_5 => ?_)
    · skip
      refine z_const hx hb d_Mo_person_42 ?_
      exact z_iret (z := 0) (post := (fun z u => (((0 ≤ p1 ∧ p1 < M 0 16) ∧ (0 ≤ what ∧ what ≤ 5)) ∧ z = (nTell sd (zU M 0 1 0) p1 what) ∧ u = zU M 0 1 0) ∨ (¬ ((0 ≤ p1 ∧ p1 < M 0 16) ∧ (0 ≤ what ∧ what ≤ 5)) ∧ u = zU M 0 1 1))) hx hb hr hlk hK hX hS (by omega) (by first | (exfalso; omega) | exact Or.inr ⟨by omega, rfl⟩ | exact Or.inl ⟨by omega, rfl, rfl⟩) d_Mo_person_43
    · skip
      exfalso
      omega
  · skip
    refine lv_iload_n hx hb d_Mo_person_9 rfl (lv_at hl 2 rfl) ?_
    refine z_i2l (a := what) hx hb (by omega) d_Mo_person_10 ?_
    refine z_lconst (v := 0) hx hb d_Mo_person_11 (by decide) ?_
    refine z_ldcl (v := 5) hx hb hown hK tw_658 (by decide) d_Mo_person_12 ?_
    refine z_callSi hF (m_within l D ad cI sd M what 0 5 (by omega) (by omega) (by omega)) (hK.cS 3 tw_579 tw_577 tw_7 tw_578 (by decide +kernel) rfl rfl ⟨Nat.le_of_ble_eq_true rfl, Nat.le_of_ble_eq_true rfl⟩) hK hX hS rfl hl.1 rfl (Nat.le_of_ble_eq_true rfl) d_Mo_person_15 ⟨Nat.le_of_ble_eq_true rfl, Nat.le_of_ble_eq_true rfl⟩ (fun z u H locs rg_6 hp hX hS => ?_)
    obtain ⟨hz, hu⟩ := hp
    rw [hu] at hX
    have hz : z = (if 0 ≤ what ∧ what ≤ 5 then 1 else 0) := hz
    subst hz
    refine z_if_eq (a := if 0 ≤ what ∧ what ≤ 5 then 1 else 0) (tgt := 25) hx hb d_Mo_person_18 (by decide) (by omega) (fun hb_7 => ?_) (fun hb_8 => ?_)
    · skip
      refine z_const hx hb d_Mo_person_25 ?_
      refine z_const hx hb d_Mo_person_26 ?_
      refine z_callVi hF (m_may l D ad cI sd M 0 1 (by omega) (by omega)) (hK.cV 2 tw_583 tw_580 tw_7 tw_582 ts_28 (by decide +kernel) rfl rfl ⟨Nat.le_of_ble_eq_true rfl, Nat.le_of_ble_eq_true rfl⟩) hK hX hS rfl rfl rfl hl.1 rfl (Nat.le_of_ble_eq_true rfl) d_Mo_person_27 ⟨Nat.le_of_ble_eq_true rfl, Nat.le_of_ble_eq_true rfl⟩ (fun z u H locs rgz hp hX hS => ?_)
      obtain ⟨hz, hu⟩ := hp
      replace hz : z = 0 := hz.trans (by decide)
      subst hz
      replace hu : u = zU M 0 1 1 := hu.trans (by congr 1)
      rw [hu] at hX
      refine z_if_eq (a := 0) (tgt := 42) hx hb d_Mo_person_30 (by decide) (by omega) (fun hb_9 => ?_) (fun hb_10 => ?_)
      · skip
        refine z_const hx hb d_Mo_person_42 ?_
        exact z_iret (z := 0) (post := (fun z u => (((0 ≤ p1 ∧ p1 < M 0 16) ∧ (0 ≤ what ∧ what ≤ 5)) ∧ z = (nTell sd (zU M 0 1 0) p1 what) ∧ u = zU M 0 1 0) ∨ (¬ ((0 ≤ p1 ∧ p1 < M 0 16) ∧ (0 ≤ what ∧ what ≤ 5)) ∧ u = zU M 0 1 1))) hx hb hr hlk hK hX hS (by omega) (by first | (exfalso; omega) | exact Or.inr ⟨by omega, rfl⟩ | exact Or.inl ⟨by omega, rfl, rfl⟩) d_Mo_person_43
      · skip
        exfalso
        omega
    · skip
      refine z_const hx hb d_Mo_person_21 ?_
      refine lv_goto (tgt := 26) hx hb d_Mo_person_22 (by decide) ?_
      refine z_const hx hb d_Mo_person_26 ?_
      refine z_callVi hF (m_may l D ad cI sd M 1 1 (by omega) (by omega)) (hK.cV 2 tw_583 tw_580 tw_7 tw_582 ts_28 (by decide +kernel) rfl rfl ⟨Nat.le_of_ble_eq_true rfl, Nat.le_of_ble_eq_true rfl⟩) hK hX hS rfl rfl rfl hl.1 rfl (Nat.le_of_ble_eq_true rfl) d_Mo_person_27 ⟨Nat.le_of_ble_eq_true rfl, Nat.le_of_ble_eq_true rfl⟩ (fun z u H locs rgz hp hX hS => ?_)
      obtain ⟨hz, hu⟩ := hp
      replace hz : z = 1 := hz.trans (by decide)
      subst hz
      replace hu : u = zU M 0 1 0 := hu.trans (by congr 1)
      rw [hu] at hX
      refine z_if_eq (a := 1) (tgt := 42) hx hb d_Mo_person_30 (by decide) (by omega) (fun hb_11 => ?_) (fun hb_12 => ?_)
      · skip
        exfalso
        omega
      · skip
        refine lv_aload_n hx hb d_Mo_person_33 rfl (lv_at hl 0 rfl) ?_
        refine lv_iload_n hx hb d_Mo_person_34 rfl (lv_at hl 1 rfl) ?_
        refine lv_iload_n hx hb d_Mo_person_35 rfl (lv_at hl 2 rfl) ?_
        refine z_callVi hF (m_tell l D ad cI sd (zU M 0 1 0) p1 what (by omega) (by omega) (by show 1 ≤ M 0 3 ∧ M 0 3 ≤ 12; omega) (hO.2.2.2.2.2.2.2.2 _ (by omega) (by omega))) (hK.cV 2 tw_637 tw_634 tw_7 tw_636 ts_35 (by decide +kernel) rfl rfl ⟨Nat.le_of_ble_eq_true rfl, Nat.le_of_ble_eq_true rfl⟩) hK hX hS rfl rfl rfl hl.1 rfl (Nat.le_of_ble_eq_true rfl) d_Mo_person_36 ⟨Nat.le_of_ble_eq_true rfl, Nat.le_of_ble_eq_true rfl⟩ (fun zo_14 u H locs rg_13 hp hX hS => ?_)
        obtain ⟨ezo_14, hu⟩ := hp
        rw [hu] at hX
        replace ezo_14 : zSame zo_14 (nTell sd (zU M 0 1 0) p1 what) := ezo_14
        refine lv_goto (tgt := 43) hx hb d_Mo_person_39 (by decide) ?_
        exact z_iret (z := zo_14) (post := (fun z u => (((0 ≤ p1 ∧ p1 < M 0 16) ∧ (0 ≤ what ∧ what ≤ 5)) ∧ z = (nTell sd (zU M 0 1 0) p1 what) ∧ u = zU M 0 1 0) ∨ (¬ ((0 ≤ p1 ∧ p1 < M 0 16) ∧ (0 ≤ what ∧ what ≤ 5)) ∧ u = zU M 0 1 1))) hx hb hr hlk hK hX hS (by omega) (by first | (exfalso; omega) | exact Or.inr ⟨by omega, rfl⟩ | exact Or.inl ⟨by omega, ezo_14, rfl⟩) d_Mo_person_43
set_option maxHeartbeats 4000000 in
set_option maxRecDepth 100000 in
theorem m_entered (l : Launch) (D : va_G) (ad : Nat → Nat) (cI : Nat → ClassId) (sd : Int64) (M : zM) (on : Int) (g1 : -2147483648 ≤ on ∧ on ≤ 2147483647) : zMi l y_Mo_entered (.code y_Mo_entered c_Mo_entered 2 (some .int)) { frames := 0, cells := 0, slots := 0, locals := 0 } D (nL sd) ad cI M [.ref (ad 0), .int (zI (on))] (fun z u => z = (if on = 0 then M 0 22 else M 0 21) ∧ u = zU M 0 1 0) := by
  refine z_of (cc := c_Mo_entered) (maxL := 2) (ret := some .int) (own := "PersonSeedsModel") (by decide) rfl rfl (Nat.le_of_ble_eq_true rfl) ?_
  intro p e s m below meth c ls hF hr hX hK hl
  obtain ⟨hx, hb, hml, hown, hlk⟩ := id hF
  have hS : va_S (zA ad (nL sd)) s.heap s.heap [] := va_S.rf
  have hl : lv_has ls 2 [(0, .ref (ad 0)), (1, .int (zI (on)))] := hl
  refine lv_aload_n hx hb d_Mo_entered_0 rfl (lv_at hl 0 rfl) ?_
  refine z_const hx hb d_Mo_entered_1 ?_
  refine z_puti (i := 1) (v := 0) hx hb iw_Mo ty_Mo tyo_Mo n_Mo hown hK hX hS 0 rfl rfl 1 (by decide) tw_499 (fun _ h => h) rfl (by decide +kernel) rfl rfl (by omega) d_Mo_entered_2 (fun H locs hX hS => ?_)
  refine lv_iload_n hx hb d_Mo_entered_5 rfl (lv_at hl 1 rfl) ?_
  refine z_if_eq (a := on) (tgt := 16) hx hb d_Mo_entered_6 (by decide) (by omega) (fun hb_1 => ?_) (fun hb_2 => ?_)
  · skip
    refine lv_aload_n hx hb d_Mo_entered_16 rfl (lv_at hl 0 rfl) ?_
    refine z_geti (i := 22) (v := M 0 22) hx hb iw_Mo hown hK hX 0 rfl rfl 22 (by decide) tw_520 (fun _ h => h) rfl rfl (by simp [zU]) d_Mo_entered_17 (fun rg_3 => ?_)
    exact z_iret (z := M 0 22) (post := (fun z u => z = (if on = 0 then M 0 22 else M 0 21) ∧ u = zU M 0 1 0)) hx hb hr hlk hK hX hS (by omega) ⟨by split <;> first | rfl | omega, rfl⟩ d_Mo_entered_20
  · skip
    refine lv_aload_n hx hb d_Mo_entered_9 rfl (lv_at hl 0 rfl) ?_
    refine z_geti (i := 21) (v := M 0 21) hx hb iw_Mo hown hK hX 0 rfl rfl 21 (by decide) tw_519 (fun _ h => h) rfl rfl (by simp [zU]) d_Mo_entered_10 (fun rg_4 => ?_)
    refine lv_goto (tgt := 20) hx hb d_Mo_entered_13 (by decide) ?_
    exact z_iret (z := M 0 21) (post := (fun z u => z = (if on = 0 then M 0 22 else M 0 21) ∧ u = zU M 0 1 0)) hx hb hr hlk hK hX hS (by omega) ⟨by split <;> first | rfl | omega, rfl⟩ d_Mo_entered_20

set_option maxHeartbeats 4000000 in
set_option maxRecDepth 100000 in
theorem m_door (l : Launch) (D : va_G) (ad : Nat → Nat) (cI : Nat → ClassId) (sd : Int64) (M : zM) (a b w : Int) (g0 : -2147483648 ≤ a ∧ a ≤ 2147483647) (g1 : -2147483648 ≤ b ∧ b ≤ 2147483647) (g2 : -2147483648 ≤ w ∧ w ≤ 2147483647) (hO : nOK M) : zMi l y_Mo_door (.code y_Mo_door c_Mo_door 4 (some .int)) { frames := 1, cells := 0, slots := 0, locals := 28 } D (nL sd) ad cI M [.ref (ad 0), .int (zI (a)), .int (zI (b)), .int (zI (w))] (fun z u => (((0 ≤ a ∧ a < M 0 3) ∧ (0 ≤ b ∧ b < M 0 3) ∧ (1 ≤ w ∧ w ≤ 20) ∧ ¬ a = b) ∧ (M 0 2 = 0 ∧ M 0 9 < 16) ∧ z = (M 0 9) ∧ u = nShN (nShN (zU (zU (zU (zU (zU M 0 1 0) 6 (M 0 9) a) 7 (M 0 9) b) 8 (M 0 9) w) 0 9 (M 0 9 + 1)) a b 12) b a 12) ∨ (((0 ≤ a ∧ a < M 0 3) ∧ (0 ≤ b ∧ b < M 0 3) ∧ (1 ≤ w ∧ w ≤ 20) ∧ ¬ a = b) ∧ ¬ (M 0 2 = 0 ∧ M 0 9 < 16) ∧ u = zU M 0 1 2) ∨ (¬ ((0 ≤ a ∧ a < M 0 3) ∧ (0 ≤ b ∧ b < M 0 3) ∧ (1 ≤ w ∧ w ≤ 20) ∧ ¬ a = b) ∧ u = zU M 0 1 1)) := by
  refine z_of (cc := c_Mo_door) (maxL := 4) (ret := some .int) (own := "PersonSeedsModel") (by decide) rfl rfl (Nat.le_of_ble_eq_true rfl) ?_
  intro p e s m below meth c ls hF hr hX hK hl
  obtain ⟨hx, hb, hml, hown, hlk⟩ := id hF
  have hS : va_S (zA ad (nL sd)) s.heap s.heap [] := va_S.rf
  have hl : lv_has ls 4 [(0, .ref (ad 0)), (1, .int (zI (a))), (2, .int (zI (b))), (3, .int (zI (w)))] := hl
  have o1 := hO.1
  have o2 := hO.2.1
  refine lv_aload_n hx hb d_Mo_door_0 rfl (lv_at hl 0 rfl) ?_
  refine lv_aload_n hx hb d_Mo_door_1 rfl (lv_at hl 0 rfl) ?_
  refine lv_iload_n hx hb d_Mo_door_2 rfl (lv_at hl 1 rfl) ?_
  refine z_callVi hF (m_isRoom l D ad cI sd M a (by omega)) (hK.cV 1 tw_591 tw_588 tw_7 tw_590 ts_29 (by decide +kernel) rfl rfl ⟨Nat.le_of_ble_eq_true rfl, Nat.le_of_ble_eq_true rfl⟩) hK hX hS rfl rfl rfl hl.1 rfl (Nat.le_of_ble_eq_true rfl) d_Mo_door_3 ⟨Nat.le_of_ble_eq_true rfl, Nat.le_of_ble_eq_true rfl⟩ (fun z u H locs rg_1 hp hX hS => ?_)
  obtain ⟨hz, hu⟩ := hp
  rw [hu] at hX
  have hz : z = (if 0 ≤ a ∧ a < (M 0 3) then 1 else 0) := hz
  subst hz
  refine z_if_eq (a := if 0 ≤ a ∧ a < (M 0 3) then 1 else 0) (tgt := 38) hx hb d_Mo_door_6 (by decide) (by omega) (fun hb_2 => ?_) (fun hb_3 => ?_)
  · skip
    refine z_const hx hb d_Mo_door_38 ?_
    refine lv_aload_n hx hb d_Mo_door_39 rfl (lv_at hl 0 rfl) ?_
    refine z_geti (i := 2) (v := M 0 2) hx hb iw_Mo hown hK hX 0 rfl rfl 2 (by decide) tw_500 (fun _ h => h) rfl rfl rfl d_Mo_door_40 (fun rg_4 => ?_)
    refine z_if_ne (a := M 0 2) (tgt := 59) hx hb d_Mo_door_43 (by decide) (by omega) (fun hb_5 => ?_) (fun hb_6 => ?_)
    · skip
      refine z_const hx hb d_Mo_door_59 ?_
      refine z_callVi hF (m_may l D ad cI sd M 0 0 (by omega) (by omega)) (hK.cV 2 tw_583 tw_580 tw_7 tw_582 ts_28 (by decide +kernel) rfl rfl ⟨Nat.le_of_ble_eq_true rfl, Nat.le_of_ble_eq_true rfl⟩) hK hX hS rfl rfl rfl hl.1 rfl (Nat.le_of_ble_eq_true rfl) d_Mo_door_60 ⟨Nat.le_of_ble_eq_true rfl, Nat.le_of_ble_eq_true rfl⟩ (fun z u H locs rgz hp hX hS => ?_)
      obtain ⟨hz, hu⟩ := hp
      replace hz : z = 0 := hz.trans (by decide)
      subst hz
      replace hu : u = zU M 0 1 1 := hu.trans (by congr 1)
      rw [hu] at hX
      refine z_if_ne (a := 0) (tgt := 68) hx hb d_Mo_door_63 (by decide) (by omega) (fun hb_7 => ?_) (fun hb_8 => ?_)
      · skip
        exfalso
        omega
      · skip
        refine z_const hx hb d_Mo_door_66 ?_
        exact z_iret (z := 0) (post := (fun z u => (((0 ≤ a ∧ a < M 0 3) ∧ (0 ≤ b ∧ b < M 0 3) ∧ (1 ≤ w ∧ w ≤ 20) ∧ ¬ a = b) ∧ (M 0 2 = 0 ∧ M 0 9 < 16) ∧ z = (M 0 9) ∧ u = nShN (nShN (zU (zU (zU (zU (zU M 0 1 0) 6 (M 0 9) a) 7 (M 0 9) b) 8 (M 0 9) w) 0 9 (M 0 9 + 1)) a b 12) b a 12) ∨ (((0 ≤ a ∧ a < M 0 3) ∧ (0 ≤ b ∧ b < M 0 3) ∧ (1 ≤ w ∧ w ≤ 20) ∧ ¬ a = b) ∧ ¬ (M 0 2 = 0 ∧ M 0 9 < 16) ∧ u = zU M 0 1 2) ∨ (¬ ((0 ≤ a ∧ a < M 0 3) ∧ (0 ≤ b ∧ b < M 0 3) ∧ (1 ≤ w ∧ w ≤ 20) ∧ ¬ a = b) ∧ u = zU M 0 1 1))) hx hb hr hlk hK hX hS (by omega) (by first | (exfalso; omega) | exact Or.inr (Or.inr ⟨by omega, rfl⟩) | exact Or.inl ⟨by omega, by omega, by have e9 := congrFun (nShN_c (M := nShN (zU (zU (zU (zU (zU M 0 1 0) 6 (M 0 9) a) 7 (M 0 9) b) 8 (M 0 9) w) 0 9 (M 0 9 + 1)) a b 12) (a := b) (b := a) (c := 0) (by decide) 12) 9; have e8 := congrFun (nShN_c (M := zU (zU (zU (zU (zU M 0 1 0) 6 (M 0 9) a) 7 (M 0 9) b) 8 (M 0 9) w) 0 9 (M 0 9 + 1)) (a := a) (b := b) (c := 0) (by decide) 12) 9; rw [zU_s] at e8; omega, rfl⟩ | exact Or.inr (Or.inl ⟨by omega, by omega, rfl⟩)) d_Mo_door_67
    · skip
      refine lv_aload_n hx hb d_Mo_door_46 rfl (lv_at hl 0 rfl) ?_
      refine z_geti (i := 9) (v := M 0 9) hx hb iw_Mo hown hK hX 0 rfl rfl 9 (by decide) tw_507 (fun _ h => h) rfl rfl rfl d_Mo_door_47 (fun rg_9 => ?_)
      refine z_bipush hx hb d_Mo_door_50 (by decide) ?_
      refine z_icmp_ge (a := M 0 9) (b := 16) (tgt := 59) hx hb d_Mo_door_52 (by decide) (by omega) (fun hb_10 => ?_) (fun hb_11 => ?_)
      · skip
        refine z_const hx hb d_Mo_door_59 ?_
        refine z_callVi hF (m_may l D ad cI sd M 0 0 (by omega) (by omega)) (hK.cV 2 tw_583 tw_580 tw_7 tw_582 ts_28 (by decide +kernel) rfl rfl ⟨Nat.le_of_ble_eq_true rfl, Nat.le_of_ble_eq_true rfl⟩) hK hX hS rfl rfl rfl hl.1 rfl (Nat.le_of_ble_eq_true rfl) d_Mo_door_60 ⟨Nat.le_of_ble_eq_true rfl, Nat.le_of_ble_eq_true rfl⟩ (fun z u H locs rgz hp hX hS => ?_)
        obtain ⟨hz, hu⟩ := hp
        replace hz : z = 0 := hz.trans (by decide)
        subst hz
        replace hu : u = zU M 0 1 1 := hu.trans (by congr 1)
        rw [hu] at hX
        refine z_if_ne (a := 0) (tgt := 68) hx hb d_Mo_door_63 (by decide) (by omega) (fun hb_12 => ?_) (fun hb_13 => ?_)
        · skip
          exfalso
          omega
        · skip
          refine z_const hx hb d_Mo_door_66 ?_
          exact z_iret (z := 0) (post := (fun z u => (((0 ≤ a ∧ a < M 0 3) ∧ (0 ≤ b ∧ b < M 0 3) ∧ (1 ≤ w ∧ w ≤ 20) ∧ ¬ a = b) ∧ (M 0 2 = 0 ∧ M 0 9 < 16) ∧ z = (M 0 9) ∧ u = nShN (nShN (zU (zU (zU (zU (zU M 0 1 0) 6 (M 0 9) a) 7 (M 0 9) b) 8 (M 0 9) w) 0 9 (M 0 9 + 1)) a b 12) b a 12) ∨ (((0 ≤ a ∧ a < M 0 3) ∧ (0 ≤ b ∧ b < M 0 3) ∧ (1 ≤ w ∧ w ≤ 20) ∧ ¬ a = b) ∧ ¬ (M 0 2 = 0 ∧ M 0 9 < 16) ∧ u = zU M 0 1 2) ∨ (¬ ((0 ≤ a ∧ a < M 0 3) ∧ (0 ≤ b ∧ b < M 0 3) ∧ (1 ≤ w ∧ w ≤ 20) ∧ ¬ a = b) ∧ u = zU M 0 1 1))) hx hb hr hlk hK hX hS (by omega) (by first | (exfalso; omega) | exact Or.inr (Or.inr ⟨by omega, rfl⟩) | exact Or.inl ⟨by omega, by omega, by have e9 := congrFun (nShN_c (M := nShN (zU (zU (zU (zU (zU M 0 1 0) 6 (M 0 9) a) 7 (M 0 9) b) 8 (M 0 9) w) 0 9 (M 0 9 + 1)) a b 12) (a := b) (b := a) (c := 0) (by decide) 12) 9; have e8 := congrFun (nShN_c (M := zU (zU (zU (zU (zU M 0 1 0) 6 (M 0 9) a) 7 (M 0 9) b) 8 (M 0 9) w) 0 9 (M 0 9 + 1)) (a := a) (b := b) (c := 0) (by decide) 12) 9; rw [zU_s] at e8; omega, rfl⟩ | exact Or.inr (Or.inl ⟨by omega, by omega, rfl⟩)) d_Mo_door_67
      · skip
        refine z_const hx hb d_Mo_door_55 ?_
        refine lv_goto (tgt := 60) hx hb d_Mo_door_56 (by decide) ?_
        refine z_callVi hF (m_may l D ad cI sd M 0 1 (by omega) (by omega)) (hK.cV 2 tw_583 tw_580 tw_7 tw_582 ts_28 (by decide +kernel) rfl rfl ⟨Nat.le_of_ble_eq_true rfl, Nat.le_of_ble_eq_true rfl⟩) hK hX hS rfl rfl rfl hl.1 rfl (Nat.le_of_ble_eq_true rfl) d_Mo_door_60 ⟨Nat.le_of_ble_eq_true rfl, Nat.le_of_ble_eq_true rfl⟩ (fun z u H locs rgz hp hX hS => ?_)
        obtain ⟨hz, hu⟩ := hp
        replace hz : z = 0 := hz.trans (by decide)
        subst hz
        replace hu : u = zU M 0 1 1 := hu.trans (by congr 1)
        rw [hu] at hX
        refine z_if_ne (a := 0) (tgt := 68) hx hb d_Mo_door_63 (by decide) (by omega) (fun hb_14 => ?_) (fun hb_15 => ?_)
        · skip
          exfalso
          omega
        · skip
          refine z_const hx hb d_Mo_door_66 ?_
          exact z_iret (z := 0) (post := (fun z u => (((0 ≤ a ∧ a < M 0 3) ∧ (0 ≤ b ∧ b < M 0 3) ∧ (1 ≤ w ∧ w ≤ 20) ∧ ¬ a = b) ∧ (M 0 2 = 0 ∧ M 0 9 < 16) ∧ z = (M 0 9) ∧ u = nShN (nShN (zU (zU (zU (zU (zU M 0 1 0) 6 (M 0 9) a) 7 (M 0 9) b) 8 (M 0 9) w) 0 9 (M 0 9 + 1)) a b 12) b a 12) ∨ (((0 ≤ a ∧ a < M 0 3) ∧ (0 ≤ b ∧ b < M 0 3) ∧ (1 ≤ w ∧ w ≤ 20) ∧ ¬ a = b) ∧ ¬ (M 0 2 = 0 ∧ M 0 9 < 16) ∧ u = zU M 0 1 2) ∨ (¬ ((0 ≤ a ∧ a < M 0 3) ∧ (0 ≤ b ∧ b < M 0 3) ∧ (1 ≤ w ∧ w ≤ 20) ∧ ¬ a = b) ∧ u = zU M 0 1 1))) hx hb hr hlk hK hX hS (by omega) (by first | (exfalso; omega) | exact Or.inr (Or.inr ⟨by omega, rfl⟩) | exact Or.inl ⟨by omega, by omega, by have e9 := congrFun (nShN_c (M := nShN (zU (zU (zU (zU (zU M 0 1 0) 6 (M 0 9) a) 7 (M 0 9) b) 8 (M 0 9) w) 0 9 (M 0 9 + 1)) a b 12) (a := b) (b := a) (c := 0) (by decide) 12) 9; have e8 := congrFun (nShN_c (M := zU (zU (zU (zU (zU M 0 1 0) 6 (M 0 9) a) 7 (M 0 9) b) 8 (M 0 9) w) 0 9 (M 0 9 + 1)) (a := a) (b := b) (c := 0) (by decide) 12) 9; rw [zU_s] at e8; omega, rfl⟩ | exact Or.inr (Or.inl ⟨by omega, by omega, rfl⟩)) d_Mo_door_67
  · skip
    refine lv_aload_n hx hb d_Mo_door_9 rfl (lv_at hl 0 rfl) ?_
    refine lv_iload_n hx hb d_Mo_door_10 rfl (lv_at hl 2 rfl) ?_
    refine z_callVi hF (m_isRoom l D ad cI sd M b (by omega)) (hK.cV 1 tw_591 tw_588 tw_7 tw_590 ts_29 (by decide +kernel) rfl rfl ⟨Nat.le_of_ble_eq_true rfl, Nat.le_of_ble_eq_true rfl⟩) hK hX hS rfl rfl rfl hl.1 rfl (Nat.le_of_ble_eq_true rfl) d_Mo_door_11 ⟨Nat.le_of_ble_eq_true rfl, Nat.le_of_ble_eq_true rfl⟩ (fun z u H locs rg_16 hp hX hS => ?_)
    obtain ⟨hz, hu⟩ := hp
    rw [hu] at hX
    have hz : z = (if 0 ≤ b ∧ b < (M 0 3) then 1 else 0) := hz
    subst hz
    refine z_if_eq (a := if 0 ≤ b ∧ b < (M 0 3) then 1 else 0) (tgt := 38) hx hb d_Mo_door_14 (by decide) (by omega) (fun hb_17 => ?_) (fun hb_18 => ?_)
    · skip
      refine z_const hx hb d_Mo_door_38 ?_
      refine lv_aload_n hx hb d_Mo_door_39 rfl (lv_at hl 0 rfl) ?_
      refine z_geti (i := 2) (v := M 0 2) hx hb iw_Mo hown hK hX 0 rfl rfl 2 (by decide) tw_500 (fun _ h => h) rfl rfl rfl d_Mo_door_40 (fun rg_19 => ?_)
      refine z_if_ne (a := M 0 2) (tgt := 59) hx hb d_Mo_door_43 (by decide) (by omega) (fun hb_20 => ?_) (fun hb_21 => ?_)
      · skip
        refine z_const hx hb d_Mo_door_59 ?_
        refine z_callVi hF (m_may l D ad cI sd M 0 0 (by omega) (by omega)) (hK.cV 2 tw_583 tw_580 tw_7 tw_582 ts_28 (by decide +kernel) rfl rfl ⟨Nat.le_of_ble_eq_true rfl, Nat.le_of_ble_eq_true rfl⟩) hK hX hS rfl rfl rfl hl.1 rfl (Nat.le_of_ble_eq_true rfl) d_Mo_door_60 ⟨Nat.le_of_ble_eq_true rfl, Nat.le_of_ble_eq_true rfl⟩ (fun z u H locs rgz hp hX hS => ?_)
        obtain ⟨hz, hu⟩ := hp
        replace hz : z = 0 := hz.trans (by decide)
        subst hz
        replace hu : u = zU M 0 1 1 := hu.trans (by congr 1)
        rw [hu] at hX
        refine z_if_ne (a := 0) (tgt := 68) hx hb d_Mo_door_63 (by decide) (by omega) (fun hb_22 => ?_) (fun hb_23 => ?_)
        · skip
          exfalso
          omega
        · skip
          refine z_const hx hb d_Mo_door_66 ?_
          exact z_iret (z := 0) (post := (fun z u => (((0 ≤ a ∧ a < M 0 3) ∧ (0 ≤ b ∧ b < M 0 3) ∧ (1 ≤ w ∧ w ≤ 20) ∧ ¬ a = b) ∧ (M 0 2 = 0 ∧ M 0 9 < 16) ∧ z = (M 0 9) ∧ u = nShN (nShN (zU (zU (zU (zU (zU M 0 1 0) 6 (M 0 9) a) 7 (M 0 9) b) 8 (M 0 9) w) 0 9 (M 0 9 + 1)) a b 12) b a 12) ∨ (((0 ≤ a ∧ a < M 0 3) ∧ (0 ≤ b ∧ b < M 0 3) ∧ (1 ≤ w ∧ w ≤ 20) ∧ ¬ a = b) ∧ ¬ (M 0 2 = 0 ∧ M 0 9 < 16) ∧ u = zU M 0 1 2) ∨ (¬ ((0 ≤ a ∧ a < M 0 3) ∧ (0 ≤ b ∧ b < M 0 3) ∧ (1 ≤ w ∧ w ≤ 20) ∧ ¬ a = b) ∧ u = zU M 0 1 1))) hx hb hr hlk hK hX hS (by omega) (by first | (exfalso; omega) | exact Or.inr (Or.inr ⟨by omega, rfl⟩) | exact Or.inl ⟨by omega, by omega, by have e9 := congrFun (nShN_c (M := nShN (zU (zU (zU (zU (zU M 0 1 0) 6 (M 0 9) a) 7 (M 0 9) b) 8 (M 0 9) w) 0 9 (M 0 9 + 1)) a b 12) (a := b) (b := a) (c := 0) (by decide) 12) 9; have e8 := congrFun (nShN_c (M := zU (zU (zU (zU (zU M 0 1 0) 6 (M 0 9) a) 7 (M 0 9) b) 8 (M 0 9) w) 0 9 (M 0 9 + 1)) (a := a) (b := b) (c := 0) (by decide) 12) 9; rw [zU_s] at e8; omega, rfl⟩ | exact Or.inr (Or.inl ⟨by omega, by omega, rfl⟩)) d_Mo_door_67
      · skip
        refine lv_aload_n hx hb d_Mo_door_46 rfl (lv_at hl 0 rfl) ?_
        refine z_geti (i := 9) (v := M 0 9) hx hb iw_Mo hown hK hX 0 rfl rfl 9 (by decide) tw_507 (fun _ h => h) rfl rfl rfl d_Mo_door_47 (fun rg_24 => ?_)
        refine z_bipush hx hb d_Mo_door_50 (by decide) ?_
        refine z_icmp_ge (a := M 0 9) (b := 16) (tgt := 59) hx hb d_Mo_door_52 (by decide) (by omega) (fun hb_25 => ?_) (fun hb_26 => ?_)
        · skip
          refine z_const hx hb d_Mo_door_59 ?_
          refine z_callVi hF (m_may l D ad cI sd M 0 0 (by omega) (by omega)) (hK.cV 2 tw_583 tw_580 tw_7 tw_582 ts_28 (by decide +kernel) rfl rfl ⟨Nat.le_of_ble_eq_true rfl, Nat.le_of_ble_eq_true rfl⟩) hK hX hS rfl rfl rfl hl.1 rfl (Nat.le_of_ble_eq_true rfl) d_Mo_door_60 ⟨Nat.le_of_ble_eq_true rfl, Nat.le_of_ble_eq_true rfl⟩ (fun z u H locs rgz hp hX hS => ?_)
          obtain ⟨hz, hu⟩ := hp
          replace hz : z = 0 := hz.trans (by decide)
          subst hz
          replace hu : u = zU M 0 1 1 := hu.trans (by congr 1)
          rw [hu] at hX
          refine z_if_ne (a := 0) (tgt := 68) hx hb d_Mo_door_63 (by decide) (by omega) (fun hb_27 => ?_) (fun hb_28 => ?_)
          · skip
            exfalso
            omega
          · skip
            refine z_const hx hb d_Mo_door_66 ?_
            exact z_iret (z := 0) (post := (fun z u => (((0 ≤ a ∧ a < M 0 3) ∧ (0 ≤ b ∧ b < M 0 3) ∧ (1 ≤ w ∧ w ≤ 20) ∧ ¬ a = b) ∧ (M 0 2 = 0 ∧ M 0 9 < 16) ∧ z = (M 0 9) ∧ u = nShN (nShN (zU (zU (zU (zU (zU M 0 1 0) 6 (M 0 9) a) 7 (M 0 9) b) 8 (M 0 9) w) 0 9 (M 0 9 + 1)) a b 12) b a 12) ∨ (((0 ≤ a ∧ a < M 0 3) ∧ (0 ≤ b ∧ b < M 0 3) ∧ (1 ≤ w ∧ w ≤ 20) ∧ ¬ a = b) ∧ ¬ (M 0 2 = 0 ∧ M 0 9 < 16) ∧ u = zU M 0 1 2) ∨ (¬ ((0 ≤ a ∧ a < M 0 3) ∧ (0 ≤ b ∧ b < M 0 3) ∧ (1 ≤ w ∧ w ≤ 20) ∧ ¬ a = b) ∧ u = zU M 0 1 1))) hx hb hr hlk hK hX hS (by omega) (by first | (exfalso; omega) | exact Or.inr (Or.inr ⟨by omega, rfl⟩) | exact Or.inl ⟨by omega, by omega, by have e9 := congrFun (nShN_c (M := nShN (zU (zU (zU (zU (zU M 0 1 0) 6 (M 0 9) a) 7 (M 0 9) b) 8 (M 0 9) w) 0 9 (M 0 9 + 1)) a b 12) (a := b) (b := a) (c := 0) (by decide) 12) 9; have e8 := congrFun (nShN_c (M := zU (zU (zU (zU (zU M 0 1 0) 6 (M 0 9) a) 7 (M 0 9) b) 8 (M 0 9) w) 0 9 (M 0 9 + 1)) (a := a) (b := b) (c := 0) (by decide) 12) 9; rw [zU_s] at e8; omega, rfl⟩ | exact Or.inr (Or.inl ⟨by omega, by omega, rfl⟩)) d_Mo_door_67
        · skip
          refine z_const hx hb d_Mo_door_55 ?_
          refine lv_goto (tgt := 60) hx hb d_Mo_door_56 (by decide) ?_
          refine z_callVi hF (m_may l D ad cI sd M 0 1 (by omega) (by omega)) (hK.cV 2 tw_583 tw_580 tw_7 tw_582 ts_28 (by decide +kernel) rfl rfl ⟨Nat.le_of_ble_eq_true rfl, Nat.le_of_ble_eq_true rfl⟩) hK hX hS rfl rfl rfl hl.1 rfl (Nat.le_of_ble_eq_true rfl) d_Mo_door_60 ⟨Nat.le_of_ble_eq_true rfl, Nat.le_of_ble_eq_true rfl⟩ (fun z u H locs rgz hp hX hS => ?_)
          obtain ⟨hz, hu⟩ := hp
          replace hz : z = 0 := hz.trans (by decide)
          subst hz
          replace hu : u = zU M 0 1 1 := hu.trans (by congr 1)
          rw [hu] at hX
          refine z_if_ne (a := 0) (tgt := 68) hx hb d_Mo_door_63 (by decide) (by omega) (fun hb_29 => ?_) (fun hb_30 => ?_)
          · skip
            exfalso
            omega
          · skip
            refine z_const hx hb d_Mo_door_66 ?_
            exact z_iret (z := 0) (post := (fun z u => (((0 ≤ a ∧ a < M 0 3) ∧ (0 ≤ b ∧ b < M 0 3) ∧ (1 ≤ w ∧ w ≤ 20) ∧ ¬ a = b) ∧ (M 0 2 = 0 ∧ M 0 9 < 16) ∧ z = (M 0 9) ∧ u = nShN (nShN (zU (zU (zU (zU (zU M 0 1 0) 6 (M 0 9) a) 7 (M 0 9) b) 8 (M 0 9) w) 0 9 (M 0 9 + 1)) a b 12) b a 12) ∨ (((0 ≤ a ∧ a < M 0 3) ∧ (0 ≤ b ∧ b < M 0 3) ∧ (1 ≤ w ∧ w ≤ 20) ∧ ¬ a = b) ∧ ¬ (M 0 2 = 0 ∧ M 0 9 < 16) ∧ u = zU M 0 1 2) ∨ (¬ ((0 ≤ a ∧ a < M 0 3) ∧ (0 ≤ b ∧ b < M 0 3) ∧ (1 ≤ w ∧ w ≤ 20) ∧ ¬ a = b) ∧ u = zU M 0 1 1))) hx hb hr hlk hK hX hS (by omega) (by first | (exfalso; omega) | exact Or.inr (Or.inr ⟨by omega, rfl⟩) | exact Or.inl ⟨by omega, by omega, by have e9 := congrFun (nShN_c (M := nShN (zU (zU (zU (zU (zU M 0 1 0) 6 (M 0 9) a) 7 (M 0 9) b) 8 (M 0 9) w) 0 9 (M 0 9 + 1)) a b 12) (a := b) (b := a) (c := 0) (by decide) 12) 9; have e8 := congrFun (nShN_c (M := zU (zU (zU (zU (zU M 0 1 0) 6 (M 0 9) a) 7 (M 0 9) b) 8 (M 0 9) w) 0 9 (M 0 9 + 1)) (a := a) (b := b) (c := 0) (by decide) 12) 9; rw [zU_s] at e8; omega, rfl⟩ | exact Or.inr (Or.inl ⟨by omega, by omega, rfl⟩)) d_Mo_door_67
    · skip
      refine lv_iload_n hx hb d_Mo_door_17 rfl (lv_at hl 1 rfl) ?_
      refine lv_iload_n hx hb d_Mo_door_18 rfl (lv_at hl 2 rfl) ?_
      refine z_icmp_eq (a := a) (b := b) (tgt := 38) hx hb d_Mo_door_19 (by decide) (by omega) (fun hb_31 => ?_) (fun hb_32 => ?_)
      · skip
        refine z_const hx hb d_Mo_door_38 ?_
        refine lv_aload_n hx hb d_Mo_door_39 rfl (lv_at hl 0 rfl) ?_
        refine z_geti (i := 2) (v := M 0 2) hx hb iw_Mo hown hK hX 0 rfl rfl 2 (by decide) tw_500 (fun _ h => h) rfl rfl rfl d_Mo_door_40 (fun rg_33 => ?_)
        refine z_if_ne (a := M 0 2) (tgt := 59) hx hb d_Mo_door_43 (by decide) (by omega) (fun hb_34 => ?_) (fun hb_35 => ?_)
        · skip
          refine z_const hx hb d_Mo_door_59 ?_
          refine z_callVi hF (m_may l D ad cI sd M 0 0 (by omega) (by omega)) (hK.cV 2 tw_583 tw_580 tw_7 tw_582 ts_28 (by decide +kernel) rfl rfl ⟨Nat.le_of_ble_eq_true rfl, Nat.le_of_ble_eq_true rfl⟩) hK hX hS rfl rfl rfl hl.1 rfl (Nat.le_of_ble_eq_true rfl) d_Mo_door_60 ⟨Nat.le_of_ble_eq_true rfl, Nat.le_of_ble_eq_true rfl⟩ (fun z u H locs rgz hp hX hS => ?_)
          obtain ⟨hz, hu⟩ := hp
          replace hz : z = 0 := hz.trans (by decide)
          subst hz
          replace hu : u = zU M 0 1 1 := hu.trans (by congr 1)
          rw [hu] at hX
          refine z_if_ne (a := 0) (tgt := 68) hx hb d_Mo_door_63 (by decide) (by omega) (fun hb_36 => ?_) (fun hb_37 => ?_)
          · skip
            exfalso
            omega
          · skip
            refine z_const hx hb d_Mo_door_66 ?_
            exact z_iret (z := 0) (post := (fun z u => (((0 ≤ a ∧ a < M 0 3) ∧ (0 ≤ b ∧ b < M 0 3) ∧ (1 ≤ w ∧ w ≤ 20) ∧ ¬ a = b) ∧ (M 0 2 = 0 ∧ M 0 9 < 16) ∧ z = (M 0 9) ∧ u = nShN (nShN (zU (zU (zU (zU (zU M 0 1 0) 6 (M 0 9) a) 7 (M 0 9) b) 8 (M 0 9) w) 0 9 (M 0 9 + 1)) a b 12) b a 12) ∨ (((0 ≤ a ∧ a < M 0 3) ∧ (0 ≤ b ∧ b < M 0 3) ∧ (1 ≤ w ∧ w ≤ 20) ∧ ¬ a = b) ∧ ¬ (M 0 2 = 0 ∧ M 0 9 < 16) ∧ u = zU M 0 1 2) ∨ (¬ ((0 ≤ a ∧ a < M 0 3) ∧ (0 ≤ b ∧ b < M 0 3) ∧ (1 ≤ w ∧ w ≤ 20) ∧ ¬ a = b) ∧ u = zU M 0 1 1))) hx hb hr hlk hK hX hS (by omega) (by first | (exfalso; omega) | exact Or.inr (Or.inr ⟨by omega, rfl⟩) | exact Or.inl ⟨by omega, by omega, by have e9 := congrFun (nShN_c (M := nShN (zU (zU (zU (zU (zU M 0 1 0) 6 (M 0 9) a) 7 (M 0 9) b) 8 (M 0 9) w) 0 9 (M 0 9 + 1)) a b 12) (a := b) (b := a) (c := 0) (by decide) 12) 9; have e8 := congrFun (nShN_c (M := zU (zU (zU (zU (zU M 0 1 0) 6 (M 0 9) a) 7 (M 0 9) b) 8 (M 0 9) w) 0 9 (M 0 9 + 1)) (a := a) (b := b) (c := 0) (by decide) 12) 9; rw [zU_s] at e8; omega, rfl⟩ | exact Or.inr (Or.inl ⟨by omega, by omega, rfl⟩)) d_Mo_door_67
        · skip
          refine lv_aload_n hx hb d_Mo_door_46 rfl (lv_at hl 0 rfl) ?_
          refine z_geti (i := 9) (v := M 0 9) hx hb iw_Mo hown hK hX 0 rfl rfl 9 (by decide) tw_507 (fun _ h => h) rfl rfl rfl d_Mo_door_47 (fun rg_38 => ?_)
          refine z_bipush hx hb d_Mo_door_50 (by decide) ?_
          refine z_icmp_ge (a := M 0 9) (b := 16) (tgt := 59) hx hb d_Mo_door_52 (by decide) (by omega) (fun hb_39 => ?_) (fun hb_40 => ?_)
          · skip
            refine z_const hx hb d_Mo_door_59 ?_
            refine z_callVi hF (m_may l D ad cI sd M 0 0 (by omega) (by omega)) (hK.cV 2 tw_583 tw_580 tw_7 tw_582 ts_28 (by decide +kernel) rfl rfl ⟨Nat.le_of_ble_eq_true rfl, Nat.le_of_ble_eq_true rfl⟩) hK hX hS rfl rfl rfl hl.1 rfl (Nat.le_of_ble_eq_true rfl) d_Mo_door_60 ⟨Nat.le_of_ble_eq_true rfl, Nat.le_of_ble_eq_true rfl⟩ (fun z u H locs rgz hp hX hS => ?_)
            obtain ⟨hz, hu⟩ := hp
            replace hz : z = 0 := hz.trans (by decide)
            subst hz
            replace hu : u = zU M 0 1 1 := hu.trans (by congr 1)
            rw [hu] at hX
            refine z_if_ne (a := 0) (tgt := 68) hx hb d_Mo_door_63 (by decide) (by omega) (fun hb_41 => ?_) (fun hb_42 => ?_)
            · skip
              exfalso
              omega
            · skip
              refine z_const hx hb d_Mo_door_66 ?_
              exact z_iret (z := 0) (post := (fun z u => (((0 ≤ a ∧ a < M 0 3) ∧ (0 ≤ b ∧ b < M 0 3) ∧ (1 ≤ w ∧ w ≤ 20) ∧ ¬ a = b) ∧ (M 0 2 = 0 ∧ M 0 9 < 16) ∧ z = (M 0 9) ∧ u = nShN (nShN (zU (zU (zU (zU (zU M 0 1 0) 6 (M 0 9) a) 7 (M 0 9) b) 8 (M 0 9) w) 0 9 (M 0 9 + 1)) a b 12) b a 12) ∨ (((0 ≤ a ∧ a < M 0 3) ∧ (0 ≤ b ∧ b < M 0 3) ∧ (1 ≤ w ∧ w ≤ 20) ∧ ¬ a = b) ∧ ¬ (M 0 2 = 0 ∧ M 0 9 < 16) ∧ u = zU M 0 1 2) ∨ (¬ ((0 ≤ a ∧ a < M 0 3) ∧ (0 ≤ b ∧ b < M 0 3) ∧ (1 ≤ w ∧ w ≤ 20) ∧ ¬ a = b) ∧ u = zU M 0 1 1))) hx hb hr hlk hK hX hS (by omega) (by first | (exfalso; omega) | exact Or.inr (Or.inr ⟨by omega, rfl⟩) | exact Or.inl ⟨by omega, by omega, by have e9 := congrFun (nShN_c (M := nShN (zU (zU (zU (zU (zU M 0 1 0) 6 (M 0 9) a) 7 (M 0 9) b) 8 (M 0 9) w) 0 9 (M 0 9 + 1)) a b 12) (a := b) (b := a) (c := 0) (by decide) 12) 9; have e8 := congrFun (nShN_c (M := zU (zU (zU (zU (zU M 0 1 0) 6 (M 0 9) a) 7 (M 0 9) b) 8 (M 0 9) w) 0 9 (M 0 9 + 1)) (a := a) (b := b) (c := 0) (by decide) 12) 9; rw [zU_s] at e8; omega, rfl⟩ | exact Or.inr (Or.inl ⟨by omega, by omega, rfl⟩)) d_Mo_door_67
          · skip
            refine z_const hx hb d_Mo_door_55 ?_
            refine lv_goto (tgt := 60) hx hb d_Mo_door_56 (by decide) ?_
            refine z_callVi hF (m_may l D ad cI sd M 0 1 (by omega) (by omega)) (hK.cV 2 tw_583 tw_580 tw_7 tw_582 ts_28 (by decide +kernel) rfl rfl ⟨Nat.le_of_ble_eq_true rfl, Nat.le_of_ble_eq_true rfl⟩) hK hX hS rfl rfl rfl hl.1 rfl (Nat.le_of_ble_eq_true rfl) d_Mo_door_60 ⟨Nat.le_of_ble_eq_true rfl, Nat.le_of_ble_eq_true rfl⟩ (fun z u H locs rgz hp hX hS => ?_)
            obtain ⟨hz, hu⟩ := hp
            replace hz : z = 0 := hz.trans (by decide)
            subst hz
            replace hu : u = zU M 0 1 1 := hu.trans (by congr 1)
            rw [hu] at hX
            refine z_if_ne (a := 0) (tgt := 68) hx hb d_Mo_door_63 (by decide) (by omega) (fun hb_43 => ?_) (fun hb_44 => ?_)
            · skip
              exfalso
              omega
            · skip
              refine z_const hx hb d_Mo_door_66 ?_
              exact z_iret (z := 0) (post := (fun z u => (((0 ≤ a ∧ a < M 0 3) ∧ (0 ≤ b ∧ b < M 0 3) ∧ (1 ≤ w ∧ w ≤ 20) ∧ ¬ a = b) ∧ (M 0 2 = 0 ∧ M 0 9 < 16) ∧ z = (M 0 9) ∧ u = nShN (nShN (zU (zU (zU (zU (zU M 0 1 0) 6 (M 0 9) a) 7 (M 0 9) b) 8 (M 0 9) w) 0 9 (M 0 9 + 1)) a b 12) b a 12) ∨ (((0 ≤ a ∧ a < M 0 3) ∧ (0 ≤ b ∧ b < M 0 3) ∧ (1 ≤ w ∧ w ≤ 20) ∧ ¬ a = b) ∧ ¬ (M 0 2 = 0 ∧ M 0 9 < 16) ∧ u = zU M 0 1 2) ∨ (¬ ((0 ≤ a ∧ a < M 0 3) ∧ (0 ≤ b ∧ b < M 0 3) ∧ (1 ≤ w ∧ w ≤ 20) ∧ ¬ a = b) ∧ u = zU M 0 1 1))) hx hb hr hlk hK hX hS (by omega) (by first | (exfalso; omega) | exact Or.inr (Or.inr ⟨by omega, rfl⟩) | exact Or.inl ⟨by omega, by omega, by have e9 := congrFun (nShN_c (M := nShN (zU (zU (zU (zU (zU M 0 1 0) 6 (M 0 9) a) 7 (M 0 9) b) 8 (M 0 9) w) 0 9 (M 0 9 + 1)) a b 12) (a := b) (b := a) (c := 0) (by decide) 12) 9; have e8 := congrFun (nShN_c (M := zU (zU (zU (zU (zU M 0 1 0) 6 (M 0 9) a) 7 (M 0 9) b) 8 (M 0 9) w) 0 9 (M 0 9 + 1)) (a := a) (b := b) (c := 0) (by decide) 12) 9; rw [zU_s] at e8; omega, rfl⟩ | exact Or.inr (Or.inl ⟨by omega, by omega, rfl⟩)) d_Mo_door_67
      · skip
        refine lv_iload_n hx hb d_Mo_door_22 rfl (lv_at hl 3 rfl) ?_
        refine z_i2l (a := w) hx hb (by omega) d_Mo_door_23 ?_
        refine z_lconst (v := 1) hx hb d_Mo_door_24 (by decide) ?_
        refine z_ldcl (v := 20) hx hb hown hK tw_592 (by decide) d_Mo_door_25 ?_
        refine z_callSi hF (m_within l D ad cI sd M w 1 20 (by omega) (by omega) (by omega)) (hK.cS 3 tw_579 tw_577 tw_7 tw_578 (by decide +kernel) rfl rfl ⟨Nat.le_of_ble_eq_true rfl, Nat.le_of_ble_eq_true rfl⟩) hK hX hS rfl hl.1 rfl (Nat.le_of_ble_eq_true rfl) d_Mo_door_28 ⟨Nat.le_of_ble_eq_true rfl, Nat.le_of_ble_eq_true rfl⟩ (fun z u H locs rg_45 hp hX hS => ?_)
        obtain ⟨hz, hu⟩ := hp
        rw [hu] at hX
        have hz : z = (if 1 ≤ w ∧ w ≤ 20 then 1 else 0) := hz
        subst hz
        refine z_if_eq (a := if 1 ≤ w ∧ w ≤ 20 then 1 else 0) (tgt := 38) hx hb d_Mo_door_31 (by decide) (by omega) (fun hb_46 => ?_) (fun hb_47 => ?_)
        · skip
          refine z_const hx hb d_Mo_door_38 ?_
          refine lv_aload_n hx hb d_Mo_door_39 rfl (lv_at hl 0 rfl) ?_
          refine z_geti (i := 2) (v := M 0 2) hx hb iw_Mo hown hK hX 0 rfl rfl 2 (by decide) tw_500 (fun _ h => h) rfl rfl rfl d_Mo_door_40 (fun rg_48 => ?_)
          refine z_if_ne (a := M 0 2) (tgt := 59) hx hb d_Mo_door_43 (by decide) (by omega) (fun hb_49 => ?_) (fun hb_50 => ?_)
          · skip
            refine z_const hx hb d_Mo_door_59 ?_
            refine z_callVi hF (m_may l D ad cI sd M 0 0 (by omega) (by omega)) (hK.cV 2 tw_583 tw_580 tw_7 tw_582 ts_28 (by decide +kernel) rfl rfl ⟨Nat.le_of_ble_eq_true rfl, Nat.le_of_ble_eq_true rfl⟩) hK hX hS rfl rfl rfl hl.1 rfl (Nat.le_of_ble_eq_true rfl) d_Mo_door_60 ⟨Nat.le_of_ble_eq_true rfl, Nat.le_of_ble_eq_true rfl⟩ (fun z u H locs rgz hp hX hS => ?_)
            obtain ⟨hz, hu⟩ := hp
            replace hz : z = 0 := hz.trans (by decide)
            subst hz
            replace hu : u = zU M 0 1 1 := hu.trans (by congr 1)
            rw [hu] at hX
            refine z_if_ne (a := 0) (tgt := 68) hx hb d_Mo_door_63 (by decide) (by omega) (fun hb_51 => ?_) (fun hb_52 => ?_)
            · skip
              exfalso
              omega
            · skip
              refine z_const hx hb d_Mo_door_66 ?_
              exact z_iret (z := 0) (post := (fun z u => (((0 ≤ a ∧ a < M 0 3) ∧ (0 ≤ b ∧ b < M 0 3) ∧ (1 ≤ w ∧ w ≤ 20) ∧ ¬ a = b) ∧ (M 0 2 = 0 ∧ M 0 9 < 16) ∧ z = (M 0 9) ∧ u = nShN (nShN (zU (zU (zU (zU (zU M 0 1 0) 6 (M 0 9) a) 7 (M 0 9) b) 8 (M 0 9) w) 0 9 (M 0 9 + 1)) a b 12) b a 12) ∨ (((0 ≤ a ∧ a < M 0 3) ∧ (0 ≤ b ∧ b < M 0 3) ∧ (1 ≤ w ∧ w ≤ 20) ∧ ¬ a = b) ∧ ¬ (M 0 2 = 0 ∧ M 0 9 < 16) ∧ u = zU M 0 1 2) ∨ (¬ ((0 ≤ a ∧ a < M 0 3) ∧ (0 ≤ b ∧ b < M 0 3) ∧ (1 ≤ w ∧ w ≤ 20) ∧ ¬ a = b) ∧ u = zU M 0 1 1))) hx hb hr hlk hK hX hS (by omega) (by first | (exfalso; omega) | exact Or.inr (Or.inr ⟨by omega, rfl⟩) | exact Or.inl ⟨by omega, by omega, by have e9 := congrFun (nShN_c (M := nShN (zU (zU (zU (zU (zU M 0 1 0) 6 (M 0 9) a) 7 (M 0 9) b) 8 (M 0 9) w) 0 9 (M 0 9 + 1)) a b 12) (a := b) (b := a) (c := 0) (by decide) 12) 9; have e8 := congrFun (nShN_c (M := zU (zU (zU (zU (zU M 0 1 0) 6 (M 0 9) a) 7 (M 0 9) b) 8 (M 0 9) w) 0 9 (M 0 9 + 1)) (a := a) (b := b) (c := 0) (by decide) 12) 9; rw [zU_s] at e8; omega, rfl⟩ | exact Or.inr (Or.inl ⟨by omega, by omega, rfl⟩)) d_Mo_door_67
          · skip
            refine lv_aload_n hx hb d_Mo_door_46 rfl (lv_at hl 0 rfl) ?_
            refine z_geti (i := 9) (v := M 0 9) hx hb iw_Mo hown hK hX 0 rfl rfl 9 (by decide) tw_507 (fun _ h => h) rfl rfl rfl d_Mo_door_47 (fun rg_53 => ?_)
            refine z_bipush hx hb d_Mo_door_50 (by decide) ?_
            refine z_icmp_ge (a := M 0 9) (b := 16) (tgt := 59) hx hb d_Mo_door_52 (by decide) (by omega) (fun hb_54 => ?_) (fun hb_55 => ?_)
            · skip
              refine z_const hx hb d_Mo_door_59 ?_
              refine z_callVi hF (m_may l D ad cI sd M 0 0 (by omega) (by omega)) (hK.cV 2 tw_583 tw_580 tw_7 tw_582 ts_28 (by decide +kernel) rfl rfl ⟨Nat.le_of_ble_eq_true rfl, Nat.le_of_ble_eq_true rfl⟩) hK hX hS rfl rfl rfl hl.1 rfl (Nat.le_of_ble_eq_true rfl) d_Mo_door_60 ⟨Nat.le_of_ble_eq_true rfl, Nat.le_of_ble_eq_true rfl⟩ (fun z u H locs rgz hp hX hS => ?_)
              obtain ⟨hz, hu⟩ := hp
              replace hz : z = 0 := hz.trans (by decide)
              subst hz
              replace hu : u = zU M 0 1 1 := hu.trans (by congr 1)
              rw [hu] at hX
              refine z_if_ne (a := 0) (tgt := 68) hx hb d_Mo_door_63 (by decide) (by omega) (fun hb_56 => ?_) (fun hb_57 => ?_)
              · skip
                exfalso
                omega
              · skip
                refine z_const hx hb d_Mo_door_66 ?_
                exact z_iret (z := 0) (post := (fun z u => (((0 ≤ a ∧ a < M 0 3) ∧ (0 ≤ b ∧ b < M 0 3) ∧ (1 ≤ w ∧ w ≤ 20) ∧ ¬ a = b) ∧ (M 0 2 = 0 ∧ M 0 9 < 16) ∧ z = (M 0 9) ∧ u = nShN (nShN (zU (zU (zU (zU (zU M 0 1 0) 6 (M 0 9) a) 7 (M 0 9) b) 8 (M 0 9) w) 0 9 (M 0 9 + 1)) a b 12) b a 12) ∨ (((0 ≤ a ∧ a < M 0 3) ∧ (0 ≤ b ∧ b < M 0 3) ∧ (1 ≤ w ∧ w ≤ 20) ∧ ¬ a = b) ∧ ¬ (M 0 2 = 0 ∧ M 0 9 < 16) ∧ u = zU M 0 1 2) ∨ (¬ ((0 ≤ a ∧ a < M 0 3) ∧ (0 ≤ b ∧ b < M 0 3) ∧ (1 ≤ w ∧ w ≤ 20) ∧ ¬ a = b) ∧ u = zU M 0 1 1))) hx hb hr hlk hK hX hS (by omega) (by first | (exfalso; omega) | exact Or.inr (Or.inr ⟨by omega, rfl⟩) | exact Or.inl ⟨by omega, by omega, by have e9 := congrFun (nShN_c (M := nShN (zU (zU (zU (zU (zU M 0 1 0) 6 (M 0 9) a) 7 (M 0 9) b) 8 (M 0 9) w) 0 9 (M 0 9 + 1)) a b 12) (a := b) (b := a) (c := 0) (by decide) 12) 9; have e8 := congrFun (nShN_c (M := zU (zU (zU (zU (zU M 0 1 0) 6 (M 0 9) a) 7 (M 0 9) b) 8 (M 0 9) w) 0 9 (M 0 9 + 1)) (a := a) (b := b) (c := 0) (by decide) 12) 9; rw [zU_s] at e8; omega, rfl⟩ | exact Or.inr (Or.inl ⟨by omega, by omega, rfl⟩)) d_Mo_door_67
            · skip
              refine z_const hx hb d_Mo_door_55 ?_
              refine lv_goto (tgt := 60) hx hb d_Mo_door_56 (by decide) ?_
              refine z_callVi hF (m_may l D ad cI sd M 0 1 (by omega) (by omega)) (hK.cV 2 tw_583 tw_580 tw_7 tw_582 ts_28 (by decide +kernel) rfl rfl ⟨Nat.le_of_ble_eq_true rfl, Nat.le_of_ble_eq_true rfl⟩) hK hX hS rfl rfl rfl hl.1 rfl (Nat.le_of_ble_eq_true rfl) d_Mo_door_60 ⟨Nat.le_of_ble_eq_true rfl, Nat.le_of_ble_eq_true rfl⟩ (fun z u H locs rgz hp hX hS => ?_)
              obtain ⟨hz, hu⟩ := hp
              replace hz : z = 0 := hz.trans (by decide)
              subst hz
              replace hu : u = zU M 0 1 1 := hu.trans (by congr 1)
              rw [hu] at hX
              refine z_if_ne (a := 0) (tgt := 68) hx hb d_Mo_door_63 (by decide) (by omega) (fun hb_58 => ?_) (fun hb_59 => ?_)
              · skip
                exfalso
                omega
              · skip
                refine z_const hx hb d_Mo_door_66 ?_
                exact z_iret (z := 0) (post := (fun z u => (((0 ≤ a ∧ a < M 0 3) ∧ (0 ≤ b ∧ b < M 0 3) ∧ (1 ≤ w ∧ w ≤ 20) ∧ ¬ a = b) ∧ (M 0 2 = 0 ∧ M 0 9 < 16) ∧ z = (M 0 9) ∧ u = nShN (nShN (zU (zU (zU (zU (zU M 0 1 0) 6 (M 0 9) a) 7 (M 0 9) b) 8 (M 0 9) w) 0 9 (M 0 9 + 1)) a b 12) b a 12) ∨ (((0 ≤ a ∧ a < M 0 3) ∧ (0 ≤ b ∧ b < M 0 3) ∧ (1 ≤ w ∧ w ≤ 20) ∧ ¬ a = b) ∧ ¬ (M 0 2 = 0 ∧ M 0 9 < 16) ∧ u = zU M 0 1 2) ∨ (¬ ((0 ≤ a ∧ a < M 0 3) ∧ (0 ≤ b ∧ b < M 0 3) ∧ (1 ≤ w ∧ w ≤ 20) ∧ ¬ a = b) ∧ u = zU M 0 1 1))) hx hb hr hlk hK hX hS (by omega) (by first | (exfalso; omega) | exact Or.inr (Or.inr ⟨by omega, rfl⟩) | exact Or.inl ⟨by omega, by omega, by have e9 := congrFun (nShN_c (M := nShN (zU (zU (zU (zU (zU M 0 1 0) 6 (M 0 9) a) 7 (M 0 9) b) 8 (M 0 9) w) 0 9 (M 0 9 + 1)) a b 12) (a := b) (b := a) (c := 0) (by decide) 12) 9; have e8 := congrFun (nShN_c (M := zU (zU (zU (zU (zU M 0 1 0) 6 (M 0 9) a) 7 (M 0 9) b) 8 (M 0 9) w) 0 9 (M 0 9 + 1)) (a := a) (b := b) (c := 0) (by decide) 12) 9; rw [zU_s] at e8; omega, rfl⟩ | exact Or.inr (Or.inl ⟨by omega, by omega, rfl⟩)) d_Mo_door_67
        · skip
          refine z_const hx hb d_Mo_door_34 ?_
          refine lv_goto (tgt := 39) hx hb d_Mo_door_35 (by decide) ?_
          refine lv_aload_n hx hb d_Mo_door_39 rfl (lv_at hl 0 rfl) ?_
          refine z_geti (i := 2) (v := M 0 2) hx hb iw_Mo hown hK hX 0 rfl rfl 2 (by decide) tw_500 (fun _ h => h) rfl rfl rfl d_Mo_door_40 (fun rg_60 => ?_)
          refine z_if_ne (a := M 0 2) (tgt := 59) hx hb d_Mo_door_43 (by decide) (by omega) (fun hb_61 => ?_) (fun hb_62 => ?_)
          · skip
            refine z_const hx hb d_Mo_door_59 ?_
            refine z_callVi hF (m_may l D ad cI sd M 1 0 (by omega) (by omega)) (hK.cV 2 tw_583 tw_580 tw_7 tw_582 ts_28 (by decide +kernel) rfl rfl ⟨Nat.le_of_ble_eq_true rfl, Nat.le_of_ble_eq_true rfl⟩) hK hX hS rfl rfl rfl hl.1 rfl (Nat.le_of_ble_eq_true rfl) d_Mo_door_60 ⟨Nat.le_of_ble_eq_true rfl, Nat.le_of_ble_eq_true rfl⟩ (fun z u H locs rgz hp hX hS => ?_)
            obtain ⟨hz, hu⟩ := hp
            replace hz : z = 0 := hz.trans (by decide)
            subst hz
            replace hu : u = zU M 0 1 2 := hu.trans (by congr 1)
            rw [hu] at hX
            refine z_if_ne (a := 0) (tgt := 68) hx hb d_Mo_door_63 (by decide) (by omega) (fun hb_63 => ?_) (fun hb_64 => ?_)
            · skip
              exfalso
              omega
            · skip
              refine z_const hx hb d_Mo_door_66 ?_
              exact z_iret (z := 0) (post := (fun z u => (((0 ≤ a ∧ a < M 0 3) ∧ (0 ≤ b ∧ b < M 0 3) ∧ (1 ≤ w ∧ w ≤ 20) ∧ ¬ a = b) ∧ (M 0 2 = 0 ∧ M 0 9 < 16) ∧ z = (M 0 9) ∧ u = nShN (nShN (zU (zU (zU (zU (zU M 0 1 0) 6 (M 0 9) a) 7 (M 0 9) b) 8 (M 0 9) w) 0 9 (M 0 9 + 1)) a b 12) b a 12) ∨ (((0 ≤ a ∧ a < M 0 3) ∧ (0 ≤ b ∧ b < M 0 3) ∧ (1 ≤ w ∧ w ≤ 20) ∧ ¬ a = b) ∧ ¬ (M 0 2 = 0 ∧ M 0 9 < 16) ∧ u = zU M 0 1 2) ∨ (¬ ((0 ≤ a ∧ a < M 0 3) ∧ (0 ≤ b ∧ b < M 0 3) ∧ (1 ≤ w ∧ w ≤ 20) ∧ ¬ a = b) ∧ u = zU M 0 1 1))) hx hb hr hlk hK hX hS (by omega) (by first | (exfalso; omega) | exact Or.inr (Or.inr ⟨by omega, rfl⟩) | exact Or.inl ⟨by omega, by omega, by have e9 := congrFun (nShN_c (M := nShN (zU (zU (zU (zU (zU M 0 1 0) 6 (M 0 9) a) 7 (M 0 9) b) 8 (M 0 9) w) 0 9 (M 0 9 + 1)) a b 12) (a := b) (b := a) (c := 0) (by decide) 12) 9; have e8 := congrFun (nShN_c (M := zU (zU (zU (zU (zU M 0 1 0) 6 (M 0 9) a) 7 (M 0 9) b) 8 (M 0 9) w) 0 9 (M 0 9 + 1)) (a := a) (b := b) (c := 0) (by decide) 12) 9; rw [zU_s] at e8; omega, rfl⟩ | exact Or.inr (Or.inl ⟨by omega, by omega, rfl⟩)) d_Mo_door_67
          · skip
            refine lv_aload_n hx hb d_Mo_door_46 rfl (lv_at hl 0 rfl) ?_
            refine z_geti (i := 9) (v := M 0 9) hx hb iw_Mo hown hK hX 0 rfl rfl 9 (by decide) tw_507 (fun _ h => h) rfl rfl rfl d_Mo_door_47 (fun rg_65 => ?_)
            refine z_bipush hx hb d_Mo_door_50 (by decide) ?_
            refine z_icmp_ge (a := M 0 9) (b := 16) (tgt := 59) hx hb d_Mo_door_52 (by decide) (by omega) (fun hb_66 => ?_) (fun hb_67 => ?_)
            · skip
              refine z_const hx hb d_Mo_door_59 ?_
              refine z_callVi hF (m_may l D ad cI sd M 1 0 (by omega) (by omega)) (hK.cV 2 tw_583 tw_580 tw_7 tw_582 ts_28 (by decide +kernel) rfl rfl ⟨Nat.le_of_ble_eq_true rfl, Nat.le_of_ble_eq_true rfl⟩) hK hX hS rfl rfl rfl hl.1 rfl (Nat.le_of_ble_eq_true rfl) d_Mo_door_60 ⟨Nat.le_of_ble_eq_true rfl, Nat.le_of_ble_eq_true rfl⟩ (fun z u H locs rgz hp hX hS => ?_)
              obtain ⟨hz, hu⟩ := hp
              replace hz : z = 0 := hz.trans (by decide)
              subst hz
              replace hu : u = zU M 0 1 2 := hu.trans (by congr 1)
              rw [hu] at hX
              refine z_if_ne (a := 0) (tgt := 68) hx hb d_Mo_door_63 (by decide) (by omega) (fun hb_68 => ?_) (fun hb_69 => ?_)
              · skip
                exfalso
                omega
              · skip
                refine z_const hx hb d_Mo_door_66 ?_
                exact z_iret (z := 0) (post := (fun z u => (((0 ≤ a ∧ a < M 0 3) ∧ (0 ≤ b ∧ b < M 0 3) ∧ (1 ≤ w ∧ w ≤ 20) ∧ ¬ a = b) ∧ (M 0 2 = 0 ∧ M 0 9 < 16) ∧ z = (M 0 9) ∧ u = nShN (nShN (zU (zU (zU (zU (zU M 0 1 0) 6 (M 0 9) a) 7 (M 0 9) b) 8 (M 0 9) w) 0 9 (M 0 9 + 1)) a b 12) b a 12) ∨ (((0 ≤ a ∧ a < M 0 3) ∧ (0 ≤ b ∧ b < M 0 3) ∧ (1 ≤ w ∧ w ≤ 20) ∧ ¬ a = b) ∧ ¬ (M 0 2 = 0 ∧ M 0 9 < 16) ∧ u = zU M 0 1 2) ∨ (¬ ((0 ≤ a ∧ a < M 0 3) ∧ (0 ≤ b ∧ b < M 0 3) ∧ (1 ≤ w ∧ w ≤ 20) ∧ ¬ a = b) ∧ u = zU M 0 1 1))) hx hb hr hlk hK hX hS (by omega) (by first | (exfalso; omega) | exact Or.inr (Or.inr ⟨by omega, rfl⟩) | exact Or.inl ⟨by omega, by omega, by have e9 := congrFun (nShN_c (M := nShN (zU (zU (zU (zU (zU M 0 1 0) 6 (M 0 9) a) 7 (M 0 9) b) 8 (M 0 9) w) 0 9 (M 0 9 + 1)) a b 12) (a := b) (b := a) (c := 0) (by decide) 12) 9; have e8 := congrFun (nShN_c (M := zU (zU (zU (zU (zU M 0 1 0) 6 (M 0 9) a) 7 (M 0 9) b) 8 (M 0 9) w) 0 9 (M 0 9 + 1)) (a := a) (b := b) (c := 0) (by decide) 12) 9; rw [zU_s] at e8; omega, rfl⟩ | exact Or.inr (Or.inl ⟨by omega, by omega, rfl⟩)) d_Mo_door_67
            · skip
              refine z_const hx hb d_Mo_door_55 ?_
              refine lv_goto (tgt := 60) hx hb d_Mo_door_56 (by decide) ?_
              refine z_callVi hF (m_may l D ad cI sd M 1 1 (by omega) (by omega)) (hK.cV 2 tw_583 tw_580 tw_7 tw_582 ts_28 (by decide +kernel) rfl rfl ⟨Nat.le_of_ble_eq_true rfl, Nat.le_of_ble_eq_true rfl⟩) hK hX hS rfl rfl rfl hl.1 rfl (Nat.le_of_ble_eq_true rfl) d_Mo_door_60 ⟨Nat.le_of_ble_eq_true rfl, Nat.le_of_ble_eq_true rfl⟩ (fun z u H locs rgz hp hX hS => ?_)
              obtain ⟨hz, hu⟩ := hp
              replace hz : z = 1 := hz.trans (by decide)
              subst hz
              replace hu : u = zU M 0 1 0 := hu.trans (by congr 1)
              rw [hu] at hX
              refine z_if_ne (a := 1) (tgt := 68) hx hb d_Mo_door_63 (by decide) (by omega) (fun hb_70 => ?_) (fun hb_71 => ?_)
              · skip
                refine lv_aload_n hx hb d_Mo_door_68 rfl (lv_at hl 0 rfl) ?_
                refine z_getr hx hb iw_Mo hown hK hX 0 rfl rfl 10 (by decide) tw_508 (fun _ h => h) 6 rfl d_Mo_door_69 ?_
                refine lv_aload_n hx hb d_Mo_door_72 rfl (lv_at hl 0 rfl) ?_
                refine z_geti (i := 9) (v := M 0 9) hx hb iw_Mo hown hK hX 0 rfl rfl 9 (by decide) tw_507 (fun _ h => h) rfl rfl (by simp [zU]) d_Mo_door_73 (fun rg_72 => ?_)
                refine lv_iload_n hx hb d_Mo_door_76 rfl (lv_at hl 1 rfl) ?_
                refine z_iast (i := M 0 9) (v := a) hx hb hK hX hS 6 rfl (by omega) (by decide) (by omega) d_Mo_door_77 (fun H locs hX hS => ?_)
                refine lv_aload_n hx hb d_Mo_door_78 rfl (lv_at hl 0 rfl) ?_
                refine z_getr hx hb iw_Mo hown hK hX 0 rfl rfl 11 (by decide) tw_509 (fun _ h => h) 7 rfl d_Mo_door_79 ?_
                refine lv_aload_n hx hb d_Mo_door_82 rfl (lv_at hl 0 rfl) ?_
                refine z_geti (i := 9) (v := M 0 9) hx hb iw_Mo hown hK hX 0 rfl rfl 9 (by decide) tw_507 (fun _ h => h) rfl rfl (by simp [zU]) d_Mo_door_83 (fun rg_73 => ?_)
                refine lv_iload_n hx hb d_Mo_door_86 rfl (lv_at hl 2 rfl) ?_
                refine z_iast (i := M 0 9) (v := b) hx hb hK hX hS 7 rfl (by omega) (by decide) (by omega) d_Mo_door_87 (fun H locs hX hS => ?_)
                refine lv_aload_n hx hb d_Mo_door_88 rfl (lv_at hl 0 rfl) ?_
                refine z_getr hx hb iw_Mo hown hK hX 0 rfl rfl 12 (by decide) tw_510 (fun _ h => h) 8 rfl d_Mo_door_89 ?_
                refine lv_aload_n hx hb d_Mo_door_92 rfl (lv_at hl 0 rfl) ?_
                refine z_geti (i := 9) (v := M 0 9) hx hb iw_Mo hown hK hX 0 rfl rfl 9 (by decide) tw_507 (fun _ h => h) rfl rfl (by simp [zU]) d_Mo_door_93 (fun rg_74 => ?_)
                refine lv_iload_n hx hb d_Mo_door_96 rfl (lv_at hl 3 rfl) ?_
                refine z_iast (i := M 0 9) (v := w) hx hb hK hX hS 8 rfl (by omega) (by decide) (by omega) d_Mo_door_97 (fun H locs hX hS => ?_)
                refine lv_aload_n hx hb d_Mo_door_98 rfl (lv_at hl 0 rfl) ?_
                refine lv_dup hx hb d_Mo_door_99 rfl ?_
                refine z_geti (i := 9) (v := M 0 9) hx hb iw_Mo hown hK hX 0 rfl rfl 9 (by decide) tw_507 (fun _ h => h) rfl rfl (by simp [zU]) d_Mo_door_100 (fun rg_75 => ?_)
                refine z_const hx hb d_Mo_door_103 ?_
                refine z_iadd hx hb d_Mo_door_104 ?_
                refine z_puti (i := 9) (v := (M 0 9) + 1) hx hb iw_Mo ty_Mo tyo_Mo n_Mo hown hK hX hS 0 rfl rfl 9 (by decide) tw_507 (fun _ h => h) rfl (by decide +kernel) rfl rfl (by omega) d_Mo_door_105 (fun H locs hX hS => ?_)
                refine lv_aload_n hx hb d_Mo_door_108 rfl (lv_at hl 0 rfl) ?_
                refine lv_iload_n hx hb d_Mo_door_109 rfl (lv_at hl 1 rfl) ?_
                refine lv_iload_n hx hb d_Mo_door_110 rfl (lv_at hl 2 rfl) ?_
                refine z_callVv hF (m_shorten l D ad cI sd (zU (zU (zU (zU (zU M 0 1 0) 6 (M 0 9) a) 7 (M 0 9) b) 8 (M 0 9) w) 0 9 ((M 0 9) + 1)) a b (by omega) (by omega) 200001 (by omega) (nSh_b (B := 100000) (by omega) (by omega) (by omega) hO.2.2.2.2.2.2.1)) (hK.cV 2 tw_596 tw_593 tw_7 tw_595 ts_30 (by decide +kernel) rfl rfl ⟨Nat.le_of_ble_eq_true rfl, Nat.le_of_ble_eq_true rfl⟩) hK hX hS rfl rfl rfl hl.1 rfl (Nat.le_of_ble_eq_true rfl) d_Mo_door_111 ⟨Nat.le_of_ble_eq_true rfl, Nat.le_of_ble_eq_true rfl⟩ (fun u H locs hp hX hS => ?_)
                rw [hp] at hX
                refine lv_aload_n hx hb d_Mo_door_114 rfl (lv_at hl 0 rfl) ?_
                refine lv_iload_n hx hb d_Mo_door_115 rfl (lv_at hl 2 rfl) ?_
                refine lv_iload_n hx hb d_Mo_door_116 rfl (lv_at hl 1 rfl) ?_
                refine z_callVv hF (m_shorten l D ad cI sd (nShN (zU (zU (zU (zU (zU M 0 1 0) 6 (M 0 9) a) 7 (M 0 9) b) 8 (M 0 9) w) 0 9 ((M 0 9) + 1)) a b 12) b a (by omega) (by omega) 400003 (by omega) (nSh_b (B := 200001) (by omega) (by omega) (by omega) (nSh_B (B := 100000) (by omega) (by omega) (by omega) hO.2.2.2.2.2.2.1))) (hK.cV 2 tw_596 tw_593 tw_7 tw_595 ts_30 (by decide +kernel) rfl rfl ⟨Nat.le_of_ble_eq_true rfl, Nat.le_of_ble_eq_true rfl⟩) hK hX hS rfl rfl rfl hl.1 rfl (Nat.le_of_ble_eq_true rfl) d_Mo_door_117 ⟨Nat.le_of_ble_eq_true rfl, Nat.le_of_ble_eq_true rfl⟩ (fun u H locs hp hX hS => ?_)
                rw [hp] at hX
                have e7 : nShN (nShN (zU (zU (zU (zU (zU M 0 1 0) 6 (M 0 9) a) 7 (M 0 9) b) 8 (M 0 9) w) 0 9 (M 0 9 + 1)) a b 12) b a 12 0 9 = M 0 9 + 1 := by have e9 := congrFun (nShN_c (M := nShN (zU (zU (zU (zU (zU M 0 1 0) 6 (M 0 9) a) 7 (M 0 9) b) 8 (M 0 9) w) 0 9 (M 0 9 + 1)) a b 12) (a := b) (b := a) (c := 0) (by decide) 12) 9; have e8 := congrFun (nShN_c (M := zU (zU (zU (zU (zU M 0 1 0) 6 (M 0 9) a) 7 (M 0 9) b) 8 (M 0 9) w) 0 9 (M 0 9 + 1)) (a := a) (b := b) (c := 0) (by decide) 12) 9; rw [zU_s] at e8; rw [e9, e8]
                refine lv_aload_n hx hb d_Mo_door_120 rfl (lv_at hl 0 rfl) ?_
                refine z_geti (i := 9) (v := (nShN (nShN (zU (zU (zU (zU (zU M 0 1 0) 6 (M 0 9) a) 7 (M 0 9) b) 8 (M 0 9) w) 0 9 ((M 0 9) + 1)) a b 12) b a 12) 0 9) hx hb iw_Mo hown hK hX 0 rfl rfl 9 (by decide) tw_507 (fun _ h => h) rfl rfl rfl d_Mo_door_121 (fun rg_76 => ?_)
                refine z_const hx hb d_Mo_door_124 ?_
                refine z_isub hx hb d_Mo_door_125 ?_
                exact z_iret (z := ((nShN (nShN (zU (zU (zU (zU (zU M 0 1 0) 6 (M 0 9) a) 7 (M 0 9) b) 8 (M 0 9) w) 0 9 ((M 0 9) + 1)) a b 12) b a 12) 0 9) - 1) (post := (fun z u => (((0 ≤ a ∧ a < M 0 3) ∧ (0 ≤ b ∧ b < M 0 3) ∧ (1 ≤ w ∧ w ≤ 20) ∧ ¬ a = b) ∧ (M 0 2 = 0 ∧ M 0 9 < 16) ∧ z = (M 0 9) ∧ u = nShN (nShN (zU (zU (zU (zU (zU M 0 1 0) 6 (M 0 9) a) 7 (M 0 9) b) 8 (M 0 9) w) 0 9 (M 0 9 + 1)) a b 12) b a 12) ∨ (((0 ≤ a ∧ a < M 0 3) ∧ (0 ≤ b ∧ b < M 0 3) ∧ (1 ≤ w ∧ w ≤ 20) ∧ ¬ a = b) ∧ ¬ (M 0 2 = 0 ∧ M 0 9 < 16) ∧ u = zU M 0 1 2) ∨ (¬ ((0 ≤ a ∧ a < M 0 3) ∧ (0 ≤ b ∧ b < M 0 3) ∧ (1 ≤ w ∧ w ≤ 20) ∧ ¬ a = b) ∧ u = zU M 0 1 1))) hx hb hr hlk hK hX hS (by omega) (by first | (exfalso; omega) | exact Or.inr (Or.inr ⟨by omega, rfl⟩) | exact Or.inl ⟨by omega, by omega, by have e9 := congrFun (nShN_c (M := nShN (zU (zU (zU (zU (zU M 0 1 0) 6 (M 0 9) a) 7 (M 0 9) b) 8 (M 0 9) w) 0 9 (M 0 9 + 1)) a b 12) (a := b) (b := a) (c := 0) (by decide) 12) 9; have e8 := congrFun (nShN_c (M := zU (zU (zU (zU (zU M 0 1 0) 6 (M 0 9) a) 7 (M 0 9) b) 8 (M 0 9) w) 0 9 (M 0 9 + 1)) (a := a) (b := b) (c := 0) (by decide) 12) 9; rw [zU_s] at e8; omega, rfl⟩ | exact Or.inr (Or.inl ⟨by omega, by omega, rfl⟩)) d_Mo_door_126
              · skip
                exfalso
                omega
set_option maxHeartbeats 4000000 in
set_option maxRecDepth 100000 in
theorem m_arrives (l : Launch) (D : va_G) (ad : Nat → Nat) (cI : Nat → ClassId) (sd : Int64) (M : zM) (t n : Int) (g0 : -2147483648 ≤ t ∧ t ≤ 2147483647) (g1 : -2147483648 ≤ n ∧ n ≤ 2147483647) (hO : nOK M) : zMi l y_Mo_arrives (.code y_Mo_arrives c_Mo_arrives 5 (some .int)) { frames := 1, cells := 0, slots := 0, locals := 25 } D (nL sd) ad cI M [.ref (ad 0), .int (zI (t)), .int (zI (n))] (fun z u => (((0 ≤ t ∧ t ≤ 1439) ∧ (1 ≤ n ∧ n ≤ 20)) ∧ (M 0 2 = 0 ∧ 0 < M 0 3 ∧ M 0 16 + n ≤ 60) ∧ z = (M 0 16 + n) ∧ u = nArr (zU M 0 1 0) t n) ∨ (((0 ≤ t ∧ t ≤ 1439) ∧ (1 ≤ n ∧ n ≤ 20)) ∧ ¬ (M 0 2 = 0 ∧ 0 < M 0 3 ∧ M 0 16 + n ≤ 60) ∧ u = zU M 0 1 2) ∨ (¬ ((0 ≤ t ∧ t ≤ 1439) ∧ (1 ≤ n ∧ n ≤ 20)) ∧ u = zU M 0 1 1)) := by
  refine z_of (cc := c_Mo_arrives) (maxL := 5) (ret := some .int) (own := "PersonSeedsModel") (by decide) rfl rfl (Nat.le_of_ble_eq_true rfl) ?_
  intro p e s m below meth c ls hF hr hX hK hl
  obtain ⟨hx, hb, hml, hown, hlk⟩ := id hF
  have hS : va_S (zA ad (nL sd)) s.heap s.heap [] := va_S.rf
  have hl : lv_has ls 5 [(0, .ref (ad 0)), (1, .int (zI (t))), (2, .int (zI (n)))] := hl
  have o1 := hO.1
  have o3 := hO.2.2.1
  refine lv_aload_n hx hb d_Mo_arrives_0 rfl (lv_at hl 0 rfl) ?_
  refine lv_iload_n hx hb d_Mo_arrives_1 rfl (lv_at hl 1 rfl) ?_
  refine z_i2l (a := t) hx hb (by omega) d_Mo_arrives_2 ?_
  refine z_lconst (v := 0) hx hb d_Mo_arrives_3 (by decide) ?_
  refine z_ldcl (v := 1439) hx hb hown hK tw_601 (by decide) d_Mo_arrives_4 ?_
  refine z_callSi hF (m_within l D ad cI sd M t 0 1439 (by omega) (by omega) (by omega)) (hK.cS 3 tw_579 tw_577 tw_7 tw_578 (by decide +kernel) rfl rfl ⟨Nat.le_of_ble_eq_true rfl, Nat.le_of_ble_eq_true rfl⟩) hK hX hS rfl hl.1 rfl (Nat.le_of_ble_eq_true rfl) d_Mo_arrives_7 ⟨Nat.le_of_ble_eq_true rfl, Nat.le_of_ble_eq_true rfl⟩ (fun z u H locs rg_1 hp hX hS => ?_)
  obtain ⟨hz, hu⟩ := hp
  rw [hu] at hX
  have hz : z = (if 0 ≤ t ∧ t ≤ 1439 then 1 else 0) := hz
  subst hz
  refine z_if_eq (a := if 0 ≤ t ∧ t ≤ 1439 then 1 else 0) (tgt := 29) hx hb d_Mo_arrives_10 (by decide) (by omega) (fun hb_2 => ?_) (fun hb_3 => ?_)
  · skip
    refine z_const hx hb d_Mo_arrives_29 ?_
    refine lv_aload_n hx hb d_Mo_arrives_30 rfl (lv_at hl 0 rfl) ?_
    refine z_geti (i := 2) (v := M 0 2) hx hb iw_Mo hown hK hX 0 rfl rfl 2 (by decide) tw_500 (fun _ h => h) rfl rfl rfl d_Mo_arrives_31 (fun rg_4 => ?_)
    refine z_if_ne (a := M 0 2) (tgt := 59) hx hb d_Mo_arrives_34 (by decide) (by omega) (fun hb_5 => ?_) (fun hb_6 => ?_)
    · skip
      refine z_const hx hb d_Mo_arrives_59 ?_
      refine z_callVi hF (m_may l D ad cI sd M 0 0 (by omega) (by omega)) (hK.cV 2 tw_583 tw_580 tw_7 tw_582 ts_28 (by decide +kernel) rfl rfl ⟨Nat.le_of_ble_eq_true rfl, Nat.le_of_ble_eq_true rfl⟩) hK hX hS rfl rfl rfl hl.1 rfl (Nat.le_of_ble_eq_true rfl) d_Mo_arrives_60 ⟨Nat.le_of_ble_eq_true rfl, Nat.le_of_ble_eq_true rfl⟩ (fun z u H locs rgz hp hX hS => ?_)
      obtain ⟨hz, hu⟩ := hp
      replace hz : z = 0 := hz.trans (by decide)
      subst hz
      replace hu : u = zU M 0 1 1 := hu.trans (by congr 1)
      rw [hu] at hX
      refine z_if_ne (a := 0) (tgt := 68) hx hb d_Mo_arrives_63 (by decide) (by omega) (fun hb_7 => ?_) (fun hb_8 => ?_)
      · skip
        exfalso
        omega
      · skip
        refine z_const hx hb d_Mo_arrives_66 ?_
        exact z_iret (z := 0) (post := (fun z u => (((0 ≤ t ∧ t ≤ 1439) ∧ (1 ≤ n ∧ n ≤ 20)) ∧ (M 0 2 = 0 ∧ 0 < M 0 3 ∧ M 0 16 + n ≤ 60) ∧ z = (M 0 16 + n) ∧ u = nArr (zU M 0 1 0) t n) ∨ (((0 ≤ t ∧ t ≤ 1439) ∧ (1 ≤ n ∧ n ≤ 20)) ∧ ¬ (M 0 2 = 0 ∧ 0 < M 0 3 ∧ M 0 16 + n ≤ 60) ∧ u = zU M 0 1 2) ∨ (¬ ((0 ≤ t ∧ t ≤ 1439) ∧ (1 ≤ n ∧ n ≤ 20)) ∧ u = zU M 0 1 1))) hx hb hr hlk hK hX hS (by omega) (by first | (exfalso; omega) | exact Or.inr (Or.inr ⟨by omega, rfl⟩) | exact Or.inr (Or.inl ⟨by omega, by omega, rfl⟩)) d_Mo_arrives_67
    · skip
      refine lv_aload_n hx hb d_Mo_arrives_37 rfl (lv_at hl 0 rfl) ?_
      refine z_geti (i := 3) (v := M 0 3) hx hb iw_Mo hown hK hX 0 rfl rfl 3 (by decide) tw_501 (fun _ h => h) rfl rfl rfl d_Mo_arrives_38 (fun rg_9 => ?_)
      refine z_if_le (a := M 0 3) (tgt := 59) hx hb d_Mo_arrives_41 (by decide) (by omega) (fun hb_10 => ?_) (fun hb_11 => ?_)
      · skip
        refine z_const hx hb d_Mo_arrives_59 ?_
        refine z_callVi hF (m_may l D ad cI sd M 0 0 (by omega) (by omega)) (hK.cV 2 tw_583 tw_580 tw_7 tw_582 ts_28 (by decide +kernel) rfl rfl ⟨Nat.le_of_ble_eq_true rfl, Nat.le_of_ble_eq_true rfl⟩) hK hX hS rfl rfl rfl hl.1 rfl (Nat.le_of_ble_eq_true rfl) d_Mo_arrives_60 ⟨Nat.le_of_ble_eq_true rfl, Nat.le_of_ble_eq_true rfl⟩ (fun z u H locs rgz hp hX hS => ?_)
        obtain ⟨hz, hu⟩ := hp
        replace hz : z = 0 := hz.trans (by decide)
        subst hz
        replace hu : u = zU M 0 1 1 := hu.trans (by congr 1)
        rw [hu] at hX
        refine z_if_ne (a := 0) (tgt := 68) hx hb d_Mo_arrives_63 (by decide) (by omega) (fun hb_12 => ?_) (fun hb_13 => ?_)
        · skip
          exfalso
          omega
        · skip
          refine z_const hx hb d_Mo_arrives_66 ?_
          exact z_iret (z := 0) (post := (fun z u => (((0 ≤ t ∧ t ≤ 1439) ∧ (1 ≤ n ∧ n ≤ 20)) ∧ (M 0 2 = 0 ∧ 0 < M 0 3 ∧ M 0 16 + n ≤ 60) ∧ z = (M 0 16 + n) ∧ u = nArr (zU M 0 1 0) t n) ∨ (((0 ≤ t ∧ t ≤ 1439) ∧ (1 ≤ n ∧ n ≤ 20)) ∧ ¬ (M 0 2 = 0 ∧ 0 < M 0 3 ∧ M 0 16 + n ≤ 60) ∧ u = zU M 0 1 2) ∨ (¬ ((0 ≤ t ∧ t ≤ 1439) ∧ (1 ≤ n ∧ n ≤ 20)) ∧ u = zU M 0 1 1))) hx hb hr hlk hK hX hS (by omega) (by first | (exfalso; omega) | exact Or.inr (Or.inr ⟨by omega, rfl⟩) | exact Or.inr (Or.inl ⟨by omega, by omega, rfl⟩)) d_Mo_arrives_67
      · skip
        refine lv_aload_n hx hb d_Mo_arrives_44 rfl (lv_at hl 0 rfl) ?_
        refine z_geti (i := 16) (v := M 0 16) hx hb iw_Mo hown hK hX 0 rfl rfl 16 (by decide) tw_514 (fun _ h => h) rfl rfl rfl d_Mo_arrives_45 (fun rg_14 => ?_)
        refine lv_iload_n hx hb d_Mo_arrives_48 rfl (lv_at hl 2 rfl) ?_
        refine z_iadd hx hb d_Mo_arrives_49 ?_
        refine z_bm ?_
        have bmr := bm_rg ((M 0 16) + n)
        have bme : -2147483648 ≤ (M 0 16) + n ∧ (M 0 16) + n ≤ 2147483647 → bm ((M 0 16) + n) = (M 0 16) + n := bm_of
        refine z_bipush hx hb d_Mo_arrives_50 (by decide) ?_
        refine z_icmp_gt (a := bm ((M 0 16) + n)) (b := 60) (tgt := 59) hx hb d_Mo_arrives_52 (by decide) (by omega) (fun hb_15 => ?_) (fun hb_16 => ?_)
        · skip
          refine z_const hx hb d_Mo_arrives_59 ?_
          refine z_callVi hF (m_may l D ad cI sd M 0 0 (by omega) (by omega)) (hK.cV 2 tw_583 tw_580 tw_7 tw_582 ts_28 (by decide +kernel) rfl rfl ⟨Nat.le_of_ble_eq_true rfl, Nat.le_of_ble_eq_true rfl⟩) hK hX hS rfl rfl rfl hl.1 rfl (Nat.le_of_ble_eq_true rfl) d_Mo_arrives_60 ⟨Nat.le_of_ble_eq_true rfl, Nat.le_of_ble_eq_true rfl⟩ (fun z u H locs rgz hp hX hS => ?_)
          obtain ⟨hz, hu⟩ := hp
          replace hz : z = 0 := hz.trans (by decide)
          subst hz
          replace hu : u = zU M 0 1 1 := hu.trans (by congr 1)
          rw [hu] at hX
          refine z_if_ne (a := 0) (tgt := 68) hx hb d_Mo_arrives_63 (by decide) (by omega) (fun hb_17 => ?_) (fun hb_18 => ?_)
          · skip
            exfalso
            omega
          · skip
            refine z_const hx hb d_Mo_arrives_66 ?_
            exact z_iret (z := 0) (post := (fun z u => (((0 ≤ t ∧ t ≤ 1439) ∧ (1 ≤ n ∧ n ≤ 20)) ∧ (M 0 2 = 0 ∧ 0 < M 0 3 ∧ M 0 16 + n ≤ 60) ∧ z = (M 0 16 + n) ∧ u = nArr (zU M 0 1 0) t n) ∨ (((0 ≤ t ∧ t ≤ 1439) ∧ (1 ≤ n ∧ n ≤ 20)) ∧ ¬ (M 0 2 = 0 ∧ 0 < M 0 3 ∧ M 0 16 + n ≤ 60) ∧ u = zU M 0 1 2) ∨ (¬ ((0 ≤ t ∧ t ≤ 1439) ∧ (1 ≤ n ∧ n ≤ 20)) ∧ u = zU M 0 1 1))) hx hb hr hlk hK hX hS (by omega) (by first | (exfalso; omega) | exact Or.inr (Or.inr ⟨by omega, rfl⟩) | exact Or.inr (Or.inl ⟨by omega, by omega, rfl⟩)) d_Mo_arrives_67
        · skip
          refine z_const hx hb d_Mo_arrives_55 ?_
          refine lv_goto (tgt := 60) hx hb d_Mo_arrives_56 (by decide) ?_
          refine z_callVi hF (m_may l D ad cI sd M 0 1 (by omega) (by omega)) (hK.cV 2 tw_583 tw_580 tw_7 tw_582 ts_28 (by decide +kernel) rfl rfl ⟨Nat.le_of_ble_eq_true rfl, Nat.le_of_ble_eq_true rfl⟩) hK hX hS rfl rfl rfl hl.1 rfl (Nat.le_of_ble_eq_true rfl) d_Mo_arrives_60 ⟨Nat.le_of_ble_eq_true rfl, Nat.le_of_ble_eq_true rfl⟩ (fun z u H locs rgz hp hX hS => ?_)
          obtain ⟨hz, hu⟩ := hp
          replace hz : z = 0 := hz.trans (by decide)
          subst hz
          replace hu : u = zU M 0 1 1 := hu.trans (by congr 1)
          rw [hu] at hX
          refine z_if_ne (a := 0) (tgt := 68) hx hb d_Mo_arrives_63 (by decide) (by omega) (fun hb_19 => ?_) (fun hb_20 => ?_)
          · skip
            exfalso
            omega
          · skip
            refine z_const hx hb d_Mo_arrives_66 ?_
            exact z_iret (z := 0) (post := (fun z u => (((0 ≤ t ∧ t ≤ 1439) ∧ (1 ≤ n ∧ n ≤ 20)) ∧ (M 0 2 = 0 ∧ 0 < M 0 3 ∧ M 0 16 + n ≤ 60) ∧ z = (M 0 16 + n) ∧ u = nArr (zU M 0 1 0) t n) ∨ (((0 ≤ t ∧ t ≤ 1439) ∧ (1 ≤ n ∧ n ≤ 20)) ∧ ¬ (M 0 2 = 0 ∧ 0 < M 0 3 ∧ M 0 16 + n ≤ 60) ∧ u = zU M 0 1 2) ∨ (¬ ((0 ≤ t ∧ t ≤ 1439) ∧ (1 ≤ n ∧ n ≤ 20)) ∧ u = zU M 0 1 1))) hx hb hr hlk hK hX hS (by omega) (by first | (exfalso; omega) | exact Or.inr (Or.inr ⟨by omega, rfl⟩) | exact Or.inr (Or.inl ⟨by omega, by omega, rfl⟩)) d_Mo_arrives_67
  · skip
    refine lv_iload_n hx hb d_Mo_arrives_13 rfl (lv_at hl 2 rfl) ?_
    refine z_i2l (a := n) hx hb (by omega) d_Mo_arrives_14 ?_
    refine z_lconst (v := 1) hx hb d_Mo_arrives_15 (by decide) ?_
    refine z_ldcl (v := 20) hx hb hown hK tw_592 (by decide) d_Mo_arrives_16 ?_
    refine z_callSi hF (m_within l D ad cI sd M n 1 20 (by omega) (by omega) (by omega)) (hK.cS 3 tw_579 tw_577 tw_7 tw_578 (by decide +kernel) rfl rfl ⟨Nat.le_of_ble_eq_true rfl, Nat.le_of_ble_eq_true rfl⟩) hK hX hS rfl hl.1 rfl (Nat.le_of_ble_eq_true rfl) d_Mo_arrives_19 ⟨Nat.le_of_ble_eq_true rfl, Nat.le_of_ble_eq_true rfl⟩ (fun z u H locs rg_21 hp hX hS => ?_)
    obtain ⟨hz, hu⟩ := hp
    rw [hu] at hX
    have hz : z = (if 1 ≤ n ∧ n ≤ 20 then 1 else 0) := hz
    subst hz
    refine z_if_eq (a := if 1 ≤ n ∧ n ≤ 20 then 1 else 0) (tgt := 29) hx hb d_Mo_arrives_22 (by decide) (by omega) (fun hb_22 => ?_) (fun hb_23 => ?_)
    · skip
      refine z_const hx hb d_Mo_arrives_29 ?_
      refine lv_aload_n hx hb d_Mo_arrives_30 rfl (lv_at hl 0 rfl) ?_
      refine z_geti (i := 2) (v := M 0 2) hx hb iw_Mo hown hK hX 0 rfl rfl 2 (by decide) tw_500 (fun _ h => h) rfl rfl rfl d_Mo_arrives_31 (fun rg_24 => ?_)
      refine z_if_ne (a := M 0 2) (tgt := 59) hx hb d_Mo_arrives_34 (by decide) (by omega) (fun hb_25 => ?_) (fun hb_26 => ?_)
      · skip
        refine z_const hx hb d_Mo_arrives_59 ?_
        refine z_callVi hF (m_may l D ad cI sd M 0 0 (by omega) (by omega)) (hK.cV 2 tw_583 tw_580 tw_7 tw_582 ts_28 (by decide +kernel) rfl rfl ⟨Nat.le_of_ble_eq_true rfl, Nat.le_of_ble_eq_true rfl⟩) hK hX hS rfl rfl rfl hl.1 rfl (Nat.le_of_ble_eq_true rfl) d_Mo_arrives_60 ⟨Nat.le_of_ble_eq_true rfl, Nat.le_of_ble_eq_true rfl⟩ (fun z u H locs rgz hp hX hS => ?_)
        obtain ⟨hz, hu⟩ := hp
        replace hz : z = 0 := hz.trans (by decide)
        subst hz
        replace hu : u = zU M 0 1 1 := hu.trans (by congr 1)
        rw [hu] at hX
        refine z_if_ne (a := 0) (tgt := 68) hx hb d_Mo_arrives_63 (by decide) (by omega) (fun hb_27 => ?_) (fun hb_28 => ?_)
        · skip
          exfalso
          omega
        · skip
          refine z_const hx hb d_Mo_arrives_66 ?_
          exact z_iret (z := 0) (post := (fun z u => (((0 ≤ t ∧ t ≤ 1439) ∧ (1 ≤ n ∧ n ≤ 20)) ∧ (M 0 2 = 0 ∧ 0 < M 0 3 ∧ M 0 16 + n ≤ 60) ∧ z = (M 0 16 + n) ∧ u = nArr (zU M 0 1 0) t n) ∨ (((0 ≤ t ∧ t ≤ 1439) ∧ (1 ≤ n ∧ n ≤ 20)) ∧ ¬ (M 0 2 = 0 ∧ 0 < M 0 3 ∧ M 0 16 + n ≤ 60) ∧ u = zU M 0 1 2) ∨ (¬ ((0 ≤ t ∧ t ≤ 1439) ∧ (1 ≤ n ∧ n ≤ 20)) ∧ u = zU M 0 1 1))) hx hb hr hlk hK hX hS (by omega) (by first | (exfalso; omega) | exact Or.inr (Or.inr ⟨by omega, rfl⟩) | exact Or.inr (Or.inl ⟨by omega, by omega, rfl⟩)) d_Mo_arrives_67
      · skip
        refine lv_aload_n hx hb d_Mo_arrives_37 rfl (lv_at hl 0 rfl) ?_
        refine z_geti (i := 3) (v := M 0 3) hx hb iw_Mo hown hK hX 0 rfl rfl 3 (by decide) tw_501 (fun _ h => h) rfl rfl rfl d_Mo_arrives_38 (fun rg_29 => ?_)
        refine z_if_le (a := M 0 3) (tgt := 59) hx hb d_Mo_arrives_41 (by decide) (by omega) (fun hb_30 => ?_) (fun hb_31 => ?_)
        · skip
          refine z_const hx hb d_Mo_arrives_59 ?_
          refine z_callVi hF (m_may l D ad cI sd M 0 0 (by omega) (by omega)) (hK.cV 2 tw_583 tw_580 tw_7 tw_582 ts_28 (by decide +kernel) rfl rfl ⟨Nat.le_of_ble_eq_true rfl, Nat.le_of_ble_eq_true rfl⟩) hK hX hS rfl rfl rfl hl.1 rfl (Nat.le_of_ble_eq_true rfl) d_Mo_arrives_60 ⟨Nat.le_of_ble_eq_true rfl, Nat.le_of_ble_eq_true rfl⟩ (fun z u H locs rgz hp hX hS => ?_)
          obtain ⟨hz, hu⟩ := hp
          replace hz : z = 0 := hz.trans (by decide)
          subst hz
          replace hu : u = zU M 0 1 1 := hu.trans (by congr 1)
          rw [hu] at hX
          refine z_if_ne (a := 0) (tgt := 68) hx hb d_Mo_arrives_63 (by decide) (by omega) (fun hb_32 => ?_) (fun hb_33 => ?_)
          · skip
            exfalso
            omega
          · skip
            refine z_const hx hb d_Mo_arrives_66 ?_
            exact z_iret (z := 0) (post := (fun z u => (((0 ≤ t ∧ t ≤ 1439) ∧ (1 ≤ n ∧ n ≤ 20)) ∧ (M 0 2 = 0 ∧ 0 < M 0 3 ∧ M 0 16 + n ≤ 60) ∧ z = (M 0 16 + n) ∧ u = nArr (zU M 0 1 0) t n) ∨ (((0 ≤ t ∧ t ≤ 1439) ∧ (1 ≤ n ∧ n ≤ 20)) ∧ ¬ (M 0 2 = 0 ∧ 0 < M 0 3 ∧ M 0 16 + n ≤ 60) ∧ u = zU M 0 1 2) ∨ (¬ ((0 ≤ t ∧ t ≤ 1439) ∧ (1 ≤ n ∧ n ≤ 20)) ∧ u = zU M 0 1 1))) hx hb hr hlk hK hX hS (by omega) (by first | (exfalso; omega) | exact Or.inr (Or.inr ⟨by omega, rfl⟩) | exact Or.inr (Or.inl ⟨by omega, by omega, rfl⟩)) d_Mo_arrives_67
        · skip
          refine lv_aload_n hx hb d_Mo_arrives_44 rfl (lv_at hl 0 rfl) ?_
          refine z_geti (i := 16) (v := M 0 16) hx hb iw_Mo hown hK hX 0 rfl rfl 16 (by decide) tw_514 (fun _ h => h) rfl rfl rfl d_Mo_arrives_45 (fun rg_34 => ?_)
          refine lv_iload_n hx hb d_Mo_arrives_48 rfl (lv_at hl 2 rfl) ?_
          refine z_iadd hx hb d_Mo_arrives_49 ?_
          refine z_bm ?_
          have bmr := bm_rg ((M 0 16) + n)
          have bme : -2147483648 ≤ (M 0 16) + n ∧ (M 0 16) + n ≤ 2147483647 → bm ((M 0 16) + n) = (M 0 16) + n := bm_of
          refine z_bipush hx hb d_Mo_arrives_50 (by decide) ?_
          refine z_icmp_gt (a := bm ((M 0 16) + n)) (b := 60) (tgt := 59) hx hb d_Mo_arrives_52 (by decide) (by omega) (fun hb_35 => ?_) (fun hb_36 => ?_)
          · skip
            refine z_const hx hb d_Mo_arrives_59 ?_
            refine z_callVi hF (m_may l D ad cI sd M 0 0 (by omega) (by omega)) (hK.cV 2 tw_583 tw_580 tw_7 tw_582 ts_28 (by decide +kernel) rfl rfl ⟨Nat.le_of_ble_eq_true rfl, Nat.le_of_ble_eq_true rfl⟩) hK hX hS rfl rfl rfl hl.1 rfl (Nat.le_of_ble_eq_true rfl) d_Mo_arrives_60 ⟨Nat.le_of_ble_eq_true rfl, Nat.le_of_ble_eq_true rfl⟩ (fun z u H locs rgz hp hX hS => ?_)
            obtain ⟨hz, hu⟩ := hp
            replace hz : z = 0 := hz.trans (by decide)
            subst hz
            replace hu : u = zU M 0 1 1 := hu.trans (by congr 1)
            rw [hu] at hX
            refine z_if_ne (a := 0) (tgt := 68) hx hb d_Mo_arrives_63 (by decide) (by omega) (fun hb_37 => ?_) (fun hb_38 => ?_)
            · skip
              exfalso
              omega
            · skip
              refine z_const hx hb d_Mo_arrives_66 ?_
              exact z_iret (z := 0) (post := (fun z u => (((0 ≤ t ∧ t ≤ 1439) ∧ (1 ≤ n ∧ n ≤ 20)) ∧ (M 0 2 = 0 ∧ 0 < M 0 3 ∧ M 0 16 + n ≤ 60) ∧ z = (M 0 16 + n) ∧ u = nArr (zU M 0 1 0) t n) ∨ (((0 ≤ t ∧ t ≤ 1439) ∧ (1 ≤ n ∧ n ≤ 20)) ∧ ¬ (M 0 2 = 0 ∧ 0 < M 0 3 ∧ M 0 16 + n ≤ 60) ∧ u = zU M 0 1 2) ∨ (¬ ((0 ≤ t ∧ t ≤ 1439) ∧ (1 ≤ n ∧ n ≤ 20)) ∧ u = zU M 0 1 1))) hx hb hr hlk hK hX hS (by omega) (by first | (exfalso; omega) | exact Or.inr (Or.inr ⟨by omega, rfl⟩) | exact Or.inr (Or.inl ⟨by omega, by omega, rfl⟩)) d_Mo_arrives_67
          · skip
            refine z_const hx hb d_Mo_arrives_55 ?_
            refine lv_goto (tgt := 60) hx hb d_Mo_arrives_56 (by decide) ?_
            refine z_callVi hF (m_may l D ad cI sd M 0 1 (by omega) (by omega)) (hK.cV 2 tw_583 tw_580 tw_7 tw_582 ts_28 (by decide +kernel) rfl rfl ⟨Nat.le_of_ble_eq_true rfl, Nat.le_of_ble_eq_true rfl⟩) hK hX hS rfl rfl rfl hl.1 rfl (Nat.le_of_ble_eq_true rfl) d_Mo_arrives_60 ⟨Nat.le_of_ble_eq_true rfl, Nat.le_of_ble_eq_true rfl⟩ (fun z u H locs rgz hp hX hS => ?_)
            obtain ⟨hz, hu⟩ := hp
            replace hz : z = 0 := hz.trans (by decide)
            subst hz
            replace hu : u = zU M 0 1 1 := hu.trans (by congr 1)
            rw [hu] at hX
            refine z_if_ne (a := 0) (tgt := 68) hx hb d_Mo_arrives_63 (by decide) (by omega) (fun hb_39 => ?_) (fun hb_40 => ?_)
            · skip
              exfalso
              omega
            · skip
              refine z_const hx hb d_Mo_arrives_66 ?_
              exact z_iret (z := 0) (post := (fun z u => (((0 ≤ t ∧ t ≤ 1439) ∧ (1 ≤ n ∧ n ≤ 20)) ∧ (M 0 2 = 0 ∧ 0 < M 0 3 ∧ M 0 16 + n ≤ 60) ∧ z = (M 0 16 + n) ∧ u = nArr (zU M 0 1 0) t n) ∨ (((0 ≤ t ∧ t ≤ 1439) ∧ (1 ≤ n ∧ n ≤ 20)) ∧ ¬ (M 0 2 = 0 ∧ 0 < M 0 3 ∧ M 0 16 + n ≤ 60) ∧ u = zU M 0 1 2) ∨ (¬ ((0 ≤ t ∧ t ≤ 1439) ∧ (1 ≤ n ∧ n ≤ 20)) ∧ u = zU M 0 1 1))) hx hb hr hlk hK hX hS (by omega) (by first | (exfalso; omega) | exact Or.inr (Or.inr ⟨by omega, rfl⟩) | exact Or.inr (Or.inl ⟨by omega, by omega, rfl⟩)) d_Mo_arrives_67
    · skip
      refine z_const hx hb d_Mo_arrives_25 ?_
      refine lv_goto (tgt := 30) hx hb d_Mo_arrives_26 (by decide) ?_
      refine lv_aload_n hx hb d_Mo_arrives_30 rfl (lv_at hl 0 rfl) ?_
      refine z_geti (i := 2) (v := M 0 2) hx hb iw_Mo hown hK hX 0 rfl rfl 2 (by decide) tw_500 (fun _ h => h) rfl rfl rfl d_Mo_arrives_31 (fun rg_41 => ?_)
      refine z_if_ne (a := M 0 2) (tgt := 59) hx hb d_Mo_arrives_34 (by decide) (by omega) (fun hb_42 => ?_) (fun hb_43 => ?_)
      · skip
        refine z_const hx hb d_Mo_arrives_59 ?_
        refine z_callVi hF (m_may l D ad cI sd M 1 0 (by omega) (by omega)) (hK.cV 2 tw_583 tw_580 tw_7 tw_582 ts_28 (by decide +kernel) rfl rfl ⟨Nat.le_of_ble_eq_true rfl, Nat.le_of_ble_eq_true rfl⟩) hK hX hS rfl rfl rfl hl.1 rfl (Nat.le_of_ble_eq_true rfl) d_Mo_arrives_60 ⟨Nat.le_of_ble_eq_true rfl, Nat.le_of_ble_eq_true rfl⟩ (fun z u H locs rgz hp hX hS => ?_)
        obtain ⟨hz, hu⟩ := hp
        replace hz : z = 0 := hz.trans (by decide)
        subst hz
        replace hu : u = zU M 0 1 2 := hu.trans (by congr 1)
        rw [hu] at hX
        refine z_if_ne (a := 0) (tgt := 68) hx hb d_Mo_arrives_63 (by decide) (by omega) (fun hb_44 => ?_) (fun hb_45 => ?_)
        · skip
          exfalso
          omega
        · skip
          refine z_const hx hb d_Mo_arrives_66 ?_
          exact z_iret (z := 0) (post := (fun z u => (((0 ≤ t ∧ t ≤ 1439) ∧ (1 ≤ n ∧ n ≤ 20)) ∧ (M 0 2 = 0 ∧ 0 < M 0 3 ∧ M 0 16 + n ≤ 60) ∧ z = (M 0 16 + n) ∧ u = nArr (zU M 0 1 0) t n) ∨ (((0 ≤ t ∧ t ≤ 1439) ∧ (1 ≤ n ∧ n ≤ 20)) ∧ ¬ (M 0 2 = 0 ∧ 0 < M 0 3 ∧ M 0 16 + n ≤ 60) ∧ u = zU M 0 1 2) ∨ (¬ ((0 ≤ t ∧ t ≤ 1439) ∧ (1 ≤ n ∧ n ≤ 20)) ∧ u = zU M 0 1 1))) hx hb hr hlk hK hX hS (by omega) (by first | (exfalso; omega) | exact Or.inr (Or.inr ⟨by omega, rfl⟩) | exact Or.inr (Or.inl ⟨by omega, by omega, rfl⟩)) d_Mo_arrives_67
      · skip
        refine lv_aload_n hx hb d_Mo_arrives_37 rfl (lv_at hl 0 rfl) ?_
        refine z_geti (i := 3) (v := M 0 3) hx hb iw_Mo hown hK hX 0 rfl rfl 3 (by decide) tw_501 (fun _ h => h) rfl rfl rfl d_Mo_arrives_38 (fun rg_46 => ?_)
        refine z_if_le (a := M 0 3) (tgt := 59) hx hb d_Mo_arrives_41 (by decide) (by omega) (fun hb_47 => ?_) (fun hb_48 => ?_)
        · skip
          refine z_const hx hb d_Mo_arrives_59 ?_
          refine z_callVi hF (m_may l D ad cI sd M 1 0 (by omega) (by omega)) (hK.cV 2 tw_583 tw_580 tw_7 tw_582 ts_28 (by decide +kernel) rfl rfl ⟨Nat.le_of_ble_eq_true rfl, Nat.le_of_ble_eq_true rfl⟩) hK hX hS rfl rfl rfl hl.1 rfl (Nat.le_of_ble_eq_true rfl) d_Mo_arrives_60 ⟨Nat.le_of_ble_eq_true rfl, Nat.le_of_ble_eq_true rfl⟩ (fun z u H locs rgz hp hX hS => ?_)
          obtain ⟨hz, hu⟩ := hp
          replace hz : z = 0 := hz.trans (by decide)
          subst hz
          replace hu : u = zU M 0 1 2 := hu.trans (by congr 1)
          rw [hu] at hX
          refine z_if_ne (a := 0) (tgt := 68) hx hb d_Mo_arrives_63 (by decide) (by omega) (fun hb_49 => ?_) (fun hb_50 => ?_)
          · skip
            exfalso
            omega
          · skip
            refine z_const hx hb d_Mo_arrives_66 ?_
            exact z_iret (z := 0) (post := (fun z u => (((0 ≤ t ∧ t ≤ 1439) ∧ (1 ≤ n ∧ n ≤ 20)) ∧ (M 0 2 = 0 ∧ 0 < M 0 3 ∧ M 0 16 + n ≤ 60) ∧ z = (M 0 16 + n) ∧ u = nArr (zU M 0 1 0) t n) ∨ (((0 ≤ t ∧ t ≤ 1439) ∧ (1 ≤ n ∧ n ≤ 20)) ∧ ¬ (M 0 2 = 0 ∧ 0 < M 0 3 ∧ M 0 16 + n ≤ 60) ∧ u = zU M 0 1 2) ∨ (¬ ((0 ≤ t ∧ t ≤ 1439) ∧ (1 ≤ n ∧ n ≤ 20)) ∧ u = zU M 0 1 1))) hx hb hr hlk hK hX hS (by omega) (by first | (exfalso; omega) | exact Or.inr (Or.inr ⟨by omega, rfl⟩) | exact Or.inr (Or.inl ⟨by omega, by omega, rfl⟩)) d_Mo_arrives_67
        · skip
          refine lv_aload_n hx hb d_Mo_arrives_44 rfl (lv_at hl 0 rfl) ?_
          refine z_geti (i := 16) (v := M 0 16) hx hb iw_Mo hown hK hX 0 rfl rfl 16 (by decide) tw_514 (fun _ h => h) rfl rfl rfl d_Mo_arrives_45 (fun rg_51 => ?_)
          refine lv_iload_n hx hb d_Mo_arrives_48 rfl (lv_at hl 2 rfl) ?_
          refine z_iadd hx hb d_Mo_arrives_49 ?_
          refine z_bm ?_
          have bmr := bm_rg ((M 0 16) + n)
          have bme : -2147483648 ≤ (M 0 16) + n ∧ (M 0 16) + n ≤ 2147483647 → bm ((M 0 16) + n) = (M 0 16) + n := bm_of
          refine z_bipush hx hb d_Mo_arrives_50 (by decide) ?_
          refine z_icmp_gt (a := bm ((M 0 16) + n)) (b := 60) (tgt := 59) hx hb d_Mo_arrives_52 (by decide) (by omega) (fun hb_52 => ?_) (fun hb_53 => ?_)
          · skip
            refine z_const hx hb d_Mo_arrives_59 ?_
            refine z_callVi hF (m_may l D ad cI sd M 1 0 (by omega) (by omega)) (hK.cV 2 tw_583 tw_580 tw_7 tw_582 ts_28 (by decide +kernel) rfl rfl ⟨Nat.le_of_ble_eq_true rfl, Nat.le_of_ble_eq_true rfl⟩) hK hX hS rfl rfl rfl hl.1 rfl (Nat.le_of_ble_eq_true rfl) d_Mo_arrives_60 ⟨Nat.le_of_ble_eq_true rfl, Nat.le_of_ble_eq_true rfl⟩ (fun z u H locs rgz hp hX hS => ?_)
            obtain ⟨hz, hu⟩ := hp
            replace hz : z = 0 := hz.trans (by decide)
            subst hz
            replace hu : u = zU M 0 1 2 := hu.trans (by congr 1)
            rw [hu] at hX
            refine z_if_ne (a := 0) (tgt := 68) hx hb d_Mo_arrives_63 (by decide) (by omega) (fun hb_54 => ?_) (fun hb_55 => ?_)
            · skip
              exfalso
              omega
            · skip
              refine z_const hx hb d_Mo_arrives_66 ?_
              exact z_iret (z := 0) (post := (fun z u => (((0 ≤ t ∧ t ≤ 1439) ∧ (1 ≤ n ∧ n ≤ 20)) ∧ (M 0 2 = 0 ∧ 0 < M 0 3 ∧ M 0 16 + n ≤ 60) ∧ z = (M 0 16 + n) ∧ u = nArr (zU M 0 1 0) t n) ∨ (((0 ≤ t ∧ t ≤ 1439) ∧ (1 ≤ n ∧ n ≤ 20)) ∧ ¬ (M 0 2 = 0 ∧ 0 < M 0 3 ∧ M 0 16 + n ≤ 60) ∧ u = zU M 0 1 2) ∨ (¬ ((0 ≤ t ∧ t ≤ 1439) ∧ (1 ≤ n ∧ n ≤ 20)) ∧ u = zU M 0 1 1))) hx hb hr hlk hK hX hS (by omega) (by first | (exfalso; omega) | exact Or.inr (Or.inr ⟨by omega, rfl⟩) | exact Or.inr (Or.inl ⟨by omega, by omega, rfl⟩)) d_Mo_arrives_67
          · skip
            refine z_const hx hb d_Mo_arrives_55 ?_
            refine lv_goto (tgt := 60) hx hb d_Mo_arrives_56 (by decide) ?_
            refine z_callVi hF (m_may l D ad cI sd M 1 1 (by omega) (by omega)) (hK.cV 2 tw_583 tw_580 tw_7 tw_582 ts_28 (by decide +kernel) rfl rfl ⟨Nat.le_of_ble_eq_true rfl, Nat.le_of_ble_eq_true rfl⟩) hK hX hS rfl rfl rfl hl.1 rfl (Nat.le_of_ble_eq_true rfl) d_Mo_arrives_60 ⟨Nat.le_of_ble_eq_true rfl, Nat.le_of_ble_eq_true rfl⟩ (fun z u H locs rgz hp hX hS => ?_)
            obtain ⟨hz, hu⟩ := hp
            replace hz : z = 1 := hz.trans (by decide)
            subst hz
            replace hu : u = zU M 0 1 0 := hu.trans (by congr 1)
            rw [hu] at hX
            refine z_if_ne (a := 1) (tgt := 68) hx hb d_Mo_arrives_63 (by decide) (by omega) (fun hb_56 => ?_) (fun hb_57 => ?_)
            · skip
              have f16 : zU M 0 1 0 0 16 = M 0 16 := zU_n (by decide)
              have fO : nOK (zU M 0 1 0) := hO.f 0
              obtain ⟨M0, hM0⟩ : ∃ M9 : zM, zU M 0 1 0 = M9 := ⟨_, rfl⟩
              rw [hM0] at hX fO f16
              refine lv_aload_n hx hb d_Mo_arrives_68 rfl (lv_at hl 0 rfl) ?_
              refine z_geti (i := 16) (v := M0 0 16) hx hb iw_Mo hown hK hX 0 rfl rfl 16 (by decide) tw_514 (fun _ h => h) rfl rfl rfl d_Mo_arrives_69 (fun rg_58 => ?_)
              refine lv_istore_n (lv' := [(3, .int (zI (M0 0 16))), (0, .ref (ad 0)), (1, .int (zI (t))), (2, .int (zI (n)))]) hx hb d_Mo_arrives_72 rfl hl (by decide) rfl (fun ls hl => ?_)
              have loop73 : ∀ (n73 : Nat) (q : Int) (H : Heap) (locs : List Loc) (ls : Array Slot), (0 ≤ q ∧ q ≤ M 0 16 ∧ nQ M0 t = nAt M0 t q.toNat) → q.toNat < n73 → zX D (nL sd) ad cI M0 H → va_S (zA ad (nL sd)) s.heap H locs → lv_has ls 5 [(3, .int (zI (q))), (0, .ref (ad 0)), (1, .int (zI (t))), (2, .int (zI (n)))] → W p l e { frames := 1, cells := 0, slots := 0, locals := 25 } s m ([.ref (ad 0), .int (zI (t)), .int (zI (n))] : List Value).toArray below meth c H locs 0 0 (MQ below (zQi D (nL sd) ad cI (fun z u => (((0 ≤ t ∧ t ≤ 1439) ∧ (1 ≤ n ∧ n ≤ 20)) ∧ (M 0 2 = 0 ∧ 0 < M 0 3 ∧ M 0 16 + n ≤ 60) ∧ z = (M 0 16 + n) ∧ u = nArr (zU M 0 1 0) t n) ∨ (((0 ≤ t ∧ t ≤ 1439) ∧ (1 ≤ n ∧ n ≤ 20)) ∧ ¬ (M 0 2 = 0 ∧ 0 < M 0 3 ∧ M 0 16 + n ≤ 60) ∧ u = zU M 0 1 2) ∨ (¬ ((0 ≤ t ∧ t ≤ 1439) ∧ (1 ≤ n ∧ n ≤ 20)) ∧ u = zU M 0 1 1))) ([.ref (ad 0), .int (zI (t)), .int (zI (n))] : List Value).toArray s 0 0 (zA ad (nL sd))) (F0 m 73 ls []) := by
                intro n73
                induction n73 with
                | zero => intro q H locs ls hI hn; exact absurd hn (Nat.not_lt_zero _)
                | succ n73 ih73 =>
                  intro q H locs ls hI73 hn73 hX hS hl
                  refine lv_iload_n hx hb d_Mo_arrives_73 rfl (lv_at hl 0 rfl) ?_
                  refine z_if_le (a := q) (tgt := 95) hx hb d_Mo_arrives_74 (by decide) (by omega) (fun hb_59 => ?_) (fun hb_60 => ?_)
                  · skip
                    refine lv_aload_n hx hb d_Mo_arrives_95 rfl (lv_at hl 1 rfl) ?_
                    refine z_geti (i := 16) (v := M0 0 16) hx hb iw_Mo hown hK hX 0 rfl rfl 16 (by decide) tw_514 (fun _ h => h) rfl rfl rfl d_Mo_arrives_96 (fun rg_61 => ?_)
                    refine z_const hx hb d_Mo_arrives_99 ?_
                    refine z_isub hx hb d_Mo_arrives_100 ?_
                    refine lv_istore (lv' := [(4, .int (zI ((M0 0 16) - 1))), (3, .int (zI (q))), (0, .ref (ad 0)), (1, .int (zI (t))), (2, .int (zI (n)))]) hx hb d_Mo_arrives_101 hl (by decide) rfl (fun ls hl => ?_)
                    have loop103 : ∀ (n103 : Nat) (r1 : Int) (H : Heap) (locs : List Loc) (ls : Array Slot), (q - 1 ≤ r1 ∧ r1 ≤ M0 0 16 - 1) → (r1 + 1 - q).toNat < n103 → zX D (nL sd) ad cI (nMvN M0 n (M0 0 16) (M0 0 16 - 1 - r1).toNat) H → va_S (zA ad (nL sd)) s.heap H locs → lv_has ls 5 [(4, .int (zI (r1))), (3, .int (zI (q))), (0, .ref (ad 0)), (1, .int (zI (t))), (2, .int (zI (n)))] → W p l e { frames := 1, cells := 0, slots := 0, locals := 25 } s m ([.ref (ad 0), .int (zI (t)), .int (zI (n))] : List Value).toArray below meth c H locs 0 0 (MQ below (zQi D (nL sd) ad cI (fun z u => (((0 ≤ t ∧ t ≤ 1439) ∧ (1 ≤ n ∧ n ≤ 20)) ∧ (M 0 2 = 0 ∧ 0 < M 0 3 ∧ M 0 16 + n ≤ 60) ∧ z = (M 0 16 + n) ∧ u = nArr (zU M 0 1 0) t n) ∨ (((0 ≤ t ∧ t ≤ 1439) ∧ (1 ≤ n ∧ n ≤ 20)) ∧ ¬ (M 0 2 = 0 ∧ 0 < M 0 3 ∧ M 0 16 + n ≤ 60) ∧ u = zU M 0 1 2) ∨ (¬ ((0 ≤ t ∧ t ≤ 1439) ∧ (1 ≤ n ∧ n ≤ 20)) ∧ u = zU M 0 1 1))) ([.ref (ad 0), .int (zI (t)), .int (zI (n))] : List Value).toArray s 0 0 (zA ad (nL sd))) (F0 m 103 ls []) := by
                      intro n103
                      induction n103 with
                      | zero => intro r1 H locs ls hI hn; exact absurd hn (Nat.not_lt_zero _)
                      | succ n103 ih103 =>
                        intro r1 H locs ls hI103 hn103 hX hS hl
                        refine lv_iload hx hb d_Mo_arrives_103 (lv_at hl 0 rfl) ?_
                        refine lv_iload_n hx hb d_Mo_arrives_105 rfl (lv_at hl 1 rfl) ?_
                        refine z_icmp_lt (a := r1) (b := q) (tgt := 131) hx hb d_Mo_arrives_106 (by decide) (by omega) (fun hb_62 => ?_) (fun hb_63 => ?_)
                        · skip
                          refine lv_iload_n hx hb d_Mo_arrives_131 rfl (lv_at hl 1 rfl) ?_
                          refine lv_istore (lv' := [(4, .int (zI (q))), (3, .int (zI (q))), (0, .ref (ad 0)), (1, .int (zI (t))), (2, .int (zI (n)))]) hx hb d_Mo_arrives_132 hl (by decide) rfl (fun ls hl => ?_)
                          have loop134 : ∀ (n134 : Nat) (r2 : Int) (H : Heap) (locs : List Loc) (ls : Array Slot), (q ≤ r2 ∧ r2 ≤ q + n) → (q + n - r2).toNat < n134 → zX D (nL sd) ad cI (nPutN (nMvN M0 n (M0 0 16) ((M0 0 16).toNat - nQ M0 t)) t q (r2 - q).toNat) H → va_S (zA ad (nL sd)) s.heap H locs → lv_has ls 5 [(4, .int (zI (r2))), (3, .int (zI (q))), (0, .ref (ad 0)), (1, .int (zI (t))), (2, .int (zI (n)))] → W p l e { frames := 1, cells := 0, slots := 0, locals := 25 } s m ([.ref (ad 0), .int (zI (t)), .int (zI (n))] : List Value).toArray below meth c H locs 0 0 (MQ below (zQi D (nL sd) ad cI (fun z u => (((0 ≤ t ∧ t ≤ 1439) ∧ (1 ≤ n ∧ n ≤ 20)) ∧ (M 0 2 = 0 ∧ 0 < M 0 3 ∧ M 0 16 + n ≤ 60) ∧ z = (M 0 16 + n) ∧ u = nArr (zU M 0 1 0) t n) ∨ (((0 ≤ t ∧ t ≤ 1439) ∧ (1 ≤ n ∧ n ≤ 20)) ∧ ¬ (M 0 2 = 0 ∧ 0 < M 0 3 ∧ M 0 16 + n ≤ 60) ∧ u = zU M 0 1 2) ∨ (¬ ((0 ≤ t ∧ t ≤ 1439) ∧ (1 ≤ n ∧ n ≤ 20)) ∧ u = zU M 0 1 1))) ([.ref (ad 0), .int (zI (t)), .int (zI (n))] : List Value).toArray s 0 0 (zA ad (nL sd))) (F0 m 134 ls []) := by
                            intro n134
                            induction n134 with
                            | zero => intro r2 H locs ls hI hn; exact absurd hn (Nat.not_lt_zero _)
                            | succ n134 ih134 =>
                              intro r2 H locs ls hI134 hn134 hX hS hl
                              refine lv_iload hx hb d_Mo_arrives_134 (lv_at hl 0 rfl) ?_
                              refine lv_iload_n hx hb d_Mo_arrives_136 rfl (lv_at hl 1 rfl) ?_
                              refine lv_iload_n hx hb d_Mo_arrives_137 rfl (lv_at hl 4 rfl) ?_
                              refine z_iadd hx hb d_Mo_arrives_138 ?_
                              refine z_icmp_ge (a := r2) (b := q + n) (tgt := 156) hx hb d_Mo_arrives_139 (by decide) (by omega) (fun hb_64 => ?_) (fun hb_65 => ?_)
                              · skip
                                have e7 : nPutN (nMvN M0 n (M0 0 16) ((M0 0 16).toNat - nQ M0 t)) t q (r2 - q).toNat 0 16 = M 0 16 := by rw [nPutN_c (by decide), nMvN_c (by decide), f16]
                                refine lv_aload_n hx hb d_Mo_arrives_156 rfl (lv_at hl 2 rfl) ?_
                                refine lv_dup hx hb d_Mo_arrives_157 rfl ?_
                                refine z_geti (i := 16) (v := (nPutN (nMvN M0 n (M0 0 16) ((M0 0 16).toNat - nQ M0 t)) t q (r2 - q).toNat) 0 16) hx hb iw_Mo hown hK hX 0 rfl rfl 16 (by decide) tw_514 (fun _ h => h) rfl rfl rfl d_Mo_arrives_158 (fun rg_66 => ?_)
                                refine lv_iload_n hx hb d_Mo_arrives_161 rfl (lv_at hl 4 rfl) ?_
                                refine z_iadd hx hb d_Mo_arrives_162 ?_
                                refine z_puti (i := 16) (v := ((nPutN (nMvN M0 n (M0 0 16) ((M0 0 16).toNat - nQ M0 t)) t q (r2 - q).toNat) 0 16) + n) hx hb iw_Mo ty_Mo tyo_Mo n_Mo hown hK hX hS 0 rfl rfl 16 (by decide) tw_514 (fun _ h => h) rfl (by decide +kernel) rfl rfl (by omega) d_Mo_arrives_163 (fun H locs hX hS => ?_)
                                refine lv_aload_n hx hb d_Mo_arrives_166 rfl (lv_at hl 2 rfl) ?_
                                refine z_geti (i := 16) (v := ((nPutN (nMvN M0 n (M0 0 16) ((M0 0 16).toNat - nQ M0 t)) t q (r2 - q).toNat) 0 16) + n) hx hb iw_Mo hown hK hX 0 rfl rfl 16 (by decide) tw_514 (fun _ h => h) rfl rfl (by simp [zU]) d_Mo_arrives_167 (fun rg_67 => ?_)
                                exact z_iret (z := ((nPutN (nMvN M0 n (M0 0 16) ((M0 0 16).toNat - nQ M0 t)) t q (r2 - q).toNat) 0 16) + n) (post := (fun z u => (((0 ≤ t ∧ t ≤ 1439) ∧ (1 ≤ n ∧ n ≤ 20)) ∧ (M 0 2 = 0 ∧ 0 < M 0 3 ∧ M 0 16 + n ≤ 60) ∧ z = (M 0 16 + n) ∧ u = nArr (zU M 0 1 0) t n) ∨ (((0 ≤ t ∧ t ≤ 1439) ∧ (1 ≤ n ∧ n ≤ 20)) ∧ ¬ (M 0 2 = 0 ∧ 0 < M 0 3 ∧ M 0 16 + n ≤ 60) ∧ u = zU M 0 1 2) ∨ (¬ ((0 ≤ t ∧ t ≤ 1439) ∧ (1 ≤ n ∧ n ≤ 20)) ∧ u = zU M 0 1 1))) hx hb hr hlk hK hX hS (by omega) (Or.inl ⟨by omega, by omega, by omega, by rw [hM0]; unfold nArr; rw [e7, f16, show (r2 - q).toNat = n.toNat by omega, show ((nQ M0 t : Nat) : Int) = q by rw [hI73.2.2, nAt_e hI73.1 (by omega)]; omega]⟩) d_Mo_arrives_170
                              · skip
                                refine lv_aload_n hx hb d_Mo_arrives_142 rfl (lv_at hl 2 rfl) ?_
                                refine z_getr hx hb iw_Mo hown hK hX 0 rfl rfl 17 (by decide) tw_515 (fun _ h => h) 12 rfl d_Mo_arrives_143 ?_
                                refine lv_iload hx hb d_Mo_arrives_146 (lv_at hl 0 rfl) ?_
                                refine lv_iload_n hx hb d_Mo_arrives_148 rfl (lv_at hl 3 rfl) ?_
                                refine z_iast (i := r2) (v := t) hx hb hK hX hS 12 rfl (by omega) (by decide) (by omega) d_Mo_arrives_149 (fun H locs hX hS => ?_)
                                refine z_iinc (lv' := [(4, .int (zI (r2 + 1))), (3, .int (zI (q))), (0, .ref (ad 0)), (1, .int (zI (t))), (2, .int (zI (n)))]) hx hb d_Mo_arrives_150 hl (k := 0) rfl (by decide) rfl (fun ls hl => ?_)
                                refine lv_goto (tgt := 134) hx hb d_Mo_arrives_153 (by decide) ?_
                                exact ih134 (r2 + 1) _ _ _ ⟨by omega, by omega⟩ (by omega) (by rw [nPutN_s (by omega)]; exact hX) hS (lv_sub hl [0, 1, 2, 3, 4] rfl)
                          exact loop134 _ q _ _ _ ⟨by omega, by omega⟩ (Nat.lt_succ_self _) (by rw [show (q - q).toNat = 0 by omega]; show zX D (nL sd) ad cI (nMvN M0 n (M0 0 16) ((M0 0 16).toNat - nQ M0 t)) H; rw [show (M0 0 16).toNat - nQ M0 t = (M0 0 16 - 1 - r1).toNat by rw [hI73.2.2, nAt_e hI73.1 (by omega)]; omega]; exact hX) hS (lv_sub hl [0, 1, 2, 3, 4] rfl)
                        · skip
                          refine lv_aload_n hx hb d_Mo_arrives_109 rfl (lv_at hl 2 rfl) ?_
                          refine z_getr hx hb iw_Mo hown hK hX 0 rfl rfl 17 (by decide) tw_515 (fun _ h => h) 12 rfl d_Mo_arrives_110 ?_
                          refine lv_iload hx hb d_Mo_arrives_113 (lv_at hl 0 rfl) ?_
                          refine lv_iload_n hx hb d_Mo_arrives_115 rfl (lv_at hl 4 rfl) ?_
                          refine z_iadd hx hb d_Mo_arrives_116 ?_
                          refine lv_aload_n hx hb d_Mo_arrives_117 rfl (lv_at hl 2 rfl) ?_
                          refine z_getr hx hb iw_Mo hown hK hX 0 rfl rfl 17 (by decide) tw_515 (fun _ h => h) 12 rfl d_Mo_arrives_118 ?_
                          refine lv_iload hx hb d_Mo_arrives_121 (lv_at hl 0 rfl) ?_
                          refine z_iald (i := r1) (v := (nMvN M0 n (M0 0 16) (M0 0 16 - 1 - r1).toNat) 12 r1) hx hb hK hX 12 rfl (by omega) (by decide) rfl d_Mo_arrives_123 (fun rg_68 => ?_)
                          refine z_iast (i := r1 + n) (v := (nMvN M0 n (M0 0 16) (M0 0 16 - 1 - r1).toNat) 12 r1) hx hb hK hX hS 12 rfl (by omega) (by decide) (by omega) d_Mo_arrives_124 (fun H locs hX hS => ?_)
                          refine z_iinc (lv' := [(4, .int (zI (r1 + (-1)))), (3, .int (zI (q))), (0, .ref (ad 0)), (1, .int (zI (t))), (2, .int (zI (n)))]) hx hb d_Mo_arrives_125 hl (k := 0) rfl (by decide) rfl (fun ls hl => ?_)
                          refine lv_goto (tgt := 103) hx hb d_Mo_arrives_128 (by decide) ?_
                          exact ih103 (r1 + (-1)) _ _ _ ⟨by omega, by omega⟩ (by omega) (by rw [nMvN_s (by omega)]; exact hX) hS (lv_sub hl [0, 1, 2, 3, 4] rfl)
                    exact loop103 _ (M0 0 16 - 1) _ _ _ ⟨by omega, by omega⟩ (Nat.lt_succ_self _) (by rw [show (M0 0 16 - 1 - (M0 0 16 - 1)).toNat = 0 by omega]; exact hX) hS (lv_sub hl [0, 1, 2, 3, 4] rfl)
                  · skip
                    refine lv_aload_n hx hb d_Mo_arrives_77 rfl (lv_at hl 1 rfl) ?_
                    refine z_getr hx hb iw_Mo hown hK hX 0 rfl rfl 17 (by decide) tw_515 (fun _ h => h) 12 rfl d_Mo_arrives_78 ?_
                    refine lv_iload_n hx hb d_Mo_arrives_81 rfl (lv_at hl 0 rfl) ?_
                    refine z_const hx hb d_Mo_arrives_82 ?_
                    refine z_isub hx hb d_Mo_arrives_83 ?_
                    refine z_iald (i := q - 1) (v := M0 12 (q - 1)) hx hb hK hX 12 rfl (by omega) (by decide) rfl d_Mo_arrives_84 (fun rg_69 => ?_)
                    refine lv_iload_n hx hb d_Mo_arrives_85 rfl (lv_at hl 2 rfl) ?_
                    refine z_icmp_le (a := M0 12 (q - 1)) (b := t) (tgt := 95) hx hb d_Mo_arrives_86 (by decide) (by omega) (fun hb_70 => ?_) (fun hb_71 => ?_)
                    · skip
                      refine lv_aload_n hx hb d_Mo_arrives_95 rfl (lv_at hl 1 rfl) ?_
                      refine z_geti (i := 16) (v := M0 0 16) hx hb iw_Mo hown hK hX 0 rfl rfl 16 (by decide) tw_514 (fun _ h => h) rfl rfl rfl d_Mo_arrives_96 (fun rg_72 => ?_)
                      refine z_const hx hb d_Mo_arrives_99 ?_
                      refine z_isub hx hb d_Mo_arrives_100 ?_
                      refine lv_istore (lv' := [(4, .int (zI ((M0 0 16) - 1))), (3, .int (zI (q))), (0, .ref (ad 0)), (1, .int (zI (t))), (2, .int (zI (n)))]) hx hb d_Mo_arrives_101 hl (by decide) rfl (fun ls hl => ?_)
                      have loop103 : ∀ (n103 : Nat) (r1 : Int) (H : Heap) (locs : List Loc) (ls : Array Slot), (q - 1 ≤ r1 ∧ r1 ≤ M0 0 16 - 1) → (r1 + 1 - q).toNat < n103 → zX D (nL sd) ad cI (nMvN M0 n (M0 0 16) (M0 0 16 - 1 - r1).toNat) H → va_S (zA ad (nL sd)) s.heap H locs → lv_has ls 5 [(4, .int (zI (r1))), (3, .int (zI (q))), (0, .ref (ad 0)), (1, .int (zI (t))), (2, .int (zI (n)))] → W p l e { frames := 1, cells := 0, slots := 0, locals := 25 } s m ([.ref (ad 0), .int (zI (t)), .int (zI (n))] : List Value).toArray below meth c H locs 0 0 (MQ below (zQi D (nL sd) ad cI (fun z u => (((0 ≤ t ∧ t ≤ 1439) ∧ (1 ≤ n ∧ n ≤ 20)) ∧ (M 0 2 = 0 ∧ 0 < M 0 3 ∧ M 0 16 + n ≤ 60) ∧ z = (M 0 16 + n) ∧ u = nArr (zU M 0 1 0) t n) ∨ (((0 ≤ t ∧ t ≤ 1439) ∧ (1 ≤ n ∧ n ≤ 20)) ∧ ¬ (M 0 2 = 0 ∧ 0 < M 0 3 ∧ M 0 16 + n ≤ 60) ∧ u = zU M 0 1 2) ∨ (¬ ((0 ≤ t ∧ t ≤ 1439) ∧ (1 ≤ n ∧ n ≤ 20)) ∧ u = zU M 0 1 1))) ([.ref (ad 0), .int (zI (t)), .int (zI (n))] : List Value).toArray s 0 0 (zA ad (nL sd))) (F0 m 103 ls []) := by
                        intro n103
                        induction n103 with
                        | zero => intro r1 H locs ls hI hn; exact absurd hn (Nat.not_lt_zero _)
                        | succ n103 ih103 =>
                          intro r1 H locs ls hI103 hn103 hX hS hl
                          refine lv_iload hx hb d_Mo_arrives_103 (lv_at hl 0 rfl) ?_
                          refine lv_iload_n hx hb d_Mo_arrives_105 rfl (lv_at hl 1 rfl) ?_
                          refine z_icmp_lt (a := r1) (b := q) (tgt := 131) hx hb d_Mo_arrives_106 (by decide) (by omega) (fun hb_73 => ?_) (fun hb_74 => ?_)
                          · skip
                            refine lv_iload_n hx hb d_Mo_arrives_131 rfl (lv_at hl 1 rfl) ?_
                            refine lv_istore (lv' := [(4, .int (zI (q))), (3, .int (zI (q))), (0, .ref (ad 0)), (1, .int (zI (t))), (2, .int (zI (n)))]) hx hb d_Mo_arrives_132 hl (by decide) rfl (fun ls hl => ?_)
                            have loop134 : ∀ (n134 : Nat) (r2 : Int) (H : Heap) (locs : List Loc) (ls : Array Slot), (q ≤ r2 ∧ r2 ≤ q + n) → (q + n - r2).toNat < n134 → zX D (nL sd) ad cI (nPutN (nMvN M0 n (M0 0 16) ((M0 0 16).toNat - nQ M0 t)) t q (r2 - q).toNat) H → va_S (zA ad (nL sd)) s.heap H locs → lv_has ls 5 [(4, .int (zI (r2))), (3, .int (zI (q))), (0, .ref (ad 0)), (1, .int (zI (t))), (2, .int (zI (n)))] → W p l e { frames := 1, cells := 0, slots := 0, locals := 25 } s m ([.ref (ad 0), .int (zI (t)), .int (zI (n))] : List Value).toArray below meth c H locs 0 0 (MQ below (zQi D (nL sd) ad cI (fun z u => (((0 ≤ t ∧ t ≤ 1439) ∧ (1 ≤ n ∧ n ≤ 20)) ∧ (M 0 2 = 0 ∧ 0 < M 0 3 ∧ M 0 16 + n ≤ 60) ∧ z = (M 0 16 + n) ∧ u = nArr (zU M 0 1 0) t n) ∨ (((0 ≤ t ∧ t ≤ 1439) ∧ (1 ≤ n ∧ n ≤ 20)) ∧ ¬ (M 0 2 = 0 ∧ 0 < M 0 3 ∧ M 0 16 + n ≤ 60) ∧ u = zU M 0 1 2) ∨ (¬ ((0 ≤ t ∧ t ≤ 1439) ∧ (1 ≤ n ∧ n ≤ 20)) ∧ u = zU M 0 1 1))) ([.ref (ad 0), .int (zI (t)), .int (zI (n))] : List Value).toArray s 0 0 (zA ad (nL sd))) (F0 m 134 ls []) := by
                              intro n134
                              induction n134 with
                              | zero => intro r2 H locs ls hI hn; exact absurd hn (Nat.not_lt_zero _)
                              | succ n134 ih134 =>
                                intro r2 H locs ls hI134 hn134 hX hS hl
                                refine lv_iload hx hb d_Mo_arrives_134 (lv_at hl 0 rfl) ?_
                                refine lv_iload_n hx hb d_Mo_arrives_136 rfl (lv_at hl 1 rfl) ?_
                                refine lv_iload_n hx hb d_Mo_arrives_137 rfl (lv_at hl 4 rfl) ?_
                                refine z_iadd hx hb d_Mo_arrives_138 ?_
                                refine z_icmp_ge (a := r2) (b := q + n) (tgt := 156) hx hb d_Mo_arrives_139 (by decide) (by omega) (fun hb_75 => ?_) (fun hb_76 => ?_)
                                · skip
                                  have e7 : nPutN (nMvN M0 n (M0 0 16) ((M0 0 16).toNat - nQ M0 t)) t q (r2 - q).toNat 0 16 = M 0 16 := by rw [nPutN_c (by decide), nMvN_c (by decide), f16]
                                  refine lv_aload_n hx hb d_Mo_arrives_156 rfl (lv_at hl 2 rfl) ?_
                                  refine lv_dup hx hb d_Mo_arrives_157 rfl ?_
                                  refine z_geti (i := 16) (v := (nPutN (nMvN M0 n (M0 0 16) ((M0 0 16).toNat - nQ M0 t)) t q (r2 - q).toNat) 0 16) hx hb iw_Mo hown hK hX 0 rfl rfl 16 (by decide) tw_514 (fun _ h => h) rfl rfl rfl d_Mo_arrives_158 (fun rg_77 => ?_)
                                  refine lv_iload_n hx hb d_Mo_arrives_161 rfl (lv_at hl 4 rfl) ?_
                                  refine z_iadd hx hb d_Mo_arrives_162 ?_
                                  refine z_puti (i := 16) (v := ((nPutN (nMvN M0 n (M0 0 16) ((M0 0 16).toNat - nQ M0 t)) t q (r2 - q).toNat) 0 16) + n) hx hb iw_Mo ty_Mo tyo_Mo n_Mo hown hK hX hS 0 rfl rfl 16 (by decide) tw_514 (fun _ h => h) rfl (by decide +kernel) rfl rfl (by omega) d_Mo_arrives_163 (fun H locs hX hS => ?_)
                                  refine lv_aload_n hx hb d_Mo_arrives_166 rfl (lv_at hl 2 rfl) ?_
                                  refine z_geti (i := 16) (v := ((nPutN (nMvN M0 n (M0 0 16) ((M0 0 16).toNat - nQ M0 t)) t q (r2 - q).toNat) 0 16) + n) hx hb iw_Mo hown hK hX 0 rfl rfl 16 (by decide) tw_514 (fun _ h => h) rfl rfl (by simp [zU]) d_Mo_arrives_167 (fun rg_78 => ?_)
                                  exact z_iret (z := ((nPutN (nMvN M0 n (M0 0 16) ((M0 0 16).toNat - nQ M0 t)) t q (r2 - q).toNat) 0 16) + n) (post := (fun z u => (((0 ≤ t ∧ t ≤ 1439) ∧ (1 ≤ n ∧ n ≤ 20)) ∧ (M 0 2 = 0 ∧ 0 < M 0 3 ∧ M 0 16 + n ≤ 60) ∧ z = (M 0 16 + n) ∧ u = nArr (zU M 0 1 0) t n) ∨ (((0 ≤ t ∧ t ≤ 1439) ∧ (1 ≤ n ∧ n ≤ 20)) ∧ ¬ (M 0 2 = 0 ∧ 0 < M 0 3 ∧ M 0 16 + n ≤ 60) ∧ u = zU M 0 1 2) ∨ (¬ ((0 ≤ t ∧ t ≤ 1439) ∧ (1 ≤ n ∧ n ≤ 20)) ∧ u = zU M 0 1 1))) hx hb hr hlk hK hX hS (by omega) (Or.inl ⟨by omega, by omega, by omega, by rw [hM0]; unfold nArr; rw [e7, f16, show (r2 - q).toNat = n.toNat by omega, show ((nQ M0 t : Nat) : Int) = q by rw [hI73.2.2, nAt_e hI73.1 (by omega)]; omega]⟩) d_Mo_arrives_170
                                · skip
                                  refine lv_aload_n hx hb d_Mo_arrives_142 rfl (lv_at hl 2 rfl) ?_
                                  refine z_getr hx hb iw_Mo hown hK hX 0 rfl rfl 17 (by decide) tw_515 (fun _ h => h) 12 rfl d_Mo_arrives_143 ?_
                                  refine lv_iload hx hb d_Mo_arrives_146 (lv_at hl 0 rfl) ?_
                                  refine lv_iload_n hx hb d_Mo_arrives_148 rfl (lv_at hl 3 rfl) ?_
                                  refine z_iast (i := r2) (v := t) hx hb hK hX hS 12 rfl (by omega) (by decide) (by omega) d_Mo_arrives_149 (fun H locs hX hS => ?_)
                                  refine z_iinc (lv' := [(4, .int (zI (r2 + 1))), (3, .int (zI (q))), (0, .ref (ad 0)), (1, .int (zI (t))), (2, .int (zI (n)))]) hx hb d_Mo_arrives_150 hl (k := 0) rfl (by decide) rfl (fun ls hl => ?_)
                                  refine lv_goto (tgt := 134) hx hb d_Mo_arrives_153 (by decide) ?_
                                  exact ih134 (r2 + 1) _ _ _ ⟨by omega, by omega⟩ (by omega) (by rw [nPutN_s (by omega)]; exact hX) hS (lv_sub hl [0, 1, 2, 3, 4] rfl)
                            exact loop134 _ q _ _ _ ⟨by omega, by omega⟩ (Nat.lt_succ_self _) (by rw [show (q - q).toNat = 0 by omega]; show zX D (nL sd) ad cI (nMvN M0 n (M0 0 16) ((M0 0 16).toNat - nQ M0 t)) H; rw [show (M0 0 16).toNat - nQ M0 t = (M0 0 16 - 1 - r1).toNat by rw [hI73.2.2, nAt_e hI73.1 (by omega)]; omega]; exact hX) hS (lv_sub hl [0, 1, 2, 3, 4] rfl)
                          · skip
                            refine lv_aload_n hx hb d_Mo_arrives_109 rfl (lv_at hl 2 rfl) ?_
                            refine z_getr hx hb iw_Mo hown hK hX 0 rfl rfl 17 (by decide) tw_515 (fun _ h => h) 12 rfl d_Mo_arrives_110 ?_
                            refine lv_iload hx hb d_Mo_arrives_113 (lv_at hl 0 rfl) ?_
                            refine lv_iload_n hx hb d_Mo_arrives_115 rfl (lv_at hl 4 rfl) ?_
                            refine z_iadd hx hb d_Mo_arrives_116 ?_
                            refine lv_aload_n hx hb d_Mo_arrives_117 rfl (lv_at hl 2 rfl) ?_
                            refine z_getr hx hb iw_Mo hown hK hX 0 rfl rfl 17 (by decide) tw_515 (fun _ h => h) 12 rfl d_Mo_arrives_118 ?_
                            refine lv_iload hx hb d_Mo_arrives_121 (lv_at hl 0 rfl) ?_
                            refine z_iald (i := r1) (v := (nMvN M0 n (M0 0 16) (M0 0 16 - 1 - r1).toNat) 12 r1) hx hb hK hX 12 rfl (by omega) (by decide) rfl d_Mo_arrives_123 (fun rg_79 => ?_)
                            refine z_iast (i := r1 + n) (v := (nMvN M0 n (M0 0 16) (M0 0 16 - 1 - r1).toNat) 12 r1) hx hb hK hX hS 12 rfl (by omega) (by decide) (by omega) d_Mo_arrives_124 (fun H locs hX hS => ?_)
                            refine z_iinc (lv' := [(4, .int (zI (r1 + (-1)))), (3, .int (zI (q))), (0, .ref (ad 0)), (1, .int (zI (t))), (2, .int (zI (n)))]) hx hb d_Mo_arrives_125 hl (k := 0) rfl (by decide) rfl (fun ls hl => ?_)
                            refine lv_goto (tgt := 103) hx hb d_Mo_arrives_128 (by decide) ?_
                            exact ih103 (r1 + (-1)) _ _ _ ⟨by omega, by omega⟩ (by omega) (by rw [nMvN_s (by omega)]; exact hX) hS (lv_sub hl [0, 1, 2, 3, 4] rfl)
                      exact loop103 _ (M0 0 16 - 1) _ _ _ ⟨by omega, by omega⟩ (Nat.lt_succ_self _) (by rw [show (M0 0 16 - 1 - (M0 0 16 - 1)).toNat = 0 by omega]; exact hX) hS (lv_sub hl [0, 1, 2, 3, 4] rfl)
                    · skip
                      refine z_iinc (lv' := [(3, .int (zI (q + (-1)))), (0, .ref (ad 0)), (1, .int (zI (t))), (2, .int (zI (n)))]) hx hb d_Mo_arrives_89 hl (k := 0) rfl (by decide) rfl (fun ls hl => ?_)
                      refine lv_goto (tgt := 73) hx hb d_Mo_arrives_92 (by decide) ?_
                      exact ih73 (q + (-1)) _ _ _ ⟨by omega, by omega, hI73.2.2.trans (nAt_s (by omega) (by omega))⟩ (by omega) hX hS (lv_sub hl [0, 1, 2, 3] rfl)
              exact loop73 _ (M0 0 16) _ _ _ ⟨by omega, by omega, rfl⟩ (Nat.lt_succ_self _) hX hS (lv_sub hl [0, 1, 2, 3] rfl)
            · skip
              exfalso
              omega

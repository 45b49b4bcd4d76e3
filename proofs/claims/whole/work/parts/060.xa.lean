set_option maxHeartbeats 4000000 in
set_option maxRecDepth 100000 in
theorem k_Ro_hasSpace (l : Launch) (D : va_G) (ad : Nat → Nat) (cI : Nat → ClassId) (sd : Int64) (M : zM) (n : Int) (h1 : 0 ≤ n ∧ n < 12) : zMi l y_Ro_hasSpace (.code y_Ro_hasSpace c_Ro_hasSpace 2 (some .boolean)) { frames := 0, cells := 0, slots := 0, locals := 0 } D (xL sd) ad cI M [.ref (ad 1), .int (zI (n))] (fun z u => z = (if M 6 n < M 5 n then 1 else 0) ∧ u = M) := by
  refine z_of (cc := c_Ro_hasSpace) (maxL := 2) (ret := some .boolean) (own := "PersonSeeds$Rooms") (by decide) rfl rfl (Nat.le_of_ble_eq_true rfl) ?_
  intro p e s m below meth c ls hF hr hX hK hl
  obtain ⟨hx, hb, hml, hown, hlk⟩ := id hF
  have hS : va_S (zA ad (xL sd)) s.heap s.heap [] := va_S.rf
  have hl : lv_has ls 2 [(0, .ref (ad 1)), (1, .int (zI (n)))] := hl
  refine lv_aload_n hx hb d_Ro_hasSpace_0 rfl (lv_at hl 0 rfl) ?_
  refine z_getr hx hb iw_Ro hown hK hX 1 rfl rfl 2 (by decide) tw_31 (fun _ h => h) 6 rfl d_Ro_hasSpace_1 ?_
  refine lv_iload_n hx hb d_Ro_hasSpace_4 rfl (lv_at hl 1 rfl) ?_
  refine z_iald (i := n) (v := M 6 n) hx hb hK hX 6 rfl (by omega) (by decide) rfl d_Ro_hasSpace_5 (fun rg_1 => ?_)
  refine lv_aload_n hx hb d_Ro_hasSpace_6 rfl (lv_at hl 0 rfl) ?_
  refine z_getr hx hb iw_Ro hown hK hX 1 rfl rfl 1 (by decide) tw_30 (fun _ h => h) 5 rfl d_Ro_hasSpace_7 ?_
  refine lv_iload_n hx hb d_Ro_hasSpace_10 rfl (lv_at hl 1 rfl) ?_
  refine z_iald (i := n) (v := M 5 n) hx hb hK hX 5 rfl (by omega) (by decide) rfl d_Ro_hasSpace_11 (fun rg_2 => ?_)
  refine z_icmp_ge (a := M 6 n) (b := M 5 n) (tgt := 19) hx hb d_Ro_hasSpace_12 (by decide) (by omega) (fun hb_3 => ?_) (fun hb_4 => ?_)
  · skip
    refine z_const hx hb d_Ro_hasSpace_19 ?_
    exact z_zret (z := 0) (post := fun z u => z = (if M 6 n < M 5 n then 1 else 0) ∧ u = M) hx hb hr hlk hK hX hS (by omega) ⟨by first | rfl | omega | (split <;> omega) | (repeat' split) <;> first | rfl | omega | simp_all, rfl⟩ d_Ro_hasSpace_20
  · skip
    refine z_const hx hb d_Ro_hasSpace_15 ?_
    refine lv_goto (tgt := 20) hx hb d_Ro_hasSpace_16 (by decide) ?_
    exact z_zret (z := 1) (post := fun z u => z = (if M 6 n < M 5 n then 1 else 0) ∧ u = M) hx hb hr hlk hK hX hS (by omega) ⟨by first | rfl | omega | (split <;> omega) | (repeat' split) <;> first | rfl | omega | simp_all, rfl⟩ d_Ro_hasSpace_20
set_option maxHeartbeats 4000000 in
set_option maxRecDepth 100000 in
theorem k_Ro_add (l : Launch) (D : va_G) (ad : Nat → Nat) (cI : Nat → ClassId) (sd : Int64) (M : zM) (v : Int) (h1 : 0 ≤ M 1 0 ∧ M 1 0 < 12) (h2 : -2147483648 ≤ v ∧ v ≤ 2147483647) : zMi l y_Ro_add (.code y_Ro_add c_Ro_add 2 (some .int)) { frames := 0, cells := 0, slots := 0, locals := 0 } D (xL sd) ad cI M [.ref (ad 1), .int (zI (v))] (fun z u => z = (M 1 0) ∧ u = xRoomsAdd M v) := by
  refine z_of (cc := c_Ro_add) (maxL := 2) (ret := some .int) (own := "PersonSeeds$Rooms") (by decide) rfl rfl (Nat.le_of_ble_eq_true rfl) ?_
  intro p e s m below meth c ls hF hr hX hK hl
  obtain ⟨hx, hb, hml, hown, hlk⟩ := id hF
  have hS : va_S (zA ad (xL sd)) s.heap s.heap [] := va_S.rf
  have hl : lv_has ls 2 [(0, .ref (ad 1)), (1, .int (zI (v)))] := hl
  refine lv_aload_n hx hb d_Ro_add_0 rfl (lv_at hl 0 rfl) ?_
  refine z_getr hx hb iw_Ro hown hK hX 1 rfl rfl 1 (by decide) tw_30 (fun _ h => h) 5 rfl d_Ro_add_1 ?_
  refine lv_aload_n hx hb d_Ro_add_4 rfl (lv_at hl 0 rfl) ?_
  refine z_geti (i := 0) (v := M 1 0) hx hb iw_Ro hown hK hX 1 rfl rfl 0 (by decide) tw_28 (fun _ h => h) rfl rfl rfl d_Ro_add_5 (fun rg_1 => ?_)
  refine lv_iload_n hx hb d_Ro_add_8 rfl (lv_at hl 1 rfl) ?_
  refine z_iast (i := M 1 0) (v := v) hx hb hK hX hS 5 rfl (by omega) (by decide) (by omega) d_Ro_add_9 (fun H locs hX hS => ?_)
  refine lv_aload_n hx hb d_Ro_add_10 rfl (lv_at hl 0 rfl) ?_
  refine lv_dup hx hb d_Ro_add_11 rfl ?_
  refine z_geti (i := 0) (v := M 1 0) hx hb iw_Ro hown hK hX 1 rfl rfl 0 (by decide) tw_28 (fun _ h => h) rfl rfl rfl d_Ro_add_12 (fun rg_2 => ?_)
  refine z_const hx hb d_Ro_add_15 ?_
  refine z_iadd hx hb d_Ro_add_16 ?_
  refine z_puti (i := 0) (v := (M 1 0) + 1) hx hb iw_Ro ty_Ro tyo_Ro n_Ro hown hK hX hS 1 rfl rfl 0 (by decide) tw_28 (fun _ h => h) rfl (by decide +kernel) rfl rfl (by omega) d_Ro_add_17 (fun H locs hX hS => ?_)
  refine lv_aload_n hx hb d_Ro_add_20 rfl (lv_at hl 0 rfl) ?_
  refine z_geti (i := 0) (v := (M 1 0) + 1) hx hb iw_Ro hown hK hX 1 rfl rfl 0 (by decide) tw_28 (fun _ h => h) rfl rfl (by simp [zU]) d_Ro_add_21 (fun rg_3 => ?_)
  refine z_const hx hb d_Ro_add_24 ?_
  refine z_isub hx hb d_Ro_add_25 ?_
  exact z_iret (z := ((M 1 0) + 1) - 1) (post := fun z u => z = (M 1 0) ∧ u = xRoomsAdd M v) hx hb hr hlk hK hX hS (by omega) ⟨by first | rfl | omega | (split <;> omega) | (repeat' split) <;> first | rfl | omega | simp_all, rfl⟩ d_Ro_add_26
set_option maxHeartbeats 4000000 in
set_option maxRecDepth 100000 in
theorem k_Do_steps (l : Launch) (D : va_G) (ad : Nat → Nat) (cI : Nat → ClassId) (sd : Int64) (M : zM) (a b : Int) (h1 : 0 ≤ a ∧ a < 12) (h2 : 0 ≤ b ∧ b < 12) : zMi l y_Do_stepsBetween (.code y_Do_stepsBetween c_Do_stepsBetween 3 (some .int)) { frames := 0, cells := 0, slots := 0, locals := 0 } D (xL sd) ad cI M [.ref (ad 2), .int (zI (a)), .int (zI (b))] (fun z u => z = (M 15 (a * 12 + b)) ∧ u = M) := by
  refine z_of (cc := c_Do_stepsBetween) (maxL := 3) (ret := some .int) (own := "PersonSeeds$Doors") (by decide) rfl rfl (Nat.le_of_ble_eq_true rfl) ?_
  intro p e s m below meth c ls hF hr hX hK hl
  obtain ⟨hx, hb, hml, hown, hlk⟩ := id hF
  have hS : va_S (zA ad (xL sd)) s.heap s.heap [] := va_S.rf
  have hl : lv_has ls 3 [(0, .ref (ad 2)), (1, .int (zI (a))), (2, .int (zI (b)))] := hl
  refine lv_aload_n hx hb d_Do_stepsBetween_0 rfl (lv_at hl 0 rfl) ?_
  refine z_getr hx hb iw_Do hown hK hX 2 rfl rfl 7 (by decide) tw_68 (fun _ h => h) 15 rfl d_Do_stepsBetween_1 ?_
  refine lv_iload_n hx hb d_Do_stepsBetween_4 rfl (lv_at hl 1 rfl) ?_
  refine z_bipush hx hb d_Do_stepsBetween_5 (by decide) ?_
  refine z_imul hx hb d_Do_stepsBetween_7 ?_
  refine lv_iload_n hx hb d_Do_stepsBetween_8 rfl (lv_at hl 2 rfl) ?_
  refine z_iadd hx hb d_Do_stepsBetween_9 ?_
  refine z_iald (i := (a * 12) + b) (v := M 15 ((a * 12) + b)) hx hb hK hX 15 rfl (by omega) (by decide) rfl d_Do_stepsBetween_10 (fun rg_1 => ?_)
  exact z_iret (z := M 15 ((a * 12) + b)) (post := fun z u => z = (M 15 (a * 12 + b)) ∧ u = M) hx hb hr hlk hK hX hS (by omega) ⟨by first | rfl | omega | (split <;> omega) | (repeat' split) <;> first | rfl | omega | simp_all, rfl⟩ d_Do_stepsBetween_11
set_option maxHeartbeats 4000000 in
set_option maxRecDepth 100000 in
theorem k_Do_behind (l : Launch) (D : va_G) (ad : Nat → Nat) (cI : Nat → ClassId) (sd : Int64) (M : zM) (d h : Int) (h1 : 0 ≤ d ∧ d < 16) (h2 : -2147483648 ≤ h ∧ h ≤ 2147483647) : zMi l y_Do_behind (.code y_Do_behind c_Do_behind 3 (some .int)) { frames := 0, cells := 0, slots := 0, locals := 0 } D (xL sd) ad cI M [.ref (ad 2), .int (zI (d)), .int (zI (h))] (fun z u => z = (xSide M d h) ∧ u = M) := by
  refine z_of (cc := c_Do_behind) (maxL := 3) (ret := some .int) (own := "PersonSeeds$Doors") (by decide) rfl rfl (Nat.le_of_ble_eq_true rfl) ?_
  intro p e s m below meth c ls hF hr hX hK hl
  obtain ⟨hx, hb, hml, hown, hlk⟩ := id hF
  have hS : va_S (zA ad (xL sd)) s.heap s.heap [] := va_S.rf
  have hl : lv_has ls 3 [(0, .ref (ad 2)), (1, .int (zI (d))), (2, .int (zI (h)))] := hl
  refine lv_aload_n hx hb d_Do_behind_0 rfl (lv_at hl 0 rfl) ?_
  refine z_getr hx hb iw_Do hown hK hX 2 rfl rfl 1 (by decide) tw_60 (fun _ h => h) 9 rfl d_Do_behind_1 ?_
  refine lv_iload_n hx hb d_Do_behind_4 rfl (lv_at hl 1 rfl) ?_
  refine z_iald (i := d) (v := M 9 d) hx hb hK hX 9 rfl (by omega) (by decide) rfl d_Do_behind_5 (fun rg_1 => ?_)
  refine lv_iload_n hx hb d_Do_behind_6 rfl (lv_at hl 2 rfl) ?_
  refine z_icmp_ne (a := M 9 d) (b := h) (tgt := 17) hx hb d_Do_behind_7 (by decide) (by omega) (fun hb_2 => ?_) (fun hb_3 => ?_)
  · skip
    refine lv_aload_n hx hb d_Do_behind_17 rfl (lv_at hl 0 rfl) ?_
    refine z_getr hx hb iw_Do hown hK hX 2 rfl rfl 2 (by decide) tw_61 (fun _ h => h) 10 rfl d_Do_behind_18 ?_
    refine lv_iload_n hx hb d_Do_behind_21 rfl (lv_at hl 1 rfl) ?_
    refine z_iald (i := d) (v := M 10 d) hx hb hK hX 10 rfl (by omega) (by decide) rfl d_Do_behind_22 (fun rg_4 => ?_)
    refine lv_iload_n hx hb d_Do_behind_23 rfl (lv_at hl 2 rfl) ?_
    refine z_icmp_ne (a := M 10 d) (b := h) (tgt := 36) hx hb d_Do_behind_24 (by decide) (by omega) (fun hb_5 => ?_) (fun hb_6 => ?_)
    · skip
      refine z_const hx hb d_Do_behind_36 ?_
      exact z_iret (z := -1) (post := fun z u => z = (xSide M d h) ∧ u = M) hx hb hr hlk hK hX hS (by omega) ⟨by unfold xSide; simp [*], rfl⟩ d_Do_behind_37
    · skip
      refine lv_aload_n hx hb d_Do_behind_27 rfl (lv_at hl 0 rfl) ?_
      refine z_getr hx hb iw_Do hown hK hX 2 rfl rfl 1 (by decide) tw_60 (fun _ h => h) 9 rfl d_Do_behind_28 ?_
      refine lv_iload_n hx hb d_Do_behind_31 rfl (lv_at hl 1 rfl) ?_
      refine z_iald (i := d) (v := M 9 d) hx hb hK hX 9 rfl (by omega) (by decide) rfl d_Do_behind_32 (fun rg_7 => ?_)
      refine lv_goto (tgt := 37) hx hb d_Do_behind_33 (by decide) ?_
      exact z_iret (z := M 9 d) (post := fun z u => z = (xSide M d h) ∧ u = M) hx hb hr hlk hK hX hS (by omega) ⟨by unfold xSide; simp [*], rfl⟩ d_Do_behind_37
  · skip
    refine lv_aload_n hx hb d_Do_behind_10 rfl (lv_at hl 0 rfl) ?_
    refine z_getr hx hb iw_Do hown hK hX 2 rfl rfl 2 (by decide) tw_61 (fun _ h => h) 10 rfl d_Do_behind_11 ?_
    refine lv_iload_n hx hb d_Do_behind_14 rfl (lv_at hl 1 rfl) ?_
    refine z_iald (i := d) (v := M 10 d) hx hb hK hX 10 rfl (by omega) (by decide) rfl d_Do_behind_15 (fun rg_8 => ?_)
    exact z_iret (z := M 10 d) (post := fun z u => z = (xSide M d h) ∧ u = M) hx hb hr hlk hK hX hS (by omega) ⟨by unfold xSide; simp [*], rfl⟩ d_Do_behind_16
set_option maxHeartbeats 4000000 in
set_option maxRecDepth 100000 in
theorem k_Do_isFree (l : Launch) (D : va_G) (ad : Nat → Nat) (cI : Nat → ClassId) (sd : Int64) (M : zM) (d : Int) (h1 : 0 ≤ d ∧ d < 16) : zMi l y_Do_isFree (.code y_Do_isFree c_Do_isFree 2 (some .boolean)) { frames := 0, cells := 0, slots := 0, locals := 0 } D (xL sd) ad cI M [.ref (ad 2), .int (zI (d))] (fun z u => z = (if M 14 d < M 11 d then 1 else 0) ∧ u = M) := by
  refine z_of (cc := c_Do_isFree) (maxL := 2) (ret := some .boolean) (own := "PersonSeeds$Doors") (by decide) rfl rfl (Nat.le_of_ble_eq_true rfl) ?_
  intro p e s m below meth c ls hF hr hX hK hl
  obtain ⟨hx, hb, hml, hown, hlk⟩ := id hF
  have hS : va_S (zA ad (xL sd)) s.heap s.heap [] := va_S.rf
  have hl : lv_has ls 2 [(0, .ref (ad 2)), (1, .int (zI (d)))] := hl
  refine lv_aload_n hx hb d_Do_isFree_0 rfl (lv_at hl 0 rfl) ?_
  refine z_getr hx hb iw_Do hown hK hX 2 rfl rfl 6 (by decide) tw_67 (fun _ h => h) 14 rfl d_Do_isFree_1 ?_
  refine lv_iload_n hx hb d_Do_isFree_4 rfl (lv_at hl 1 rfl) ?_
  refine z_iald (i := d) (v := M 14 d) hx hb hK hX 14 rfl (by omega) (by decide) rfl d_Do_isFree_5 (fun rg_1 => ?_)
  refine lv_aload_n hx hb d_Do_isFree_6 rfl (lv_at hl 0 rfl) ?_
  refine z_getr hx hb iw_Do hown hK hX 2 rfl rfl 3 (by decide) tw_62 (fun _ h => h) 11 rfl d_Do_isFree_7 ?_
  refine lv_iload_n hx hb d_Do_isFree_10 rfl (lv_at hl 1 rfl) ?_
  refine z_iald (i := d) (v := M 11 d) hx hb hK hX 11 rfl (by omega) (by decide) rfl d_Do_isFree_11 (fun rg_2 => ?_)
  refine z_icmp_ge (a := M 14 d) (b := M 11 d) (tgt := 19) hx hb d_Do_isFree_12 (by decide) (by omega) (fun hb_3 => ?_) (fun hb_4 => ?_)
  · skip
    refine z_const hx hb d_Do_isFree_19 ?_
    exact z_zret (z := 0) (post := fun z u => z = (if M 14 d < M 11 d then 1 else 0) ∧ u = M) hx hb hr hlk hK hX hS (by omega) ⟨by first | rfl | omega | (split <;> omega) | (repeat' split) <;> first | rfl | omega | simp_all, rfl⟩ d_Do_isFree_20
  · skip
    refine z_const hx hb d_Do_isFree_15 ?_
    refine lv_goto (tgt := 20) hx hb d_Do_isFree_16 (by decide) ?_
    exact z_zret (z := 1) (post := fun z u => z = (if M 14 d < M 11 d then 1 else 0) ∧ u = M) hx hb hr hlk hK hX hS (by omega) ⟨by first | rfl | omega | (split <;> omega) | (repeat' split) <;> first | rfl | omega | simp_all, rfl⟩ d_Do_isFree_20
set_option maxHeartbeats 4000000 in
set_option maxRecDepth 100000 in
theorem k_Do_pass (l : Launch) (D : va_G) (ad : Nat → Nat) (cI : Nat → ClassId) (sd : Int64) (M : zM) (d h : Int) (h1 : 0 ≤ d ∧ d < 16) (h2 : -2147483648 ≤ h ∧ h ≤ 2147483647) : zMv l y_Do_pass (.code y_Do_pass c_Do_pass 3 (none)) { frames := 0, cells := 0, slots := 0, locals := 0 } D (xL sd) ad cI M [.ref (ad 2), .int (zI (d)), .int (zI (h))] (fun u => u = xPass M d h) := by
  refine z_of (cc := c_Do_pass) (maxL := 3) (ret := none) (own := "PersonSeeds$Doors") (by decide) rfl rfl (Nat.le_of_ble_eq_true rfl) ?_
  intro p e s m below meth c ls hF hr hX hK hl
  obtain ⟨hx, hb, hml, hown, hlk⟩ := id hF
  have hS : va_S (zA ad (xL sd)) s.heap s.heap [] := va_S.rf
  have hl : lv_has ls 3 [(0, .ref (ad 2)), (1, .int (zI (d))), (2, .int (zI (h)))] := hl
  refine lv_aload_n hx hb d_Do_pass_0 rfl (lv_at hl 0 rfl) ?_
  refine z_getr hx hb iw_Do hown hK hX 2 rfl rfl 6 (by decide) tw_67 (fun _ h => h) 14 rfl d_Do_pass_1 ?_
  refine lv_iload_n hx hb d_Do_pass_4 rfl (lv_at hl 1 rfl) ?_
  refine lv_dup2_11 hx hb d_Do_pass_5 rfl rfl ?_
  refine z_iald (i := d) (v := M 14 d) hx hb hK hX 14 rfl (by omega) (by decide) rfl d_Do_pass_6 (fun rg_1 => ?_)
  refine z_const hx hb d_Do_pass_7 ?_
  refine z_iadd hx hb d_Do_pass_8 ?_
  refine z_iastw (i := d) (v := (M 14 d) + 1) hx hb hK hX hS 14 rfl (by omega) (by decide) d_Do_pass_9 (fun H locs hX hS => ?_)
  refine lv_aload_n hx hb d_Do_pass_10 rfl (lv_at hl 0 rfl) ?_
  refine z_getr hx hb iw_Do hown hK hX 2 rfl rfl 1 (by decide) tw_60 (fun _ h => h) 9 rfl d_Do_pass_11 ?_
  refine lv_iload_n hx hb d_Do_pass_14 rfl (lv_at hl 1 rfl) ?_
  refine z_iald (i := d) (v := M 9 d) hx hb hK hX 9 rfl (by omega) (by decide) rfl d_Do_pass_15 (fun rg_2 => ?_)
  refine lv_iload_n hx hb d_Do_pass_16 rfl (lv_at hl 2 rfl) ?_
  refine z_icmp_ne (a := M 9 d) (b := h) (tgt := 33) hx hb d_Do_pass_17 (by decide) (by omega) (fun hb_3 => ?_) (fun hb_4 => ?_)
  · skip
    refine lv_aload_n hx hb d_Do_pass_33 rfl (lv_at hl 0 rfl) ?_
    refine z_getr hx hb iw_Do hown hK hX 2 rfl rfl 5 (by decide) tw_65 (fun _ h => h) 13 rfl d_Do_pass_34 ?_
    refine lv_iload_n hx hb d_Do_pass_37 rfl (lv_at hl 1 rfl) ?_
    refine lv_dup2_11 hx hb d_Do_pass_38 rfl rfl ?_
    refine z_iald (i := d) (v := M 13 d) hx hb hK hX 13 rfl (by omega) (by decide) rfl d_Do_pass_39 (fun rg_5 => ?_)
    refine z_const hx hb d_Do_pass_40 ?_
    refine z_iadd hx hb d_Do_pass_41 ?_
    refine z_iastw (i := d) (v := (M 13 d) + 1) hx hb hK hX hS 13 rfl (by omega) (by decide) d_Do_pass_42 (fun H locs hX hS => ?_)
    exact z_vret (post := fun u => u = xPass M d h) hx hb hr hlk hK hX hS (by unfold xPass; simp [*]) d_Do_pass_43
  · skip
    refine lv_aload_n hx hb d_Do_pass_20 rfl (lv_at hl 0 rfl) ?_
    refine z_getr hx hb iw_Do hown hK hX 2 rfl rfl 4 (by decide) tw_63 (fun _ h => h) 12 rfl d_Do_pass_21 ?_
    refine lv_iload_n hx hb d_Do_pass_24 rfl (lv_at hl 1 rfl) ?_
    refine lv_dup2_11 hx hb d_Do_pass_25 rfl rfl ?_
    refine z_iald (i := d) (v := M 12 d) hx hb hK hX 12 rfl (by omega) (by decide) rfl d_Do_pass_26 (fun rg_6 => ?_)
    refine z_const hx hb d_Do_pass_27 ?_
    refine z_iadd hx hb d_Do_pass_28 ?_
    refine z_iastw (i := d) (v := (M 12 d) + 1) hx hb hK hX hS 12 rfl (by omega) (by decide) d_Do_pass_29 (fun H locs hX hS => ?_)
    refine lv_goto (tgt := 43) hx hb d_Do_pass_30 (by decide) ?_
    exact z_vret (post := fun u => u = xPass M d h) hx hb hr hlk hK hX hS (by unfold xPass; simp [*]) d_Do_pass_43
set_option maxHeartbeats 4000000 in
set_option maxRecDepth 100000 in
theorem k_Tr_placeNow (l : Launch) (D : va_G) (ad : Nat → Nat) (cI : Nat → ClassId) (sd : Int64) (M : zM) (p1 : Int) (h1 : 0 ≤ p1 ∧ p1 < 60) (h2 : 0 ≤ M 16 p1 ∧ M 16 p1 ≤ 46) : zMi l y_Tr_placeNow (.code y_Tr_placeNow c_Tr_placeNow 2 (some .int)) { frames := 0, cells := 0, slots := 0, locals := 0 } D (xL sd) ad cI M [.ref (ad 3), .int (zI (p1))] (fun z u => z = (xNow M p1) ∧ u = M) := by
  refine z_of (cc := c_Tr_placeNow) (maxL := 2) (ret := some .int) (own := "PersonSeeds$Trails") (by decide) rfl rfl (Nat.le_of_ble_eq_true rfl) ?_
  intro p e s m below meth c ls hF hr hX hK hl
  obtain ⟨hx, hb, hml, hown, hlk⟩ := id hF
  have hS : va_S (zA ad (xL sd)) s.heap s.heap [] := va_S.rf
  have hl : lv_has ls 2 [(0, .ref (ad 3)), (1, .int (zI (p1)))] := hl
  refine lv_aload_n hx hb d_Tr_placeNow_0 rfl (lv_at hl 0 rfl) ?_
  refine z_getr hx hb iw_Tr hown hK hX 3 rfl rfl 0 (by decide) tw_92 (fun _ h => h) 16 rfl d_Tr_placeNow_1 ?_
  refine lv_iload_n hx hb d_Tr_placeNow_4 rfl (lv_at hl 1 rfl) ?_
  refine z_iald (i := p1) (v := M 16 p1) hx hb hK hX 16 rfl (by omega) (by decide) rfl d_Tr_placeNow_5 (fun rg_1 => ?_)
  refine z_if_ne (a := M 16 p1) (tgt := 13) hx hb d_Tr_placeNow_6 (by decide) (by omega) (fun hb_2 => ?_) (fun hb_3 => ?_)
  · skip
    refine lv_aload_n hx hb d_Tr_placeNow_13 rfl (lv_at hl 0 rfl) ?_
    refine z_getr hx hb iw_Tr hown hK hX 3 rfl rfl 2 (by decide) tw_94 (fun _ h => h) 18 rfl d_Tr_placeNow_14 ?_
    refine lv_iload_n hx hb d_Tr_placeNow_17 rfl (lv_at hl 1 rfl) ?_
    refine z_bipush hx hb d_Tr_placeNow_18 (by decide) ?_
    refine z_imul hx hb d_Tr_placeNow_20 ?_
    refine lv_aload_n hx hb d_Tr_placeNow_21 rfl (lv_at hl 0 rfl) ?_
    refine z_getr hx hb iw_Tr hown hK hX 3 rfl rfl 0 (by decide) tw_92 (fun _ h => h) 16 rfl d_Tr_placeNow_22 ?_
    refine lv_iload_n hx hb d_Tr_placeNow_25 rfl (lv_at hl 1 rfl) ?_
    refine z_iald (i := p1) (v := M 16 p1) hx hb hK hX 16 rfl (by omega) (by decide) rfl d_Tr_placeNow_26 (fun rg_4 => ?_)
    refine z_iadd hx hb d_Tr_placeNow_27 ?_
    refine z_const hx hb d_Tr_placeNow_28 ?_
    refine z_isub hx hb d_Tr_placeNow_29 ?_
    refine z_iald (i := ((p1 * 46) + (M 16 p1)) - 1) (v := M 18 (((p1 * 46) + (M 16 p1)) - 1)) hx hb hK hX 18 rfl (by omega) (by decide) rfl d_Tr_placeNow_30 (fun rg_5 => ?_)
    exact z_iret (z := M 18 (((p1 * 46) + (M 16 p1)) - 1)) (post := fun z u => z = (xNow M p1) ∧ u = M) hx hb hr hlk hK hX hS (by omega) ⟨by unfold xNow; simp [*], rfl⟩ d_Tr_placeNow_31
  · skip
    refine z_const hx hb d_Tr_placeNow_9 ?_
    refine lv_goto (tgt := 31) hx hb d_Tr_placeNow_10 (by decide) ?_
    exact z_iret (z := -1) (post := fun z u => z = (xNow M p1) ∧ u = M) hx hb hr hlk hK hX hS (by omega) ⟨by unfold xNow; simp [*], rfl⟩ d_Tr_placeNow_31
set_option maxHeartbeats 4000000 in
set_option maxRecDepth 100000 in
theorem k_Tr_add (l : Launch) (D : va_G) (ad : Nat → Nat) (cI : Nat → ClassId) (sd : Int64) (M : zM) (p1 t r : Int) (h1 : 0 ≤ p1 ∧ p1 < 60) (h2 : 0 ≤ M 16 p1 ∧ M 16 p1 ≤ 46) (h3 : -2147483648 ≤ t ∧ t ≤ 2147483647) (h4 : -2147483648 ≤ r ∧ r ≤ 2147483647) : zMv l y_Tr_add (.code y_Tr_add c_Tr_add 5 (none)) { frames := 0, cells := 0, slots := 0, locals := 0 } D (xL sd) ad cI M [.ref (ad 3), .int (zI (p1)), .int (zI (t)), .int (zI (r))] (fun u => u = xTrailAdd M p1 t r) := by
  refine z_of (cc := c_Tr_add) (maxL := 5) (ret := none) (own := "PersonSeeds$Trails") (by decide) rfl rfl (Nat.le_of_ble_eq_true rfl) ?_
  intro p e s m below meth c ls hF hr hX hK hl
  obtain ⟨hx, hb, hml, hown, hlk⟩ := id hF
  have hS : va_S (zA ad (xL sd)) s.heap s.heap [] := va_S.rf
  have hl : lv_has ls 5 [(0, .ref (ad 3)), (1, .int (zI (p1))), (2, .int (zI (t))), (3, .int (zI (r)))] := hl
  refine lv_aload_n hx hb d_Tr_add_0 rfl (lv_at hl 0 rfl) ?_
  refine z_getr hx hb iw_Tr hown hK hX 3 rfl rfl 0 (by decide) tw_92 (fun _ h => h) 16 rfl d_Tr_add_1 ?_
  refine lv_iload_n hx hb d_Tr_add_4 rfl (lv_at hl 1 rfl) ?_
  refine z_iald (i := p1) (v := M 16 p1) hx hb hK hX 16 rfl (by omega) (by decide) rfl d_Tr_add_5 (fun rg_1 => ?_)
  refine z_bipush hx hb d_Tr_add_6 (by decide) ?_
  refine z_icmp_lt (a := M 16 p1) (b := 46) (tgt := 12) hx hb d_Tr_add_8 (by decide) (by omega) (fun hb_2 => ?_) (fun hb_3 => ?_)
  · skip
    refine lv_iload_n hx hb d_Tr_add_12 rfl (lv_at hl 1 rfl) ?_
    refine z_bipush hx hb d_Tr_add_13 (by decide) ?_
    refine z_imul hx hb d_Tr_add_15 ?_
    refine lv_aload_n hx hb d_Tr_add_16 rfl (lv_at hl 0 rfl) ?_
    refine z_getr hx hb iw_Tr hown hK hX 3 rfl rfl 0 (by decide) tw_92 (fun _ h => h) 16 rfl d_Tr_add_17 ?_
    refine lv_iload_n hx hb d_Tr_add_20 rfl (lv_at hl 1 rfl) ?_
    refine z_iald (i := p1) (v := M 16 p1) hx hb hK hX 16 rfl (by omega) (by decide) rfl d_Tr_add_21 (fun rg_4 => ?_)
    refine z_iadd hx hb d_Tr_add_22 ?_
    refine lv_istore (lv' := [(4, .int (zI ((p1 * 46) + (M 16 p1)))), (0, .ref (ad 3)), (1, .int (zI (p1))), (2, .int (zI (t))), (3, .int (zI (r)))]) hx hb d_Tr_add_23 hl (by decide) rfl (fun ls hl => ?_)
    refine lv_aload_n hx hb d_Tr_add_25 rfl (lv_at hl 1 rfl) ?_
    refine z_getr hx hb iw_Tr hown hK hX 3 rfl rfl 1 (by decide) tw_93 (fun _ h => h) 17 rfl d_Tr_add_26 ?_
    refine lv_iload hx hb d_Tr_add_29 (lv_at hl 0 rfl) ?_
    refine lv_iload_n hx hb d_Tr_add_31 rfl (lv_at hl 3 rfl) ?_
    refine z_iast (i := (p1 * 46) + (M 16 p1)) (v := t) hx hb hK hX hS 17 rfl (by omega) (by decide) (by omega) d_Tr_add_32 (fun H locs hX hS => ?_)
    refine lv_aload_n hx hb d_Tr_add_33 rfl (lv_at hl 1 rfl) ?_
    refine z_getr hx hb iw_Tr hown hK hX 3 rfl rfl 2 (by decide) tw_94 (fun _ h => h) 18 rfl d_Tr_add_34 ?_
    refine lv_iload hx hb d_Tr_add_37 (lv_at hl 0 rfl) ?_
    refine lv_iload_n hx hb d_Tr_add_39 rfl (lv_at hl 4 rfl) ?_
    refine z_iast (i := (p1 * 46) + (M 16 p1)) (v := r) hx hb hK hX hS 18 rfl (by omega) (by decide) (by omega) d_Tr_add_40 (fun H locs hX hS => ?_)
    refine lv_aload_n hx hb d_Tr_add_41 rfl (lv_at hl 1 rfl) ?_
    refine z_getr hx hb iw_Tr hown hK hX 3 rfl rfl 0 (by decide) tw_92 (fun _ h => h) 16 rfl d_Tr_add_42 ?_
    refine lv_iload_n hx hb d_Tr_add_45 rfl (lv_at hl 2 rfl) ?_
    refine lv_dup2_11 hx hb d_Tr_add_46 rfl rfl ?_
    refine z_iald (i := p1) (v := M 16 p1) hx hb hK hX 16 rfl (by omega) (by decide) rfl d_Tr_add_47 (fun rg_5 => ?_)
    refine z_const hx hb d_Tr_add_48 ?_
    refine z_iadd hx hb d_Tr_add_49 ?_
    refine z_iast (i := p1) (v := (M 16 p1) + 1) hx hb hK hX hS 16 rfl (by omega) (by decide) (by omega) d_Tr_add_50 (fun H locs hX hS => ?_)
    exact z_vret (post := fun u => u = xTrailAdd M p1 t r) hx hb hr hlk hK hX hS (by unfold xTrailAdd; first | rw [if_pos (by omega)] | rw [if_neg (by omega)]) d_Tr_add_51
  · skip
    exact z_vret (post := fun u => u = xTrailAdd M p1 t r) hx hb hr hlk hK hX hS (by unfold xTrailAdd; first | rw [if_pos (by omega)] | rw [if_neg (by omega)]) d_Tr_add_11
set_option maxHeartbeats 4000000 in
set_option maxRecDepth 100000 in
theorem k_Pe_wants (l : Launch) (D : va_G) (ad : Nat → Nat) (cI : Nat → ClassId) (sd : Int64) (M : zM) (p1 t : Int) (h1 : 0 ≤ p1 ∧ p1 < 60) (h2 : -2147483648 ≤ t ∧ t ≤ 2147483647) : zMi l y_Pe_wants (.code y_Pe_wants c_Pe_wants 3 (some .int)) { frames := 0, cells := 0, slots := 0, locals := 0 } D (xL sd) ad cI M [.ref (ad 4), .int (zI (p1)), .int (zI (t))] (fun z u => z = (xWants M p1 t) ∧ u = M) := by
  refine z_of (cc := c_Pe_wants) (maxL := 3) (ret := some .int) (own := "PersonSeeds$Persons") (by decide) rfl rfl (Nat.le_of_ble_eq_true rfl) ?_
  intro p e s m below meth c ls hF hr hX hK hl
  obtain ⟨hx, hb, hml, hown, hlk⟩ := id hF
  have hS : va_S (zA ad (xL sd)) s.heap s.heap [] := va_S.rf
  have hl : lv_has ls 3 [(0, .ref (ad 4)), (1, .int (zI (p1))), (2, .int (zI (t)))] := hl
  refine lv_iload_n hx hb d_Pe_wants_0 rfl (lv_at hl 2 rfl) ?_
  refine lv_aload_n hx hb d_Pe_wants_1 rfl (lv_at hl 0 rfl) ?_
  refine z_getr hx hb iw_Pe hown hK hX 4 rfl rfl 7 (by decide) tw_121 (fun _ h => h) 24 rfl d_Pe_wants_2 ?_
  refine lv_iload_n hx hb d_Pe_wants_5 rfl (lv_at hl 1 rfl) ?_
  refine z_iald (i := p1) (v := M 24 p1) hx hb hK hX 24 rfl (by omega) (by decide) rfl d_Pe_wants_6 (fun rg_1 => ?_)
  refine z_icmp_lt (a := t) (b := M 24 p1) (tgt := 12) hx hb d_Pe_wants_7 (by decide) (by omega) (fun hb_2 => ?_) (fun hb_3 => ?_)
  · skip
    refine lv_iload_n hx hb d_Pe_wants_12 rfl (lv_at hl 2 rfl) ?_
    refine lv_aload_n hx hb d_Pe_wants_13 rfl (lv_at hl 0 rfl) ?_
    refine z_getr hx hb iw_Pe hown hK hX 4 rfl rfl 4 (by decide) tw_115 (fun _ h => h) 21 rfl d_Pe_wants_14 ?_
    refine lv_iload_n hx hb d_Pe_wants_17 rfl (lv_at hl 1 rfl) ?_
    refine z_iald (i := p1) (v := M 21 p1) hx hb hK hX 21 rfl (by omega) (by decide) rfl d_Pe_wants_18 (fun rg_4 => ?_)
    refine z_icmp_lt (a := t) (b := M 21 p1) (tgt := 41) hx hb d_Pe_wants_19 (by decide) (by omega) (fun hb_5 => ?_) (fun hb_6 => ?_)
    · skip
      refine lv_aload_n hx hb d_Pe_wants_41 rfl (lv_at hl 0 rfl) ?_
      refine z_getr hx hb iw_Pe hown hK hX 4 rfl rfl 3 (by decide) tw_113 (fun _ h => h) 20 rfl d_Pe_wants_42 ?_
      refine lv_iload_n hx hb d_Pe_wants_45 rfl (lv_at hl 1 rfl) ?_
      refine z_iald (i := p1) (v := M 20 p1) hx hb hK hX 20 rfl (by omega) (by decide) rfl d_Pe_wants_46 (fun rg_7 => ?_)
      exact z_iret (z := M 20 p1) (post := fun z u => z = (xWants M p1 t) ∧ u = M) hx hb hr hlk hK hX hS (by omega) ⟨by unfold xWants; (repeat' split) <;> first | rfl | omega, rfl⟩ d_Pe_wants_47
    · skip
      refine lv_iload_n hx hb d_Pe_wants_22 rfl (lv_at hl 2 rfl) ?_
      refine lv_aload_n hx hb d_Pe_wants_23 rfl (lv_at hl 0 rfl) ?_
      refine z_getr hx hb iw_Pe hown hK hX 4 rfl rfl 5 (by decide) tw_117 (fun _ h => h) 22 rfl d_Pe_wants_24 ?_
      refine lv_iload_n hx hb d_Pe_wants_27 rfl (lv_at hl 1 rfl) ?_
      refine z_iald (i := p1) (v := M 22 p1) hx hb hK hX 22 rfl (by omega) (by decide) rfl d_Pe_wants_28 (fun rg_8 => ?_)
      refine z_icmp_ge (a := t) (b := M 22 p1) (tgt := 41) hx hb d_Pe_wants_29 (by decide) (by omega) (fun hb_9 => ?_) (fun hb_10 => ?_)
      · skip
        refine lv_aload_n hx hb d_Pe_wants_41 rfl (lv_at hl 0 rfl) ?_
        refine z_getr hx hb iw_Pe hown hK hX 4 rfl rfl 3 (by decide) tw_113 (fun _ h => h) 20 rfl d_Pe_wants_42 ?_
        refine lv_iload_n hx hb d_Pe_wants_45 rfl (lv_at hl 1 rfl) ?_
        refine z_iald (i := p1) (v := M 20 p1) hx hb hK hX 20 rfl (by omega) (by decide) rfl d_Pe_wants_46 (fun rg_11 => ?_)
        exact z_iret (z := M 20 p1) (post := fun z u => z = (xWants M p1 t) ∧ u = M) hx hb hr hlk hK hX hS (by omega) ⟨by unfold xWants; (repeat' split) <;> first | rfl | omega, rfl⟩ d_Pe_wants_47
      · skip
        refine lv_aload_n hx hb d_Pe_wants_32 rfl (lv_at hl 0 rfl) ?_
        refine z_getr hx hb iw_Pe hown hK hX 4 rfl rfl 6 (by decide) tw_119 (fun _ h => h) 23 rfl d_Pe_wants_33 ?_
        refine lv_iload_n hx hb d_Pe_wants_36 rfl (lv_at hl 1 rfl) ?_
        refine z_iald (i := p1) (v := M 23 p1) hx hb hK hX 23 rfl (by omega) (by decide) rfl d_Pe_wants_37 (fun rg_12 => ?_)
        refine lv_goto (tgt := 47) hx hb d_Pe_wants_38 (by decide) ?_
        exact z_iret (z := M 23 p1) (post := fun z u => z = (xWants M p1 t) ∧ u = M) hx hb hr hlk hK hX hS (by omega) ⟨by unfold xWants; (repeat' split) <;> first | rfl | omega, rfl⟩ d_Pe_wants_47
  · skip
    refine z_const hx hb d_Pe_wants_10 ?_
    exact z_iret (z := -1) (post := fun z u => z = (xWants M p1 t) ∧ u = M) hx hb hr hlk hK hX hS (by omega) ⟨by unfold xWants; (repeat' split) <;> first | rfl | omega, rfl⟩ d_Pe_wants_11
set_option maxHeartbeats 4000000 in
set_option maxRecDepth 100000 in
theorem k_Ro_end (l : Launch) (D : va_G) (ad : Nat → Nat) (cI : Nat → ClassId) (sd : Int64) (M : zM) (h1 : 0 ≤ M 1 0 ∧ M 1 0 ≤ 12) : zMv l y_Ro_endMinute (.code y_Ro_endMinute c_Ro_endMinute 2 (none)) { frames := 1, cells := 0, slots := 0, locals := 21 } D (xL sd) ad cI M [.ref (ad 1)] (fun u => u = xEnd M) := by
  refine z_of (cc := c_Ro_endMinute) (maxL := 2) (ret := none) (own := "PersonSeeds$Rooms") (by decide) rfl rfl (Nat.le_of_ble_eq_true rfl) ?_
  intro p e s m below meth c ls hF hr hX hK hl
  obtain ⟨hx, hb, hml, hown, hlk⟩ := id hF
  have hS : va_S (zA ad (xL sd)) s.heap s.heap [] := va_S.rf
  have hl : lv_has ls 2 [(0, .ref (ad 1))] := hl
  refine z_const hx hb d_Ro_endMinute_0 ?_
  refine lv_istore_n (lv' := [(1, .int (zI (0))), (0, .ref (ad 1))]) hx hb d_Ro_endMinute_1 rfl hl (by decide) rfl (fun ls hl => ?_)
  have loop2 : ∀ (n2 : Nat) (k : Nat) (H : Heap) (locs : List Loc) (ls : Array Slot), (k : Int) ≤ M 1 0 → (M 1 0).toNat - k < n2 → zX D (xL sd) ad cI (xEndN M k) H → va_S (zA ad (xL sd)) s.heap H locs → lv_has ls 2 [(1, .int (zI ((k : Int)))), (0, .ref (ad 1))] → W p l e { frames := 1, cells := 0, slots := 0, locals := 21 } s m ([.ref (ad 1)] : List Value).toArray below meth c H locs 0 0 (MQ below (zQv D (xL sd) ad cI (fun u => u = xEnd M)) ([.ref (ad 1)] : List Value).toArray s 0 0 (zA ad (xL sd))) (F0 m 2 ls []) := by
    intro n2
    induction n2 with
    | zero => intro k H locs ls hI hn; exact absurd hn (Nat.not_lt_zero _)
    | succ n2 ih2 =>
      intro k H locs ls hI2 hn2 hX hS hl
      have e1 : xEndN M k 1 0 = M 1 0 := by rw [xEndN_c (by decide) (by decide)]
      refine lv_iload_n hx hb d_Ro_endMinute_2 rfl (lv_at hl 0 rfl) ?_
      refine lv_aload_n hx hb d_Ro_endMinute_3 rfl (lv_at hl 1 rfl) ?_
      refine z_geti (i := 0) (v := (xEndN M k) 1 0) hx hb iw_Ro hown hK hX 1 rfl rfl 0 (by decide) tw_28 (fun _ h => h) rfl rfl rfl d_Ro_endMinute_4 (fun rg_1 => ?_)
      refine z_icmp_ge (a := (k : Int)) (b := (xEndN M k) 1 0) (tgt := 55) hx hb d_Ro_endMinute_7 (by decide) (by omega) (fun hb_2 => ?_) (fun hb_3 => ?_)
      · skip
        exact z_vret (post := fun u => u = xEnd M) hx hb hr hlk hK hX hS (by unfold xEnd; rw [show k = (M 1 0).toNat by omega]) d_Ro_endMinute_55
      · skip
        refine lv_aload_n hx hb d_Ro_endMinute_10 rfl (lv_at hl 1 rfl) ?_
        refine z_getr hx hb iw_Ro hown hK hX 1 rfl rfl 3 (by decide) tw_33 (fun _ h => h) 7 rfl d_Ro_endMinute_11 ?_
        refine lv_iload_n hx hb d_Ro_endMinute_14 rfl (lv_at hl 0 rfl) ?_
        refine lv_aload_n hx hb d_Ro_endMinute_15 rfl (lv_at hl 1 rfl) ?_
        refine z_getr hx hb iw_Ro hown hK hX 1 rfl rfl 3 (by decide) tw_33 (fun _ h => h) 7 rfl d_Ro_endMinute_16 ?_
        refine lv_iload_n hx hb d_Ro_endMinute_19 rfl (lv_at hl 0 rfl) ?_
        refine z_iald (i := (k : Int)) (v := (xEndN M k) 7 (k : Int)) hx hb hK hX 7 rfl (by omega) (by decide) rfl d_Ro_endMinute_20 (fun rg_4 => ?_)
        refine lv_aload_n hx hb d_Ro_endMinute_21 rfl (lv_at hl 1 rfl) ?_
        refine z_getr hx hb iw_Ro hown hK hX 1 rfl rfl 2 (by decide) tw_31 (fun _ h => h) 6 rfl d_Ro_endMinute_22 ?_
        refine lv_iload_n hx hb d_Ro_endMinute_25 rfl (lv_at hl 0 rfl) ?_
        refine z_iald (i := (k : Int)) (v := (xEndN M k) 6 (k : Int)) hx hb hK hX 6 rfl (by omega) (by decide) rfl d_Ro_endMinute_26 (fun rg_5 => ?_)
        refine z_mmax (a := (xEndN M k) 7 (k : Int)) (b := (xEndN M k) 6 (k : Int)) hx hb (hml.trans hl.1.symm) hown hK tw_404 tw_405 tw_13 tw_406 (Nat.le_of_ble_eq_true rfl) (Nat.le_of_ble_eq_true rfl) (Nat.zero_le _) (Nat.zero_le _) (by omega) d_Ro_endMinute_27 ?_
        refine z_iast (i := (k : Int)) (v := max ((xEndN M k) 7 (k : Int)) ((xEndN M k) 6 (k : Int))) hx hb hK hX hS 7 rfl (by omega) (by decide) (by omega) d_Ro_endMinute_30 (fun H locs hX hS => ?_)
        refine lv_aload_n hx hb d_Ro_endMinute_31 rfl (lv_at hl 1 rfl) ?_
        refine lv_iload_n hx hb d_Ro_endMinute_32 rfl (lv_at hl 0 rfl) ?_
        refine z_callVi hF (k_Ro_hasSpace l D ad cI sd (zU (xEndN M k) 7 (k : Int) (max ((xEndN M k) 7 (k : Int)) ((xEndN M k) 6 (k : Int)))) (k : Int) (by omega)) (hK.cV 1 tw_370 tw_407 tw_2 tw_369 ts_15 (by decide +kernel) rfl rfl ⟨Nat.le_of_ble_eq_true rfl, Nat.le_of_ble_eq_true rfl⟩) hK hX hS rfl rfl rfl hl.1 rfl (Nat.le_of_ble_eq_true rfl) d_Ro_endMinute_33 ⟨Nat.zero_le _, Nat.zero_le _⟩ (fun z u H locs rg_6 hp hX hS => ?_)
        obtain ⟨hz, hu⟩ := hp
        rw [hu] at hX
        have hz : z = (if ((xEndN M k) 6 (k : Int)) < ((xEndN M k) 5 (k : Int)) then 1 else 0) := hz
        subst hz
        refine z_if_ne (a := if ((xEndN M k) 6 (k : Int)) < ((xEndN M k) 5 (k : Int)) then 1 else 0) (tgt := 49) hx hb d_Ro_endMinute_36 (by decide) (by omega) (fun hb_7 => ?_) (fun hb_8 => ?_)
        · skip
          refine z_iinc (lv' := [(1, .int (zI ((k : Int) + 1))), (0, .ref (ad 1))]) hx hb d_Ro_endMinute_49 hl (k := 0) rfl (by decide) rfl (fun ls hl => ?_)
          refine lv_goto (tgt := 2) hx hb d_Ro_endMinute_52 (by decide) ?_
          exact ih2 (k + 1) _ _ _ (by omega) (by omega) (by have e9 : xEndN M (k + 1) = zU (xEndN M k) 7 (k : Int) (max ((xEndN M k) 7 (k : Int)) ((xEndN M k) 6 (k : Int))) := (by show xEndI (xEndN M k) k = _; unfold xEndI; first | rw [if_pos (by omega)] | rw [if_neg (by omega)]); rw [e9]; exact hX) hS (lv_sub hl [0, 1] rfl)
        · skip
          refine lv_aload_n hx hb d_Ro_endMinute_39 rfl (lv_at hl 1 rfl) ?_
          refine z_getr hx hb iw_Ro hown hK hX 1 rfl rfl 4 (by decide) tw_35 (fun _ h => h) 8 rfl d_Ro_endMinute_40 ?_
          refine lv_iload_n hx hb d_Ro_endMinute_43 rfl (lv_at hl 0 rfl) ?_
          refine lv_dup2_11 hx hb d_Ro_endMinute_44 rfl rfl ?_
          refine z_iald (i := (k : Int)) (v := (xEndN M k) 8 (k : Int)) hx hb hK hX 8 rfl (by omega) (by decide) rfl d_Ro_endMinute_45 (fun rg_9 => ?_)
          refine z_const hx hb d_Ro_endMinute_46 ?_
          refine z_iadd hx hb d_Ro_endMinute_47 ?_
          refine z_iastw (i := (k : Int)) (v := ((xEndN M k) 8 (k : Int)) + 1) hx hb hK hX hS 8 rfl (by omega) (by decide) d_Ro_endMinute_48 (fun H locs hX hS => ?_)
          refine z_iinc (lv' := [(1, .int (zI ((k : Int) + 1))), (0, .ref (ad 1))]) hx hb d_Ro_endMinute_49 hl (k := 0) rfl (by decide) rfl (fun ls hl => ?_)
          refine lv_goto (tgt := 2) hx hb d_Ro_endMinute_52 (by decide) ?_
          exact ih2 (k + 1) _ _ _ (by omega) (by omega) (by have e9 : xEndN M (k + 1) = zU (zU (xEndN M k) 7 (k : Int) (max ((xEndN M k) 7 (k : Int)) ((xEndN M k) 6 (k : Int)))) 8 (k : Int) (bm (((xEndN M k) 8 (k : Int)) + 1)) := (by show xEndI (xEndN M k) k = _; unfold xEndI; first | rw [if_pos (by omega)] | rw [if_neg (by omega)]); rw [e9]; exact hX) hS (lv_sub hl [0, 1] rfl)
  exact loop2 _ 0 _ _ _ (by omega) (Nat.lt_succ_self _) hX hS (lv_sub hl [0, 1] rfl)
set_option maxHeartbeats 4000000 in
set_option maxRecDepth 100000 in
theorem k_Do_towards (l : Launch) (D : va_G) (ad : Nat → Nat) (cI : Nat → ClassId) (sd : Int64) (M : zM) (h g : Int) (h1 : 0 ≤ h ∧ h < 12) (h2 : 0 ≤ g ∧ g < 12) (h3 : 0 ≤ M 2 0 ∧ M 2 0 ≤ 16) (h4 : ∀ d, 0 ≤ d → d < M 2 0 → (0 ≤ M 9 d ∧ M 9 d < 12) ∧ 0 ≤ M 10 d ∧ M 10 d < 12) : zMi l y_Do_towards (.code y_Do_towards c_Do_towards 6 (some .int)) { frames := 1, cells := 0, slots := 0, locals := 22 } D (xL sd) ad cI M [.ref (ad 2), .int (zI (h)), .int (zI (g))] (fun z u => z = (xTow M h g) ∧ u = M) := by
  refine z_of (cc := c_Do_towards) (maxL := 6) (ret := some .int) (own := "PersonSeeds$Doors") (by decide) rfl rfl (Nat.le_of_ble_eq_true rfl) ?_
  intro p e s m below meth c ls hF hr hX hK hl
  obtain ⟨hx, hb, hml, hown, hlk⟩ := id hF
  have hS : va_S (zA ad (xL sd)) s.heap s.heap [] := va_S.rf
  have hl : lv_has ls 6 [(0, .ref (ad 2)), (1, .int (zI (h))), (2, .int (zI (g)))] := hl
  refine lv_aload_n hx hb d_Do_towards_0 rfl (lv_at hl 0 rfl) ?_
  refine lv_iload_n hx hb d_Do_towards_1 rfl (lv_at hl 1 rfl) ?_
  refine lv_iload_n hx hb d_Do_towards_2 rfl (lv_at hl 2 rfl) ?_
  refine z_callVi hF (k_Do_steps l D ad cI sd M h g (by omega) (by omega)) (hK.cV 2 tw_312 tw_309 tw_3 tw_311 ts_7 (by decide +kernel) rfl rfl ⟨Nat.le_of_ble_eq_true rfl, Nat.le_of_ble_eq_true rfl⟩) hK hX hS rfl rfl rfl hl.1 rfl (Nat.le_of_ble_eq_true rfl) d_Do_towards_3 ⟨Nat.zero_le _, Nat.zero_le _⟩ (fun z u H locs rg_1 hp hX hS => ?_)
  obtain ⟨hz, hu⟩ := hp
  rw [hu] at hX
  have hz : z = (M 15 (h * 12 + g)) := hz
  subst hz
  refine lv_istore_n (lv' := [(3, .int (zI ((M 15 (h * 12 + g))))), (0, .ref (ad 2)), (1, .int (zI (h))), (2, .int (zI (g)))]) hx hb d_Do_towards_6 rfl hl (by decide) rfl (fun ls hl => ?_)
  refine z_const hx hb d_Do_towards_7 ?_
  refine lv_istore (lv' := [(4, .int (zI (0))), (3, .int (zI ((M 15 (h * 12 + g))))), (0, .ref (ad 2)), (1, .int (zI (h))), (2, .int (zI (g)))]) hx hb d_Do_towards_8 hl (by decide) rfl (fun ls hl => ?_)
  have loop10 : ∀ (n10 : Nat) (k : Nat) (H : Heap) (locs : List Loc) (ls : Array Slot), ((k : Int) ≤ M 2 0 ∧ xTow M h g = if M 15 (h * 12 + g) < 1000 then xTowN M h g ((M 2 0).toNat - k) k else -1) → (M 2 0).toNat - k < n10 → zX D (xL sd) ad cI M H → va_S (zA ad (xL sd)) s.heap H locs → lv_has ls 6 [(4, .int (zI ((k : Int)))), (3, .int (zI (M 15 (h * 12 + g)))), (0, .ref (ad 2)), (1, .int (zI (h))), (2, .int (zI (g)))] → W p l e { frames := 1, cells := 0, slots := 0, locals := 22 } s m ([.ref (ad 2), .int (zI (h)), .int (zI (g))] : List Value).toArray below meth c H locs 0 0 (MQ below (zQi D (xL sd) ad cI (fun z u => z = (xTow M h g) ∧ u = M)) ([.ref (ad 2), .int (zI (h)), .int (zI (g))] : List Value).toArray s 0 0 (zA ad (xL sd))) (F0 m 10 ls []) := by
    intro n10
    induction n10 with
    | zero => intro k H locs ls hI hn; exact absurd hn (Nat.not_lt_zero _)
    | succ n10 ih10 =>
      intro k H locs ls hI10 hn10 hX hS hl
      refine lv_iload hx hb d_Do_towards_10 (lv_at hl 0 rfl) ?_
      refine lv_aload_n hx hb d_Do_towards_12 rfl (lv_at hl 2 rfl) ?_
      refine z_geti (i := 0) (v := M 2 0) hx hb iw_Do hown hK hX 2 rfl rfl 0 (by decide) tw_58 (fun _ h => h) rfl rfl rfl d_Do_towards_13 (fun rg_2 => ?_)
      refine z_icmp_ge (a := (k : Int)) (b := M 2 0) (tgt := 61) hx hb d_Do_towards_16 (by decide) (by omega) (fun hb_3 => ?_) (fun hb_4 => ?_)
      · skip
        refine z_const hx hb d_Do_towards_61 ?_
        exact z_iret (z := -1) (post := fun z u => z = (xTow M h g) ∧ u = M) hx hb hr hlk hK hX hS (by omega) ⟨by first | (rw [hI10.2, show (M 2 0).toNat - k = 0 by omega]; simp [xTowN]; done) | (rw [hI10.2, if_neg (by omega)]; done) | (rw [hI10.2, if_pos (by omega), show (M 2 0).toNat - k = ((M 2 0).toNat - (k + 1)) + 1 by omega, xTowN, if_pos (by omega)]; done), rfl⟩ d_Do_towards_62
      · skip
        refine lv_iload_n hx hb d_Do_towards_19 rfl (lv_at hl 1 rfl) ?_
        refine z_sipush hx hb d_Do_towards_20 (by decide) ?_
        refine z_icmp_ge (a := M 15 (h * 12 + g)) (b := 1000) (tgt := 61) hx hb d_Do_towards_23 (by decide) (by omega) (fun hb_5 => ?_) (fun hb_6 => ?_)
        · skip
          refine z_const hx hb d_Do_towards_61 ?_
          exact z_iret (z := -1) (post := fun z u => z = (xTow M h g) ∧ u = M) hx hb hr hlk hK hX hS (by omega) ⟨by first | (rw [hI10.2, show (M 2 0).toNat - k = 0 by omega]; simp [xTowN]; done) | (rw [hI10.2, if_neg (by omega)]; done) | (rw [hI10.2, if_pos (by omega), show (M 2 0).toNat - k = ((M 2 0).toNat - (k + 1)) + 1 by omega, xTowN, if_pos (by omega)]; done), rfl⟩ d_Do_towards_62
        · skip
          refine lv_aload_n hx hb d_Do_towards_26 rfl (lv_at hl 2 rfl) ?_
          refine lv_iload hx hb d_Do_towards_27 (lv_at hl 0 rfl) ?_
          refine lv_iload_n hx hb d_Do_towards_29 rfl (lv_at hl 3 rfl) ?_
          refine z_callVi hF (k_Do_behind l D ad cI sd M (k : Int) h (by omega) (by omega)) (hK.cV 2 tw_386 tw_383 tw_3 tw_385 ts_19 (by decide +kernel) rfl rfl ⟨Nat.le_of_ble_eq_true rfl, Nat.le_of_ble_eq_true rfl⟩) hK hX hS rfl rfl rfl hl.1 rfl (Nat.le_of_ble_eq_true rfl) d_Do_towards_30 ⟨Nat.zero_le _, Nat.zero_le _⟩ (fun z u H locs rg_7 hp hX hS => ?_)
          obtain ⟨hz, hu⟩ := hp
          rw [hu] at hX
          have hz : z = (xSide M (k : Int) h) := hz
          subst hz
          refine lv_istore (lv' := [(5, .int (zI (xSide M (k : Int) h))), (4, .int (zI ((k : Int)))), (3, .int (zI (M 15 (h * 12 + g)))), (0, .ref (ad 2)), (1, .int (zI (h))), (2, .int (zI (g)))]) hx hb d_Do_towards_33 hl (by decide) rfl (fun ls hl => ?_)
          refine lv_iload hx hb d_Do_towards_35 (lv_at hl 0 rfl) ?_
          refine z_const hx hb d_Do_towards_37 ?_
          refine z_icmp_eq (a := xSide M (k : Int) h) (b := -1) (tgt := 55) hx hb d_Do_towards_38 (by decide) (by omega) (fun hb_8 => ?_) (fun hb_9 => ?_)
          · skip
            refine z_iinc (lv' := [(4, .int (zI ((k : Int) + 1))), (5, .int (zI (xSide M (k : Int) h))), (3, .int (zI (M 15 (h * 12 + g)))), (0, .ref (ad 2)), (1, .int (zI (h))), (2, .int (zI (g)))]) hx hb d_Do_towards_55 hl (k := 1) rfl (by decide) rfl (fun ls hl => ?_)
            refine lv_goto (tgt := 10) hx hb d_Do_towards_58 (by decide) ?_
            exact ih10 (k + 1) _ _ _ ⟨by omega, by rw [hI10.2, if_pos (by omega), if_pos (by omega), show (M 2 0).toNat - k = ((M 2 0).toNat - (k + 1)) + 1 by omega, xTowN, if_neg (by omega)]; rfl⟩ (by omega) hX hS (lv_sub hl [0, 2, 3, 4, 5] rfl)
          · skip
            refine lv_aload_n hx hb d_Do_towards_41 rfl (lv_at hl 3 rfl) ?_
            refine lv_iload hx hb d_Do_towards_42 (lv_at hl 0 rfl) ?_
            refine lv_iload_n hx hb d_Do_towards_44 rfl (lv_at hl 5 rfl) ?_
            refine z_callVi hF (k_Do_steps l D ad cI sd M (xSide M (k : Int) h) g (by have h9 := h4 k (by omega) (by omega); have e9 := xSide_or M k h; omega) (by omega)) (hK.cV 2 tw_312 tw_309 tw_3 tw_311 ts_7 (by decide +kernel) rfl rfl ⟨Nat.le_of_ble_eq_true rfl, Nat.le_of_ble_eq_true rfl⟩) hK hX hS rfl rfl rfl hl.1 rfl (Nat.le_of_ble_eq_true rfl) d_Do_towards_45 ⟨Nat.zero_le _, Nat.zero_le _⟩ (fun z u H locs rg_10 hp hX hS => ?_)
            obtain ⟨hz, hu⟩ := hp
            rw [hu] at hX
            have hz : z = (M 15 ((xSide M (k : Int) h) * 12 + g)) := hz
            subst hz
            refine lv_iload_n hx hb d_Do_towards_48 rfl (lv_at hl 2 rfl) ?_
            refine z_icmp_ge (a := (M 15 ((xSide M (k : Int) h) * 12 + g))) (b := M 15 (h * 12 + g)) (tgt := 55) hx hb d_Do_towards_49 (by decide) (by omega) (fun hb_11 => ?_) (fun hb_12 => ?_)
            · skip
              refine z_iinc (lv' := [(4, .int (zI ((k : Int) + 1))), (5, .int (zI (xSide M (k : Int) h))), (3, .int (zI (M 15 (h * 12 + g)))), (0, .ref (ad 2)), (1, .int (zI (h))), (2, .int (zI (g)))]) hx hb d_Do_towards_55 hl (k := 1) rfl (by decide) rfl (fun ls hl => ?_)
              refine lv_goto (tgt := 10) hx hb d_Do_towards_58 (by decide) ?_
              exact ih10 (k + 1) _ _ _ ⟨by omega, by rw [hI10.2, if_pos (by omega), if_pos (by omega), show (M 2 0).toNat - k = ((M 2 0).toNat - (k + 1)) + 1 by omega, xTowN, if_neg (by omega)]; rfl⟩ (by omega) hX hS (lv_sub hl [0, 2, 3, 4, 5] rfl)
            · skip
              refine lv_iload hx hb d_Do_towards_52 (lv_at hl 1 rfl) ?_
              exact z_iret (z := (k : Int)) (post := fun z u => z = (xTow M h g) ∧ u = M) hx hb hr hlk hK hX hS (by omega) ⟨by first | (rw [hI10.2, show (M 2 0).toNat - k = 0 by omega]; simp [xTowN]; done) | (rw [hI10.2, if_neg (by omega)]; done) | (rw [hI10.2, if_pos (by omega), show (M 2 0).toNat - k = ((M 2 0).toNat - (k + 1)) + 1 by omega, xTowN, if_pos (by omega)]; done), rfl⟩ d_Do_towards_54
  exact loop10 _ 0 _ _ _ ⟨by omega, rfl⟩ (Nat.lt_succ_self _) hX hS (lv_sub hl [0, 1, 2, 3, 4] rfl)
set_option maxHeartbeats 4000000 in
set_option maxRecDepth 100000 in
theorem k_Tr_placeBehind (l : Launch) (D : va_G) (ad : Nat → Nat) (cI : Nat → ClassId) (sd : Int64) (M : zM) (p1 t : Int) (h1 : 0 ≤ p1 ∧ p1 < 60) (h2 : 0 ≤ M 16 p1 ∧ M 16 p1 ≤ 46) (h3 : -2147483648 ≤ t ∧ t ≤ 2147483647) : zMi l y_Tr_placeBehind (.code y_Tr_placeBehind c_Tr_placeBehind 4 (some .int)) { frames := 0, cells := 0, slots := 0, locals := 0 } D (xL sd) ad cI M [.ref (ad 3), .int (zI (p1)), .int (zI (t))] (fun z u => z = (xBeh M p1 t) ∧ u = M) := by
  refine z_of (cc := c_Tr_placeBehind) (maxL := 4) (ret := some .int) (own := "PersonSeeds$Trails") (by decide) rfl rfl (Nat.le_of_ble_eq_true rfl) ?_
  intro p e s m below meth c ls hF hr hX hK hl
  obtain ⟨hx, hb, hml, hown, hlk⟩ := id hF
  have hS : va_S (zA ad (xL sd)) s.heap s.heap [] := va_S.rf
  have hl : lv_has ls 4 [(0, .ref (ad 3)), (1, .int (zI (p1))), (2, .int (zI (t)))] := hl
  refine lv_aload_n hx hb d_Tr_placeBehind_0 rfl (lv_at hl 0 rfl) ?_
  refine z_getr hx hb iw_Tr hown hK hX 3 rfl rfl 0 (by decide) tw_92 (fun _ h => h) 16 rfl d_Tr_placeBehind_1 ?_
  refine lv_iload_n hx hb d_Tr_placeBehind_4 rfl (lv_at hl 1 rfl) ?_
  refine z_iald (i := p1) (v := M 16 p1) hx hb hK hX 16 rfl (by omega) (by decide) rfl d_Tr_placeBehind_5 (fun rg_1 => ?_)
  refine z_const hx hb d_Tr_placeBehind_6 ?_
  refine z_isub hx hb d_Tr_placeBehind_7 ?_
  refine lv_istore_n (lv' := [(3, .int (zI ((M 16 p1) - 1))), (0, .ref (ad 3)), (1, .int (zI (p1))), (2, .int (zI (t)))]) hx hb d_Tr_placeBehind_8 rfl hl (by decide) rfl (fun ls hl => ?_)
  have loop9 : ∀ (n9 : Nat) (i : Int) (H : Heap) (locs : List Loc) (ls : Array Slot), (-1 ≤ i ∧ i < 46 ∧ xBeh M p1 t = xBehN M p1 t (i + 1).toNat) → (i + 1).toNat < n9 → zX D (xL sd) ad cI M H → va_S (zA ad (xL sd)) s.heap H locs → lv_has ls 4 [(3, .int (zI (i))), (0, .ref (ad 3)), (1, .int (zI (p1))), (2, .int (zI (t)))] → W p l e { frames := 0, cells := 0, slots := 0, locals := 0 } s m ([.ref (ad 3), .int (zI (p1)), .int (zI (t))] : List Value).toArray below meth c H locs 0 0 (MQ below (zQi D (xL sd) ad cI (fun z u => z = (xBeh M p1 t) ∧ u = M)) ([.ref (ad 3), .int (zI (p1)), .int (zI (t))] : List Value).toArray s 0 0 (zA ad (xL sd))) (F0 m 9 ls []) := by
    intro n9
    induction n9 with
    | zero => intro i H locs ls hI hn; exact absurd hn (Nat.not_lt_zero _)
    | succ n9 ih9 =>
      intro i H locs ls hI9 hn9 hX hS hl
      refine lv_iload_n hx hb d_Tr_placeBehind_9 rfl (lv_at hl 0 rfl) ?_
      refine z_if_lt (a := i) (tgt := 46) hx hb d_Tr_placeBehind_10 (by decide) (by omega) (fun hb_2 => ?_) (fun hb_3 => ?_)
      · skip
        refine z_const hx hb d_Tr_placeBehind_46 ?_
        exact z_iret (z := -1) (post := fun z u => z = (xBeh M p1 t) ∧ u = M) hx hb hr hlk hK hX hS (by omega) ⟨by first | (rw [hI9.2.2, show (i + 1).toNat = 0 by omega]; rfl) | (rw [hI9.2.2, show (i + 1).toNat = i.toNat + 1 by omega, xBehN, show ((i.toNat : Nat) : Int) = i by omega, if_pos (by omega)]; done), rfl⟩ d_Tr_placeBehind_47
      · skip
        refine lv_aload_n hx hb d_Tr_placeBehind_13 rfl (lv_at hl 1 rfl) ?_
        refine z_getr hx hb iw_Tr hown hK hX 3 rfl rfl 1 (by decide) tw_93 (fun _ h => h) 17 rfl d_Tr_placeBehind_14 ?_
        refine lv_iload_n hx hb d_Tr_placeBehind_17 rfl (lv_at hl 2 rfl) ?_
        refine z_bipush hx hb d_Tr_placeBehind_18 (by decide) ?_
        refine z_imul hx hb d_Tr_placeBehind_20 ?_
        refine lv_iload_n hx hb d_Tr_placeBehind_21 rfl (lv_at hl 0 rfl) ?_
        refine z_iadd hx hb d_Tr_placeBehind_22 ?_
        refine z_iald (i := (p1 * 46) + i) (v := M 17 ((p1 * 46) + i)) hx hb hK hX 17 rfl (by omega) (by decide) rfl d_Tr_placeBehind_23 (fun rg_4 => ?_)
        refine lv_iload_n hx hb d_Tr_placeBehind_24 rfl (lv_at hl 3 rfl) ?_
        refine z_icmp_gt (a := M 17 ((p1 * 46) + i)) (b := t) (tgt := 40) hx hb d_Tr_placeBehind_25 (by decide) (by omega) (fun hb_5 => ?_) (fun hb_6 => ?_)
        · skip
          refine z_iinc (lv' := [(3, .int (zI (i + (-1)))), (0, .ref (ad 3)), (1, .int (zI (p1))), (2, .int (zI (t)))]) hx hb d_Tr_placeBehind_40 hl (k := 0) rfl (by decide) rfl (fun ls hl => ?_)
          refine lv_goto (tgt := 9) hx hb d_Tr_placeBehind_43 (by decide) ?_
          exact ih9 (i + (-1)) _ _ _ ⟨by omega, by omega, by rw [hI9.2.2, show (i + 1).toNat = i.toNat + 1 by omega, xBehN, show ((i.toNat : Nat) : Int) = i by omega, if_neg (by omega), show (i + (-1) + 1).toNat = i.toNat by omega]⟩ (by omega) hX hS (lv_sub hl [0, 1, 2, 3] rfl)
        · skip
          refine lv_aload_n hx hb d_Tr_placeBehind_28 rfl (lv_at hl 1 rfl) ?_
          refine z_getr hx hb iw_Tr hown hK hX 3 rfl rfl 2 (by decide) tw_94 (fun _ h => h) 18 rfl d_Tr_placeBehind_29 ?_
          refine lv_iload_n hx hb d_Tr_placeBehind_32 rfl (lv_at hl 2 rfl) ?_
          refine z_bipush hx hb d_Tr_placeBehind_33 (by decide) ?_
          refine z_imul hx hb d_Tr_placeBehind_35 ?_
          refine lv_iload_n hx hb d_Tr_placeBehind_36 rfl (lv_at hl 0 rfl) ?_
          refine z_iadd hx hb d_Tr_placeBehind_37 ?_
          refine z_iald (i := (p1 * 46) + i) (v := M 18 ((p1 * 46) + i)) hx hb hK hX 18 rfl (by omega) (by decide) rfl d_Tr_placeBehind_38 (fun rg_7 => ?_)
          exact z_iret (z := M 18 ((p1 * 46) + i)) (post := fun z u => z = (xBeh M p1 t) ∧ u = M) hx hb hr hlk hK hX hS (by omega) ⟨by first | (rw [hI9.2.2, show (i + 1).toNat = 0 by omega]; rfl) | (rw [hI9.2.2, show (i + 1).toNat = i.toNat + 1 by omega, xBehN, show ((i.toNat : Nat) : Int) = i by omega, if_pos (by omega)]; done), rfl⟩ d_Tr_placeBehind_39
  exact loop9 _ (M 16 p1 - 1) _ _ _ ⟨by omega, by omega, by unfold xBeh; rw [show M 16 p1 - 1 + 1 = M 16 p1 by omega]⟩ (Nat.lt_succ_self _) hX hS (lv_sub hl [0, 1, 2, 3] rfl)
set_option maxHeartbeats 4000000 in
set_option maxRecDepth 100000 in
theorem k_Tr_firstJoining (l : Launch) (D : va_G) (ad : Nat → Nat) (cI : Nat → ClassId) (sd : Int64) (M : zM) (p1 o : Int) (h1 : 0 ≤ p1 ∧ p1 < 60) (h2 : 0 ≤ o ∧ o < 60) (h3 : 0 ≤ M 16 p1 ∧ M 16 p1 ≤ 46) (h4 : 0 ≤ M 16 o ∧ M 16 o ≤ 46) : zMi l y_Tr_firstJoining (.code y_Tr_firstJoining c_Tr_firstJoining 6 (some .int)) { frames := 1, cells := 0, slots := 0, locals := 23 } D (xL sd) ad cI M [.ref (ad 3), .int (zI (p1)), .int (zI (o))] (fun z u => z = (xJoin M p1 o) ∧ u = M) := by
  refine z_of (cc := c_Tr_firstJoining) (maxL := 6) (ret := some .int) (own := "PersonSeeds$Trails") (by decide) rfl rfl (Nat.le_of_ble_eq_true rfl) ?_
  intro p e s m below meth c ls hF hr hX hK hl
  obtain ⟨hx, hb, hml, hown, hlk⟩ := id hF
  have hS : va_S (zA ad (xL sd)) s.heap s.heap [] := va_S.rf
  have hl : lv_has ls 6 [(0, .ref (ad 3)), (1, .int (zI (p1))), (2, .int (zI (o)))] := hl
  refine z_const hx hb d_Tr_firstJoining_0 ?_
  refine lv_istore_n (lv' := [(3, .int (zI (0))), (0, .ref (ad 3)), (1, .int (zI (p1))), (2, .int (zI (o)))]) hx hb d_Tr_firstJoining_1 rfl hl (by decide) rfl (fun ls hl => ?_)
  have loop2 : ∀ (n2 : Nat) (k : Nat) (H : Heap) (locs : List Loc) (ls : Array Slot), ((k : Int) ≤ M 16 p1 ∧ xJoin M p1 o = xJoinN M p1 o ((M 16 p1).toNat - k) k) → (M 16 p1).toNat - k < n2 → zX D (xL sd) ad cI M H → va_S (zA ad (xL sd)) s.heap H locs → lv_has ls 6 [(3, .int (zI ((k : Int)))), (0, .ref (ad 3)), (1, .int (zI (p1))), (2, .int (zI (o)))] → W p l e { frames := 1, cells := 0, slots := 0, locals := 23 } s m ([.ref (ad 3), .int (zI (p1)), .int (zI (o))] : List Value).toArray below meth c H locs 0 0 (MQ below (zQi D (xL sd) ad cI (fun z u => z = (xJoin M p1 o) ∧ u = M)) ([.ref (ad 3), .int (zI (p1)), .int (zI (o))] : List Value).toArray s 0 0 (zA ad (xL sd))) (F0 m 2 ls []) := by
    intro n2
    induction n2 with
    | zero => intro k H locs ls hI hn; exact absurd hn (Nat.not_lt_zero _)
    | succ n2 ih2 =>
      intro k H locs ls hI2 hn2 hX hS hl
      refine lv_iload_n hx hb d_Tr_firstJoining_2 rfl (lv_at hl 0 rfl) ?_
      refine lv_aload_n hx hb d_Tr_firstJoining_3 rfl (lv_at hl 1 rfl) ?_
      refine z_getr hx hb iw_Tr hown hK hX 3 rfl rfl 0 (by decide) tw_92 (fun _ h => h) 16 rfl d_Tr_firstJoining_4 ?_
      refine lv_iload_n hx hb d_Tr_firstJoining_7 rfl (lv_at hl 2 rfl) ?_
      refine z_iald (i := p1) (v := M 16 p1) hx hb hK hX 16 rfl (by omega) (by decide) rfl d_Tr_firstJoining_8 (fun rg_1 => ?_)
      refine z_icmp_ge (a := (k : Int)) (b := M 16 p1) (tgt := 65) hx hb d_Tr_firstJoining_9 (by decide) (by omega) (fun hb_2 => ?_) (fun hb_3 => ?_)
      · skip
        refine z_const hx hb d_Tr_firstJoining_65 ?_
        exact z_iret (z := -1) (post := fun z u => z = (xJoin M p1 o) ∧ u = M) hx hb hr hlk hK hX hS (by omega) ⟨by first | (rw [hI2.2, show (M 16 p1).toNat - k = 0 by omega]; rfl) | (rw [hI2.2, show (M 16 p1).toNat - k = ((M 16 p1).toNat - (k + 1)) + 1 by omega, xJoinN, if_pos (by omega)]; done), rfl⟩ d_Tr_firstJoining_66
      · skip
        refine lv_aload_n hx hb d_Tr_firstJoining_12 rfl (lv_at hl 1 rfl) ?_
        refine z_getr hx hb iw_Tr hown hK hX 3 rfl rfl 1 (by decide) tw_93 (fun _ h => h) 17 rfl d_Tr_firstJoining_13 ?_
        refine lv_iload_n hx hb d_Tr_firstJoining_16 rfl (lv_at hl 2 rfl) ?_
        refine z_bipush hx hb d_Tr_firstJoining_17 (by decide) ?_
        refine z_imul hx hb d_Tr_firstJoining_19 ?_
        refine lv_iload_n hx hb d_Tr_firstJoining_20 rfl (lv_at hl 0 rfl) ?_
        refine z_iadd hx hb d_Tr_firstJoining_21 ?_
        refine z_iald (i := (p1 * 46) + (k : Int)) (v := M 17 ((p1 * 46) + (k : Int))) hx hb hK hX 17 rfl (by omega) (by decide) rfl d_Tr_firstJoining_22 (fun rg_4 => ?_)
        refine lv_istore (lv' := [(4, .int (zI (M 17 ((p1 * 46) + (k : Int))))), (3, .int (zI ((k : Int)))), (0, .ref (ad 3)), (1, .int (zI (p1))), (2, .int (zI (o)))]) hx hb d_Tr_firstJoining_23 hl (by decide) rfl (fun ls hl => ?_)
        refine lv_aload_n hx hb d_Tr_firstJoining_25 rfl (lv_at hl 2 rfl) ?_
        refine z_getr hx hb iw_Tr hown hK hX 3 rfl rfl 2 (by decide) tw_94 (fun _ h => h) 18 rfl d_Tr_firstJoining_26 ?_
        refine lv_iload_n hx hb d_Tr_firstJoining_29 rfl (lv_at hl 3 rfl) ?_
        refine z_bipush hx hb d_Tr_firstJoining_30 (by decide) ?_
        refine z_imul hx hb d_Tr_firstJoining_32 ?_
        refine lv_iload_n hx hb d_Tr_firstJoining_33 rfl (lv_at hl 1 rfl) ?_
        refine z_iadd hx hb d_Tr_firstJoining_34 ?_
        refine z_iald (i := (p1 * 46) + (k : Int)) (v := M 18 ((p1 * 46) + (k : Int))) hx hb hK hX 18 rfl (by omega) (by decide) rfl d_Tr_firstJoining_35 (fun rg_5 => ?_)
        refine lv_istore (lv' := [(5, .int (zI (M 18 ((p1 * 46) + (k : Int))))), (4, .int (zI (M 17 ((p1 * 46) + (k : Int))))), (3, .int (zI ((k : Int)))), (0, .ref (ad 3)), (1, .int (zI (p1))), (2, .int (zI (o)))]) hx hb d_Tr_firstJoining_36 hl (by decide) rfl (fun ls hl => ?_)
        refine lv_iload hx hb d_Tr_firstJoining_38 (lv_at hl 0 rfl) ?_
        refine z_const hx hb d_Tr_firstJoining_40 ?_
        refine z_icmp_eq (a := M 18 ((p1 * 46) + (k : Int))) (b := -1) (tgt := 59) hx hb d_Tr_firstJoining_41 (by decide) (by omega) (fun hb_6 => ?_) (fun hb_7 => ?_)
        · skip
          refine z_iinc (lv' := [(3, .int (zI ((k : Int) + 1))), (5, .int (zI (M 18 ((p1 * 46) + (k : Int))))), (4, .int (zI (M 17 ((p1 * 46) + (k : Int))))), (0, .ref (ad 3)), (1, .int (zI (p1))), (2, .int (zI (o)))]) hx hb d_Tr_firstJoining_59 hl (k := 2) rfl (by decide) rfl (fun ls hl => ?_)
          refine lv_goto (tgt := 2) hx hb d_Tr_firstJoining_62 (by decide) ?_
          exact ih2 (k + 1) _ _ _ ⟨by omega, by rw [hI2.2, show (M 16 p1).toNat - k = ((M 16 p1).toNat - (k + 1)) + 1 by omega, xJoinN, if_neg (by omega)]; rfl⟩ (by omega) hX hS (lv_sub hl [0, 3, 4, 5] rfl)
        · skip
          refine lv_aload_n hx hb d_Tr_firstJoining_44 rfl (lv_at hl 3 rfl) ?_
          refine lv_iload_n hx hb d_Tr_firstJoining_45 rfl (lv_at hl 5 rfl) ?_
          refine lv_iload hx hb d_Tr_firstJoining_46 (lv_at hl 1 rfl) ?_
          refine z_callVi hF (k_Tr_placeBehind l D ad cI sd M o (M 17 ((p1 * 46) + (k : Int))) (by omega) (by omega) (by omega)) (hK.cV 2 tw_440 tw_488 tw_5 tw_439 ts_26 (by decide +kernel) rfl rfl ⟨Nat.le_of_ble_eq_true rfl, Nat.le_of_ble_eq_true rfl⟩) hK hX hS rfl rfl rfl hl.1 rfl (Nat.le_of_ble_eq_true rfl) d_Tr_firstJoining_48 ⟨Nat.zero_le _, Nat.zero_le _⟩ (fun z u H locs rg_8 hp hX hS => ?_)
          obtain ⟨hz, hu⟩ := hp
          rw [hu] at hX
          have hz : z = (xBeh M o (M 17 ((p1 * 46) + (k : Int)))) := hz
          subst hz
          refine lv_iload hx hb d_Tr_firstJoining_51 (lv_at hl 0 rfl) ?_
          refine z_icmp_ne (a := xBeh M o (M 17 ((p1 * 46) + (k : Int)))) (b := M 18 ((p1 * 46) + (k : Int))) (tgt := 59) hx hb d_Tr_firstJoining_53 (by decide) (by omega) (fun hb_9 => ?_) (fun hb_10 => ?_)
          · skip
            refine z_iinc (lv' := [(3, .int (zI ((k : Int) + 1))), (5, .int (zI (M 18 ((p1 * 46) + (k : Int))))), (4, .int (zI (M 17 ((p1 * 46) + (k : Int))))), (0, .ref (ad 3)), (1, .int (zI (p1))), (2, .int (zI (o)))]) hx hb d_Tr_firstJoining_59 hl (k := 2) rfl (by decide) rfl (fun ls hl => ?_)
            refine lv_goto (tgt := 2) hx hb d_Tr_firstJoining_62 (by decide) ?_
            exact ih2 (k + 1) _ _ _ ⟨by omega, by rw [hI2.2, show (M 16 p1).toNat - k = ((M 16 p1).toNat - (k + 1)) + 1 by omega, xJoinN, if_neg (by omega)]; rfl⟩ (by omega) hX hS (lv_sub hl [0, 3, 4, 5] rfl)
          · skip
            refine lv_iload hx hb d_Tr_firstJoining_56 (lv_at hl 1 rfl) ?_
            exact z_iret (z := M 17 ((p1 * 46) + (k : Int))) (post := fun z u => z = (xJoin M p1 o) ∧ u = M) hx hb hr hlk hK hX hS (by omega) ⟨by first | (rw [hI2.2, show (M 16 p1).toNat - k = 0 by omega]; rfl) | (rw [hI2.2, show (M 16 p1).toNat - k = ((M 16 p1).toNat - (k + 1)) + 1 by omega, xJoinN, if_pos (by omega)]; done), rfl⟩ d_Tr_firstJoining_58
  exact loop2 _ 0 _ _ _ ⟨by omega, rfl⟩ (Nat.lt_succ_self _) hX hS (lv_sub hl [0, 1, 2, 3] rfl)

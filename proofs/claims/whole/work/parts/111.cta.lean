/-! The constructors of the class's parts -/
def zM0 : zM := fun _ _ => 0
def roL : List zC := [.inl (1, [.inr (.inl ()), .inl 1, .inl 2, .inl 3, .inl 4]), .inr (0, 12), .inr (0, 12), .inr (0, 12), .inr (0, 12)]
def doL : List zC := [.inl (2, [.inr (.inl ()), .inl 1, .inl 2, .inl 3, .inl 4, .inl 5, .inl 6, .inl 7]), .inr (0, 16), .inr (0, 16), .inr (0, 16), .inr (0, 16), .inr (0, 16), .inr (0, 16), .inr (0, 144)]
def trL : List zC := [.inl (3, [.inl 1, .inl 2, .inl 3]), .inr (0, 60), .inr (0, 2760), .inr (0, 2760)]
def peL (sd : Int64) : List zC := [.inl (4, [.inr (.inr sd), .inr (.inl ()), .inl 1, .inl 2, .inl 3, .inl 4, .inl 5, .inl 6, .inl 7]), .inr (0, 60), .inr (0, 60), .inr (0, 60), .inr (0, 60), .inr (0, 60), .inr (0, 60), .inr (0, 60)]
set_option maxHeartbeats 4000000 in
set_option maxRecDepth 100000 in
theorem k_Ro_init (l : Launch) (D : va_G) (cI : Nat → ClassId) (h0 sz : Nat) : zN l y_Ro_init (.code y_Ro_init c_Ro_init 1 none) { frames := 1, cells := 4, slots := 48, locals := 12 } D cI h0 sz 1 [.int 0, .null, .null, .null, .null] [] roL zM0 4 48 := by
  refine zn_of (cc := c_Ro_init) (maxL := 1) (own := "PersonSeeds$Rooms") (by decide) rfl rfl (Nat.le_of_ble_eq_true rfl) ?_
  intro p e s m below meth c ls A hF hr hini hAe hA hP hD hK hl
  obtain ⟨hx, hb, hml, hown, hlk⟩ := id hF
  have hS : va_S A s.heap s.heap [] := va_S.rf
  have hl : lv_has ls 1 [(0, .ref h0)] := hl
  refine lv_aload_n hx hb d_Ro_init_0 rfl (lv_at hl 0 rfl) ?_
  refine zc_obj hF hK tw_27 hl.1 rfl d_Ro_init_1 (Nat.le_of_ble_eq_true rfl) (Nat.le_of_ble_eq_true rfl) ?_
  refine lv_aload_n hx hb d_Ro_init_4 rfl (lv_at hl 0 rfl) ?_
  refine z_bipush hx hb d_Ro_init_5 (by decide) ?_
  refine zc_newi (N := 12) hx hb hK hP hD hS hA rfl (by decide) (Nat.le_of_ble_eq_true rfl) (Nat.le_of_ble_eq_true rfl) d_Ro_init_7 (fun q1 H hP hD hS => ?_)
  have hP : va_P D zCl [(h0, .inr (1, [.int 0, .null, .null, .null, .null])), (q1, .inl (cI 0, 12, .inl (fun _ => zI 0)))] H := hP
  have hD : va_D A [(h0, .inr (1, [.int 0, .null, .null, .null, .null])), (q1, .inl (cI 0, 12, .inl (fun _ => zI 0)))] := hD
  refine W.widen (k := 1) (n := 12) (Nat.le_of_ble_eq_true rfl) (Nat.le_of_ble_eq_true rfl) ?_
  refine zc_put (v := .ref q1) (ty := .array .int) hF iw_Ro ty_Ro tyo_Ro n_Ro hini hK hP hD hS 0 rfl rfl 1 (by decide) tw_30 rfl rfl (by decide +kernel) rfl rfl (Nat.le_of_ble_eq_true rfl) d_Ro_init_9 (fun H locs hP hD hS => ?_)
  have hP : va_P D zCl [(h0, .inr (1, [.int 0, .ref q1, .null, .null, .null])), (q1, .inl (cI 0, 12, .inl (fun _ => zI 0)))] H := hP
  have hD : va_D A [(h0, .inr (1, [.int 0, .ref q1, .null, .null, .null])), (q1, .inl (cI 0, 12, .inl (fun _ => zI 0)))] := hD
  refine lv_aload_n hx hb d_Ro_init_12 rfl (lv_at hl 0 rfl) ?_
  refine z_bipush hx hb d_Ro_init_13 (by decide) ?_
  refine zc_newi (N := 12) hx hb hK hP hD hS hA rfl (by decide) (Nat.le_of_ble_eq_true rfl) (Nat.le_of_ble_eq_true rfl) d_Ro_init_15 (fun q2 H hP hD hS => ?_)
  have hP : va_P D zCl [(h0, .inr (1, [.int 0, .ref q1, .null, .null, .null])), (q1, .inl (cI 0, 12, .inl (fun _ => zI 0))), (q2, .inl (cI 0, 12, .inl (fun _ => zI 0)))] H := hP
  have hD : va_D A [(h0, .inr (1, [.int 0, .ref q1, .null, .null, .null])), (q1, .inl (cI 0, 12, .inl (fun _ => zI 0))), (q2, .inl (cI 0, 12, .inl (fun _ => zI 0)))] := hD
  refine W.widen (k := 2) (n := 24) (Nat.le_of_ble_eq_true rfl) (Nat.le_of_ble_eq_true rfl) ?_
  refine zc_put (v := .ref q2) (ty := .array .int) hF iw_Ro ty_Ro tyo_Ro n_Ro hini hK hP hD hS 0 rfl rfl 2 (by decide) tw_31 rfl rfl (by decide +kernel) rfl rfl (Nat.le_of_ble_eq_true rfl) d_Ro_init_17 (fun H locs hP hD hS => ?_)
  have hP : va_P D zCl [(h0, .inr (1, [.int 0, .ref q1, .ref q2, .null, .null])), (q1, .inl (cI 0, 12, .inl (fun _ => zI 0))), (q2, .inl (cI 0, 12, .inl (fun _ => zI 0)))] H := hP
  have hD : va_D A [(h0, .inr (1, [.int 0, .ref q1, .ref q2, .null, .null])), (q1, .inl (cI 0, 12, .inl (fun _ => zI 0))), (q2, .inl (cI 0, 12, .inl (fun _ => zI 0)))] := hD
  refine lv_aload_n hx hb d_Ro_init_20 rfl (lv_at hl 0 rfl) ?_
  refine z_bipush hx hb d_Ro_init_21 (by decide) ?_
  refine zc_newi (N := 12) hx hb hK hP hD hS hA rfl (by decide) (Nat.le_of_ble_eq_true rfl) (Nat.le_of_ble_eq_true rfl) d_Ro_init_23 (fun q3 H hP hD hS => ?_)
  have hP : va_P D zCl [(h0, .inr (1, [.int 0, .ref q1, .ref q2, .null, .null])), (q1, .inl (cI 0, 12, .inl (fun _ => zI 0))), (q2, .inl (cI 0, 12, .inl (fun _ => zI 0))), (q3, .inl (cI 0, 12, .inl (fun _ => zI 0)))] H := hP
  have hD : va_D A [(h0, .inr (1, [.int 0, .ref q1, .ref q2, .null, .null])), (q1, .inl (cI 0, 12, .inl (fun _ => zI 0))), (q2, .inl (cI 0, 12, .inl (fun _ => zI 0))), (q3, .inl (cI 0, 12, .inl (fun _ => zI 0)))] := hD
  refine W.widen (k := 3) (n := 36) (Nat.le_of_ble_eq_true rfl) (Nat.le_of_ble_eq_true rfl) ?_
  refine zc_put (v := .ref q3) (ty := .array .int) hF iw_Ro ty_Ro tyo_Ro n_Ro hini hK hP hD hS 0 rfl rfl 3 (by decide) tw_33 rfl rfl (by decide +kernel) rfl rfl (Nat.le_of_ble_eq_true rfl) d_Ro_init_25 (fun H locs hP hD hS => ?_)
  have hP : va_P D zCl [(h0, .inr (1, [.int 0, .ref q1, .ref q2, .ref q3, .null])), (q1, .inl (cI 0, 12, .inl (fun _ => zI 0))), (q2, .inl (cI 0, 12, .inl (fun _ => zI 0))), (q3, .inl (cI 0, 12, .inl (fun _ => zI 0)))] H := hP
  have hD : va_D A [(h0, .inr (1, [.int 0, .ref q1, .ref q2, .ref q3, .null])), (q1, .inl (cI 0, 12, .inl (fun _ => zI 0))), (q2, .inl (cI 0, 12, .inl (fun _ => zI 0))), (q3, .inl (cI 0, 12, .inl (fun _ => zI 0)))] := hD
  refine lv_aload_n hx hb d_Ro_init_28 rfl (lv_at hl 0 rfl) ?_
  refine z_bipush hx hb d_Ro_init_29 (by decide) ?_
  refine zc_newi (N := 12) hx hb hK hP hD hS hA rfl (by decide) (Nat.le_of_ble_eq_true rfl) (Nat.le_of_ble_eq_true rfl) d_Ro_init_31 (fun q4 H hP hD hS => ?_)
  have hP : va_P D zCl [(h0, .inr (1, [.int 0, .ref q1, .ref q2, .ref q3, .null])), (q1, .inl (cI 0, 12, .inl (fun _ => zI 0))), (q2, .inl (cI 0, 12, .inl (fun _ => zI 0))), (q3, .inl (cI 0, 12, .inl (fun _ => zI 0))), (q4, .inl (cI 0, 12, .inl (fun _ => zI 0)))] H := hP
  have hD : va_D A [(h0, .inr (1, [.int 0, .ref q1, .ref q2, .ref q3, .null])), (q1, .inl (cI 0, 12, .inl (fun _ => zI 0))), (q2, .inl (cI 0, 12, .inl (fun _ => zI 0))), (q3, .inl (cI 0, 12, .inl (fun _ => zI 0))), (q4, .inl (cI 0, 12, .inl (fun _ => zI 0)))] := hD
  refine W.widen (k := 4) (n := 48) (Nat.le_of_ble_eq_true rfl) (Nat.le_of_ble_eq_true rfl) ?_
  refine zc_put (v := .ref q4) (ty := .array .int) hF iw_Ro ty_Ro tyo_Ro n_Ro hini hK hP hD hS 0 rfl rfl 4 (by decide) tw_35 rfl rfl (by decide +kernel) rfl rfl (Nat.le_of_ble_eq_true rfl) d_Ro_init_33 (fun H locs hP hD hS => ?_)
  have hP : va_P D zCl [(h0, .inr (1, [.int 0, .ref q1, .ref q2, .ref q3, .ref q4])), (q1, .inl (cI 0, 12, .inl (fun _ => zI 0))), (q2, .inl (cI 0, 12, .inl (fun _ => zI 0))), (q3, .inl (cI 0, 12, .inl (fun _ => zI 0))), (q4, .inl (cI 0, 12, .inl (fun _ => zI 0)))] H := hP
  have hD : va_D A [(h0, .inr (1, [.int 0, .ref q1, .ref q2, .ref q3, .ref q4])), (q1, .inl (cI 0, 12, .inl (fun _ => zI 0))), (q2, .inl (cI 0, 12, .inl (fun _ => zI 0))), (q3, .inl (cI 0, 12, .inl (fun _ => zI 0))), (q4, .inl (cI 0, 12, .inl (fun _ => zI 0)))] := hD
  exact zc_ret (av := []) (ad := fun k => match k with | 0 => h0 | 1 => q1 | 2 => q2 | 3 => q3 | _ => q4) hx hb hr hlk hAe rfl hP hD hS d_Ro_init_36
set_option maxHeartbeats 4000000 in
set_option maxRecDepth 100000 in
theorem k_Tr_init (l : Launch) (D : va_G) (cI : Nat → ClassId) (h0 sz : Nat) : zN l y_Tr_init (.code y_Tr_init c_Tr_init 1 none) { frames := 1, cells := 3, slots := 5580, locals := 12 } D cI h0 sz 3 [.null, .null, .null] [] trL zM0 3 5580 := by
  refine zn_of (cc := c_Tr_init) (maxL := 1) (own := "PersonSeeds$Trails") (by decide) rfl rfl (Nat.le_of_ble_eq_true rfl) ?_
  intro p e s m below meth c ls A hF hr hini hAe hA hP hD hK hl
  obtain ⟨hx, hb, hml, hown, hlk⟩ := id hF
  have hS : va_S A s.heap s.heap [] := va_S.rf
  have hl : lv_has ls 1 [(0, .ref h0)] := hl
  refine lv_aload_n hx hb d_Tr_init_0 rfl (lv_at hl 0 rfl) ?_
  refine zc_obj hF hK tw_91 hl.1 rfl d_Tr_init_1 (Nat.le_of_ble_eq_true rfl) (Nat.le_of_ble_eq_true rfl) ?_
  refine lv_aload_n hx hb d_Tr_init_4 rfl (lv_at hl 0 rfl) ?_
  refine z_bipush hx hb d_Tr_init_5 (by decide) ?_
  refine zc_newi (N := 60) hx hb hK hP hD hS hA rfl (by decide) (Nat.le_of_ble_eq_true rfl) (Nat.le_of_ble_eq_true rfl) d_Tr_init_7 (fun q1 H hP hD hS => ?_)
  have hP : va_P D zCl [(h0, .inr (3, [.null, .null, .null])), (q1, .inl (cI 0, 60, .inl (fun _ => zI 0)))] H := hP
  have hD : va_D A [(h0, .inr (3, [.null, .null, .null])), (q1, .inl (cI 0, 60, .inl (fun _ => zI 0)))] := hD
  refine W.widen (k := 1) (n := 60) (Nat.le_of_ble_eq_true rfl) (Nat.le_of_ble_eq_true rfl) ?_
  refine zc_put (v := .ref q1) (ty := .array .int) hF iw_Tr ty_Tr tyo_Tr n_Tr hini hK hP hD hS 0 rfl rfl 0 (by decide) tw_92 rfl rfl (by decide +kernel) rfl rfl (Nat.le_of_ble_eq_true rfl) d_Tr_init_9 (fun H locs hP hD hS => ?_)
  have hP : va_P D zCl [(h0, .inr (3, [.ref q1, .null, .null])), (q1, .inl (cI 0, 60, .inl (fun _ => zI 0)))] H := hP
  have hD : va_D A [(h0, .inr (3, [.ref q1, .null, .null])), (q1, .inl (cI 0, 60, .inl (fun _ => zI 0)))] := hD
  refine lv_aload_n hx hb d_Tr_init_12 rfl (lv_at hl 0 rfl) ?_
  refine z_sipush hx hb d_Tr_init_13 (by decide) ?_
  refine zc_newi (N := 2760) hx hb hK hP hD hS hA rfl (by decide) (Nat.le_of_ble_eq_true rfl) (Nat.le_of_ble_eq_true rfl) d_Tr_init_16 (fun q2 H hP hD hS => ?_)
  have hP : va_P D zCl [(h0, .inr (3, [.ref q1, .null, .null])), (q1, .inl (cI 0, 60, .inl (fun _ => zI 0))), (q2, .inl (cI 0, 2760, .inl (fun _ => zI 0)))] H := hP
  have hD : va_D A [(h0, .inr (3, [.ref q1, .null, .null])), (q1, .inl (cI 0, 60, .inl (fun _ => zI 0))), (q2, .inl (cI 0, 2760, .inl (fun _ => zI 0)))] := hD
  refine W.widen (k := 2) (n := 2820) (Nat.le_of_ble_eq_true rfl) (Nat.le_of_ble_eq_true rfl) ?_
  refine zc_put (v := .ref q2) (ty := .array .int) hF iw_Tr ty_Tr tyo_Tr n_Tr hini hK hP hD hS 0 rfl rfl 1 (by decide) tw_93 rfl rfl (by decide +kernel) rfl rfl (Nat.le_of_ble_eq_true rfl) d_Tr_init_18 (fun H locs hP hD hS => ?_)
  have hP : va_P D zCl [(h0, .inr (3, [.ref q1, .ref q2, .null])), (q1, .inl (cI 0, 60, .inl (fun _ => zI 0))), (q2, .inl (cI 0, 2760, .inl (fun _ => zI 0)))] H := hP
  have hD : va_D A [(h0, .inr (3, [.ref q1, .ref q2, .null])), (q1, .inl (cI 0, 60, .inl (fun _ => zI 0))), (q2, .inl (cI 0, 2760, .inl (fun _ => zI 0)))] := hD
  refine lv_aload_n hx hb d_Tr_init_21 rfl (lv_at hl 0 rfl) ?_
  refine z_sipush hx hb d_Tr_init_22 (by decide) ?_
  refine zc_newi (N := 2760) hx hb hK hP hD hS hA rfl (by decide) (Nat.le_of_ble_eq_true rfl) (Nat.le_of_ble_eq_true rfl) d_Tr_init_25 (fun q3 H hP hD hS => ?_)
  have hP : va_P D zCl [(h0, .inr (3, [.ref q1, .ref q2, .null])), (q1, .inl (cI 0, 60, .inl (fun _ => zI 0))), (q2, .inl (cI 0, 2760, .inl (fun _ => zI 0))), (q3, .inl (cI 0, 2760, .inl (fun _ => zI 0)))] H := hP
  have hD : va_D A [(h0, .inr (3, [.ref q1, .ref q2, .null])), (q1, .inl (cI 0, 60, .inl (fun _ => zI 0))), (q2, .inl (cI 0, 2760, .inl (fun _ => zI 0))), (q3, .inl (cI 0, 2760, .inl (fun _ => zI 0)))] := hD
  refine W.widen (k := 3) (n := 5580) (Nat.le_of_ble_eq_true rfl) (Nat.le_of_ble_eq_true rfl) ?_
  refine zc_put (v := .ref q3) (ty := .array .int) hF iw_Tr ty_Tr tyo_Tr n_Tr hini hK hP hD hS 0 rfl rfl 2 (by decide) tw_94 rfl rfl (by decide +kernel) rfl rfl (Nat.le_of_ble_eq_true rfl) d_Tr_init_27 (fun H locs hP hD hS => ?_)
  have hP : va_P D zCl [(h0, .inr (3, [.ref q1, .ref q2, .ref q3])), (q1, .inl (cI 0, 60, .inl (fun _ => zI 0))), (q2, .inl (cI 0, 2760, .inl (fun _ => zI 0))), (q3, .inl (cI 0, 2760, .inl (fun _ => zI 0)))] H := hP
  have hD : va_D A [(h0, .inr (3, [.ref q1, .ref q2, .ref q3])), (q1, .inl (cI 0, 60, .inl (fun _ => zI 0))), (q2, .inl (cI 0, 2760, .inl (fun _ => zI 0))), (q3, .inl (cI 0, 2760, .inl (fun _ => zI 0)))] := hD
  exact zc_ret (av := []) (ad := fun k => match k with | 0 => h0 | 1 => q1 | 2 => q2 | _ => q3) hx hb hr hlk hAe rfl hP hD hS d_Tr_init_30
set_option maxHeartbeats 4000000 in
set_option maxRecDepth 100000 in
theorem k_Pe_init (l : Launch) (D : va_G) (cI : Nat → ClassId) (h0 sz : Nat) (sd : Int64) : zN l y_Pe_init (.code y_Pe_init c_Pe_init 3 none) { frames := 1, cells := 7, slots := 420, locals := 12 } D cI h0 sz 4 [.long 0, .int 0, .null, .null, .null, .null, .null, .null, .null] [.long sd] (peL sd) zM0 7 420 := by
  refine zn_of (cc := c_Pe_init) (maxL := 3) (own := "PersonSeeds$Persons") (by decide) rfl rfl (Nat.le_of_ble_eq_true rfl) ?_
  intro p e s m below meth c ls A hF hr hini hAe hA hP hD hK hl
  obtain ⟨hx, hb, hml, hown, hlk⟩ := id hF
  have hS : va_S A s.heap s.heap [] := va_S.rf
  have hl : lv_has ls 3 [(0, .ref h0), (1, .long sd)] := hl
  refine lv_aload_n hx hb d_Pe_init_0 rfl (lv_at hl 0 rfl) ?_
  refine zc_obj hF hK tw_107 hl.1 rfl d_Pe_init_1 (Nat.le_of_ble_eq_true rfl) (Nat.le_of_ble_eq_true rfl) ?_
  refine lv_aload_n hx hb d_Pe_init_4 rfl (lv_at hl 0 rfl) ?_
  refine z_bipush hx hb d_Pe_init_5 (by decide) ?_
  refine zc_newi (N := 60) hx hb hK hP hD hS hA rfl (by decide) (Nat.le_of_ble_eq_true rfl) (Nat.le_of_ble_eq_true rfl) d_Pe_init_7 (fun q1 H hP hD hS => ?_)
  have hP : va_P D zCl [(h0, .inr (4, [.long 0, .int 0, .null, .null, .null, .null, .null, .null, .null])), (q1, .inl (cI 0, 60, .inl (fun _ => zI 0)))] H := hP
  have hD : va_D A [(h0, .inr (4, [.long 0, .int 0, .null, .null, .null, .null, .null, .null, .null])), (q1, .inl (cI 0, 60, .inl (fun _ => zI 0)))] := hD
  refine W.widen (k := 1) (n := 60) (Nat.le_of_ble_eq_true rfl) (Nat.le_of_ble_eq_true rfl) ?_
  refine zc_put (v := .ref q1) (ty := .array .int) hF iw_Pe ty_Pe tyo_Pe n_Pe hini hK hP hD hS 0 rfl rfl 2 (by decide) tw_111 rfl rfl (by decide +kernel) rfl rfl (Nat.le_of_ble_eq_true rfl) d_Pe_init_9 (fun H locs hP hD hS => ?_)
  have hP : va_P D zCl [(h0, .inr (4, [.long 0, .int 0, .ref q1, .null, .null, .null, .null, .null, .null])), (q1, .inl (cI 0, 60, .inl (fun _ => zI 0)))] H := hP
  have hD : va_D A [(h0, .inr (4, [.long 0, .int 0, .ref q1, .null, .null, .null, .null, .null, .null])), (q1, .inl (cI 0, 60, .inl (fun _ => zI 0)))] := hD
  refine lv_aload_n hx hb d_Pe_init_12 rfl (lv_at hl 0 rfl) ?_
  refine z_bipush hx hb d_Pe_init_13 (by decide) ?_
  refine zc_newi (N := 60) hx hb hK hP hD hS hA rfl (by decide) (Nat.le_of_ble_eq_true rfl) (Nat.le_of_ble_eq_true rfl) d_Pe_init_15 (fun q2 H hP hD hS => ?_)
  have hP : va_P D zCl [(h0, .inr (4, [.long 0, .int 0, .ref q1, .null, .null, .null, .null, .null, .null])), (q1, .inl (cI 0, 60, .inl (fun _ => zI 0))), (q2, .inl (cI 0, 60, .inl (fun _ => zI 0)))] H := hP
  have hD : va_D A [(h0, .inr (4, [.long 0, .int 0, .ref q1, .null, .null, .null, .null, .null, .null])), (q1, .inl (cI 0, 60, .inl (fun _ => zI 0))), (q2, .inl (cI 0, 60, .inl (fun _ => zI 0)))] := hD
  refine W.widen (k := 2) (n := 120) (Nat.le_of_ble_eq_true rfl) (Nat.le_of_ble_eq_true rfl) ?_
  refine zc_put (v := .ref q2) (ty := .array .int) hF iw_Pe ty_Pe tyo_Pe n_Pe hini hK hP hD hS 0 rfl rfl 3 (by decide) tw_113 rfl rfl (by decide +kernel) rfl rfl (Nat.le_of_ble_eq_true rfl) d_Pe_init_17 (fun H locs hP hD hS => ?_)
  have hP : va_P D zCl [(h0, .inr (4, [.long 0, .int 0, .ref q1, .ref q2, .null, .null, .null, .null, .null])), (q1, .inl (cI 0, 60, .inl (fun _ => zI 0))), (q2, .inl (cI 0, 60, .inl (fun _ => zI 0)))] H := hP
  have hD : va_D A [(h0, .inr (4, [.long 0, .int 0, .ref q1, .ref q2, .null, .null, .null, .null, .null])), (q1, .inl (cI 0, 60, .inl (fun _ => zI 0))), (q2, .inl (cI 0, 60, .inl (fun _ => zI 0)))] := hD
  refine lv_aload_n hx hb d_Pe_init_20 rfl (lv_at hl 0 rfl) ?_
  refine z_bipush hx hb d_Pe_init_21 (by decide) ?_
  refine zc_newi (N := 60) hx hb hK hP hD hS hA rfl (by decide) (Nat.le_of_ble_eq_true rfl) (Nat.le_of_ble_eq_true rfl) d_Pe_init_23 (fun q3 H hP hD hS => ?_)
  have hP : va_P D zCl [(h0, .inr (4, [.long 0, .int 0, .ref q1, .ref q2, .null, .null, .null, .null, .null])), (q1, .inl (cI 0, 60, .inl (fun _ => zI 0))), (q2, .inl (cI 0, 60, .inl (fun _ => zI 0))), (q3, .inl (cI 0, 60, .inl (fun _ => zI 0)))] H := hP
  have hD : va_D A [(h0, .inr (4, [.long 0, .int 0, .ref q1, .ref q2, .null, .null, .null, .null, .null])), (q1, .inl (cI 0, 60, .inl (fun _ => zI 0))), (q2, .inl (cI 0, 60, .inl (fun _ => zI 0))), (q3, .inl (cI 0, 60, .inl (fun _ => zI 0)))] := hD
  refine W.widen (k := 3) (n := 180) (Nat.le_of_ble_eq_true rfl) (Nat.le_of_ble_eq_true rfl) ?_
  refine zc_put (v := .ref q3) (ty := .array .int) hF iw_Pe ty_Pe tyo_Pe n_Pe hini hK hP hD hS 0 rfl rfl 4 (by decide) tw_115 rfl rfl (by decide +kernel) rfl rfl (Nat.le_of_ble_eq_true rfl) d_Pe_init_25 (fun H locs hP hD hS => ?_)
  have hP : va_P D zCl [(h0, .inr (4, [.long 0, .int 0, .ref q1, .ref q2, .ref q3, .null, .null, .null, .null])), (q1, .inl (cI 0, 60, .inl (fun _ => zI 0))), (q2, .inl (cI 0, 60, .inl (fun _ => zI 0))), (q3, .inl (cI 0, 60, .inl (fun _ => zI 0)))] H := hP
  have hD : va_D A [(h0, .inr (4, [.long 0, .int 0, .ref q1, .ref q2, .ref q3, .null, .null, .null, .null])), (q1, .inl (cI 0, 60, .inl (fun _ => zI 0))), (q2, .inl (cI 0, 60, .inl (fun _ => zI 0))), (q3, .inl (cI 0, 60, .inl (fun _ => zI 0)))] := hD
  refine lv_aload_n hx hb d_Pe_init_28 rfl (lv_at hl 0 rfl) ?_
  refine z_bipush hx hb d_Pe_init_29 (by decide) ?_
  refine zc_newi (N := 60) hx hb hK hP hD hS hA rfl (by decide) (Nat.le_of_ble_eq_true rfl) (Nat.le_of_ble_eq_true rfl) d_Pe_init_31 (fun q4 H hP hD hS => ?_)
  have hP : va_P D zCl [(h0, .inr (4, [.long 0, .int 0, .ref q1, .ref q2, .ref q3, .null, .null, .null, .null])), (q1, .inl (cI 0, 60, .inl (fun _ => zI 0))), (q2, .inl (cI 0, 60, .inl (fun _ => zI 0))), (q3, .inl (cI 0, 60, .inl (fun _ => zI 0))), (q4, .inl (cI 0, 60, .inl (fun _ => zI 0)))] H := hP
  have hD : va_D A [(h0, .inr (4, [.long 0, .int 0, .ref q1, .ref q2, .ref q3, .null, .null, .null, .null])), (q1, .inl (cI 0, 60, .inl (fun _ => zI 0))), (q2, .inl (cI 0, 60, .inl (fun _ => zI 0))), (q3, .inl (cI 0, 60, .inl (fun _ => zI 0))), (q4, .inl (cI 0, 60, .inl (fun _ => zI 0)))] := hD
  refine W.widen (k := 4) (n := 240) (Nat.le_of_ble_eq_true rfl) (Nat.le_of_ble_eq_true rfl) ?_
  refine zc_put (v := .ref q4) (ty := .array .int) hF iw_Pe ty_Pe tyo_Pe n_Pe hini hK hP hD hS 0 rfl rfl 5 (by decide) tw_117 rfl rfl (by decide +kernel) rfl rfl (Nat.le_of_ble_eq_true rfl) d_Pe_init_33 (fun H locs hP hD hS => ?_)
  have hP : va_P D zCl [(h0, .inr (4, [.long 0, .int 0, .ref q1, .ref q2, .ref q3, .ref q4, .null, .null, .null])), (q1, .inl (cI 0, 60, .inl (fun _ => zI 0))), (q2, .inl (cI 0, 60, .inl (fun _ => zI 0))), (q3, .inl (cI 0, 60, .inl (fun _ => zI 0))), (q4, .inl (cI 0, 60, .inl (fun _ => zI 0)))] H := hP
  have hD : va_D A [(h0, .inr (4, [.long 0, .int 0, .ref q1, .ref q2, .ref q3, .ref q4, .null, .null, .null])), (q1, .inl (cI 0, 60, .inl (fun _ => zI 0))), (q2, .inl (cI 0, 60, .inl (fun _ => zI 0))), (q3, .inl (cI 0, 60, .inl (fun _ => zI 0))), (q4, .inl (cI 0, 60, .inl (fun _ => zI 0)))] := hD
  refine lv_aload_n hx hb d_Pe_init_36 rfl (lv_at hl 0 rfl) ?_
  refine z_bipush hx hb d_Pe_init_37 (by decide) ?_
  refine zc_newi (N := 60) hx hb hK hP hD hS hA rfl (by decide) (Nat.le_of_ble_eq_true rfl) (Nat.le_of_ble_eq_true rfl) d_Pe_init_39 (fun q5 H hP hD hS => ?_)
  have hP : va_P D zCl [(h0, .inr (4, [.long 0, .int 0, .ref q1, .ref q2, .ref q3, .ref q4, .null, .null, .null])), (q1, .inl (cI 0, 60, .inl (fun _ => zI 0))), (q2, .inl (cI 0, 60, .inl (fun _ => zI 0))), (q3, .inl (cI 0, 60, .inl (fun _ => zI 0))), (q4, .inl (cI 0, 60, .inl (fun _ => zI 0))), (q5, .inl (cI 0, 60, .inl (fun _ => zI 0)))] H := hP
  have hD : va_D A [(h0, .inr (4, [.long 0, .int 0, .ref q1, .ref q2, .ref q3, .ref q4, .null, .null, .null])), (q1, .inl (cI 0, 60, .inl (fun _ => zI 0))), (q2, .inl (cI 0, 60, .inl (fun _ => zI 0))), (q3, .inl (cI 0, 60, .inl (fun _ => zI 0))), (q4, .inl (cI 0, 60, .inl (fun _ => zI 0))), (q5, .inl (cI 0, 60, .inl (fun _ => zI 0)))] := hD
  refine W.widen (k := 5) (n := 300) (Nat.le_of_ble_eq_true rfl) (Nat.le_of_ble_eq_true rfl) ?_
  refine zc_put (v := .ref q5) (ty := .array .int) hF iw_Pe ty_Pe tyo_Pe n_Pe hini hK hP hD hS 0 rfl rfl 6 (by decide) tw_119 rfl rfl (by decide +kernel) rfl rfl (Nat.le_of_ble_eq_true rfl) d_Pe_init_41 (fun H locs hP hD hS => ?_)
  have hP : va_P D zCl [(h0, .inr (4, [.long 0, .int 0, .ref q1, .ref q2, .ref q3, .ref q4, .ref q5, .null, .null])), (q1, .inl (cI 0, 60, .inl (fun _ => zI 0))), (q2, .inl (cI 0, 60, .inl (fun _ => zI 0))), (q3, .inl (cI 0, 60, .inl (fun _ => zI 0))), (q4, .inl (cI 0, 60, .inl (fun _ => zI 0))), (q5, .inl (cI 0, 60, .inl (fun _ => zI 0)))] H := hP
  have hD : va_D A [(h0, .inr (4, [.long 0, .int 0, .ref q1, .ref q2, .ref q3, .ref q4, .ref q5, .null, .null])), (q1, .inl (cI 0, 60, .inl (fun _ => zI 0))), (q2, .inl (cI 0, 60, .inl (fun _ => zI 0))), (q3, .inl (cI 0, 60, .inl (fun _ => zI 0))), (q4, .inl (cI 0, 60, .inl (fun _ => zI 0))), (q5, .inl (cI 0, 60, .inl (fun _ => zI 0)))] := hD
  refine lv_aload_n hx hb d_Pe_init_44 rfl (lv_at hl 0 rfl) ?_
  refine z_bipush hx hb d_Pe_init_45 (by decide) ?_
  refine zc_newi (N := 60) hx hb hK hP hD hS hA rfl (by decide) (Nat.le_of_ble_eq_true rfl) (Nat.le_of_ble_eq_true rfl) d_Pe_init_47 (fun q6 H hP hD hS => ?_)
  have hP : va_P D zCl [(h0, .inr (4, [.long 0, .int 0, .ref q1, .ref q2, .ref q3, .ref q4, .ref q5, .null, .null])), (q1, .inl (cI 0, 60, .inl (fun _ => zI 0))), (q2, .inl (cI 0, 60, .inl (fun _ => zI 0))), (q3, .inl (cI 0, 60, .inl (fun _ => zI 0))), (q4, .inl (cI 0, 60, .inl (fun _ => zI 0))), (q5, .inl (cI 0, 60, .inl (fun _ => zI 0))), (q6, .inl (cI 0, 60, .inl (fun _ => zI 0)))] H := hP
  have hD : va_D A [(h0, .inr (4, [.long 0, .int 0, .ref q1, .ref q2, .ref q3, .ref q4, .ref q5, .null, .null])), (q1, .inl (cI 0, 60, .inl (fun _ => zI 0))), (q2, .inl (cI 0, 60, .inl (fun _ => zI 0))), (q3, .inl (cI 0, 60, .inl (fun _ => zI 0))), (q4, .inl (cI 0, 60, .inl (fun _ => zI 0))), (q5, .inl (cI 0, 60, .inl (fun _ => zI 0))), (q6, .inl (cI 0, 60, .inl (fun _ => zI 0)))] := hD
  refine W.widen (k := 6) (n := 360) (Nat.le_of_ble_eq_true rfl) (Nat.le_of_ble_eq_true rfl) ?_
  refine zc_put (v := .ref q6) (ty := .array .int) hF iw_Pe ty_Pe tyo_Pe n_Pe hini hK hP hD hS 0 rfl rfl 7 (by decide) tw_121 rfl rfl (by decide +kernel) rfl rfl (Nat.le_of_ble_eq_true rfl) d_Pe_init_49 (fun H locs hP hD hS => ?_)
  have hP : va_P D zCl [(h0, .inr (4, [.long 0, .int 0, .ref q1, .ref q2, .ref q3, .ref q4, .ref q5, .ref q6, .null])), (q1, .inl (cI 0, 60, .inl (fun _ => zI 0))), (q2, .inl (cI 0, 60, .inl (fun _ => zI 0))), (q3, .inl (cI 0, 60, .inl (fun _ => zI 0))), (q4, .inl (cI 0, 60, .inl (fun _ => zI 0))), (q5, .inl (cI 0, 60, .inl (fun _ => zI 0))), (q6, .inl (cI 0, 60, .inl (fun _ => zI 0)))] H := hP
  have hD : va_D A [(h0, .inr (4, [.long 0, .int 0, .ref q1, .ref q2, .ref q3, .ref q4, .ref q5, .ref q6, .null])), (q1, .inl (cI 0, 60, .inl (fun _ => zI 0))), (q2, .inl (cI 0, 60, .inl (fun _ => zI 0))), (q3, .inl (cI 0, 60, .inl (fun _ => zI 0))), (q4, .inl (cI 0, 60, .inl (fun _ => zI 0))), (q5, .inl (cI 0, 60, .inl (fun _ => zI 0))), (q6, .inl (cI 0, 60, .inl (fun _ => zI 0)))] := hD
  refine lv_aload_n hx hb d_Pe_init_52 rfl (lv_at hl 0 rfl) ?_
  refine z_bipush hx hb d_Pe_init_53 (by decide) ?_
  refine zc_newi (N := 60) hx hb hK hP hD hS hA rfl (by decide) (Nat.le_of_ble_eq_true rfl) (Nat.le_of_ble_eq_true rfl) d_Pe_init_55 (fun q7 H hP hD hS => ?_)
  have hP : va_P D zCl [(h0, .inr (4, [.long 0, .int 0, .ref q1, .ref q2, .ref q3, .ref q4, .ref q5, .ref q6, .null])), (q1, .inl (cI 0, 60, .inl (fun _ => zI 0))), (q2, .inl (cI 0, 60, .inl (fun _ => zI 0))), (q3, .inl (cI 0, 60, .inl (fun _ => zI 0))), (q4, .inl (cI 0, 60, .inl (fun _ => zI 0))), (q5, .inl (cI 0, 60, .inl (fun _ => zI 0))), (q6, .inl (cI 0, 60, .inl (fun _ => zI 0))), (q7, .inl (cI 0, 60, .inl (fun _ => zI 0)))] H := hP
  have hD : va_D A [(h0, .inr (4, [.long 0, .int 0, .ref q1, .ref q2, .ref q3, .ref q4, .ref q5, .ref q6, .null])), (q1, .inl (cI 0, 60, .inl (fun _ => zI 0))), (q2, .inl (cI 0, 60, .inl (fun _ => zI 0))), (q3, .inl (cI 0, 60, .inl (fun _ => zI 0))), (q4, .inl (cI 0, 60, .inl (fun _ => zI 0))), (q5, .inl (cI 0, 60, .inl (fun _ => zI 0))), (q6, .inl (cI 0, 60, .inl (fun _ => zI 0))), (q7, .inl (cI 0, 60, .inl (fun _ => zI 0)))] := hD
  refine W.widen (k := 7) (n := 420) (Nat.le_of_ble_eq_true rfl) (Nat.le_of_ble_eq_true rfl) ?_
  refine zc_put (v := .ref q7) (ty := .array .int) hF iw_Pe ty_Pe tyo_Pe n_Pe hini hK hP hD hS 0 rfl rfl 8 (by decide) tw_123 rfl rfl (by decide +kernel) rfl rfl (Nat.le_of_ble_eq_true rfl) d_Pe_init_57 (fun H locs hP hD hS => ?_)
  have hP : va_P D zCl [(h0, .inr (4, [.long 0, .int 0, .ref q1, .ref q2, .ref q3, .ref q4, .ref q5, .ref q6, .ref q7])), (q1, .inl (cI 0, 60, .inl (fun _ => zI 0))), (q2, .inl (cI 0, 60, .inl (fun _ => zI 0))), (q3, .inl (cI 0, 60, .inl (fun _ => zI 0))), (q4, .inl (cI 0, 60, .inl (fun _ => zI 0))), (q5, .inl (cI 0, 60, .inl (fun _ => zI 0))), (q6, .inl (cI 0, 60, .inl (fun _ => zI 0))), (q7, .inl (cI 0, 60, .inl (fun _ => zI 0)))] H := hP
  have hD : va_D A [(h0, .inr (4, [.long 0, .int 0, .ref q1, .ref q2, .ref q3, .ref q4, .ref q5, .ref q6, .ref q7])), (q1, .inl (cI 0, 60, .inl (fun _ => zI 0))), (q2, .inl (cI 0, 60, .inl (fun _ => zI 0))), (q3, .inl (cI 0, 60, .inl (fun _ => zI 0))), (q4, .inl (cI 0, 60, .inl (fun _ => zI 0))), (q5, .inl (cI 0, 60, .inl (fun _ => zI 0))), (q6, .inl (cI 0, 60, .inl (fun _ => zI 0))), (q7, .inl (cI 0, 60, .inl (fun _ => zI 0)))] := hD
  refine lv_aload_n hx hb d_Pe_init_60 rfl (lv_at hl 0 rfl) ?_
  refine lv_lload_n hx hb d_Pe_init_61 rfl (lv_at hl 1 rfl) ?_
  refine zc_put (v := .long sd) (ty := .long) hF iw_Pe ty_Pe tyo_Pe n_Pe hini hK hP hD hS 0 rfl rfl 0 (by decide) tw_108 rfl rfl (by decide +kernel) rfl rfl (Nat.le_of_ble_eq_true rfl) d_Pe_init_62 (fun H locs hP hD hS => ?_)
  have hP : va_P D zCl [(h0, .inr (4, [.long sd, .int 0, .ref q1, .ref q2, .ref q3, .ref q4, .ref q5, .ref q6, .ref q7])), (q1, .inl (cI 0, 60, .inl (fun _ => zI 0))), (q2, .inl (cI 0, 60, .inl (fun _ => zI 0))), (q3, .inl (cI 0, 60, .inl (fun _ => zI 0))), (q4, .inl (cI 0, 60, .inl (fun _ => zI 0))), (q5, .inl (cI 0, 60, .inl (fun _ => zI 0))), (q6, .inl (cI 0, 60, .inl (fun _ => zI 0))), (q7, .inl (cI 0, 60, .inl (fun _ => zI 0)))] H := hP
  have hD : va_D A [(h0, .inr (4, [.long sd, .int 0, .ref q1, .ref q2, .ref q3, .ref q4, .ref q5, .ref q6, .ref q7])), (q1, .inl (cI 0, 60, .inl (fun _ => zI 0))), (q2, .inl (cI 0, 60, .inl (fun _ => zI 0))), (q3, .inl (cI 0, 60, .inl (fun _ => zI 0))), (q4, .inl (cI 0, 60, .inl (fun _ => zI 0))), (q5, .inl (cI 0, 60, .inl (fun _ => zI 0))), (q6, .inl (cI 0, 60, .inl (fun _ => zI 0))), (q7, .inl (cI 0, 60, .inl (fun _ => zI 0)))] := hD
  exact zc_ret (av := [.long sd]) (ad := fun k => match k with | 0 => h0 | 1 => q1 | 2 => q2 | 3 => q3 | 4 => q4 | 5 => q5 | 6 => q6 | _ => q7) hx hb hr hlk hAe rfl hP hD hS d_Pe_init_65

/-! The constructor of the class -/
theorem zK.cNI {D : va_G} {cI : Nat → ClassId} {s : State} {args : Array Value} {R rm : Room} {own host : String} {index maxL mc ms : Nat} {y : MethodName} {bytes : ByteArray} (hK : zK D cI s) (n : Nat) (h1 : Cond.code y bytes maxL none ∈ lw_tbl) (h2 : Cond.methodLinkNest own index y host ∈ lw_tbl) (h3 : Cond.initialized y.cls ∈ lw_tbl) (h4 : Cond.instanceMethod y ∈ lw_tbl) (hi : y.name = "<init>")
    (hd : y.cls ≠ "java/lang/invoke/MethodHandle" ∧ y.cls ≠ "java/lang/invoke/VarHandle" ∧ (parseMethodDescriptor y.desc).map (fun d => d.parameters.length) = some n) (hrc : rm.cells = mc) (hrs : rm.slots = ms) (hR : rm.frames + 1 ≤ R.frames ∧ 8 + (maxL + 11) + rm.locals ≤ R.locals) :
    va_CN R s args own index y host bytes maxL none [.code y bytes maxL none] rm mc ms n ∧ y.name = "<init>" ∧ (Cond.instanceMethod y).before args s = true :=
  ⟨va_cnB (Ts := [.code y bytes maxL none]) n (fun w hw => by rw [List.mem_singleton.mp hw]; exact hK.w h1 rfl) (fun w hw => ⟨hw, by rw [List.mem_singleton.mp hw]; exact Or.inl rfl⟩) rfl hrc hrs (hK.nm h2) (hK.w h3 rfl) hd hR, hi, hK.w h4 rfl⟩
theorem zK.cI' {D : va_G} {cI : Nat → ClassId} {s : State} {args : Array Value} {R rm : Room} {own : String} {index maxL mc ms : Nat} {y : MethodName} {bytes : ByteArray} (hK : zK D cI s) (n : Nat) (h1 : Cond.code y bytes maxL none ∈ lw_tbl) (h2 : Cond.methodLink own index y ∈ lw_tbl) (h3 : Cond.initialized y.cls ∈ lw_tbl) (h4 : Cond.instanceMethod y ∈ lw_tbl) (hi : y.name = "<init>")
    (hd : y.cls ≠ "java/lang/invoke/MethodHandle" ∧ y.cls ≠ "java/lang/invoke/VarHandle" ∧ (parseMethodDescriptor y.desc).map (fun d => d.parameters.length) = some n) (hrc : rm.cells = mc) (hrs : rm.slots = ms) (hR : rm.frames + 1 ≤ R.frames ∧ 8 + (maxL + 11) + rm.locals ≤ R.locals) :
    CallB R s args own index y bytes maxL none [.code y bytes maxL none] rm mc ms n ∧ y.name = "<init>" ∧ (Cond.instanceMethod y).before args s = true :=
  ⟨hK.cB n h1 h2 h3 hd hrc hrs hR, hi, hK.w h4 rfl⟩
set_option maxHeartbeats 4000000 in
set_option maxRecDepth 100000 in
theorem k_PS_init (l : Launch) (D : va_G) (cI : Nat → ClassId) (h0 sz : Nat) (sd : Int64) : zN l y_PS_init (.code y_PS_init c_PS_init 3 none) { frames := 2, cells := 25, slots := 6313, locals := 44 } D cI h0 sz 0 [.null, .null, .null, .null, .int 0, .int 0, .int 0] [.long sd] (xL sd) xM0 25 6313 := by
  refine zn_of (cc := c_PS_init) (maxL := 3) (own := "PersonSeeds") (by decide) rfl rfl (Nat.le_of_ble_eq_true rfl) ?_
  intro p e s m below meth c ls A hF hr hini hAe hA hP hD hK hl
  obtain ⟨hx, hb, hml, hown, hlk⟩ := id hF
  have hS : va_S A s.heap s.heap [] := va_S.rf
  have hl : lv_has ls 3 [(0, .ref h0), (1, .long sd)] := hl
  refine lv_aload_n hx hb d_PS_init_0 rfl (lv_at hl 0 rfl) ?_
  refine zc_obj hF hK tw_19 hl.1 rfl d_PS_init_1 (Nat.le_of_ble_eq_true rfl) (Nat.le_of_ble_eq_true rfl) ?_
  refine lv_aload_n hx hb d_PS_init_4 rfl (lv_at hl 0 rfl) ?_
  refine zc_new (ci := 1) (fs := [.int 0, .null, .null, .null, .null]) hF iw_Ro ty_Ro tyo_Ro hK tw_22 tw_23 tw_2 hP hD hS hA rfl (fun j hj => by rcases (show j = 0 ∨ j = 1 ∨ j = 2 ∨ j = 3 ∨ j = 4 by omega) with rfl | rfl | rfl | rfl | rfl <;> rfl) (Nat.le_of_ble_eq_true rfl) (Nat.le_of_ble_eq_true rfl) d_PS_init_5 (fun q_Ro H hP hD hS => ?_)
  refine W.widen (k := 1) (n := 5) (Nat.le_of_ble_eq_true rfl) (Nat.le_of_ble_eq_true rfl) ?_
  refine lv_dup hx hb d_PS_init_8 rfl ?_
  refine zc_callN (wr := [(h0, .inr (0, [.null, .null, .null, .null, .int 0, .int 0, .int 0]))]) (rest := [.ref q_Ro, .ref h0]) hF (k_Ro_init l D cI q_Ro H.size) (hK.cNI 0 tw_26 tw_24 tw_2 tw_25 rfl (by decide +kernel) rfl rfl ⟨Nat.le_of_ble_eq_true rfl, Nat.le_of_ble_eq_true rfl⟩) hK hP hD hS hA rfl hl.1 rfl (Nat.le_of_ble_eq_true rfl) d_PS_init_9 ⟨Nat.le_of_ble_eq_true rfl, Nat.le_of_ble_eq_true rfl⟩ (fun adR H locs had hP hD hS => ?_)
  refine W.widen (k := 5) (n := 53) (Nat.le_of_ble_eq_true rfl) (Nat.le_of_ble_eq_true rfl) ?_
  rw [← had]
  refine zc_put (v := .ref (adR 0)) (ty := .object "PersonSeeds$Rooms") hF iw_PS ty_PS tyo_PS n_PS hini hK hP hD hS 0 rfl rfl 0 (by decide) tw_144 rfl rfl (by decide +kernel) rfl rfl (Nat.le_of_ble_eq_true rfl) d_PS_init_12 (fun H locs hP hD hS => ?_)
  have hP : va_P D zCl ([(h0, .inr (0, [.ref (adR 0), .null, .null, .null, .int 0, .int 0, .int 0]))] ++ zW adR cI zM0 0 roL) H := hP
  have hD : va_D A ([(h0, .inr (0, [.ref (adR 0), .null, .null, .null, .int 0, .int 0, .int 0]))] ++ zW adR cI zM0 0 roL) := hD
  refine lv_aload_n hx hb d_PS_init_15 rfl (lv_at hl 0 rfl) ?_
  refine zc_new (ci := 2) (fs := [.int 0, .null, .null, .null, .null, .null, .null, .null]) hF iw_Do ty_Do tyo_Do hK tw_49 tw_50 tw_3 hP hD hS hA rfl (fun j hj => by rcases (show j = 0 ∨ j = 1 ∨ j = 2 ∨ j = 3 ∨ j = 4 ∨ j = 5 ∨ j = 6 ∨ j = 7 by omega) with rfl | rfl | rfl | rfl | rfl | rfl | rfl | rfl <;> rfl) (Nat.le_of_ble_eq_true rfl) (Nat.le_of_ble_eq_true rfl) d_PS_init_16 (fun q_Do H hP hD hS => ?_)
  refine W.widen (k := 6) (n := 61) (Nat.le_of_ble_eq_true rfl) (Nat.le_of_ble_eq_true rfl) ?_
  refine lv_dup hx hb d_PS_init_19 rfl ?_
  refine zc_callN (wr := [(h0, .inr (0, [.ref (adR 0), .null, .null, .null, .int 0, .int 0, .int 0]))] ++ zW adR cI zM0 0 roL) (rest := [.ref q_Do, .ref h0]) hF (k_Do_init l D cI q_Do H.size) (hK.cNI 0 tw_53 tw_51 tw_3 tw_52 rfl (by decide +kernel) rfl rfl ⟨Nat.le_of_ble_eq_true rfl, Nat.le_of_ble_eq_true rfl⟩) hK hP hD hS hA rfl hl.1 rfl (Nat.le_of_ble_eq_true rfl) d_PS_init_20 ⟨Nat.le_of_ble_eq_true rfl, Nat.le_of_ble_eq_true rfl⟩ (fun adD H locs had hP hD hS => ?_)
  refine W.widen (k := 13) (n := 301) (Nat.le_of_ble_eq_true rfl) (Nat.le_of_ble_eq_true rfl) ?_
  rw [← had]
  refine zc_put (v := .ref (adD 0)) (ty := .object "PersonSeeds$Doors") hF iw_PS ty_PS tyo_PS n_PS hini hK hP hD hS 0 rfl rfl 1 (by decide) tw_145 rfl rfl (by decide +kernel) rfl rfl (Nat.le_of_ble_eq_true rfl) d_PS_init_23 (fun H locs hP hD hS => ?_)
  have hP : va_P D zCl ([(h0, .inr (0, [.ref (adR 0), .ref (adD 0), .null, .null, .int 0, .int 0, .int 0]))] ++ zW adR cI zM0 0 roL ++ zW adD cI doM 0 doL) H := hP
  have hD : va_D A ([(h0, .inr (0, [.ref (adR 0), .ref (adD 0), .null, .null, .int 0, .int 0, .int 0]))] ++ zW adR cI zM0 0 roL ++ zW adD cI doM 0 doL) := hD
  refine lv_aload_n hx hb d_PS_init_26 rfl (lv_at hl 0 rfl) ?_
  refine zc_new (ci := 3) (fs := [.null, .null, .null]) hF iw_Tr ty_Tr tyo_Tr hK tw_86 tw_87 tw_5 hP hD hS hA rfl (fun j hj => by rcases (show j = 0 ∨ j = 1 ∨ j = 2 by omega) with rfl | rfl | rfl <;> rfl) (Nat.le_of_ble_eq_true rfl) (Nat.le_of_ble_eq_true rfl) d_PS_init_27 (fun q_Tr H hP hD hS => ?_)
  refine W.widen (k := 14) (n := 304) (Nat.le_of_ble_eq_true rfl) (Nat.le_of_ble_eq_true rfl) ?_
  refine lv_dup hx hb d_PS_init_30 rfl ?_
  refine zc_callN (wr := [(h0, .inr (0, [.ref (adR 0), .ref (adD 0), .null, .null, .int 0, .int 0, .int 0]))] ++ zW adR cI zM0 0 roL ++ zW adD cI doM 0 doL) (rest := [.ref q_Tr, .ref h0]) hF (k_Tr_init l D cI q_Tr H.size) (hK.cNI 0 tw_90 tw_88 tw_5 tw_89 rfl (by decide +kernel) rfl rfl ⟨Nat.le_of_ble_eq_true rfl, Nat.le_of_ble_eq_true rfl⟩) hK hP hD hS hA rfl hl.1 rfl (Nat.le_of_ble_eq_true rfl) d_PS_init_31 ⟨Nat.le_of_ble_eq_true rfl, Nat.le_of_ble_eq_true rfl⟩ (fun adT H locs had hP hD hS => ?_)
  refine W.widen (k := 17) (n := 5884) (Nat.le_of_ble_eq_true rfl) (Nat.le_of_ble_eq_true rfl) ?_
  rw [← had]
  refine zc_put (v := .ref (adT 0)) (ty := .object "PersonSeeds$Trails") hF iw_PS ty_PS tyo_PS n_PS hini hK hP hD hS 0 rfl rfl 2 (by decide) tw_146 rfl rfl (by decide +kernel) rfl rfl (Nat.le_of_ble_eq_true rfl) d_PS_init_34 (fun H locs hP hD hS => ?_)
  have hP : va_P D zCl ([(h0, .inr (0, [.ref (adR 0), .ref (adD 0), .ref (adT 0), .null, .int 0, .int 0, .int 0]))] ++ zW adR cI zM0 0 roL ++ zW adD cI doM 0 doL ++ zW adT cI zM0 0 trL) H := hP
  have hD : va_D A ([(h0, .inr (0, [.ref (adR 0), .ref (adD 0), .ref (adT 0), .null, .int 0, .int 0, .int 0]))] ++ zW adR cI zM0 0 roL ++ zW adD cI doM 0 doL ++ zW adT cI zM0 0 trL) := hD
  refine lv_aload_n hx hb d_PS_init_37 rfl (lv_at hl 0 rfl) ?_
  refine zc_new (ci := 4) (fs := [.long 0, .int 0, .null, .null, .null, .null, .null, .null, .null]) hF iw_Pe ty_Pe tyo_Pe hK tw_102 tw_103 tw_6 hP hD hS hA rfl (fun j hj => by rcases (show j = 0 ∨ j = 1 ∨ j = 2 ∨ j = 3 ∨ j = 4 ∨ j = 5 ∨ j = 6 ∨ j = 7 ∨ j = 8 by omega) with rfl | rfl | rfl | rfl | rfl | rfl | rfl | rfl | rfl <;> rfl) (Nat.le_of_ble_eq_true rfl) (Nat.le_of_ble_eq_true rfl) d_PS_init_38 (fun q_Pe H hP hD hS => ?_)
  refine W.widen (k := 18) (n := 5893) (Nat.le_of_ble_eq_true rfl) (Nat.le_of_ble_eq_true rfl) ?_
  refine lv_dup hx hb d_PS_init_41 rfl ?_
  refine lv_lload_n hx hb d_PS_init_42 rfl (lv_at hl 1 rfl) ?_
  refine zc_callN (wr := [(h0, .inr (0, [.ref (adR 0), .ref (adD 0), .ref (adT 0), .null, .int 0, .int 0, .int 0]))] ++ zW adR cI zM0 0 roL ++ zW adD cI doM 0 doL ++ zW adT cI zM0 0 trL) (rest := [.ref q_Pe, .ref h0]) hF (k_Pe_init l D cI q_Pe H.size sd) (hK.cNI 1 tw_106 tw_104 tw_6 tw_105 rfl (by decide +kernel) rfl rfl ⟨Nat.le_of_ble_eq_true rfl, Nat.le_of_ble_eq_true rfl⟩) hK hP hD hS hA rfl hl.1 rfl (Nat.le_of_ble_eq_true rfl) d_PS_init_43 ⟨Nat.le_of_ble_eq_true rfl, Nat.le_of_ble_eq_true rfl⟩ (fun adP H locs had hP hD hS => ?_)
  refine W.widen (k := 25) (n := 6313) (Nat.le_of_ble_eq_true rfl) (Nat.le_of_ble_eq_true rfl) ?_
  rw [← had]
  refine zc_put (v := .ref (adP 0)) (ty := .object "PersonSeeds$Persons") hF iw_PS ty_PS tyo_PS n_PS hini hK hP hD hS 0 rfl rfl 3 (by decide) tw_147 rfl rfl (by decide +kernel) rfl rfl (Nat.le_of_ble_eq_true rfl) d_PS_init_46 (fun H locs hP hD hS => ?_)
  have hP : va_P D zCl ([(h0, .inr (0, [.ref (adR 0), .ref (adD 0), .ref (adT 0), .ref (adP 0), .int 0, .int 0, .int 0]))] ++ zW adR cI zM0 0 roL ++ zW adD cI doM 0 doL ++ zW adT cI zM0 0 trL ++ zW adP cI zM0 0 (peL sd)) H := hP
  have hD : va_D A ([(h0, .inr (0, [.ref (adR 0), .ref (adD 0), .ref (adT 0), .ref (adP 0), .int 0, .int 0, .int 0]))] ++ zW adR cI zM0 0 roL ++ zW adD cI doM 0 doL ++ zW adT cI zM0 0 trL ++ zW adP cI zM0 0 (peL sd)) := hD
  have hP9 := hP.sub (ws' := zW (fun k => match k with | 0 => h0 | 1 => adR 0 | 2 => adD 0 | 3 => adT 0 | 4 => adP 0 | 5 => adR 1 | 6 => adR 2 | 7 => adR 3 | 8 => adR 4 | 9 => adD 1 | 10 => adD 2 | 11 => adD 3 | 12 => adD 4 | 13 => adD 5 | 14 => adD 6 | 15 => adD 7 | 16 => adT 1 | 17 => adT 2 | 18 => adT 3 | 19 => adP 1 | 20 => adP 2 | 21 => adP 3 | 22 => adP 4 | 23 => adP 5 | 24 => adP 6 | _ => adP 7) cI xM0 0 (xL sd)) [0, 1, 6, 14, 18, 2, 3, 4, 5, 7, 8, 9, 10, 11, 12, 13, 15, 16, 17, 19, 20, 21, 22, 23, 24, 25] rfl
  have hD9 := hD.sub (ws' := zW (fun k => match k with | 0 => h0 | 1 => adR 0 | 2 => adD 0 | 3 => adT 0 | 4 => adP 0 | 5 => adR 1 | 6 => adR 2 | 7 => adR 3 | 8 => adR 4 | 9 => adD 1 | 10 => adD 2 | 11 => adD 3 | 12 => adD 4 | 13 => adD 5 | 14 => adD 6 | 15 => adD 7 | 16 => adT 1 | 17 => adT 2 | 18 => adT 3 | 19 => adP 1 | 20 => adP 2 | 21 => adP 3 | 22 => adP 4 | 23 => adP 5 | 24 => adP 6 | _ => adP 7) cI xM0 0 (xL sd)) [0, 1, 6, 14, 18, 2, 3, 4, 5, 7, 8, 9, 10, 11, 12, 13, 15, 16, 17, 19, 20, 21, 22, 23, 24, 25] (by decide) rfl
  exact zc_ret (av := [.long sd]) hx hb hr hlk hAe rfl hP9 hD9 hS d_PS_init_49

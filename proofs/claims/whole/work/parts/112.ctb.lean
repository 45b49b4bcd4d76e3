/-! The constructor of Doors -/
section ZCTA
variable {p : Program} {l : Launch} {e : Env} {R : Room} {s : State} {m : MethodId} {args : Array Value} {below : List Frame} {meth : Method} {c : Code} {H : Heap} {locs : List Loc} {cells slots : Nat} {Q : State → Prop}
variable {cc : ByteArray} {pc : Nat} {ls : Array Slot} {rest : List Value}
variable {D : va_G} {L : List zC} {ad : Nat → Nat} {cI : Nat → ClassId} {M : zM} {H0 : Heap} {A : Nat → Prop}
theorem zD_M {M' : zM} (h : va_D A (zW ad cI M 0 L)) : va_D A (zW ad cI M' 0 L) := by
  have key : ∀ (k : Nat) (q : Nat × va_E), (zW ad cI M' 0 L)[k]? = some q → ∃ x, (zW ad cI M 0 L)[k]? = some (q.1, x) := by
    intro k q hq
    rw [zW_at] at hq
    rw [zW_at]
    cases hd : L[k]? with
    | none => rw [hd] at hq; cases hq
    | some d =>
      rw [hd] at hq
      refine ⟨zE ad cI M (0 + k) d, ?_⟩
      have hq : (ad (0 + k), zE ad cI M' (0 + k) d) = q := Option.some.inj hq
      rw [← hq]
      rfl
  refine ⟨fun i j x y hi hj hxy => ?_, fun k q hq => ?_⟩
  · obtain ⟨a, ha⟩ := key i x hi
    obtain ⟨b, hb⟩ := key j y hj
    exact h.1 i j _ _ ha hb hxy
  · obtain ⟨a, ha⟩ := key k q hq
    exact h.2 k (q.1, a) ha
theorem zX.in (h : zX D L ad cI M H) (hAz : va_D A (zW ad cI M 0 L)) : ∀ q, zA ad L q → A q := by
  intro q hq
  obtain ⟨k, hk, rfl⟩ := hq
  exact hAz.2 k _ (zW_is (List.getElem?_eq_getElem hk))
theorem z_iastA (hx : p.tables.exec = Jvm.exec) (hb : c.code = cc) (hK : zK D cI s) (hX : zX D L ad cI M H) (hAz : ∀ q, zA ad L q → A q) (hS : va_S A H0 H locs) (k : Nat) {n : Nat} (hk : L[k]? = some (.inr (0, n))) {i v : Int} (hi : 0 ≤ i ∧ i < n) (hn : n < 2147483648) (hv : -2147483648 ≤ v ∧ v ≤ 2147483647) (hdg : decode cc pc = .ok (.iastore, 1))
    (kk : ∀ (H1 : Heap) (locs1 : List Loc), zX D L ad cI (zU M k i v) H1 → va_S A H0 H1 locs1 → W p l e R s m args below meth c H1 locs1 cells slots Q (F0 m (pc + 1) ls rest)) : W p l e R s m args below meth c H locs cells slots Q (F0 m pc ls (.int (zI v) :: .int (zI i) :: .ref (ad k) :: rest)) := by
  refine va_iast hx hb hK.1 hX.1 (hX.2.1.weaken (fun _ _ _ h => hAz _ h)) hS k 0 (zW_is hk) rfl (zI_in hi hn) hdg (fun H1 locs1 hP hD hS1 => ?_)
  have e : (zW ad cI M 0 L).set k (ad k, .inl (cI 0, n, .inl (upd (fun q => zI (M k (q : Int))) (zI i).toNatClampNeg (zI v)))) = zW ad cI (zU M k i v) 0 L := by
    refine zW_put hk ?_ (fun j hj => zU_k hj)
    simp only [zE]
    congr 4
    funext q
    rw [zI_cl hi hn]
    unfold upd
    by_cases hq : q = i.toNat
    · rw [if_pos hq, show (q : Int) = i by omega, zU_s]
    · rw [if_neg hq, zU_n (by omega)]
  rw [e] at hP
  exact kk H1 locs1 ⟨hP, zD_M hX.2.1, zU_rg hX.2.2 hv⟩ hS1
variable {y : MethodName} {bytes : ByteArray} {maxL nL n index : Nat} {ret : Option FieldType} {rm : Room} {own : String} {As st0 : List Value}
theorem z_callSvA {post : zM → Prop} (hF : zB p s m meth c cc nL own) (hM : zMv l y (.code y bytes maxL ret) rm D L ad cI M As post) (cw : CallB R s args own index y bytes maxL ret [.code y bytes maxL ret] rm 0 0 n ∧ (Cond.static y).before args s = true) (hK : zK D cI s) (hX : zX D L ad cI M H) (hAz : ∀ q, zA ad L q → A q) (hS : va_S A H0 H locs) (hn : As.length = n) (hls : ls.size = nL) (hst : st0 = As.reverse ++ rest) (hro : (rest.map fun v => v.category).sum ≤ 8) (hdg : decode cc pc = .ok (.invokestatic index, 3)) (hf : cells ≤ R.cells ∧ slots ≤ R.slots)
    (kk : ∀ (u : zM) (H1 : Heap) (locs1 : List Loc), post u → zX D L ad cI u H1 → va_S A H0 H1 locs1 → W p l e R s m args below meth c H1 locs1 cells slots Q (F0 m (pc + 3) ls rest)) : W p l e R s m args below meth c H locs cells slots Q (F0 m pc ls st0) := by
  refine va_callv (va_runS (As := As) (rest := rest) (Ts := []) ⟨hF.1, hF.2.1, hF.2.2.1, hF.2.2.2.1, fun _ h => nomatch h⟩ hM cw ⟨z_blind, fun U hU hW => ⟨rfl, by rw [hU]; exact hX, zK.warm hW hK⟩⟩ rfl hn hls hst (lv_room hro) hdg hf) hS (fun q _ h => hAz q h) (fun q h => hAz q h) (fun u t H1 locs1 ht hvm hp hB _ _ hS1 => ?_)
  exact kk u H1 locs1 hp (by rw [← ht]; exact hB) hS1
end ZCTA
def doMk (k : Nat) : zM := fun c i => if c = 7 ∧ 0 ≤ i ∧ i < 144 then (if i / 12 = i % 12 ∧ i / 12 < (k : Int) then 0 else 1000) else 0
def doM : zM := fun k i => if k = 7 then xM0 15 i else 0
theorem doMk_0 : xFill zM0 7 144 1000 = doMk 0 := by
  funext c i
  unfold xFill doMk zM0
  by_cases h : c = 7 ∧ 0 ≤ i ∧ i < 144
  · rw [if_pos (show c = 7 ∧ 0 ≤ i ∧ i < ((144 : Nat) : Int) from h), if_pos h, if_neg (by omega)]
  · rw [if_neg (show ¬ (c = 7 ∧ 0 ≤ i ∧ i < ((144 : Nat) : Int)) from h), if_neg h]
theorem doMk_s {k : Nat} (hk : k < 12) : zU (doMk k) 7 ((k : Int) * 12 + k) 0 = doMk (k + 1) := by
  funext c i
  unfold zU doMk
  by_cases h : c = 7 ∧ i = (k : Int) * 12 + k
  · rw [if_pos h, if_pos (by omega), if_pos (by omega)]
  · rw [if_neg h]
    by_cases h2 : c = 7 ∧ 0 ≤ i ∧ i < 144
    · rw [if_pos h2, if_pos h2]
      by_cases h3 : i / 12 = i % 12 ∧ i / 12 < (k : Int)
      · rw [if_pos h3, if_pos (by omega)]
      · rw [if_neg h3, if_neg (by omega)]
    · rw [if_neg h2, if_neg h2]
theorem doMk_12 : doMk 12 = doM := by
  funext c i
  unfold doMk doM xM0
  by_cases h : c = 7
  · rw [if_pos h, if_pos rfl]
    by_cases h2 : 0 ≤ i ∧ i < 144
    · rw [if_pos ⟨h, h2⟩, if_pos h2]
      by_cases h3 : i / 12 = i % 12
      · rw [if_pos (by omega), if_pos h3]
      · rw [if_neg (by omega), if_neg h3]
    · rw [if_neg (fun q => h2 q.2), if_neg h2]
  · rw [if_neg (fun q => h q.1), if_neg h]
set_option maxHeartbeats 4000000 in
set_option maxRecDepth 100000 in
theorem k_Do_init (l : Launch) (D : va_G) (cI : Nat → ClassId) (h0 sz : Nat) : zN l y_Do_init (.code y_Do_init c_Do_init 2 none) { frames := 1, cells := 7, slots := 240, locals := 23 } D cI h0 sz 2 [.int 0, .null, .null, .null, .null, .null, .null, .null] [] doL doM 7 240 := by
  refine zn_of (cc := c_Do_init) (maxL := 2) (own := "PersonSeeds$Doors") (by decide) rfl rfl (Nat.le_of_ble_eq_true rfl) ?_
  intro p e s m below meth c ls A hF hr hini hAe hA hP hD hK hl
  obtain ⟨hx, hb, hml, hown, hlk⟩ := id hF
  have hS : va_S A s.heap s.heap [] := va_S.rf
  have hl : lv_has ls 2 [(0, .ref h0)] := hl
  refine lv_aload_n hx hb d_Do_init_0 rfl (lv_at hl 0 rfl) ?_
  refine zc_obj hF hK tw_54 hl.1 rfl d_Do_init_1 (Nat.le_of_ble_eq_true rfl) (Nat.le_of_ble_eq_true rfl) ?_
  refine lv_aload_n hx hb d_Do_init_4 rfl (lv_at hl 0 rfl) ?_
  refine z_bipush hx hb d_Do_init_5 (by decide) ?_
  refine zc_newi (N := 16) hx hb hK hP hD hS hA rfl (by decide) (Nat.le_of_ble_eq_true rfl) (Nat.le_of_ble_eq_true rfl) d_Do_init_7 (fun q1 H hP hD hS => ?_)
  have hP : va_P D zCl [(h0, .inr (2, [.int 0, .null, .null, .null, .null, .null, .null, .null])), (q1, .inl (cI 0, 16, .inl (fun _ => zI 0)))] H := hP
  have hD : va_D A [(h0, .inr (2, [.int 0, .null, .null, .null, .null, .null, .null, .null])), (q1, .inl (cI 0, 16, .inl (fun _ => zI 0)))] := hD
  refine W.widen (k := 1) (n := 16) (Nat.le_of_ble_eq_true rfl) (Nat.le_of_ble_eq_true rfl) ?_
  refine zc_put (v := .ref q1) (ty := .array .int) hF iw_Do ty_Do tyo_Do n_Do hini hK hP hD hS 0 rfl rfl 1 (by decide) tw_60 rfl rfl (by decide +kernel) rfl rfl (Nat.le_of_ble_eq_true rfl) d_Do_init_9 (fun H locs hP hD hS => ?_)
  have hP : va_P D zCl [(h0, .inr (2, [.int 0, .ref q1, .null, .null, .null, .null, .null, .null])), (q1, .inl (cI 0, 16, .inl (fun _ => zI 0)))] H := hP
  have hD : va_D A [(h0, .inr (2, [.int 0, .ref q1, .null, .null, .null, .null, .null, .null])), (q1, .inl (cI 0, 16, .inl (fun _ => zI 0)))] := hD
  refine lv_aload_n hx hb d_Do_init_12 rfl (lv_at hl 0 rfl) ?_
  refine z_bipush hx hb d_Do_init_13 (by decide) ?_
  refine zc_newi (N := 16) hx hb hK hP hD hS hA rfl (by decide) (Nat.le_of_ble_eq_true rfl) (Nat.le_of_ble_eq_true rfl) d_Do_init_15 (fun q2 H hP hD hS => ?_)
  have hP : va_P D zCl [(h0, .inr (2, [.int 0, .ref q1, .null, .null, .null, .null, .null, .null])), (q1, .inl (cI 0, 16, .inl (fun _ => zI 0))), (q2, .inl (cI 0, 16, .inl (fun _ => zI 0)))] H := hP
  have hD : va_D A [(h0, .inr (2, [.int 0, .ref q1, .null, .null, .null, .null, .null, .null])), (q1, .inl (cI 0, 16, .inl (fun _ => zI 0))), (q2, .inl (cI 0, 16, .inl (fun _ => zI 0)))] := hD
  refine W.widen (k := 2) (n := 32) (Nat.le_of_ble_eq_true rfl) (Nat.le_of_ble_eq_true rfl) ?_
  refine zc_put (v := .ref q2) (ty := .array .int) hF iw_Do ty_Do tyo_Do n_Do hini hK hP hD hS 0 rfl rfl 2 (by decide) tw_61 rfl rfl (by decide +kernel) rfl rfl (Nat.le_of_ble_eq_true rfl) d_Do_init_17 (fun H locs hP hD hS => ?_)
  have hP : va_P D zCl [(h0, .inr (2, [.int 0, .ref q1, .ref q2, .null, .null, .null, .null, .null])), (q1, .inl (cI 0, 16, .inl (fun _ => zI 0))), (q2, .inl (cI 0, 16, .inl (fun _ => zI 0)))] H := hP
  have hD : va_D A [(h0, .inr (2, [.int 0, .ref q1, .ref q2, .null, .null, .null, .null, .null])), (q1, .inl (cI 0, 16, .inl (fun _ => zI 0))), (q2, .inl (cI 0, 16, .inl (fun _ => zI 0)))] := hD
  refine lv_aload_n hx hb d_Do_init_20 rfl (lv_at hl 0 rfl) ?_
  refine z_bipush hx hb d_Do_init_21 (by decide) ?_
  refine zc_newi (N := 16) hx hb hK hP hD hS hA rfl (by decide) (Nat.le_of_ble_eq_true rfl) (Nat.le_of_ble_eq_true rfl) d_Do_init_23 (fun q3 H hP hD hS => ?_)
  have hP : va_P D zCl [(h0, .inr (2, [.int 0, .ref q1, .ref q2, .null, .null, .null, .null, .null])), (q1, .inl (cI 0, 16, .inl (fun _ => zI 0))), (q2, .inl (cI 0, 16, .inl (fun _ => zI 0))), (q3, .inl (cI 0, 16, .inl (fun _ => zI 0)))] H := hP
  have hD : va_D A [(h0, .inr (2, [.int 0, .ref q1, .ref q2, .null, .null, .null, .null, .null])), (q1, .inl (cI 0, 16, .inl (fun _ => zI 0))), (q2, .inl (cI 0, 16, .inl (fun _ => zI 0))), (q3, .inl (cI 0, 16, .inl (fun _ => zI 0)))] := hD
  refine W.widen (k := 3) (n := 48) (Nat.le_of_ble_eq_true rfl) (Nat.le_of_ble_eq_true rfl) ?_
  refine zc_put (v := .ref q3) (ty := .array .int) hF iw_Do ty_Do tyo_Do n_Do hini hK hP hD hS 0 rfl rfl 3 (by decide) tw_62 rfl rfl (by decide +kernel) rfl rfl (Nat.le_of_ble_eq_true rfl) d_Do_init_25 (fun H locs hP hD hS => ?_)
  have hP : va_P D zCl [(h0, .inr (2, [.int 0, .ref q1, .ref q2, .ref q3, .null, .null, .null, .null])), (q1, .inl (cI 0, 16, .inl (fun _ => zI 0))), (q2, .inl (cI 0, 16, .inl (fun _ => zI 0))), (q3, .inl (cI 0, 16, .inl (fun _ => zI 0)))] H := hP
  have hD : va_D A [(h0, .inr (2, [.int 0, .ref q1, .ref q2, .ref q3, .null, .null, .null, .null])), (q1, .inl (cI 0, 16, .inl (fun _ => zI 0))), (q2, .inl (cI 0, 16, .inl (fun _ => zI 0))), (q3, .inl (cI 0, 16, .inl (fun _ => zI 0)))] := hD
  refine lv_aload_n hx hb d_Do_init_28 rfl (lv_at hl 0 rfl) ?_
  refine z_bipush hx hb d_Do_init_29 (by decide) ?_
  refine zc_newi (N := 16) hx hb hK hP hD hS hA rfl (by decide) (Nat.le_of_ble_eq_true rfl) (Nat.le_of_ble_eq_true rfl) d_Do_init_31 (fun q4 H hP hD hS => ?_)
  have hP : va_P D zCl [(h0, .inr (2, [.int 0, .ref q1, .ref q2, .ref q3, .null, .null, .null, .null])), (q1, .inl (cI 0, 16, .inl (fun _ => zI 0))), (q2, .inl (cI 0, 16, .inl (fun _ => zI 0))), (q3, .inl (cI 0, 16, .inl (fun _ => zI 0))), (q4, .inl (cI 0, 16, .inl (fun _ => zI 0)))] H := hP
  have hD : va_D A [(h0, .inr (2, [.int 0, .ref q1, .ref q2, .ref q3, .null, .null, .null, .null])), (q1, .inl (cI 0, 16, .inl (fun _ => zI 0))), (q2, .inl (cI 0, 16, .inl (fun _ => zI 0))), (q3, .inl (cI 0, 16, .inl (fun _ => zI 0))), (q4, .inl (cI 0, 16, .inl (fun _ => zI 0)))] := hD
  refine W.widen (k := 4) (n := 64) (Nat.le_of_ble_eq_true rfl) (Nat.le_of_ble_eq_true rfl) ?_
  refine zc_put (v := .ref q4) (ty := .array .int) hF iw_Do ty_Do tyo_Do n_Do hini hK hP hD hS 0 rfl rfl 4 (by decide) tw_63 rfl rfl (by decide +kernel) rfl rfl (Nat.le_of_ble_eq_true rfl) d_Do_init_33 (fun H locs hP hD hS => ?_)
  have hP : va_P D zCl [(h0, .inr (2, [.int 0, .ref q1, .ref q2, .ref q3, .ref q4, .null, .null, .null])), (q1, .inl (cI 0, 16, .inl (fun _ => zI 0))), (q2, .inl (cI 0, 16, .inl (fun _ => zI 0))), (q3, .inl (cI 0, 16, .inl (fun _ => zI 0))), (q4, .inl (cI 0, 16, .inl (fun _ => zI 0)))] H := hP
  have hD : va_D A [(h0, .inr (2, [.int 0, .ref q1, .ref q2, .ref q3, .ref q4, .null, .null, .null])), (q1, .inl (cI 0, 16, .inl (fun _ => zI 0))), (q2, .inl (cI 0, 16, .inl (fun _ => zI 0))), (q3, .inl (cI 0, 16, .inl (fun _ => zI 0))), (q4, .inl (cI 0, 16, .inl (fun _ => zI 0)))] := hD
  refine lv_aload_n hx hb d_Do_init_36 rfl (lv_at hl 0 rfl) ?_
  refine z_bipush hx hb d_Do_init_37 (by decide) ?_
  refine zc_newi (N := 16) hx hb hK hP hD hS hA rfl (by decide) (Nat.le_of_ble_eq_true rfl) (Nat.le_of_ble_eq_true rfl) d_Do_init_39 (fun q5 H hP hD hS => ?_)
  have hP : va_P D zCl [(h0, .inr (2, [.int 0, .ref q1, .ref q2, .ref q3, .ref q4, .null, .null, .null])), (q1, .inl (cI 0, 16, .inl (fun _ => zI 0))), (q2, .inl (cI 0, 16, .inl (fun _ => zI 0))), (q3, .inl (cI 0, 16, .inl (fun _ => zI 0))), (q4, .inl (cI 0, 16, .inl (fun _ => zI 0))), (q5, .inl (cI 0, 16, .inl (fun _ => zI 0)))] H := hP
  have hD : va_D A [(h0, .inr (2, [.int 0, .ref q1, .ref q2, .ref q3, .ref q4, .null, .null, .null])), (q1, .inl (cI 0, 16, .inl (fun _ => zI 0))), (q2, .inl (cI 0, 16, .inl (fun _ => zI 0))), (q3, .inl (cI 0, 16, .inl (fun _ => zI 0))), (q4, .inl (cI 0, 16, .inl (fun _ => zI 0))), (q5, .inl (cI 0, 16, .inl (fun _ => zI 0)))] := hD
  refine W.widen (k := 5) (n := 80) (Nat.le_of_ble_eq_true rfl) (Nat.le_of_ble_eq_true rfl) ?_
  refine zc_put (v := .ref q5) (ty := .array .int) hF iw_Do ty_Do tyo_Do n_Do hini hK hP hD hS 0 rfl rfl 5 (by decide) tw_65 rfl rfl (by decide +kernel) rfl rfl (Nat.le_of_ble_eq_true rfl) d_Do_init_41 (fun H locs hP hD hS => ?_)
  have hP : va_P D zCl [(h0, .inr (2, [.int 0, .ref q1, .ref q2, .ref q3, .ref q4, .ref q5, .null, .null])), (q1, .inl (cI 0, 16, .inl (fun _ => zI 0))), (q2, .inl (cI 0, 16, .inl (fun _ => zI 0))), (q3, .inl (cI 0, 16, .inl (fun _ => zI 0))), (q4, .inl (cI 0, 16, .inl (fun _ => zI 0))), (q5, .inl (cI 0, 16, .inl (fun _ => zI 0)))] H := hP
  have hD : va_D A [(h0, .inr (2, [.int 0, .ref q1, .ref q2, .ref q3, .ref q4, .ref q5, .null, .null])), (q1, .inl (cI 0, 16, .inl (fun _ => zI 0))), (q2, .inl (cI 0, 16, .inl (fun _ => zI 0))), (q3, .inl (cI 0, 16, .inl (fun _ => zI 0))), (q4, .inl (cI 0, 16, .inl (fun _ => zI 0))), (q5, .inl (cI 0, 16, .inl (fun _ => zI 0)))] := hD
  refine lv_aload_n hx hb d_Do_init_44 rfl (lv_at hl 0 rfl) ?_
  refine z_bipush hx hb d_Do_init_45 (by decide) ?_
  refine zc_newi (N := 16) hx hb hK hP hD hS hA rfl (by decide) (Nat.le_of_ble_eq_true rfl) (Nat.le_of_ble_eq_true rfl) d_Do_init_47 (fun q6 H hP hD hS => ?_)
  have hP : va_P D zCl [(h0, .inr (2, [.int 0, .ref q1, .ref q2, .ref q3, .ref q4, .ref q5, .null, .null])), (q1, .inl (cI 0, 16, .inl (fun _ => zI 0))), (q2, .inl (cI 0, 16, .inl (fun _ => zI 0))), (q3, .inl (cI 0, 16, .inl (fun _ => zI 0))), (q4, .inl (cI 0, 16, .inl (fun _ => zI 0))), (q5, .inl (cI 0, 16, .inl (fun _ => zI 0))), (q6, .inl (cI 0, 16, .inl (fun _ => zI 0)))] H := hP
  have hD : va_D A [(h0, .inr (2, [.int 0, .ref q1, .ref q2, .ref q3, .ref q4, .ref q5, .null, .null])), (q1, .inl (cI 0, 16, .inl (fun _ => zI 0))), (q2, .inl (cI 0, 16, .inl (fun _ => zI 0))), (q3, .inl (cI 0, 16, .inl (fun _ => zI 0))), (q4, .inl (cI 0, 16, .inl (fun _ => zI 0))), (q5, .inl (cI 0, 16, .inl (fun _ => zI 0))), (q6, .inl (cI 0, 16, .inl (fun _ => zI 0)))] := hD
  refine W.widen (k := 6) (n := 96) (Nat.le_of_ble_eq_true rfl) (Nat.le_of_ble_eq_true rfl) ?_
  refine zc_put (v := .ref q6) (ty := .array .int) hF iw_Do ty_Do tyo_Do n_Do hini hK hP hD hS 0 rfl rfl 6 (by decide) tw_67 rfl rfl (by decide +kernel) rfl rfl (Nat.le_of_ble_eq_true rfl) d_Do_init_49 (fun H locs hP hD hS => ?_)
  have hP : va_P D zCl [(h0, .inr (2, [.int 0, .ref q1, .ref q2, .ref q3, .ref q4, .ref q5, .ref q6, .null])), (q1, .inl (cI 0, 16, .inl (fun _ => zI 0))), (q2, .inl (cI 0, 16, .inl (fun _ => zI 0))), (q3, .inl (cI 0, 16, .inl (fun _ => zI 0))), (q4, .inl (cI 0, 16, .inl (fun _ => zI 0))), (q5, .inl (cI 0, 16, .inl (fun _ => zI 0))), (q6, .inl (cI 0, 16, .inl (fun _ => zI 0)))] H := hP
  have hD : va_D A [(h0, .inr (2, [.int 0, .ref q1, .ref q2, .ref q3, .ref q4, .ref q5, .ref q6, .null])), (q1, .inl (cI 0, 16, .inl (fun _ => zI 0))), (q2, .inl (cI 0, 16, .inl (fun _ => zI 0))), (q3, .inl (cI 0, 16, .inl (fun _ => zI 0))), (q4, .inl (cI 0, 16, .inl (fun _ => zI 0))), (q5, .inl (cI 0, 16, .inl (fun _ => zI 0))), (q6, .inl (cI 0, 16, .inl (fun _ => zI 0)))] := hD
  refine lv_aload_n hx hb d_Do_init_52 rfl (lv_at hl 0 rfl) ?_
  refine z_sipush hx hb d_Do_init_53 (by decide) ?_
  refine zc_newi (N := 144) hx hb hK hP hD hS hA rfl (by decide) (Nat.le_of_ble_eq_true rfl) (Nat.le_of_ble_eq_true rfl) d_Do_init_56 (fun q7 H hP hD hS => ?_)
  have hP : va_P D zCl [(h0, .inr (2, [.int 0, .ref q1, .ref q2, .ref q3, .ref q4, .ref q5, .ref q6, .null])), (q1, .inl (cI 0, 16, .inl (fun _ => zI 0))), (q2, .inl (cI 0, 16, .inl (fun _ => zI 0))), (q3, .inl (cI 0, 16, .inl (fun _ => zI 0))), (q4, .inl (cI 0, 16, .inl (fun _ => zI 0))), (q5, .inl (cI 0, 16, .inl (fun _ => zI 0))), (q6, .inl (cI 0, 16, .inl (fun _ => zI 0))), (q7, .inl (cI 0, 144, .inl (fun _ => zI 0)))] H := hP
  have hD : va_D A [(h0, .inr (2, [.int 0, .ref q1, .ref q2, .ref q3, .ref q4, .ref q5, .ref q6, .null])), (q1, .inl (cI 0, 16, .inl (fun _ => zI 0))), (q2, .inl (cI 0, 16, .inl (fun _ => zI 0))), (q3, .inl (cI 0, 16, .inl (fun _ => zI 0))), (q4, .inl (cI 0, 16, .inl (fun _ => zI 0))), (q5, .inl (cI 0, 16, .inl (fun _ => zI 0))), (q6, .inl (cI 0, 16, .inl (fun _ => zI 0))), (q7, .inl (cI 0, 144, .inl (fun _ => zI 0)))] := hD
  refine W.widen (k := 7) (n := 240) (Nat.le_of_ble_eq_true rfl) (Nat.le_of_ble_eq_true rfl) ?_
  refine zc_put (v := .ref q7) (ty := .array .int) hF iw_Do ty_Do tyo_Do n_Do hini hK hP hD hS 0 rfl rfl 7 (by decide) tw_68 rfl rfl (by decide +kernel) rfl rfl (Nat.le_of_ble_eq_true rfl) d_Do_init_58 (fun H locs hP hD hS => ?_)
  have hP : va_P D zCl [(h0, .inr (2, [.int 0, .ref q1, .ref q2, .ref q3, .ref q4, .ref q5, .ref q6, .ref q7])), (q1, .inl (cI 0, 16, .inl (fun _ => zI 0))), (q2, .inl (cI 0, 16, .inl (fun _ => zI 0))), (q3, .inl (cI 0, 16, .inl (fun _ => zI 0))), (q4, .inl (cI 0, 16, .inl (fun _ => zI 0))), (q5, .inl (cI 0, 16, .inl (fun _ => zI 0))), (q6, .inl (cI 0, 16, .inl (fun _ => zI 0))), (q7, .inl (cI 0, 144, .inl (fun _ => zI 0)))] H := hP
  have hD : va_D A [(h0, .inr (2, [.int 0, .ref q1, .ref q2, .ref q3, .ref q4, .ref q5, .ref q6, .ref q7])), (q1, .inl (cI 0, 16, .inl (fun _ => zI 0))), (q2, .inl (cI 0, 16, .inl (fun _ => zI 0))), (q3, .inl (cI 0, 16, .inl (fun _ => zI 0))), (q4, .inl (cI 0, 16, .inl (fun _ => zI 0))), (q5, .inl (cI 0, 16, .inl (fun _ => zI 0))), (q6, .inl (cI 0, 16, .inl (fun _ => zI 0))), (q7, .inl (cI 0, 144, .inl (fun _ => zI 0)))] := hD
  obtain ⟨ad, e0, hP, hD⟩ : ∃ ad : Nat → Nat, h0 = ad 0 ∧ va_P D zCl (zW ad cI zM0 0 doL) H ∧ va_D A (zW ad cI zM0 0 doL) := ⟨fun k => match k with | 0 => h0 | 1 => q1 | 2 => q2 | 3 => q3 | 4 => q4 | 5 => q5 | 6 => q6 | _ => q7, rfl, hP, hD⟩
  rw [e0] at hl
  have hX : zX D doL ad cI zM0 H := zX_of hP hD (fun _ _ => by unfold zM0; omega)
  have hAz := hX.in hD
  refine lv_aload_n hx hb d_Do_init_61 rfl (lv_at hl 0 rfl) ?_
  refine z_getr hx hb iw_Do hown hK hX 0 rfl rfl 7 (by decide) tw_68 (fun _ h => h) 7 rfl d_Do_init_62 ?_
  refine z_sipush hx hb d_Do_init_65 (by decide) ?_
  refine z_callSvA (A := A) hF (k_fill l D doL ad cI zM0 7 144 1000 rfl (by decide) (by omega)) (hK.cS 2 tw_57 tw_55 tw_4 tw_56 (by decide +kernel) rfl rfl ⟨Nat.le_of_ble_eq_true rfl, Nat.le_of_ble_eq_true rfl⟩) hK hX hAz hS rfl hl.1 rfl (Nat.le_of_ble_eq_true rfl) d_Do_init_68 ⟨Nat.le_of_ble_eq_true rfl, Nat.le_of_ble_eq_true rfl⟩ (fun u H locs hp hX hS => ?_)
  rw [hp, doMk_0] at hX
  refine z_const hx hb d_Do_init_71 ?_
  refine lv_istore_n (lv' := [(1, .int (zI 0)), (0, .ref (ad 0))]) hx hb d_Do_init_72 rfl hl (by decide) rfl (fun ls hl => ?_)
  have loop : ∀ (n2 : Nat) (k : Nat) (H : Heap) (locs : List Loc) (ls : Array Slot), k ≤ 12 → 12 - k < n2 → zX D doL ad cI (doMk k) H → va_S A s.heap H locs → lv_has ls 2 [(1, .int (zI (k : Int))), (0, .ref (ad 0))] → W p l e { frames := 1, cells := 7, slots := 240, locals := 23 } s m (.ref h0 :: [] : List Value).toArray below meth c H locs 7 240 (MQ below (zNQ D cI h0 sz 2 [.int 0, .null, .null, .null, .null, .null, .null, .null] doL doM) (.ref h0 :: [] : List Value).toArray s 7 240 (va_A (zO h0 2 [.int 0, .null, .null, .null, .null, .null, .null, .null]) sz)) (F0 m 73 ls []) := by
    intro n2
    induction n2 with
    | zero => intro k H locs ls hI hn; exact absurd hn (Nat.not_lt_zero _)
    | succ n2 ih =>
      intro k H locs ls hI hn hX hS hl
      refine lv_iload_n hx hb d_Do_init_73 rfl (lv_at hl 0 rfl) ?_
      refine z_bipush hx hb d_Do_init_74 (by decide) ?_
      refine z_icmp_ge (a := (k : Int)) (b := 12) (tgt := 97) hx hb d_Do_init_76 (by decide) (by omega) (fun hg => ?_) (fun hg => ?_)
      · have hk : k = 12 := by omega
        rw [hk, doMk_12] at hX
        exact zc_ret (av := []) (ad := ad) hx hb hr hlk hAe e0.symm hX.1 (zD_M hD) hS d_Do_init_97
      · refine lv_aload_n hx hb d_Do_init_79 rfl (lv_at hl 1 rfl) ?_
        refine z_getr hx hb iw_Do hown hK hX 0 rfl rfl 7 (by decide) tw_68 (fun _ h => h) 7 rfl d_Do_init_80 ?_
        refine lv_iload_n hx hb d_Do_init_83 rfl (lv_at hl 0 rfl) ?_
        refine z_bipush hx hb d_Do_init_84 (by decide) ?_
        refine z_imul hx hb d_Do_init_86 ?_
        refine lv_iload_n hx hb d_Do_init_87 rfl (lv_at hl 0 rfl) ?_
        refine z_iadd hx hb d_Do_init_88 ?_
        refine z_const hx hb d_Do_init_89 ?_
        refine z_iastA (i := (k : Int) * 12 + (k : Int)) (v := 0) hx hb hK hX hAz hS 7 rfl (by omega) (by decide) (by omega) d_Do_init_90 (fun H locs hX hS => ?_)
        rw [doMk_s (by omega)] at hX
        refine z_iinc (lv' := [(1, .int (zI ((k : Int) + 1))), (0, .ref (ad 0))]) hx hb d_Do_init_91 hl (k := 0) rfl (by decide) rfl (fun ls hl => ?_)
        refine lv_goto (tgt := 73) hx hb d_Do_init_94 (by decide) ?_
        exact ih (k + 1) _ _ _ (by omega) (by omega) hX hS hl
  exact loop _ 0 _ _ _ (by omega) (Nat.lt_succ_self _) hX hS hl

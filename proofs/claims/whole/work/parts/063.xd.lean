set_option maxHeartbeats 4000000 in
set_option maxRecDepth 100000 in
theorem k_Do_begin (l : Launch) (D : va_G) (ad : Nat → Nat) (cI : Nat → ClassId) (sd : Int64) (M : zM)  : zMv l y_Do_beginMinute (.code y_Do_beginMinute c_Do_beginMinute 1 (none)) { frames := 1, cells := 0, slots := 0, locals := 23 } D (xL sd) ad cI M [.ref (ad 2)] (fun u => u = xFill M 14 16 0) := by
  refine z_of (cc := c_Do_beginMinute) (maxL := 1) (ret := none) (own := "PersonSeeds$Doors") (by decide) rfl rfl (Nat.le_of_ble_eq_true rfl) ?_
  intro p e s m below meth c ls hF hr hX hK hl
  obtain ⟨hx, hb, hml, hown, hlk⟩ := id hF
  have hS : va_S (zA ad (xL sd)) s.heap s.heap [] := va_S.rf
  have hl : lv_has ls 1 [(0, .ref (ad 2))] := hl
  refine lv_aload_n hx hb d_Do_beginMinute_0 rfl (lv_at hl 0 rfl) ?_
  refine z_getr hx hb iw_Do hown hK hX 2 rfl rfl 6 (by decide) tw_67 (fun _ h => h) 14 rfl d_Do_beginMinute_1 ?_
  refine z_const hx hb d_Do_beginMinute_4 ?_
  refine z_callSv hF (k_fill l D (xL sd) ad cI M 14 16 0 rfl (by decide) (by omega)) (hK.cS 2 tw_57 tw_55 tw_4 tw_56 (by decide +kernel) rfl rfl ⟨Nat.le_of_ble_eq_true rfl, Nat.le_of_ble_eq_true rfl⟩) hK hX hS rfl hl.1 rfl (Nat.le_of_ble_eq_true rfl) d_Do_beginMinute_5 ⟨Nat.zero_le _, Nat.zero_le _⟩ (fun u H locs hp hX hS => ?_)
  rw [hp] at hX
  exact z_vret (post := fun u => u = xFill M 14 16 0) hx hb hr hlk hK hX hS rfl d_Do_beginMinute_8
set_option maxHeartbeats 4000000 in
set_option maxRecDepth 100000 in
theorem k_Do_add (l : Launch) (D : va_G) (ad : Nat → Nat) (cI : Nat → ClassId) (sd : Int64) (M : zM) (a b w : Int) (h0 : 0 ≤ M 2 0 ∧ M 2 0 < 16) (h1 : 0 ≤ a ∧ a < 12) (h2 : 0 ≤ b ∧ b < 12) (h4 : -2147483648 ≤ w ∧ w ≤ 2147483647) (h3 : ∀ x, 0 ≤ x → x < 144 → 0 ≤ M 15 x ∧ M 15 x ≤ 1000) : zMi l y_Do_add (.code y_Do_add c_Do_add 4 (some .int)) { frames := 2, cells := 0, slots := 0, locals := 49 } D (xL sd) ad cI M [.ref (ad 2), .int (zI (a)), .int (zI (b)), .int (zI (w))] (fun z u => z = (M 2 0) ∧ u = xDoorsAdd M a b w) := by
  refine z_of (cc := c_Do_add) (maxL := 4) (ret := some .int) (own := "PersonSeeds$Doors") (by decide) rfl rfl (Nat.le_of_ble_eq_true rfl) ?_
  intro p e s m below meth c ls hF hr hX hK hl
  obtain ⟨hx, hb, hml, hown, hlk⟩ := id hF
  have hS : va_S (zA ad (xL sd)) s.heap s.heap [] := va_S.rf
  have hl : lv_has ls 4 [(0, .ref (ad 2)), (1, .int (zI (a))), (2, .int (zI (b))), (3, .int (zI (w)))] := hl
  refine lv_aload_n hx hb d_Do_add_0 rfl (lv_at hl 0 rfl) ?_
  refine z_getr hx hb iw_Do hown hK hX 2 rfl rfl 1 (by decide) tw_60 (fun _ h => h) 9 rfl d_Do_add_1 ?_
  refine lv_aload_n hx hb d_Do_add_4 rfl (lv_at hl 0 rfl) ?_
  refine z_geti (i := 0) (v := M 2 0) hx hb iw_Do hown hK hX 2 rfl rfl 0 (by decide) tw_58 (fun _ h => h) rfl rfl rfl d_Do_add_5 (fun rg_1 => ?_)
  refine lv_iload_n hx hb d_Do_add_8 rfl (lv_at hl 1 rfl) ?_
  refine z_iast (i := M 2 0) (v := a) hx hb hK hX hS 9 rfl (by omega) (by decide) (by omega) d_Do_add_9 (fun H locs hX hS => ?_)
  refine lv_aload_n hx hb d_Do_add_10 rfl (lv_at hl 0 rfl) ?_
  refine z_getr hx hb iw_Do hown hK hX 2 rfl rfl 2 (by decide) tw_61 (fun _ h => h) 10 rfl d_Do_add_11 ?_
  refine lv_aload_n hx hb d_Do_add_14 rfl (lv_at hl 0 rfl) ?_
  refine z_geti (i := 0) (v := M 2 0) hx hb iw_Do hown hK hX 2 rfl rfl 0 (by decide) tw_58 (fun _ h => h) rfl rfl rfl d_Do_add_15 (fun rg_2 => ?_)
  refine lv_iload_n hx hb d_Do_add_18 rfl (lv_at hl 2 rfl) ?_
  refine z_iast (i := M 2 0) (v := b) hx hb hK hX hS 10 rfl (by omega) (by decide) (by omega) d_Do_add_19 (fun H locs hX hS => ?_)
  refine lv_aload_n hx hb d_Do_add_20 rfl (lv_at hl 0 rfl) ?_
  refine z_getr hx hb iw_Do hown hK hX 2 rfl rfl 3 (by decide) tw_62 (fun _ h => h) 11 rfl d_Do_add_21 ?_
  refine lv_aload_n hx hb d_Do_add_24 rfl (lv_at hl 0 rfl) ?_
  refine z_geti (i := 0) (v := M 2 0) hx hb iw_Do hown hK hX 2 rfl rfl 0 (by decide) tw_58 (fun _ h => h) rfl rfl rfl d_Do_add_25 (fun rg_3 => ?_)
  refine lv_iload_n hx hb d_Do_add_28 rfl (lv_at hl 3 rfl) ?_
  refine z_iast (i := M 2 0) (v := w) hx hb hK hX hS 11 rfl (by omega) (by decide) (by omega) d_Do_add_29 (fun H locs hX hS => ?_)
  refine lv_aload_n hx hb d_Do_add_30 rfl (lv_at hl 0 rfl) ?_
  refine lv_dup hx hb d_Do_add_31 rfl ?_
  refine z_geti (i := 0) (v := M 2 0) hx hb iw_Do hown hK hX 2 rfl rfl 0 (by decide) tw_58 (fun _ h => h) rfl rfl rfl d_Do_add_32 (fun rg_4 => ?_)
  refine z_const hx hb d_Do_add_35 ?_
  refine z_iadd hx hb d_Do_add_36 ?_
  refine z_puti (i := 0) (v := (M 2 0) + 1) hx hb iw_Do ty_Do tyo_Do n_Do hown hK hX hS 2 rfl rfl 0 (by decide) tw_58 (fun _ h => h) rfl (by decide +kernel) rfl rfl (by omega) d_Do_add_37 (fun H locs hX hS => ?_)
  refine lv_aload_n hx hb d_Do_add_40 rfl (lv_at hl 0 rfl) ?_
  refine lv_iload_n hx hb d_Do_add_41 rfl (lv_at hl 1 rfl) ?_
  refine lv_iload_n hx hb d_Do_add_42 rfl (lv_at hl 2 rfl) ?_
  refine z_callVv hF (k_Do_shorten l D ad cI sd (zU (zU (zU (zU M 9 (M 2 0) a) 10 (M 2 0) b) 11 (M 2 0) w) 2 0 ((M 2 0) + 1)) a b h1 h2 h3) (hK.cV 2 tw_308 tw_305 tw_3 tw_307 ts_6 (by decide +kernel) rfl rfl ⟨Nat.le_of_ble_eq_true rfl, Nat.le_of_ble_eq_true rfl⟩) hK hX hS rfl rfl rfl hl.1 rfl (Nat.le_of_ble_eq_true rfl) d_Do_add_43 ⟨Nat.zero_le _, Nat.zero_le _⟩ (fun u H locs hp hX hS => ?_)
  rw [hp] at hX
  refine lv_aload_n hx hb d_Do_add_46 rfl (lv_at hl 0 rfl) ?_
  refine z_geti (i := 0) (v := (xShN (zU (zU (zU (zU M 9 (M 2 0) a) 10 (M 2 0) b) 11 (M 2 0) w) 2 0 ((M 2 0) + 1)) a b 12) 2 0) hx hb iw_Do hown hK hX 2 rfl rfl 0 (by decide) tw_58 (fun _ h => h) rfl rfl rfl d_Do_add_47 (fun rg_5 => ?_)
  refine z_const hx hb d_Do_add_50 ?_
  refine z_isub hx hb d_Do_add_51 ?_
  exact z_iret (z := ((xShN (zU (zU (zU (zU M 9 (M 2 0) a) 10 (M 2 0) b) 11 (M 2 0) w) 2 0 ((M 2 0) + 1)) a b 12) 2 0) - 1) (post := fun z u => z = (M 2 0) ∧ u = xDoorsAdd M a b w) hx hb hr hlk hK hX hS (by have e9 := congrFun (xShN_k (M := zU (zU (zU (zU M 9 (M 2 0) a) 10 (M 2 0) b) 11 (M 2 0) w) 2 0 (M 2 0 + 1)) (A := a) (B := b) (c := 2) (by decide) 12) 0; rw [zU_s] at e9; omega) ⟨by have e9 := congrFun (xShN_k (M := zU (zU (zU (zU M 9 (M 2 0) a) 10 (M 2 0) b) 11 (M 2 0) w) 2 0 (M 2 0 + 1)) (A := a) (B := b) (c := 2) (by decide) 12) 0; rw [zU_s] at e9; omega, rfl⟩ d_Do_add_52
set_option maxHeartbeats 4000000 in
set_option maxRecDepth 100000 in
theorem k_Pe_add (l : Launch) (D : va_G) (ad : Nat → Nat) (cI : Nat → ClassId) (sd : Int64) (M : zM) (t n : Int) (h1 : 0 ≤ M 4 1) (h2 : M 4 1 + n ≤ 60) (h3 : 1 ≤ n) (h4 : -2147483648 ≤ t ∧ t ≤ 2147483647) : zMv l y_Pe_add (.code y_Pe_add c_Pe_add 5 (none)) { frames := 0, cells := 0, slots := 0, locals := 0 } D (xL sd) ad cI M [.ref (ad 4), .int (zI (t)), .int (zI (n))] (fun u => u = xPersAdd M t n) := by
  refine z_of (cc := c_Pe_add) (maxL := 5) (ret := none) (own := "PersonSeeds$Persons") (by decide) rfl rfl (Nat.le_of_ble_eq_true rfl) ?_
  intro p e s m below meth c ls hF hr hX hK hl
  obtain ⟨hx, hb, hml, hown, hlk⟩ := id hF
  have hS : va_S (zA ad (xL sd)) s.heap s.heap [] := va_S.rf
  have hl : lv_has ls 5 [(0, .ref (ad 4)), (1, .int (zI (t))), (2, .int (zI (n)))] := hl
  refine lv_aload_n hx hb d_Pe_add_0 rfl (lv_at hl 0 rfl) ?_
  refine z_geti (i := 1) (v := M 4 1) hx hb iw_Pe hown hK hX 4 rfl rfl 1 (by decide) tw_109 (fun _ h => h) rfl rfl rfl d_Pe_add_1 (fun rg_1 => ?_)
  refine lv_istore_n (lv' := [(3, .int (zI (M 4 1))), (0, .ref (ad 4)), (1, .int (zI (t))), (2, .int (zI (n)))]) hx hb d_Pe_add_4 rfl hl (by decide) rfl (fun ls hl => ?_)
  have loop5 : ∀ (n5 : Nat) (q : Int) (Mq : zM) (H : Heap) (locs : List Loc) (ls : Array Slot), (0 ≤ q ∧ q ≤ M 4 1 ∧ Mq 4 = M 4 ∧ xShiftN t n (M 4 1).toNat M = xShiftN t n q.toNat Mq) → q.toNat < n5 → zX D (xL sd) ad cI Mq H → va_S (zA ad (xL sd)) s.heap H locs → lv_has ls 5 [(3, .int (zI (q))), (0, .ref (ad 4)), (1, .int (zI (t))), (2, .int (zI (n)))] → W p l e { frames := 0, cells := 0, slots := 0, locals := 0 } s m ([.ref (ad 4), .int (zI (t)), .int (zI (n))] : List Value).toArray below meth c H locs 0 0 (MQ below (zQv D (xL sd) ad cI (fun u => u = xPersAdd M t n)) ([.ref (ad 4), .int (zI (t)), .int (zI (n))] : List Value).toArray s 0 0 (zA ad (xL sd))) (F0 m 5 ls []) := by
    intro n5
    induction n5 with
    | zero => intro q Mq H locs ls hI hn; exact absurd hn (Nat.not_lt_zero _)
    | succ n5 ih5 =>
      intro q Mq H locs ls hI5 hn5 hX hS hl
      refine lv_iload_n hx hb d_Pe_add_5 rfl (lv_at hl 0 rfl) ?_
      refine z_if_le (a := q) (tgt := 41) hx hb d_Pe_add_6 (by decide) (by omega) (fun hb_2 => ?_) (fun hb_3 => ?_)
      · skip
        refine z_const hx hb d_Pe_add_41 ?_
        refine lv_istore (lv' := [(4, .int (zI (0))), (3, .int (zI (q))), (0, .ref (ad 4)), (1, .int (zI (t))), (2, .int (zI (n)))]) hx hb d_Pe_add_42 hl (by decide) rfl (fun ls hl => ?_)
        have loop44 : ∀ (n44 : Nat) (j : Nat) (H : Heap) (locs : List Loc) (ls : Array Slot), (j : Int) ≤ n → n.toNat - j < n44 → zX D (xL sd) ad cI (xPutN Mq t q j) H → va_S (zA ad (xL sd)) s.heap H locs → lv_has ls 5 [(4, .int (zI ((j : Int)))), (3, .int (zI (q))), (0, .ref (ad 4)), (1, .int (zI (t))), (2, .int (zI (n)))] → W p l e { frames := 0, cells := 0, slots := 0, locals := 0 } s m ([.ref (ad 4), .int (zI (t)), .int (zI (n))] : List Value).toArray below meth c H locs 0 0 (MQ below (zQv D (xL sd) ad cI (fun u => u = xPersAdd M t n)) ([.ref (ad 4), .int (zI (t)), .int (zI (n))] : List Value).toArray s 0 0 (zA ad (xL sd))) (F0 m 44 ls []) := by
          intro n44
          induction n44 with
          | zero => intro j H locs ls hI hn; exact absurd hn (Nat.not_lt_zero _)
          | succ n44 ih44 =>
            intro j H locs ls hI44 hn44 hX hS hl
            have e1 : xPutN Mq t q j 4 1 = M 4 1 := by rw [xPutN_c (by decide), hI5.2.2.1]
            refine lv_iload hx hb d_Pe_add_44 (lv_at hl 0 rfl) ?_
            refine lv_iload_n hx hb d_Pe_add_46 rfl (lv_at hl 4 rfl) ?_
            refine z_icmp_ge (a := (j : Int)) (b := n) (tgt := 66) hx hb d_Pe_add_47 (by decide) (by omega) (fun hb_4 => ?_) (fun hb_5 => ?_)
            · skip
              refine lv_aload_n hx hb d_Pe_add_66 rfl (lv_at hl 2 rfl) ?_
              refine lv_dup hx hb d_Pe_add_67 rfl ?_
              refine z_geti (i := 1) (v := (xPutN Mq t q j) 4 1) hx hb iw_Pe hown hK hX 4 rfl rfl 1 (by decide) tw_109 (fun _ h => h) rfl rfl rfl d_Pe_add_68 (fun rg_6 => ?_)
              refine lv_iload_n hx hb d_Pe_add_71 rfl (lv_at hl 4 rfl) ?_
              refine z_iadd hx hb d_Pe_add_72 ?_
              refine z_puti (i := 1) (v := ((xPutN Mq t q j) 4 1) + n) hx hb iw_Pe ty_Pe tyo_Pe n_Pe hown hK hX hS 4 rfl rfl 1 (by decide) tw_109 (fun _ h => h) rfl (by decide +kernel) rfl rfl (by omega) d_Pe_add_73 (fun H locs hX hS => ?_)
              exact z_vret (post := fun u => u = xPersAdd M t n) hx hb hr hlk hK hX hS (by unfold xPersAdd; rw [hI5.2.2.2, xShiftN_e hI5.1 (by omega)]; show _ = zU (xPutN Mq t ((q.toNat : Nat) : Int) n.toNat) 4 1 (M 4 1 + n); rw [e1, show ((q.toNat : Nat) : Int) = q by omega, show j = n.toNat by omega]) d_Pe_add_76
            · skip
              refine lv_aload_n hx hb d_Pe_add_50 rfl (lv_at hl 2 rfl) ?_
              refine z_getr hx hb iw_Pe hown hK hX 4 rfl rfl 2 (by decide) tw_111 (fun _ h => h) 19 rfl d_Pe_add_51 ?_
              refine lv_iload_n hx hb d_Pe_add_54 rfl (lv_at hl 1 rfl) ?_
              refine lv_iload hx hb d_Pe_add_55 (lv_at hl 0 rfl) ?_
              refine z_iadd hx hb d_Pe_add_57 ?_
              refine lv_iload_n hx hb d_Pe_add_58 rfl (lv_at hl 3 rfl) ?_
              refine z_iast (i := q + (j : Int)) (v := t) hx hb hK hX hS 19 rfl (by omega) (by decide) (by omega) d_Pe_add_59 (fun H locs hX hS => ?_)
              refine z_iinc (lv' := [(4, .int (zI ((j : Int) + 1))), (3, .int (zI (q))), (0, .ref (ad 4)), (1, .int (zI (t))), (2, .int (zI (n)))]) hx hb d_Pe_add_60 hl (k := 0) rfl (by decide) rfl (fun ls hl => ?_)
              refine lv_goto (tgt := 44) hx hb d_Pe_add_63 (by decide) ?_
              exact ih44 (j + 1) _ _ _ (by omega) (by omega) hX hS (lv_sub hl [0, 1, 2, 3, 4] rfl)
        exact loop44 _ 0 _ _ _ (by omega) (Nat.lt_succ_self _) hX hS (lv_sub hl [0, 1, 2, 3, 4] rfl)
      · skip
        refine lv_aload_n hx hb d_Pe_add_9 rfl (lv_at hl 1 rfl) ?_
        refine z_getr hx hb iw_Pe hown hK hX 4 rfl rfl 2 (by decide) tw_111 (fun _ h => h) 19 rfl d_Pe_add_10 ?_
        refine lv_iload_n hx hb d_Pe_add_13 rfl (lv_at hl 0 rfl) ?_
        refine z_const hx hb d_Pe_add_14 ?_
        refine z_isub hx hb d_Pe_add_15 ?_
        refine z_iald (i := q - 1) (v := Mq 19 (q - 1)) hx hb hK hX 19 rfl (by omega) (by decide) rfl d_Pe_add_16 (fun rg_7 => ?_)
        refine lv_iload_n hx hb d_Pe_add_17 rfl (lv_at hl 2 rfl) ?_
        refine z_icmp_le (a := Mq 19 (q - 1)) (b := t) (tgt := 41) hx hb d_Pe_add_18 (by decide) (by omega) (fun hb_8 => ?_) (fun hb_9 => ?_)
        · skip
          refine z_const hx hb d_Pe_add_41 ?_
          refine lv_istore (lv' := [(4, .int (zI (0))), (3, .int (zI (q))), (0, .ref (ad 4)), (1, .int (zI (t))), (2, .int (zI (n)))]) hx hb d_Pe_add_42 hl (by decide) rfl (fun ls hl => ?_)
          have loop44 : ∀ (n44 : Nat) (j : Nat) (H : Heap) (locs : List Loc) (ls : Array Slot), (j : Int) ≤ n → n.toNat - j < n44 → zX D (xL sd) ad cI (xPutN Mq t q j) H → va_S (zA ad (xL sd)) s.heap H locs → lv_has ls 5 [(4, .int (zI ((j : Int)))), (3, .int (zI (q))), (0, .ref (ad 4)), (1, .int (zI (t))), (2, .int (zI (n)))] → W p l e { frames := 0, cells := 0, slots := 0, locals := 0 } s m ([.ref (ad 4), .int (zI (t)), .int (zI (n))] : List Value).toArray below meth c H locs 0 0 (MQ below (zQv D (xL sd) ad cI (fun u => u = xPersAdd M t n)) ([.ref (ad 4), .int (zI (t)), .int (zI (n))] : List Value).toArray s 0 0 (zA ad (xL sd))) (F0 m 44 ls []) := by
            intro n44
            induction n44 with
            | zero => intro j H locs ls hI hn; exact absurd hn (Nat.not_lt_zero _)
            | succ n44 ih44 =>
              intro j H locs ls hI44 hn44 hX hS hl
              have e1 : xPutN Mq t q j 4 1 = M 4 1 := by rw [xPutN_c (by decide), hI5.2.2.1]
              refine lv_iload hx hb d_Pe_add_44 (lv_at hl 0 rfl) ?_
              refine lv_iload_n hx hb d_Pe_add_46 rfl (lv_at hl 4 rfl) ?_
              refine z_icmp_ge (a := (j : Int)) (b := n) (tgt := 66) hx hb d_Pe_add_47 (by decide) (by omega) (fun hb_10 => ?_) (fun hb_11 => ?_)
              · skip
                refine lv_aload_n hx hb d_Pe_add_66 rfl (lv_at hl 2 rfl) ?_
                refine lv_dup hx hb d_Pe_add_67 rfl ?_
                refine z_geti (i := 1) (v := (xPutN Mq t q j) 4 1) hx hb iw_Pe hown hK hX 4 rfl rfl 1 (by decide) tw_109 (fun _ h => h) rfl rfl rfl d_Pe_add_68 (fun rg_12 => ?_)
                refine lv_iload_n hx hb d_Pe_add_71 rfl (lv_at hl 4 rfl) ?_
                refine z_iadd hx hb d_Pe_add_72 ?_
                refine z_puti (i := 1) (v := ((xPutN Mq t q j) 4 1) + n) hx hb iw_Pe ty_Pe tyo_Pe n_Pe hown hK hX hS 4 rfl rfl 1 (by decide) tw_109 (fun _ h => h) rfl (by decide +kernel) rfl rfl (by omega) d_Pe_add_73 (fun H locs hX hS => ?_)
                exact z_vret (post := fun u => u = xPersAdd M t n) hx hb hr hlk hK hX hS (by unfold xPersAdd; rw [hI5.2.2.2, xShiftN_e hI5.1 (by omega)]; show _ = zU (xPutN Mq t ((q.toNat : Nat) : Int) n.toNat) 4 1 (M 4 1 + n); rw [e1, show ((q.toNat : Nat) : Int) = q by omega, show j = n.toNat by omega]) d_Pe_add_76
              · skip
                refine lv_aload_n hx hb d_Pe_add_50 rfl (lv_at hl 2 rfl) ?_
                refine z_getr hx hb iw_Pe hown hK hX 4 rfl rfl 2 (by decide) tw_111 (fun _ h => h) 19 rfl d_Pe_add_51 ?_
                refine lv_iload_n hx hb d_Pe_add_54 rfl (lv_at hl 1 rfl) ?_
                refine lv_iload hx hb d_Pe_add_55 (lv_at hl 0 rfl) ?_
                refine z_iadd hx hb d_Pe_add_57 ?_
                refine lv_iload_n hx hb d_Pe_add_58 rfl (lv_at hl 3 rfl) ?_
                refine z_iast (i := q + (j : Int)) (v := t) hx hb hK hX hS 19 rfl (by omega) (by decide) (by omega) d_Pe_add_59 (fun H locs hX hS => ?_)
                refine z_iinc (lv' := [(4, .int (zI ((j : Int) + 1))), (3, .int (zI (q))), (0, .ref (ad 4)), (1, .int (zI (t))), (2, .int (zI (n)))]) hx hb d_Pe_add_60 hl (k := 0) rfl (by decide) rfl (fun ls hl => ?_)
                refine lv_goto (tgt := 44) hx hb d_Pe_add_63 (by decide) ?_
                exact ih44 (j + 1) _ _ _ (by omega) (by omega) hX hS (lv_sub hl [0, 1, 2, 3, 4] rfl)
          exact loop44 _ 0 _ _ _ (by omega) (Nat.lt_succ_self _) hX hS (lv_sub hl [0, 1, 2, 3, 4] rfl)
        · skip
          refine z_iinc (lv' := [(3, .int (zI (q + (-1)))), (0, .ref (ad 4)), (1, .int (zI (t))), (2, .int (zI (n)))]) hx hb d_Pe_add_21 hl (k := 0) rfl (by decide) rfl (fun ls hl => ?_)
          refine lv_aload_n hx hb d_Pe_add_24 rfl (lv_at hl 1 rfl) ?_
          refine z_getr hx hb iw_Pe hown hK hX 4 rfl rfl 2 (by decide) tw_111 (fun _ h => h) 19 rfl d_Pe_add_25 ?_
          refine lv_iload_n hx hb d_Pe_add_28 rfl (lv_at hl 0 rfl) ?_
          refine lv_iload_n hx hb d_Pe_add_29 rfl (lv_at hl 3 rfl) ?_
          refine z_iadd hx hb d_Pe_add_30 ?_
          refine lv_aload_n hx hb d_Pe_add_31 rfl (lv_at hl 1 rfl) ?_
          refine z_getr hx hb iw_Pe hown hK hX 4 rfl rfl 2 (by decide) tw_111 (fun _ h => h) 19 rfl d_Pe_add_32 ?_
          refine lv_iload_n hx hb d_Pe_add_35 rfl (lv_at hl 0 rfl) ?_
          refine z_iald (i := q + (-1)) (v := Mq 19 (q + (-1))) hx hb hK hX 19 rfl (by omega) (by decide) rfl d_Pe_add_36 (fun rg_13 => ?_)
          refine z_iast (i := (q + (-1)) + n) (v := Mq 19 (q + (-1))) hx hb hK hX hS 19 rfl (by omega) (by decide) (by omega) d_Pe_add_37 (fun H locs hX hS => ?_)
          refine lv_goto (tgt := 5) hx hb d_Pe_add_38 (by decide) ?_
          exact ih5 (q + (-1)) (zU Mq 19 ((q + (-1)) + n) (Mq 19 (q + (-1)))) _ _ _ ⟨by omega, by omega, (zU_k (by decide)).trans hI5.2.2.1, hI5.2.2.2.trans (xShiftN_s (by omega) (by omega))⟩ (by omega) hX hS (lv_sub hl [0, 1, 2, 3] rfl)
  exact loop5 _ (M 4 1) M _ _ _ ⟨by omega, by omega, rfl, rfl⟩ (Nat.lt_succ_self _) hX hS (lv_sub hl [0, 1, 2, 3] rfl)
set_option maxHeartbeats 4000000 in
set_option maxRecDepth 100000 in
theorem k_PS_minute (l : Launch) (D : va_G) (ad : Nat → Nat) (cI : Nat → ClassId) (sd : Int64) (M : zM) (h1 : xOK M) (h2 : M 0 4 < 2000) : zMv l y_PS_passMinute (.code y_PS_passMinute c_PS_passMinute 2 (none)) { frames := 4, cells := 0, slots := 0, locals := 95 } D (xL sd) ad cI M [.ref (ad 0)] (fun u => u = xMin M) := by
  refine z_of (cc := c_PS_passMinute) (maxL := 2) (ret := none) (own := "PersonSeeds") (by decide) rfl rfl (Nat.le_of_ble_eq_true rfl) ?_
  intro p e s m below meth c ls hF hr hX hK hl
  obtain ⟨hx, hb, hml, hown, hlk⟩ := id hF
  have hS : va_S (zA ad (xL sd)) s.heap s.heap [] := va_S.rf
  have hl : lv_has ls 2 [(0, .ref (ad 0))] := hl
  refine lv_aload_n hx hb d_PS_passMinute_0 rfl (lv_at hl 0 rfl) ?_
  refine z_getr hx hb iw_PS hown hK hX 0 rfl rfl 1 (by decide) tw_145 (fun _ h => h) 2 rfl d_PS_passMinute_1 ?_
  refine z_callVNv hF (k_Do_begin l D ad cI sd M  ) (hK.cN 0 tw_350 tw_347 tw_3 tw_349 ts_10 (by decide +kernel) rfl rfl ⟨Nat.le_of_ble_eq_true rfl, Nat.le_of_ble_eq_true rfl⟩) hK hX hS rfl rfl rfl hl.1 rfl (Nat.le_of_ble_eq_true rfl) d_PS_passMinute_4 ⟨Nat.zero_le _, Nat.zero_le _⟩ (fun u H locs hp hX hS => ?_)
  rw [hp] at hX
  refine z_const hx hb d_PS_passMinute_7 ?_
  refine lv_istore_n (lv' := [(1, .int (zI (0))), (0, .ref (ad 0))]) hx hb d_PS_passMinute_8 rfl hl (by decide) rfl (fun ls hl => ?_)
  have loop9 : ∀ (n9 : Nat) (k : Nat) (Mq : zM) (H : Heap) (locs : List Loc) (ls : Array Slot), ((k : Int) ≤ 60 ∧ xOK Mq ∧ Mq 0 4 < 2000 ∧ xStepN (M 4 1).toNat 0 (xFill M 14 16 0) = xStepN ((Mq 4 1).toNat - k) k Mq) → 60 - k < n9 → zX D (xL sd) ad cI Mq H → va_S (zA ad (xL sd)) s.heap H locs → lv_has ls 2 [(1, .int (zI ((k : Int)))), (0, .ref (ad 0))] → W p l e { frames := 4, cells := 0, slots := 0, locals := 95 } s m ([.ref (ad 0)] : List Value).toArray below meth c H locs 0 0 (MQ below (zQv D (xL sd) ad cI (fun u => u = xMin M)) ([.ref (ad 0)] : List Value).toArray s 0 0 (zA ad (xL sd))) (F0 m 9 ls []) := by
    intro n9
    induction n9 with
    | zero => intro k Mq H locs ls hI hn; exact absurd hn (Nat.not_lt_zero _)
    | succ n9 ih9 =>
      intro k Mq H locs ls hI9 hn9 hX hS hl
      have o1 := hI9.2.1.1
      have o3 := hI9.2.1.2.2.1
      have o4 := hI9.2.1.2.2.2.1
      have o5 : xEnd Mq 0 4 = Mq 0 4 := by unfold xEnd; rw [xEndN_c (by decide) (by decide)]
      refine lv_iload_n hx hb d_PS_passMinute_9 rfl (lv_at hl 0 rfl) ?_
      refine lv_aload_n hx hb d_PS_passMinute_10 rfl (lv_at hl 1 rfl) ?_
      refine z_getr hx hb iw_PS hown hK hX 0 rfl rfl 3 (by decide) tw_147 (fun _ h => h) 4 rfl d_PS_passMinute_11 ?_
      refine z_getiN (i := 1) (v := Mq 4 1) hx hb iw_Pe hown hK hX 4 rfl rfl 1 (by decide) tw_110 (fun _ h => h) rfl rfl rfl d_PS_passMinute_14 (fun rg_1 => ?_)
      refine z_icmp_ge (a := (k : Int)) (b := Mq 4 1) (tgt := 47) hx hb d_PS_passMinute_17 (by decide) (by omega) (fun hb_2 => ?_) (fun hb_3 => ?_)
      · skip
        refine lv_aload_n hx hb d_PS_passMinute_47 rfl (lv_at hl 1 rfl) ?_
        refine z_getr hx hb iw_PS hown hK hX 0 rfl rfl 0 (by decide) tw_144 (fun _ h => h) 1 rfl d_PS_passMinute_48 ?_
        refine z_callVNv hF (k_Ro_end l D ad cI sd Mq  o1) (hK.cN 0 tw_403 tw_400 tw_2 tw_402 ts_23 (by decide +kernel) rfl rfl ⟨Nat.le_of_ble_eq_true rfl, Nat.le_of_ble_eq_true rfl⟩) hK hX hS rfl rfl rfl hl.1 rfl (Nat.le_of_ble_eq_true rfl) d_PS_passMinute_51 ⟨Nat.zero_le _, Nat.zero_le _⟩ (fun u H locs hp hX hS => ?_)
        rw [hp] at hX
        refine lv_aload_n hx hb d_PS_passMinute_54 rfl (lv_at hl 1 rfl) ?_
        refine lv_dup hx hb d_PS_passMinute_55 rfl ?_
        refine z_geti (i := 4) (v := (xEnd Mq) 0 4) hx hb iw_PS hown hK hX 0 rfl rfl 4 (by decide) tw_148 (fun _ h => h) rfl rfl rfl d_PS_passMinute_56 (fun rg_4 => ?_)
        refine z_const hx hb d_PS_passMinute_59 ?_
        refine z_iadd hx hb d_PS_passMinute_60 ?_
        refine z_puti (i := 4) (v := ((xEnd Mq) 0 4) + 1) hx hb iw_PS ty_PS tyo_PS n_PS hown hK hX hS 0 rfl rfl 4 (by decide) tw_148 (fun _ h => h) rfl (by decide +kernel) rfl rfl (by omega) d_PS_passMinute_61 (fun H locs hX hS => ?_)
        exact z_vret (post := fun u => u = xMin M) hx hb hr hlk hK hX hS (by unfold xMin xMinA; rw [hI9.2.2.2, xStepN_stop (by omega)]) d_PS_passMinute_64
      · skip
        refine lv_aload_n hx hb d_PS_passMinute_20 rfl (lv_at hl 1 rfl) ?_
        refine z_getr hx hb iw_PS hown hK hX 0 rfl rfl 3 (by decide) tw_147 (fun _ h => h) 4 rfl d_PS_passMinute_21 ?_
        refine z_getrN hx hb iw_Pe hown hK hX 4 rfl rfl 2 (by decide) tw_112 (fun _ h => h) 19 rfl d_PS_passMinute_24 ?_
        refine lv_iload_n hx hb d_PS_passMinute_27 rfl (lv_at hl 0 rfl) ?_
        refine z_iald (i := (k : Int)) (v := Mq 19 (k : Int)) hx hb hK hX 19 rfl (by omega) (by decide) rfl d_PS_passMinute_28 (fun rg_5 => ?_)
        refine lv_aload_n hx hb d_PS_passMinute_29 rfl (lv_at hl 1 rfl) ?_
        refine z_geti (i := 4) (v := Mq 0 4) hx hb iw_PS hown hK hX 0 rfl rfl 4 (by decide) tw_148 (fun _ h => h) rfl rfl rfl d_PS_passMinute_30 (fun rg_6 => ?_)
        refine z_icmp_gt (a := Mq 19 (k : Int)) (b := Mq 0 4) (tgt := 47) hx hb d_PS_passMinute_33 (by decide) (by omega) (fun hb_7 => ?_) (fun hb_8 => ?_)
        · skip
          refine lv_aload_n hx hb d_PS_passMinute_47 rfl (lv_at hl 1 rfl) ?_
          refine z_getr hx hb iw_PS hown hK hX 0 rfl rfl 0 (by decide) tw_144 (fun _ h => h) 1 rfl d_PS_passMinute_48 ?_
          refine z_callVNv hF (k_Ro_end l D ad cI sd Mq  o1) (hK.cN 0 tw_403 tw_400 tw_2 tw_402 ts_23 (by decide +kernel) rfl rfl ⟨Nat.le_of_ble_eq_true rfl, Nat.le_of_ble_eq_true rfl⟩) hK hX hS rfl rfl rfl hl.1 rfl (Nat.le_of_ble_eq_true rfl) d_PS_passMinute_51 ⟨Nat.zero_le _, Nat.zero_le _⟩ (fun u H locs hp hX hS => ?_)
          rw [hp] at hX
          refine lv_aload_n hx hb d_PS_passMinute_54 rfl (lv_at hl 1 rfl) ?_
          refine lv_dup hx hb d_PS_passMinute_55 rfl ?_
          refine z_geti (i := 4) (v := (xEnd Mq) 0 4) hx hb iw_PS hown hK hX 0 rfl rfl 4 (by decide) tw_148 (fun _ h => h) rfl rfl rfl d_PS_passMinute_56 (fun rg_9 => ?_)
          refine z_const hx hb d_PS_passMinute_59 ?_
          refine z_iadd hx hb d_PS_passMinute_60 ?_
          refine z_puti (i := 4) (v := ((xEnd Mq) 0 4) + 1) hx hb iw_PS ty_PS tyo_PS n_PS hown hK hX hS 0 rfl rfl 4 (by decide) tw_148 (fun _ h => h) rfl (by decide +kernel) rfl rfl (by omega) d_PS_passMinute_61 (fun H locs hX hS => ?_)
          exact z_vret (post := fun u => u = xMin M) hx hb hr hlk hK hX hS (by unfold xMin xMinA; rw [hI9.2.2.2, xStepN_stop (by omega)]) d_PS_passMinute_64
        · skip
          refine lv_aload_n hx hb d_PS_passMinute_36 rfl (lv_at hl 1 rfl) ?_
          refine lv_iload_n hx hb d_PS_passMinute_37 rfl (lv_at hl 0 rfl) ?_
          refine z_callVv hF (k_PS_step l D ad cI sd Mq (k : Int) (by omega) (hI9.2.1.2.2.2.2.2.2.1 _ (by omega) (by omega)) hI9.2.1.2.1 hI9.2.1.2.2.2.2.1 (xNow_ok hI9.2.1 (by omega) (by omega)) (hI9.2.1.2.2.2.2.2.2.2.2.1 _ (by omega) (by omega))) (hK.cV 1 tw_354 tw_351 tw_1 tw_353 ts_11 (by decide +kernel) rfl rfl ⟨Nat.le_of_ble_eq_true rfl, Nat.le_of_ble_eq_true rfl⟩) hK hX hS rfl rfl rfl hl.1 rfl (Nat.le_of_ble_eq_true rfl) d_PS_passMinute_38 ⟨Nat.zero_le _, Nat.zero_le _⟩ (fun u H locs hp hX hS => ?_)
          rw [hp] at hX
          refine z_iinc (lv' := [(1, .int (zI ((k : Int) + 1))), (0, .ref (ad 0))]) hx hb d_PS_passMinute_41 hl (k := 0) rfl (by decide) rfl (fun ls hl => ?_)
          refine lv_goto (tgt := 9) hx hb d_PS_passMinute_44 (by decide) ?_
          exact ih9 (k + 1) (xStep Mq (k : Int)) _ _ _ (xMin_s hI9 (by omega) (by omega)) (by omega) hX hS (lv_sub hl [0, 1] rfl)
  exact loop9 _ 0 (xFill M 14 16 0) _ _ _ ⟨by omega, xFill_ok h1, h2, rfl⟩ (Nat.lt_succ_self _) hX hS (lv_sub hl [0, 1] rfl)

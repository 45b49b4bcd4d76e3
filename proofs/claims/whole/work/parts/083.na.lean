set_option maxHeartbeats 4000000 in
set_option maxRecDepth 100000 in
theorem m_may (l : Launch) (D : va_G) (ad : Nat → Nat) (cI : Nat → ClassId) (sd : Int64) (M : zM) (a b : Int) (g1 : -2147483648 ≤ a ∧ a ≤ 2147483647) (g2 : -2147483648 ≤ b ∧ b ≤ 2147483647) : zMi l y_Mo_may (.code y_Mo_may c_Mo_may 3 (some .boolean)) { frames := 0, cells := 0, slots := 0, locals := 0 } D (nL sd) ad cI M [.ref (ad 0), .int (zI (a)), .int (zI (b))] (fun z u => z = (if a = 0 then 0 else if b = 0 then 0 else 1) ∧ u = zU M 0 1 (if a = 0 then 1 else if b = 0 then 2 else 0)) := by
  refine z_of (cc := c_Mo_may) (maxL := 3) (ret := some .boolean) (own := "PersonSeedsModel") (by decide) rfl rfl (Nat.le_of_ble_eq_true rfl) ?_
  intro p e s m below meth c ls hF hr hX hK hl
  obtain ⟨hx, hb, hml, hown, hlk⟩ := id hF
  have hS : va_S (zA ad (nL sd)) s.heap s.heap [] := va_S.rf
  have hl : lv_has ls 3 [(0, .ref (ad 0)), (1, .int (zI (a))), (2, .int (zI (b)))] := hl
  refine lv_aload_n hx hb d_Mo_may_0 rfl (lv_at hl 0 rfl) ?_
  refine lv_iload_n hx hb d_Mo_may_1 rfl (lv_at hl 1 rfl) ?_
  refine z_if_ne (a := a) (tgt := 9) hx hb d_Mo_may_2 (by decide) (by omega) (fun hb_1 => ?_) (fun hb_2 => ?_)
  · skip
    refine lv_iload_n hx hb d_Mo_may_9 rfl (lv_at hl 2 rfl) ?_
    refine z_if_ne (a := b) (tgt := 17) hx hb d_Mo_may_10 (by decide) (by omega) (fun hb_3 => ?_) (fun hb_4 => ?_)
    · skip
      refine z_const hx hb d_Mo_may_17 ?_
      refine z_puti (i := 1) (v := 0) hx hb iw_Mo ty_Mo tyo_Mo n_Mo hown hK hX hS 0 rfl rfl 1 (by decide) tw_499 (fun _ h => h) rfl (by decide +kernel) rfl rfl (by omega) d_Mo_may_18 (fun H locs hX hS => ?_)
      refine lv_aload_n hx hb d_Mo_may_21 rfl (lv_at hl 0 rfl) ?_
      refine z_geti (i := 1) (v := 0) hx hb iw_Mo hown hK hX 0 rfl rfl 1 (by decide) tw_499 (fun _ h => h) rfl rfl (by simp [zU]) d_Mo_may_22 (fun rg_5 => ?_)
      refine z_if_ne (a := 0) (tgt := 32) hx hb d_Mo_may_25 (by decide) (by omega) (fun hb_6 => ?_) (fun hb_7 => ?_)
      · skip
        exfalso
        omega
      · skip
        refine z_const hx hb d_Mo_may_28 ?_
        refine lv_goto (tgt := 33) hx hb d_Mo_may_29 (by decide) ?_
        exact z_zret (z := 1) (post := (fun z u => z = (if a = 0 then 0 else if b = 0 then 0 else 1) ∧ u = zU M 0 1 (if a = 0 then 1 else if b = 0 then 2 else 0))) hx hb hr hlk hK hX hS (by omega) ⟨by (repeat' split) <;> omega, by congr 1; (repeat' split) <;> omega⟩ d_Mo_may_33
    · skip
      refine z_const hx hb d_Mo_may_13 ?_
      refine lv_goto (tgt := 18) hx hb d_Mo_may_14 (by decide) ?_
      refine z_puti (i := 1) (v := 2) hx hb iw_Mo ty_Mo tyo_Mo n_Mo hown hK hX hS 0 rfl rfl 1 (by decide) tw_499 (fun _ h => h) rfl (by decide +kernel) rfl rfl (by omega) d_Mo_may_18 (fun H locs hX hS => ?_)
      refine lv_aload_n hx hb d_Mo_may_21 rfl (lv_at hl 0 rfl) ?_
      refine z_geti (i := 1) (v := 2) hx hb iw_Mo hown hK hX 0 rfl rfl 1 (by decide) tw_499 (fun _ h => h) rfl rfl (by simp [zU]) d_Mo_may_22 (fun rg_8 => ?_)
      refine z_if_ne (a := 2) (tgt := 32) hx hb d_Mo_may_25 (by decide) (by omega) (fun hb_9 => ?_) (fun hb_10 => ?_)
      · skip
        refine z_const hx hb d_Mo_may_32 ?_
        exact z_zret (z := 0) (post := (fun z u => z = (if a = 0 then 0 else if b = 0 then 0 else 1) ∧ u = zU M 0 1 (if a = 0 then 1 else if b = 0 then 2 else 0))) hx hb hr hlk hK hX hS (by omega) ⟨by (repeat' split) <;> omega, by congr 1; (repeat' split) <;> omega⟩ d_Mo_may_33
      · skip
        exfalso
        omega
  · skip
    refine z_const hx hb d_Mo_may_5 ?_
    refine lv_goto (tgt := 18) hx hb d_Mo_may_6 (by decide) ?_
    refine z_puti (i := 1) (v := 1) hx hb iw_Mo ty_Mo tyo_Mo n_Mo hown hK hX hS 0 rfl rfl 1 (by decide) tw_499 (fun _ h => h) rfl (by decide +kernel) rfl rfl (by omega) d_Mo_may_18 (fun H locs hX hS => ?_)
    refine lv_aload_n hx hb d_Mo_may_21 rfl (lv_at hl 0 rfl) ?_
    refine z_geti (i := 1) (v := 1) hx hb iw_Mo hown hK hX 0 rfl rfl 1 (by decide) tw_499 (fun _ h => h) rfl rfl (by simp [zU]) d_Mo_may_22 (fun rg_11 => ?_)
    refine z_if_ne (a := 1) (tgt := 32) hx hb d_Mo_may_25 (by decide) (by omega) (fun hb_12 => ?_) (fun hb_13 => ?_)
    · skip
      refine z_const hx hb d_Mo_may_32 ?_
      exact z_zret (z := 0) (post := (fun z u => z = (if a = 0 then 0 else if b = 0 then 0 else 1) ∧ u = zU M 0 1 (if a = 0 then 1 else if b = 0 then 2 else 0))) hx hb hr hlk hK hX hS (by omega) ⟨by (repeat' split) <;> omega, by congr 1; (repeat' split) <;> omega⟩ d_Mo_may_33
    · skip
      exfalso
      omega
set_option maxHeartbeats 4000000 in
set_option maxRecDepth 100000 in
theorem m_within (l : Launch) (D : va_G) (ad : Nat → Nat) (cI : Nat → ClassId) (sd : Int64) (M : zM) (v lo hi : Int) (g1 : -4611686018427387904 ≤ v ∧ v ≤ 4611686018427387904) (g2 : -4611686018427387904 ≤ lo ∧ lo ≤ 4611686018427387904) (g3 : -4611686018427387904 ≤ hi ∧ hi ≤ 4611686018427387904) : zMi l y_Mo_within (.code y_Mo_within c_Mo_within 6 (some .boolean)) { frames := 0, cells := 0, slots := 0, locals := 0 } D (nL sd) ad cI M [.long (lI (v)), .long (lI (lo)), .long (lI (hi))] (fun z u => z = (if lo ≤ v ∧ v ≤ hi then 1 else 0) ∧ u = M) := by
  refine z_of (cc := c_Mo_within) (maxL := 6) (ret := some .boolean) (own := "PersonSeedsModel") (by decide) rfl rfl (Nat.le_of_ble_eq_true rfl) ?_
  intro p e s m below meth c ls hF hr hX hK hl
  obtain ⟨hx, hb, hml, hown, hlk⟩ := id hF
  have hS : va_S (zA ad (nL sd)) s.heap s.heap [] := va_S.rf
  have hl : lv_has ls 6 [(0, .long (lI (v))), (2, .long (lI (lo))), (4, .long (lI (hi)))] := hl
  refine lv_lload_n hx hb d_Mo_within_0 rfl (lv_at hl 0 rfl) ?_
  refine lv_lload_n hx hb d_Mo_within_1 rfl (lv_at hl 1 rfl) ?_
  refine z_lcmp (a := v) (b := lo) hx hb (by omega) d_Mo_within_2 ?_
  have sg_1 : zSg v lo = if v < lo then -1 else if v = lo then 0 else 1 := rfl
  refine z_if_lt (a := zSg v lo) (tgt := 17) hx hb d_Mo_within_3 (by decide) (by omega) (fun hb_2 => ?_) (fun hb_3 => ?_)
  · skip
    refine z_const hx hb d_Mo_within_17 ?_
    exact z_zret (z := 0) (post := (fun z u => z = (if lo ≤ v ∧ v ≤ hi then 1 else 0) ∧ u = M)) hx hb hr hlk hK hX hS (by omega) ⟨by (repeat' split) <;> omega, rfl⟩ d_Mo_within_18
  · skip
    refine lv_lload_n hx hb d_Mo_within_6 rfl (lv_at hl 0 rfl) ?_
    refine lv_lload hx hb d_Mo_within_7 (lv_at hl 2 rfl) ?_
    refine z_lcmp (a := v) (b := hi) hx hb (by omega) d_Mo_within_9 ?_
    have sg_4 : zSg v hi = if v < hi then -1 else if v = hi then 0 else 1 := rfl
    refine z_if_gt (a := zSg v hi) (tgt := 17) hx hb d_Mo_within_10 (by decide) (by omega) (fun hb_5 => ?_) (fun hb_6 => ?_)
    · skip
      refine z_const hx hb d_Mo_within_17 ?_
      exact z_zret (z := 0) (post := (fun z u => z = (if lo ≤ v ∧ v ≤ hi then 1 else 0) ∧ u = M)) hx hb hr hlk hK hX hS (by omega) ⟨by (repeat' split) <;> omega, rfl⟩ d_Mo_within_18
    · skip
      refine z_const hx hb d_Mo_within_13 ?_
      refine lv_goto (tgt := 18) hx hb d_Mo_within_14 (by decide) ?_
      exact z_zret (z := 1) (post := (fun z u => z = (if lo ≤ v ∧ v ≤ hi then 1 else 0) ∧ u = M)) hx hb hr hlk hK hX hS (by omega) ⟨by (repeat' split) <;> omega, rfl⟩ d_Mo_within_18
set_option maxHeartbeats 4000000 in
set_option maxRecDepth 100000 in
theorem m_thrown (l : Launch) (D : va_G) (ad : Nat → Nat) (cI : Nat → ClassId) (sd : Int64) (M : zM)  : zMi l y_Mo_thrown (.code y_Mo_thrown c_Mo_thrown 1 (some .int)) { frames := 0, cells := 0, slots := 0, locals := 0 } D (nL sd) ad cI M [.ref (ad 0)] (fun z u => z = (M 0 1) ∧ u = M) := by
  refine z_of (cc := c_Mo_thrown) (maxL := 1) (ret := some .int) (own := "PersonSeedsModel") (by decide) rfl rfl (Nat.le_of_ble_eq_true rfl) ?_
  intro p e s m below meth c ls hF hr hX hK hl
  obtain ⟨hx, hb, hml, hown, hlk⟩ := id hF
  have hS : va_S (zA ad (nL sd)) s.heap s.heap [] := va_S.rf
  have hl : lv_has ls 1 [(0, .ref (ad 0))] := hl
  refine lv_aload_n hx hb d_Mo_thrown_0 rfl (lv_at hl 0 rfl) ?_
  refine z_geti (i := 1) (v := M 0 1) hx hb iw_Mo hown hK hX 0 rfl rfl 1 (by decide) tw_499 (fun _ h => h) rfl rfl rfl d_Mo_thrown_1 (fun rg_1 => ?_)
  exact z_iret (z := M 0 1) (post := (fun z u => z = (M 0 1) ∧ u = M)) hx hb hr hlk hK hX hS (by omega) ⟨rfl, rfl⟩ d_Mo_thrown_4
set_option maxHeartbeats 4000000 in
set_option maxRecDepth 100000 in
theorem m_isRoom (l : Launch) (D : va_G) (ad : Nat → Nat) (cI : Nat → ClassId) (sd : Int64) (M : zM) (r : Int) (g1 : -2147483648 ≤ r ∧ r ≤ 2147483647) : zMi l y_Mo_isRoom (.code y_Mo_isRoom c_Mo_isRoom 2 (some .boolean)) { frames := 0, cells := 0, slots := 0, locals := 0 } D (nL sd) ad cI M [.ref (ad 0), .int (zI (r))] (fun z u => z = (if 0 ≤ r ∧ r < M 0 3 then 1 else 0) ∧ u = M) := by
  refine z_of (cc := c_Mo_isRoom) (maxL := 2) (ret := some .boolean) (own := "PersonSeedsModel") (by decide) rfl rfl (Nat.le_of_ble_eq_true rfl) ?_
  intro p e s m below meth c ls hF hr hX hK hl
  obtain ⟨hx, hb, hml, hown, hlk⟩ := id hF
  have hS : va_S (zA ad (nL sd)) s.heap s.heap [] := va_S.rf
  have hl : lv_has ls 2 [(0, .ref (ad 0)), (1, .int (zI (r)))] := hl
  refine lv_iload_n hx hb d_Mo_isRoom_0 rfl (lv_at hl 1 rfl) ?_
  refine z_if_lt (a := r) (tgt := 16) hx hb d_Mo_isRoom_1 (by decide) (by omega) (fun hb_1 => ?_) (fun hb_2 => ?_)
  · skip
    refine z_const hx hb d_Mo_isRoom_16 ?_
    exact z_zret (z := 0) (post := (fun z u => z = (if 0 ≤ r ∧ r < M 0 3 then 1 else 0) ∧ u = M)) hx hb hr hlk hK hX hS (by omega) ⟨by (repeat' split) <;> omega, rfl⟩ d_Mo_isRoom_17
  · skip
    refine lv_iload_n hx hb d_Mo_isRoom_4 rfl (lv_at hl 1 rfl) ?_
    refine lv_aload_n hx hb d_Mo_isRoom_5 rfl (lv_at hl 0 rfl) ?_
    refine z_geti (i := 3) (v := M 0 3) hx hb iw_Mo hown hK hX 0 rfl rfl 3 (by decide) tw_501 (fun _ h => h) rfl rfl rfl d_Mo_isRoom_6 (fun rg_3 => ?_)
    refine z_icmp_ge (a := r) (b := M 0 3) (tgt := 16) hx hb d_Mo_isRoom_9 (by decide) (by omega) (fun hb_4 => ?_) (fun hb_5 => ?_)
    · skip
      refine z_const hx hb d_Mo_isRoom_16 ?_
      exact z_zret (z := 0) (post := (fun z u => z = (if 0 ≤ r ∧ r < M 0 3 then 1 else 0) ∧ u = M)) hx hb hr hlk hK hX hS (by omega) ⟨by (repeat' split) <;> omega, rfl⟩ d_Mo_isRoom_17
    · skip
      refine z_const hx hb d_Mo_isRoom_12 ?_
      refine lv_goto (tgt := 17) hx hb d_Mo_isRoom_13 (by decide) ?_
      exact z_zret (z := 1) (post := (fun z u => z = (if 0 ≤ r ∧ r < M 0 3 then 1 else 0) ∧ u = M)) hx hb hr hlk hK hX hS (by omega) ⟨by (repeat' split) <;> omega, rfl⟩ d_Mo_isRoom_17
set_option maxHeartbeats 4000000 in
set_option maxRecDepth 100000 in
theorem m_isPerson (l : Launch) (D : va_G) (ad : Nat → Nat) (cI : Nat → ClassId) (sd : Int64) (M : zM) (r : Int) (g1 : -2147483648 ≤ r ∧ r ≤ 2147483647) : zMi l y_Mo_isPerson (.code y_Mo_isPerson c_Mo_isPerson 2 (some .boolean)) { frames := 0, cells := 0, slots := 0, locals := 0 } D (nL sd) ad cI M [.ref (ad 0), .int (zI (r))] (fun z u => z = (if 0 ≤ r ∧ r < M 0 16 then 1 else 0) ∧ u = M) := by
  refine z_of (cc := c_Mo_isPerson) (maxL := 2) (ret := some .boolean) (own := "PersonSeedsModel") (by decide) rfl rfl (Nat.le_of_ble_eq_true rfl) ?_
  intro p e s m below meth c ls hF hr hX hK hl
  obtain ⟨hx, hb, hml, hown, hlk⟩ := id hF
  have hS : va_S (zA ad (nL sd)) s.heap s.heap [] := va_S.rf
  have hl : lv_has ls 2 [(0, .ref (ad 0)), (1, .int (zI (r)))] := hl
  refine lv_iload_n hx hb d_Mo_isPerson_0 rfl (lv_at hl 1 rfl) ?_
  refine z_if_lt (a := r) (tgt := 16) hx hb d_Mo_isPerson_1 (by decide) (by omega) (fun hb_1 => ?_) (fun hb_2 => ?_)
  · skip
    refine z_const hx hb d_Mo_isPerson_16 ?_
    exact z_zret (z := 0) (post := (fun z u => z = (if 0 ≤ r ∧ r < M 0 16 then 1 else 0) ∧ u = M)) hx hb hr hlk hK hX hS (by omega) ⟨by (repeat' split) <;> omega, rfl⟩ d_Mo_isPerson_17
  · skip
    refine lv_iload_n hx hb d_Mo_isPerson_4 rfl (lv_at hl 1 rfl) ?_
    refine lv_aload_n hx hb d_Mo_isPerson_5 rfl (lv_at hl 0 rfl) ?_
    refine z_geti (i := 16) (v := M 0 16) hx hb iw_Mo hown hK hX 0 rfl rfl 16 (by decide) tw_514 (fun _ h => h) rfl rfl rfl d_Mo_isPerson_6 (fun rg_3 => ?_)
    refine z_icmp_ge (a := r) (b := M 0 16) (tgt := 16) hx hb d_Mo_isPerson_9 (by decide) (by omega) (fun hb_4 => ?_) (fun hb_5 => ?_)
    · skip
      refine z_const hx hb d_Mo_isPerson_16 ?_
      exact z_zret (z := 0) (post := (fun z u => z = (if 0 ≤ r ∧ r < M 0 16 then 1 else 0) ∧ u = M)) hx hb hr hlk hK hX hS (by omega) ⟨by (repeat' split) <;> omega, rfl⟩ d_Mo_isPerson_17
    · skip
      refine z_const hx hb d_Mo_isPerson_12 ?_
      refine lv_goto (tgt := 17) hx hb d_Mo_isPerson_13 (by decide) ?_
      exact z_zret (z := 1) (post := (fun z u => z = (if 0 ≤ r ∧ r < M 0 16 then 1 else 0) ∧ u = M)) hx hb hr hlk hK hX hS (by omega) ⟨by (repeat' split) <;> omega, rfl⟩ d_Mo_isPerson_17
set_option maxHeartbeats 4000000 in
set_option maxRecDepth 100000 in
theorem m_isOver (l : Launch) (D : va_G) (ad : Nat → Nat) (cI : Nat → ClassId) (sd : Int64) (M : zM) (r : Int) (g1 : -2147483648 ≤ r ∧ r ≤ 2147483647) : zMi l y_Mo_isOver (.code y_Mo_isOver c_Mo_isOver 2 (some .boolean)) { frames := 0, cells := 0, slots := 0, locals := 0 } D (nL sd) ad cI M [.ref (ad 0), .int (zI (r))] (fun z u => z = (if 0 ≤ r ∧ r < M 0 2 then 1 else 0) ∧ u = M) := by
  refine z_of (cc := c_Mo_isOver) (maxL := 2) (ret := some .boolean) (own := "PersonSeedsModel") (by decide) rfl rfl (Nat.le_of_ble_eq_true rfl) ?_
  intro p e s m below meth c ls hF hr hX hK hl
  obtain ⟨hx, hb, hml, hown, hlk⟩ := id hF
  have hS : va_S (zA ad (nL sd)) s.heap s.heap [] := va_S.rf
  have hl : lv_has ls 2 [(0, .ref (ad 0)), (1, .int (zI (r)))] := hl
  refine lv_iload_n hx hb d_Mo_isOver_0 rfl (lv_at hl 1 rfl) ?_
  refine z_if_lt (a := r) (tgt := 16) hx hb d_Mo_isOver_1 (by decide) (by omega) (fun hb_1 => ?_) (fun hb_2 => ?_)
  · skip
    refine z_const hx hb d_Mo_isOver_16 ?_
    exact z_zret (z := 0) (post := (fun z u => z = (if 0 ≤ r ∧ r < M 0 2 then 1 else 0) ∧ u = M)) hx hb hr hlk hK hX hS (by omega) ⟨by (repeat' split) <;> omega, rfl⟩ d_Mo_isOver_17
  · skip
    refine lv_iload_n hx hb d_Mo_isOver_4 rfl (lv_at hl 1 rfl) ?_
    refine lv_aload_n hx hb d_Mo_isOver_5 rfl (lv_at hl 0 rfl) ?_
    refine z_geti (i := 2) (v := M 0 2) hx hb iw_Mo hown hK hX 0 rfl rfl 2 (by decide) tw_500 (fun _ h => h) rfl rfl rfl d_Mo_isOver_6 (fun rg_3 => ?_)
    refine z_icmp_ge (a := r) (b := M 0 2) (tgt := 16) hx hb d_Mo_isOver_9 (by decide) (by omega) (fun hb_4 => ?_) (fun hb_5 => ?_)
    · skip
      refine z_const hx hb d_Mo_isOver_16 ?_
      exact z_zret (z := 0) (post := (fun z u => z = (if 0 ≤ r ∧ r < M 0 2 then 1 else 0) ∧ u = M)) hx hb hr hlk hK hX hS (by omega) ⟨by (repeat' split) <;> omega, rfl⟩ d_Mo_isOver_17
    · skip
      refine z_const hx hb d_Mo_isOver_12 ?_
      refine lv_goto (tgt := 17) hx hb d_Mo_isOver_13 (by decide) ?_
      exact z_zret (z := 1) (post := (fun z u => z = (if 0 ≤ r ∧ r < M 0 2 then 1 else 0) ∧ u = M)) hx hb hr hlk hK hX hS (by omega) ⟨by (repeat' split) <;> omega, rfl⟩ d_Mo_isOver_17
set_option maxHeartbeats 4000000 in
set_option maxRecDepth 100000 in
theorem m_shorten (l : Launch) (D : va_G) (ad : Nat → Nat) (cI : Nat → ClassId) (sd : Int64) (M : zM) (a b : Int) (h1 : 0 ≤ a ∧ a < 12) (h2 : 0 ≤ b ∧ b < 12) (B : Int) (hB : 0 ≤ B ∧ B ≤ 1000000) (h3 : ∀ k, k ≤ 12 → ∀ j, j ≤ 12 → ∀ x, 0 ≤ x → x < 144 → -1 ≤ nShR (nShN M a b k) a b k j 5 x ∧ nShR (nShN M a b k) a b k j 5 x ≤ B) : zMv l y_Mo_shorten (.code y_Mo_shorten c_Mo_shorten 9 (none)) { frames := 0, cells := 0, slots := 0, locals := 0 } D (nL sd) ad cI M [.ref (ad 0), .int (zI (a)), .int (zI (b))] (fun u => u = nShN M a b 12) := by
  refine z_of (cc := c_Mo_shorten) (maxL := 9) (ret := none) (own := "PersonSeedsModel") (by decide) rfl rfl (Nat.le_of_ble_eq_true rfl) ?_
  intro p e s m below meth c ls hF hr hX hK hl
  obtain ⟨hx, hb, hml, hown, hlk⟩ := id hF
  have hS : va_S (zA ad (nL sd)) s.heap s.heap [] := va_S.rf
  have hl : lv_has ls 9 [(0, .ref (ad 0)), (1, .int (zI (a))), (2, .int (zI (b)))] := hl
  refine z_const hx hb d_Mo_shorten_0 ?_
  refine lv_istore_n (lv' := [(3, .int (zI (0))), (0, .ref (ad 0)), (1, .int (zI (a))), (2, .int (zI (b)))]) hx hb d_Mo_shorten_1 rfl hl (by decide) rfl (fun ls hl => ?_)
  have loop2 : ∀ (n2 : Nat) (i0 : Nat) (H : Heap) (locs : List Loc) (ls : Array Slot), i0 ≤ 12 → 12 - i0 < n2 → zX D (nL sd) ad cI (nShN M a b i0) H → va_S (zA ad (nL sd)) s.heap H locs → lv_has ls 9 [(3, .int (zI ((i0 : Int)))), (0, .ref (ad 0)), (1, .int (zI (a))), (2, .int (zI (b)))] → W p l e { frames := 0, cells := 0, slots := 0, locals := 0 } s m ([.ref (ad 0), .int (zI (a)), .int (zI (b))] : List Value).toArray below meth c H locs 0 0 (MQ below (zQv D (nL sd) ad cI (fun u => u = nShN M a b 12)) ([.ref (ad 0), .int (zI (a)), .int (zI (b))] : List Value).toArray s 0 0 (zA ad (nL sd))) (F0 m 2 ls []) := by
    intro n2
    induction n2 with
    | zero => intro i0 H locs ls hI hn; exact absurd hn (Nat.not_lt_zero _)
    | succ n2 ih2 =>
      intro i0 H locs ls hI2 hn2 hX hS hl
      refine lv_iload_n hx hb d_Mo_shorten_2 rfl (lv_at hl 0 rfl) ?_
      refine z_bipush hx hb d_Mo_shorten_3 (by decide) ?_
      refine z_icmp_ge (a := (i0 : Int)) (b := 12) (tgt := 134) hx hb d_Mo_shorten_5 (by decide) (by omega) (fun hb_1 => ?_) (fun hb_2 => ?_)
      · skip
        exact z_vret (post := fun u => u = nShN M a b 12) hx hb hr hlk hK hX hS (by rw [show i0 = 12 by omega]) d_Mo_shorten_134
      · skip
        refine z_const hx hb d_Mo_shorten_8 ?_
        refine lv_istore (lv' := [(4, .int (zI (0))), (3, .int (zI ((i0 : Int)))), (0, .ref (ad 0)), (1, .int (zI (a))), (2, .int (zI (b)))]) hx hb d_Mo_shorten_9 hl (by decide) rfl (fun ls hl => ?_)
        have loop11 : ∀ (n11 : Nat) (j0 : Nat) (H : Heap) (locs : List Loc) (ls : Array Slot), j0 ≤ 12 → 12 - j0 < n11 → zX D (nL sd) ad cI (nShR (nShN M a b i0) a b i0 j0) H → va_S (zA ad (nL sd)) s.heap H locs → lv_has ls 9 [(4, .int (zI ((j0 : Int)))), (3, .int (zI ((i0 : Int)))), (0, .ref (ad 0)), (1, .int (zI (a))), (2, .int (zI (b)))] → W p l e { frames := 0, cells := 0, slots := 0, locals := 0 } s m ([.ref (ad 0), .int (zI (a)), .int (zI (b))] : List Value).toArray below meth c H locs 0 0 (MQ below (zQv D (nL sd) ad cI (fun u => u = nShN M a b 12)) ([.ref (ad 0), .int (zI (a)), .int (zI (b))] : List Value).toArray s 0 0 (zA ad (nL sd))) (F0 m 11 ls []) := by
          intro n11
          induction n11 with
          | zero => intro j0 H locs ls hI hn; exact absurd hn (Nat.not_lt_zero _)
          | succ n11 ih11 =>
            intro j0 H locs ls hI11 hn11 hX hS hl
            have hq := h3 i0 (by omega) j0 hI11
            generalize hMq : nShR (nShN M a b i0) a b i0 j0 = Mq at hX hq
            have q1 := hq (12 * (i0 : Int) + a) (by omega) (by omega)
            have q4 : (j0 : Int) < 12 → -1 ≤ Mq 5 (12 * b + (j0 : Int)) ∧ Mq 5 (12 * b + (j0 : Int)) ≤ B := fun h9 => hq _ (by omega) (by omega)
            have q5 : (j0 : Int) < 12 → -1 ≤ Mq 5 (12 * (i0 : Int) + (j0 : Int)) ∧ Mq 5 (12 * (i0 : Int) + (j0 : Int)) ≤ B := fun h9 => hq _ (by omega) (by omega)
            refine lv_iload hx hb d_Mo_shorten_11 (lv_at hl 0 rfl) ?_
            refine z_bipush hx hb d_Mo_shorten_13 (by decide) ?_
            refine z_icmp_ge (a := (j0 : Int)) (b := 12) (tgt := 128) hx hb d_Mo_shorten_15 (by decide) (by omega) (fun hb_3 => ?_) (fun hb_4 => ?_)
            · skip
              refine z_iinc (lv' := [(3, .int (zI ((i0 : Int) + 1))), (4, .int (zI ((j0 : Int)))), (0, .ref (ad 0)), (1, .int (zI (a))), (2, .int (zI (b)))]) hx hb d_Mo_shorten_128 hl (k := 1) rfl (by decide) rfl (fun ls hl => ?_)
              refine lv_goto (tgt := 2) hx hb d_Mo_shorten_131 (by decide) ?_
              exact ih2 (i0 + 1) _ _ _ (by omega) (by omega) (by have e9 : nShN M a b (i0 + 1) = Mq := (by rw [← hMq, show j0 = 12 by omega]; rfl); rw [e9]; exact hX) hS (lv_sub hl [0, 2, 3, 4] rfl)
            · skip
              refine lv_aload_n hx hb d_Mo_shorten_18 rfl (lv_at hl 2 rfl) ?_
              refine z_getr hx hb iw_Mo hown hK hX 0 rfl rfl 8 (by decide) tw_506 (fun _ h => h) 5 rfl d_Mo_shorten_19 ?_
              refine z_bipush hx hb d_Mo_shorten_22 (by decide) ?_
              refine lv_iload_n hx hb d_Mo_shorten_24 rfl (lv_at hl 1 rfl) ?_
              refine z_imul hx hb d_Mo_shorten_25 ?_
              refine lv_iload_n hx hb d_Mo_shorten_26 rfl (lv_at hl 3 rfl) ?_
              refine z_iadd hx hb d_Mo_shorten_27 ?_
              refine z_iald (i := (12 * (i0 : Int)) + a) (v := Mq 5 ((12 * (i0 : Int)) + a)) hx hb hK hX 5 rfl (by omega) (by decide) rfl d_Mo_shorten_28 (fun rg_5 => ?_)
              refine lv_istore (lv' := [(5, .int (zI (Mq 5 ((12 * (i0 : Int)) + a)))), (4, .int (zI ((j0 : Int)))), (3, .int (zI ((i0 : Int)))), (0, .ref (ad 0)), (1, .int (zI (a))), (2, .int (zI (b)))]) hx hb d_Mo_shorten_29 hl (by decide) rfl (fun ls hl => ?_)
              refine lv_aload_n hx hb d_Mo_shorten_31 rfl (lv_at hl 3 rfl) ?_
              refine z_getr hx hb iw_Mo hown hK hX 0 rfl rfl 8 (by decide) tw_506 (fun _ h => h) 5 rfl d_Mo_shorten_32 ?_
              refine z_bipush hx hb d_Mo_shorten_35 (by decide) ?_
              refine lv_iload_n hx hb d_Mo_shorten_37 rfl (lv_at hl 5 rfl) ?_
              refine z_imul hx hb d_Mo_shorten_38 ?_
              refine lv_iload hx hb d_Mo_shorten_39 (lv_at hl 1 rfl) ?_
              refine z_iadd hx hb d_Mo_shorten_41 ?_
              refine z_iald (i := (12 * b) + (j0 : Int)) (v := Mq 5 ((12 * b) + (j0 : Int))) hx hb hK hX 5 rfl (by omega) (by decide) rfl d_Mo_shorten_42 (fun rg_6 => ?_)
              refine lv_istore (lv' := [(6, .int (zI (Mq 5 ((12 * b) + (j0 : Int))))), (5, .int (zI (Mq 5 ((12 * (i0 : Int)) + a)))), (4, .int (zI ((j0 : Int)))), (3, .int (zI ((i0 : Int)))), (0, .ref (ad 0)), (1, .int (zI (a))), (2, .int (zI (b)))]) hx hb d_Mo_shorten_43 hl (by decide) rfl (fun ls hl => ?_)
              refine lv_aload_n hx hb d_Mo_shorten_45 rfl (lv_at hl 4 rfl) ?_
              refine z_getr hx hb iw_Mo hown hK hX 0 rfl rfl 8 (by decide) tw_506 (fun _ h => h) 5 rfl d_Mo_shorten_46 ?_
              refine z_bipush hx hb d_Mo_shorten_49 (by decide) ?_
              refine lv_iload_n hx hb d_Mo_shorten_51 rfl (lv_at hl 3 rfl) ?_
              refine z_imul hx hb d_Mo_shorten_52 ?_
              refine lv_iload hx hb d_Mo_shorten_53 (lv_at hl 2 rfl) ?_
              refine z_iadd hx hb d_Mo_shorten_55 ?_
              refine z_iald (i := (12 * (i0 : Int)) + (j0 : Int)) (v := Mq 5 ((12 * (i0 : Int)) + (j0 : Int))) hx hb hK hX 5 rfl (by omega) (by decide) rfl d_Mo_shorten_56 (fun rg_7 => ?_)
              refine lv_istore (lv' := [(7, .int (zI (Mq 5 ((12 * (i0 : Int)) + (j0 : Int))))), (6, .int (zI (Mq 5 ((12 * b) + (j0 : Int))))), (5, .int (zI (Mq 5 ((12 * (i0 : Int)) + a)))), (4, .int (zI ((j0 : Int)))), (3, .int (zI ((i0 : Int)))), (0, .ref (ad 0)), (1, .int (zI (a))), (2, .int (zI (b)))]) hx hb d_Mo_shorten_57 hl (by decide) rfl (fun ls hl => ?_)
              refine lv_iload hx hb d_Mo_shorten_59 (lv_at hl 2 rfl) ?_
              refine z_if_lt (a := Mq 5 ((12 * (i0 : Int)) + a)) (tgt := 73) hx hb d_Mo_shorten_61 (by decide) (by omega) (fun hb_8 => ?_) (fun hb_9 => ?_)
              · skip
                refine z_const hx hb d_Mo_shorten_73 ?_
                refine lv_istore (lv' := [(8, .int (zI (0))), (7, .int (zI (Mq 5 ((12 * (i0 : Int)) + (j0 : Int))))), (6, .int (zI (Mq 5 ((12 * b) + (j0 : Int))))), (5, .int (zI (Mq 5 ((12 * (i0 : Int)) + a)))), (4, .int (zI ((j0 : Int)))), (3, .int (zI ((i0 : Int)))), (0, .ref (ad 0)), (1, .int (zI (a))), (2, .int (zI (b)))]) hx hb d_Mo_shorten_74 hl (by decide) rfl (fun ls hl => ?_)
                refine lv_aload_n hx hb d_Mo_shorten_76 rfl (lv_at hl 6 rfl) ?_
                refine z_getr hx hb iw_Mo hown hK hX 0 rfl rfl 8 (by decide) tw_506 (fun _ h => h) 5 rfl d_Mo_shorten_77 ?_
                refine z_bipush hx hb d_Mo_shorten_80 (by decide) ?_
                refine lv_iload_n hx hb d_Mo_shorten_82 rfl (lv_at hl 5 rfl) ?_
                refine z_imul hx hb d_Mo_shorten_83 ?_
                refine lv_iload hx hb d_Mo_shorten_84 (lv_at hl 4 rfl) ?_
                refine z_iadd hx hb d_Mo_shorten_86 ?_
                refine lv_iload hx hb d_Mo_shorten_87 (lv_at hl 0 rfl) ?_
                refine z_if_eq (a := 0) (tgt := 119) hx hb d_Mo_shorten_89 (by decide) (by omega) (fun hb_10 => ?_) (fun hb_11 => ?_)
                · skip
                  refine lv_iload hx hb d_Mo_shorten_119 (lv_at hl 1 rfl) ?_
                  refine z_iast (i := (12 * (i0 : Int)) + (j0 : Int)) (v := Mq 5 ((12 * (i0 : Int)) + (j0 : Int))) hx hb hK hX hS 5 rfl (by omega) (by decide) (by omega) d_Mo_shorten_121 (fun H locs hX hS => ?_)
                  refine z_iinc (lv' := [(4, .int (zI ((j0 : Int) + 1))), (8, .int (zI (0))), (7, .int (zI (Mq 5 ((12 * (i0 : Int)) + (j0 : Int))))), (6, .int (zI (Mq 5 ((12 * b) + (j0 : Int))))), (5, .int (zI (Mq 5 ((12 * (i0 : Int)) + a)))), (3, .int (zI ((i0 : Int)))), (0, .ref (ad 0)), (1, .int (zI (a))), (2, .int (zI (b)))]) hx hb d_Mo_shorten_122 hl (k := 4) rfl (by decide) rfl (fun ls hl => ?_)
                  refine lv_goto (tgt := 11) hx hb d_Mo_shorten_125 (by decide) ?_
                  exact ih11 (j0 + 1) _ _ _ (by omega) (by omega) (by have e9 : nShR (nShN M a b i0) a b i0 (j0 + 1) = zU Mq 5 ((12 * (i0 : Int)) + (j0 : Int)) (Mq 5 ((12 * (i0 : Int)) + (j0 : Int))) := (by rw [← hMq]; show nShI (nShR (nShN M a b i0) a b i0 j0) a b i0 j0 = _; unfold nShI nShV; rw [hMq]; first | rw [if_pos (by omega)] | rw [if_neg (by omega)]); rw [e9]; exact hX) hS (lv_sub hl [0, 5, 6, 7, 8] rfl)
                · skip
                  exfalso
                  omega
              · skip
                refine lv_iload hx hb d_Mo_shorten_64 (lv_at hl 1 rfl) ?_
                refine z_if_lt (a := Mq 5 ((12 * b) + (j0 : Int))) (tgt := 73) hx hb d_Mo_shorten_66 (by decide) (by omega) (fun hb_12 => ?_) (fun hb_13 => ?_)
                · skip
                  refine z_const hx hb d_Mo_shorten_73 ?_
                  refine lv_istore (lv' := [(8, .int (zI (0))), (7, .int (zI (Mq 5 ((12 * (i0 : Int)) + (j0 : Int))))), (6, .int (zI (Mq 5 ((12 * b) + (j0 : Int))))), (5, .int (zI (Mq 5 ((12 * (i0 : Int)) + a)))), (4, .int (zI ((j0 : Int)))), (3, .int (zI ((i0 : Int)))), (0, .ref (ad 0)), (1, .int (zI (a))), (2, .int (zI (b)))]) hx hb d_Mo_shorten_74 hl (by decide) rfl (fun ls hl => ?_)
                  refine lv_aload_n hx hb d_Mo_shorten_76 rfl (lv_at hl 6 rfl) ?_
                  refine z_getr hx hb iw_Mo hown hK hX 0 rfl rfl 8 (by decide) tw_506 (fun _ h => h) 5 rfl d_Mo_shorten_77 ?_
                  refine z_bipush hx hb d_Mo_shorten_80 (by decide) ?_
                  refine lv_iload_n hx hb d_Mo_shorten_82 rfl (lv_at hl 5 rfl) ?_
                  refine z_imul hx hb d_Mo_shorten_83 ?_
                  refine lv_iload hx hb d_Mo_shorten_84 (lv_at hl 4 rfl) ?_
                  refine z_iadd hx hb d_Mo_shorten_86 ?_
                  refine lv_iload hx hb d_Mo_shorten_87 (lv_at hl 0 rfl) ?_
                  refine z_if_eq (a := 0) (tgt := 119) hx hb d_Mo_shorten_89 (by decide) (by omega) (fun hb_14 => ?_) (fun hb_15 => ?_)
                  · skip
                    refine lv_iload hx hb d_Mo_shorten_119 (lv_at hl 1 rfl) ?_
                    refine z_iast (i := (12 * (i0 : Int)) + (j0 : Int)) (v := Mq 5 ((12 * (i0 : Int)) + (j0 : Int))) hx hb hK hX hS 5 rfl (by omega) (by decide) (by omega) d_Mo_shorten_121 (fun H locs hX hS => ?_)
                    refine z_iinc (lv' := [(4, .int (zI ((j0 : Int) + 1))), (8, .int (zI (0))), (7, .int (zI (Mq 5 ((12 * (i0 : Int)) + (j0 : Int))))), (6, .int (zI (Mq 5 ((12 * b) + (j0 : Int))))), (5, .int (zI (Mq 5 ((12 * (i0 : Int)) + a)))), (3, .int (zI ((i0 : Int)))), (0, .ref (ad 0)), (1, .int (zI (a))), (2, .int (zI (b)))]) hx hb d_Mo_shorten_122 hl (k := 4) rfl (by decide) rfl (fun ls hl => ?_)
                    refine lv_goto (tgt := 11) hx hb d_Mo_shorten_125 (by decide) ?_
                    exact ih11 (j0 + 1) _ _ _ (by omega) (by omega) (by have e9 : nShR (nShN M a b i0) a b i0 (j0 + 1) = zU Mq 5 ((12 * (i0 : Int)) + (j0 : Int)) (Mq 5 ((12 * (i0 : Int)) + (j0 : Int))) := (by rw [← hMq]; show nShI (nShR (nShN M a b i0) a b i0 j0) a b i0 j0 = _; unfold nShI nShV; rw [hMq]; first | rw [if_pos (by omega)] | rw [if_neg (by omega)]); rw [e9]; exact hX) hS (lv_sub hl [0, 5, 6, 7, 8] rfl)
                  · skip
                    exfalso
                    omega
                · skip
                  refine z_const hx hb d_Mo_shorten_69 ?_
                  refine lv_goto (tgt := 74) hx hb d_Mo_shorten_70 (by decide) ?_
                  refine lv_istore (lv' := [(8, .int (zI (1))), (7, .int (zI (Mq 5 ((12 * (i0 : Int)) + (j0 : Int))))), (6, .int (zI (Mq 5 ((12 * b) + (j0 : Int))))), (5, .int (zI (Mq 5 ((12 * (i0 : Int)) + a)))), (4, .int (zI ((j0 : Int)))), (3, .int (zI ((i0 : Int)))), (0, .ref (ad 0)), (1, .int (zI (a))), (2, .int (zI (b)))]) hx hb d_Mo_shorten_74 hl (by decide) rfl (fun ls hl => ?_)
                  refine lv_aload_n hx hb d_Mo_shorten_76 rfl (lv_at hl 6 rfl) ?_
                  refine z_getr hx hb iw_Mo hown hK hX 0 rfl rfl 8 (by decide) tw_506 (fun _ h => h) 5 rfl d_Mo_shorten_77 ?_
                  refine z_bipush hx hb d_Mo_shorten_80 (by decide) ?_
                  refine lv_iload_n hx hb d_Mo_shorten_82 rfl (lv_at hl 5 rfl) ?_
                  refine z_imul hx hb d_Mo_shorten_83 ?_
                  refine lv_iload hx hb d_Mo_shorten_84 (lv_at hl 4 rfl) ?_
                  refine z_iadd hx hb d_Mo_shorten_86 ?_
                  refine lv_iload hx hb d_Mo_shorten_87 (lv_at hl 0 rfl) ?_
                  refine z_if_eq (a := 1) (tgt := 119) hx hb d_Mo_shorten_89 (by decide) (by omega) (fun hb_16 => ?_) (fun hb_17 => ?_)
                  · skip
                    exfalso
                    omega
                  · skip
                    refine lv_iload hx hb d_Mo_shorten_92 (lv_at hl 1 rfl) ?_
                    refine z_if_lt (a := Mq 5 ((12 * (i0 : Int)) + (j0 : Int))) (tgt := 109) hx hb d_Mo_shorten_94 (by decide) (by omega) (fun hb_18 => ?_) (fun hb_19 => ?_)
                    · skip
                      refine lv_iload hx hb d_Mo_shorten_109 (lv_at hl 3 rfl) ?_
                      refine lv_iload hx hb d_Mo_shorten_111 (lv_at hl 2 rfl) ?_
                      refine z_iadd hx hb d_Mo_shorten_113 ?_
                      refine z_const hx hb d_Mo_shorten_114 ?_
                      refine z_iadd hx hb d_Mo_shorten_115 ?_
                      refine lv_goto (tgt := 121) hx hb d_Mo_shorten_116 (by decide) ?_
                      refine z_iast (i := (12 * (i0 : Int)) + (j0 : Int)) (v := ((Mq 5 ((12 * (i0 : Int)) + a)) + (Mq 5 ((12 * b) + (j0 : Int)))) + 1) hx hb hK hX hS 5 rfl (by omega) (by decide) (by omega) d_Mo_shorten_121 (fun H locs hX hS => ?_)
                      refine z_iinc (lv' := [(4, .int (zI ((j0 : Int) + 1))), (8, .int (zI (1))), (7, .int (zI (Mq 5 ((12 * (i0 : Int)) + (j0 : Int))))), (6, .int (zI (Mq 5 ((12 * b) + (j0 : Int))))), (5, .int (zI (Mq 5 ((12 * (i0 : Int)) + a)))), (3, .int (zI ((i0 : Int)))), (0, .ref (ad 0)), (1, .int (zI (a))), (2, .int (zI (b)))]) hx hb d_Mo_shorten_122 hl (k := 4) rfl (by decide) rfl (fun ls hl => ?_)
                      refine lv_goto (tgt := 11) hx hb d_Mo_shorten_125 (by decide) ?_
                      exact ih11 (j0 + 1) _ _ _ (by omega) (by omega) (by have e9 : nShR (nShN M a b i0) a b i0 (j0 + 1) = zU Mq 5 ((12 * (i0 : Int)) + (j0 : Int)) (((Mq 5 ((12 * (i0 : Int)) + a)) + (Mq 5 ((12 * b) + (j0 : Int)))) + 1) := (by rw [← hMq]; show nShI (nShR (nShN M a b i0) a b i0 j0) a b i0 j0 = _; unfold nShI nShV; rw [hMq]; first | rw [if_pos (by omega)] | rw [if_neg (by omega)]); rw [e9]; exact hX) hS (lv_sub hl [0, 5, 6, 7, 8] rfl)
                    · skip
                      refine lv_iload hx hb d_Mo_shorten_97 (lv_at hl 3 rfl) ?_
                      refine lv_iload hx hb d_Mo_shorten_99 (lv_at hl 2 rfl) ?_
                      refine z_iadd hx hb d_Mo_shorten_101 ?_
                      refine z_const hx hb d_Mo_shorten_102 ?_
                      refine z_iadd hx hb d_Mo_shorten_103 ?_
                      refine lv_iload hx hb d_Mo_shorten_104 (lv_at hl 1 rfl) ?_
                      refine z_icmp_ge (a := ((Mq 5 ((12 * (i0 : Int)) + a)) + (Mq 5 ((12 * b) + (j0 : Int)))) + 1) (b := Mq 5 ((12 * (i0 : Int)) + (j0 : Int))) (tgt := 119) hx hb d_Mo_shorten_106 (by decide) (by omega) (fun hb_20 => ?_) (fun hb_21 => ?_)
                      · skip
                        refine lv_iload hx hb d_Mo_shorten_119 (lv_at hl 1 rfl) ?_
                        refine z_iast (i := (12 * (i0 : Int)) + (j0 : Int)) (v := Mq 5 ((12 * (i0 : Int)) + (j0 : Int))) hx hb hK hX hS 5 rfl (by omega) (by decide) (by omega) d_Mo_shorten_121 (fun H locs hX hS => ?_)
                        refine z_iinc (lv' := [(4, .int (zI ((j0 : Int) + 1))), (8, .int (zI (1))), (7, .int (zI (Mq 5 ((12 * (i0 : Int)) + (j0 : Int))))), (6, .int (zI (Mq 5 ((12 * b) + (j0 : Int))))), (5, .int (zI (Mq 5 ((12 * (i0 : Int)) + a)))), (3, .int (zI ((i0 : Int)))), (0, .ref (ad 0)), (1, .int (zI (a))), (2, .int (zI (b)))]) hx hb d_Mo_shorten_122 hl (k := 4) rfl (by decide) rfl (fun ls hl => ?_)
                        refine lv_goto (tgt := 11) hx hb d_Mo_shorten_125 (by decide) ?_
                        exact ih11 (j0 + 1) _ _ _ (by omega) (by omega) (by have e9 : nShR (nShN M a b i0) a b i0 (j0 + 1) = zU Mq 5 ((12 * (i0 : Int)) + (j0 : Int)) (Mq 5 ((12 * (i0 : Int)) + (j0 : Int))) := (by rw [← hMq]; show nShI (nShR (nShN M a b i0) a b i0 j0) a b i0 j0 = _; unfold nShI nShV; rw [hMq]; first | rw [if_pos (by omega)] | rw [if_neg (by omega)]); rw [e9]; exact hX) hS (lv_sub hl [0, 5, 6, 7, 8] rfl)
                      · skip
                        refine lv_iload hx hb d_Mo_shorten_109 (lv_at hl 3 rfl) ?_
                        refine lv_iload hx hb d_Mo_shorten_111 (lv_at hl 2 rfl) ?_
                        refine z_iadd hx hb d_Mo_shorten_113 ?_
                        refine z_const hx hb d_Mo_shorten_114 ?_
                        refine z_iadd hx hb d_Mo_shorten_115 ?_
                        refine lv_goto (tgt := 121) hx hb d_Mo_shorten_116 (by decide) ?_
                        refine z_iast (i := (12 * (i0 : Int)) + (j0 : Int)) (v := ((Mq 5 ((12 * (i0 : Int)) + a)) + (Mq 5 ((12 * b) + (j0 : Int)))) + 1) hx hb hK hX hS 5 rfl (by omega) (by decide) (by omega) d_Mo_shorten_121 (fun H locs hX hS => ?_)
                        refine z_iinc (lv' := [(4, .int (zI ((j0 : Int) + 1))), (8, .int (zI (1))), (7, .int (zI (Mq 5 ((12 * (i0 : Int)) + (j0 : Int))))), (6, .int (zI (Mq 5 ((12 * b) + (j0 : Int))))), (5, .int (zI (Mq 5 ((12 * (i0 : Int)) + a)))), (3, .int (zI ((i0 : Int)))), (0, .ref (ad 0)), (1, .int (zI (a))), (2, .int (zI (b)))]) hx hb d_Mo_shorten_122 hl (k := 4) rfl (by decide) rfl (fun ls hl => ?_)
                        refine lv_goto (tgt := 11) hx hb d_Mo_shorten_125 (by decide) ?_
                        exact ih11 (j0 + 1) _ _ _ (by omega) (by omega) (by have e9 : nShR (nShN M a b i0) a b i0 (j0 + 1) = zU Mq 5 ((12 * (i0 : Int)) + (j0 : Int)) (((Mq 5 ((12 * (i0 : Int)) + a)) + (Mq 5 ((12 * b) + (j0 : Int)))) + 1) := (by rw [← hMq]; show nShI (nShR (nShN M a b i0) a b i0 j0) a b i0 j0 = _; unfold nShI nShV; rw [hMq]; first | rw [if_pos (by omega)] | rw [if_neg (by omega)]); rw [e9]; exact hX) hS (lv_sub hl [0, 5, 6, 7, 8] rfl)
        exact loop11 _ 0 _ _ _ (by omega) (Nat.lt_succ_self _) hX hS (lv_sub hl [0, 1, 2, 3, 4] rfl)
  exact loop2 _ 0 _ _ _ (by omega) (Nat.lt_succ_self _) hX hS (lv_sub hl [0, 1, 2, 3] rfl)
set_option maxHeartbeats 4000000 in
set_option maxRecDepth 100000 in
theorem m_drawn (l : Launch) (D : va_G) (ad : Nat → Nat) (cI : Nat → ClassId) (sd : Int64) (M : zM) (p1 k1 m1 : Int) (h0 : 0 ≤ p1 ∧ p1 < 60) (h9 : 0 ≤ k1 ∧ k1 < 8) (h1 : 1 ≤ m1 ∧ m1 ≤ 2147483647) : zMi l y_Mo_drawn (.code y_Mo_drawn c_Mo_drawn 6 (some .int)) { frames := 0, cells := 0, slots := 0, locals := 0 } D (nL sd) ad cI M [.ref (ad 0), .int (zI (p1)), .int (zI (k1)), .int (zI (m1))] (fun z u => z = (xDraw sd p1 k1 m1) ∧ u = M) := by
  refine z_of (cc := c_Mo_drawn) (maxL := 6) (ret := some .int) (own := "PersonSeedsModel") (by decide) rfl rfl (Nat.le_of_ble_eq_true rfl) ?_
  intro p e s m below meth c ls hF hr hX hK hl
  obtain ⟨hx, hb, hml, hown, hlk⟩ := id hF
  have hS : va_S (zA ad (nL sd)) s.heap s.heap [] := va_S.rf
  have hl : lv_has ls 6 [(0, .ref (ad 0)), (1, .int (zI (p1))), (2, .int (zI (k1))), (3, .int (zI (m1)))] := hl
  refine lv_aload_n hx hb d_Mo_drawn_0 rfl (lv_at hl 0 rfl) ?_
  refine z_getl hx hb iw_Mo hown hK hX 0 rfl rfl 0 (by decide) tw_498 (fun _ h => h) sd rfl d_Mo_drawn_1 ?_
  refine z_ldc2 (v := -7046029254386353131) hx hb hown hK tw_613 d_Mo_drawn_4 ?_
  refine z_ldcl (v := 8) hx hb hown hK tw_614 (by decide) d_Mo_drawn_7 ?_
  refine lv_iload_n hx hb d_Mo_drawn_10 rfl (lv_at hl 1 rfl) ?_
  refine z_i2l (a := p1) hx hb (by omega) d_Mo_drawn_11 ?_
  refine lv_lmul hx hb d_Mo_drawn_12 ?_
  refine lv_iload_n hx hb d_Mo_drawn_13 rfl (lv_at hl 2 rfl) ?_
  refine z_i2l (a := k1) hx hb (by omega) d_Mo_drawn_14 ?_
  refine lv_ladd hx hb d_Mo_drawn_15 ?_
  refine z_lconst (v := 1) hx hb d_Mo_drawn_16 (by decide) ?_
  refine lv_ladd hx hb d_Mo_drawn_17 ?_
  refine lv_lmul hx hb d_Mo_drawn_18 ?_
  refine lv_ladd hx hb d_Mo_drawn_19 ?_
  refine lv_lstore (lv' := [(4, .long (sd + ((-7046029254386353131 : Int64) * ((((lI (8)) * (lI (p1))) + (lI (k1))) + (lI (1)))))), (0, .ref (ad 0)), (1, .int (zI (p1))), (2, .int (zI (k1))), (3, .int (zI (m1)))]) hx hb d_Mo_drawn_20 hl (by decide) rfl (fun ls hl => ?_)
  rw [nZ0 (by omega) (by omega)] at hl
  have hl : lv_has ls 6 [(4, .long (xZ0 sd p1 k1)), (0, .ref (ad 0)), (1, .int (zI (p1))), (2, .int (zI (k1))), (3, .int (zI (m1)))] := hl
  refine lv_lload hx hb d_Mo_drawn_22 (lv_at hl 0 rfl) ?_
  refine lv_lload hx hb d_Mo_drawn_24 (lv_at hl 0 rfl) ?_
  refine z_bipush hx hb d_Mo_drawn_26 (by decide) ?_
  refine lv_lushr (v := xSr (xZ0 sd p1 k1) 30) hx hb d_Mo_drawn_28 rfl ?_
  refine lv_lxor hx hb d_Mo_drawn_29 ?_
  refine z_ldc2 (v := -4658895280553007687) hx hb hown hK tw_615 d_Mo_drawn_30 ?_
  refine lv_lmul hx hb d_Mo_drawn_33 ?_
  refine lv_lstore (lv' := [(4, .long (((xZ0 sd p1 k1) ^^^ (xSr (xZ0 sd p1 k1) 30)) * (-4658895280553007687 : Int64))), (0, .ref (ad 0)), (1, .int (zI (p1))), (2, .int (zI (k1))), (3, .int (zI (m1)))]) hx hb d_Mo_drawn_34 hl (by decide) rfl (fun ls hl => ?_)
  have hl : lv_has ls 6 [(4, .long (xZ1 sd p1 k1)), (0, .ref (ad 0)), (1, .int (zI (p1))), (2, .int (zI (k1))), (3, .int (zI (m1)))] := hl
  refine lv_lload hx hb d_Mo_drawn_36 (lv_at hl 0 rfl) ?_
  refine lv_lload hx hb d_Mo_drawn_38 (lv_at hl 0 rfl) ?_
  refine z_bipush hx hb d_Mo_drawn_40 (by decide) ?_
  refine lv_lushr (v := xSr (xZ1 sd p1 k1) 27) hx hb d_Mo_drawn_42 rfl ?_
  refine lv_lxor hx hb d_Mo_drawn_43 ?_
  refine z_ldc2 (v := -7723592293110705685) hx hb hown hK tw_616 d_Mo_drawn_44 ?_
  refine lv_lmul hx hb d_Mo_drawn_47 ?_
  refine lv_lstore (lv' := [(4, .long (((xZ1 sd p1 k1) ^^^ (xSr (xZ1 sd p1 k1) 27)) * (-7723592293110705685 : Int64))), (0, .ref (ad 0)), (1, .int (zI (p1))), (2, .int (zI (k1))), (3, .int (zI (m1)))]) hx hb d_Mo_drawn_48 hl (by decide) rfl (fun ls hl => ?_)
  have hl : lv_has ls 6 [(4, .long (xZ2 sd p1 k1)), (0, .ref (ad 0)), (1, .int (zI (p1))), (2, .int (zI (k1))), (3, .int (zI (m1)))] := hl
  refine lv_lload hx hb d_Mo_drawn_50 (lv_at hl 0 rfl) ?_
  refine lv_lload hx hb d_Mo_drawn_52 (lv_at hl 0 rfl) ?_
  refine z_bipush hx hb d_Mo_drawn_54 (by decide) ?_
  refine lv_lushr (v := xSr (xZ2 sd p1 k1) 31) hx hb d_Mo_drawn_56 rfl ?_
  refine lv_lxor hx hb d_Mo_drawn_57 ?_
  refine lv_lstore (lv' := [(4, .long ((xZ2 sd p1 k1) ^^^ (xSr (xZ2 sd p1 k1) 31))), (0, .ref (ad 0)), (1, .int (zI (p1))), (2, .int (zI (k1))), (3, .int (zI (m1)))]) hx hb d_Mo_drawn_58 hl (by decide) rfl (fun ls hl => ?_)
  have hl : lv_has ls 6 [(4, .long (xZ3 sd p1 k1)), (0, .ref (ad 0)), (1, .int (zI (p1))), (2, .int (zI (k1))), (3, .int (zI (m1)))] := hl
  refine lv_lload hx hb d_Mo_drawn_60 (lv_at hl 0 rfl) ?_
  refine z_const hx hb d_Mo_drawn_62 ?_
  refine lv_lushr (v := xSr (xZ3 sd p1 k1) 1) hx hb d_Mo_drawn_63 rfl ?_
  refine lv_iload_n hx hb d_Mo_drawn_64 rfl (lv_at hl 4 rfl) ?_
  refine z_i2l (a := m1) hx hb (by omega) d_Mo_drawn_65 ?_
  refine lv_lrem hx hb d_Mo_drawn_66 (by rw [← lI_zI (by omega)]; exact zI_long (by omega)) ?_
  refine lv_l2i hx hb d_Mo_drawn_67 rfl ?_
  refine z_raw ?_
  exact z_iret (z := (((xSr (xZ3 sd p1 k1) 1) - (xSr (xZ3 sd p1 k1) 1) / (lI (m1)) * (lI (m1))).toInt32).toInt) (post := (fun z u => z = (xDraw sd p1 k1 m1) ∧ u = M)) hx hb hr hlk hK hX hS (zI_rg _) ⟨by unfold xDraw xZ; rw [lI_zI (by omega)], rfl⟩ d_Mo_drawn_68

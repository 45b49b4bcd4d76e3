/-! The fourteen helpers -/
set_option maxHeartbeats 800000 in
set_option maxRecDepth 100000 in
theorem h_room (l : Launch) (hlt : l.stackTraces = false) (D : va_G) (ad : Nat → Nat) (cI : Nat → ClassId) (sd : Int64) (M : zM) (qo : Nat) (f : Nat → Int64) (v : Int) (g0 : -2147483648 ≤ v ∧ v ≤ 2147483647) (hO : xOK M) (hq : ¬ zA ad (xL sd) qo) : hMi l y_La_room (.codeWith y_La_room c_La_room 4 (some .int) [(0, 9, 12, 13), (0, 9, 15, 15)]) { frames := 8, cells := 2, slots := 12, locals := 134 } D (xL sd) ad cI M qo f [.ref (ad 0), .int (zI v), .ref qo] (fun k0 w0 u0 => cO (1 ≤ v ∧ v ≤ 100) (M 0 4 = 0 ∧ M 1 0 < 12) (M 1 0) (xPlan sd (xRoomsAdd M v) (M 1 0 + 1)) M k0 w0 u0) 2 12 := by
  refine h_of (cc := c_La_room) (maxL := 4) (own := "PersonSeedsLaw") (by decide) rfl (Nat.le_of_ble_eq_true rfl) ?_
  intro p e s m below meth c ls hF hr hT hP hl
  obtain ⟨hx, hb, hml, hown, hlk⟩ := id hF
  obtain ⟨hTP, hOo, hnc⟩ := hP
  have hK := hTP.2.1
  have hl : lv_has ls 4 [(0, .ref (ad 0)), (1, .int (zI v)), (2, .ref qo)] := hl
  refine lv_aload_n hx hb d_La_room_0 rfl (lv_at hl 2 rfl) ?_
  refine z_const hx hb d_La_room_1 ?_
  refine lv_aload_n hx hb d_La_room_2 rfl (lv_at hl 0 rfl) ?_
  refine lv_iload_n hx hb d_La_room_3 rfl (lv_at hl 1 rfl) ?_
  refine h_call (rest := [.int (zI 0), .ref qo]) (f := f) hF (k_room l hlt D ad cI sd M v g0 hO) (hK.cV 1 tw_181 tw_178 tw_1 tw_179 tw_180 (by decide +kernel) rfl rfl ⟨Nat.le_of_ble_eq_true rfl, Nat.le_of_ble_eq_true rfl⟩) hTP hOo hq rfl rfl rfl hl.1 rfl (Nat.le_of_ble_eq_true rfl) d_La_room_4 ⟨Nat.le_of_ble_eq_true rfl, Nat.le_of_ble_eq_true rfl⟩ (fun E ce q9 H locs hbad hX hO1 hS hce hcv hcl => ?_) (fun z u H locs hz hp hX hO1 hS => ?_)
  · rcases hbad with ⟨hE, hna⟩ | ⟨hE, ha, hns⟩
    · subst hE
      refine vx_catch (own := "PersonSeedsLaw") (name := xIAE) hown [] ⟨0, 9, 12, 13⟩ [⟨0, 9, 15, 15⟩] hT (fun z hz => nomatch hz) rfl (by decide) (hK.w tw_176 rfl) (hK.wc tw_187 rfl) hce hcv hcl ?_
      refine lv_astore_n (lv' := [(3, .ref q9), (0, .ref (ad 0)), (1, .int (zI v)), (2, .ref qo)]) hx hb d_La_room_12 rfl hl (by decide) rfl (fun ls hl => ?_)
      refine z_const hx hb d_La_room_13 ?_
      refine W.widen (k := 2) (n := 12) (Nat.le_of_ble_eq_true rfl) (Nat.le_of_ble_eq_true rfl) ?_
      exact h_ret (k := 1) (w := 0) hx hb hr hlk hX hO1 hS (by omega) (Or.inr (Or.inl ⟨rfl, hna, rfl⟩)) (by omega) (fun q => absurd q (by omega)) d_La_room_14
    · subst hE
      refine vx_catch (own := "PersonSeedsLaw") (name := xISE) hown [⟨0, 9, 12, 13⟩] ⟨0, 9, 15, 15⟩ [] hT (fun z hz => Or.inr (by rw [List.mem_singleton.mp hz]; exact ⟨by decide, xIAE, hK.w tw_176 rfl, hnc⟩)) rfl (by decide) (hK.w tw_177 rfl) (hK.wc tw_257 rfl) hce hcv hcl ?_
      refine lv_astore_n (lv' := [(3, .ref q9), (0, .ref (ad 0)), (1, .int (zI v)), (2, .ref qo)]) hx hb d_La_room_15 rfl hl (by decide) rfl (fun ls hl => ?_)
      refine z_const hx hb d_La_room_16 ?_
      refine W.widen (k := 2) (n := 12) (Nat.le_of_ble_eq_true rfl) (Nat.le_of_ble_eq_true rfl) ?_
      exact h_ret (k := 2) (w := 0) hx hb hr hlk hX hO1 hS (by omega) (Or.inr (Or.inr ⟨rfl, ha, hns, rfl⟩)) (by omega) (fun q => absurd q (by omega)) d_La_room_17
  · obtain ⟨⟨ha, hs⟩, hzF, hu⟩ := hp
    refine z_i2l hx hb hz d_La_room_7 ?_
    refine z_last (A := hA ad (xL sd) qo) hx hb hK hX hO1 hq (fun q h => Or.inl h) (Or.inr rfl) hS d_La_room_8 (fun H locs f1 hf1 hX hO1 hS => ?_)
    refine lv_goto (tgt := 18) hx hb d_La_room_9 (by decide) ?_
    refine z_const hx hb d_La_room_18 ?_
    refine W.widen (k := 2) (n := 12) (Nat.le_of_ble_eq_true rfl) (Nat.le_of_ble_eq_true rfl) ?_
    exact h_ret (k := 0) (w := z) hx hb hr hlk hX hO1 hS (by omega) (Or.inl ⟨rfl, ha, hs, hu, hzF⟩) hz (fun _ => hf1) d_La_room_19
set_option maxHeartbeats 800000 in
set_option maxRecDepth 100000 in
theorem h_door (l : Launch) (hlt : l.stackTraces = false) (D : va_G) (ad : Nat → Nat) (cI : Nat → ClassId) (sd : Int64) (M : zM) (qo : Nat) (f : Nat → Int64) (a b w : Int) (g0 : -2147483648 ≤ a ∧ a ≤ 2147483647) (g1 : -2147483648 ≤ b ∧ b ≤ 2147483647) (g2 : -2147483648 ≤ w ∧ w ≤ 2147483647) (hO : xOK M) (hq : ¬ zA ad (xL sd) qo) : hMi l y_La_door (.codeWith y_La_door c_La_door 6 (some .int) [(0, 12, 15, 13), (0, 12, 19, 15)]) { frames := 9, cells := 5, slots := 30, locals := 156 } D (xL sd) ad cI M qo f [.ref (ad 0), .int (zI a), .int (zI b), .int (zI w), .ref qo] (fun k0 w0 u0 => cO ((0 ≤ a ∧ a < M 1 0) ∧ (0 ≤ b ∧ b < M 1 0) ∧ (1 ≤ w ∧ w ≤ 20) ∧ ¬ a = b) (M 0 4 = 0 ∧ M 2 0 < 16) (M 2 0) (xDoorsAdd M a b w) M k0 w0 u0) 5 30 := by
  refine h_of (cc := c_La_door) (maxL := 6) (own := "PersonSeedsLaw") (by decide) rfl (Nat.le_of_ble_eq_true rfl) ?_
  intro p e s m below meth c ls hF hr hT hP hl
  obtain ⟨hx, hb, hml, hown, hlk⟩ := id hF
  obtain ⟨hTP, hOo, hnc⟩ := hP
  have hK := hTP.2.1
  have hl : lv_has ls 6 [(0, .ref (ad 0)), (1, .int (zI a)), (2, .int (zI b)), (3, .int (zI w)), (4, .ref qo)] := hl
  refine lv_aload hx hb d_La_door_0 (lv_at hl 4 rfl) ?_
  refine z_const hx hb d_La_door_2 ?_
  refine lv_aload_n hx hb d_La_door_3 rfl (lv_at hl 0 rfl) ?_
  refine lv_iload_n hx hb d_La_door_4 rfl (lv_at hl 1 rfl) ?_
  refine lv_iload_n hx hb d_La_door_5 rfl (lv_at hl 2 rfl) ?_
  refine lv_iload_n hx hb d_La_door_6 rfl (lv_at hl 3 rfl) ?_
  refine h_call (rest := [.int (zI 0), .ref qo]) (f := f) hF (k_door l hlt D ad cI sd M a b w g0 g1 g2 hO) (hK.cV 3 tw_292 tw_289 tw_1 tw_290 tw_291 (by decide +kernel) rfl rfl ⟨Nat.le_of_ble_eq_true rfl, Nat.le_of_ble_eq_true rfl⟩) hTP hOo hq rfl rfl rfl hl.1 rfl (Nat.le_of_ble_eq_true rfl) d_La_door_7 ⟨Nat.le_of_ble_eq_true rfl, Nat.le_of_ble_eq_true rfl⟩ (fun E ce q9 H locs hbad hX hO1 hS hce hcv hcl => ?_) (fun z u H locs hz hp hX hO1 hS => ?_)
  · rcases hbad with ⟨hE, hna⟩ | ⟨hE, ha, hns⟩
    · subst hE
      refine vx_catch (own := "PersonSeedsLaw") (name := xIAE) hown [] ⟨0, 12, 15, 13⟩ [⟨0, 12, 19, 15⟩] hT (fun z hz => nomatch hz) rfl (by decide) (hK.w tw_176 rfl) (hK.wc tw_187 rfl) hce hcv hcl ?_
      refine lv_astore (lv' := [(5, .ref q9), (0, .ref (ad 0)), (1, .int (zI a)), (2, .int (zI b)), (3, .int (zI w)), (4, .ref qo)]) hx hb d_La_door_15 hl (by decide) rfl (fun ls hl => ?_)
      refine z_const hx hb d_La_door_17 ?_
      refine W.widen (k := 5) (n := 30) (Nat.le_of_ble_eq_true rfl) (Nat.le_of_ble_eq_true rfl) ?_
      exact h_ret (k := 1) (w := 0) hx hb hr hlk hX hO1 hS (by omega) (Or.inr (Or.inl ⟨rfl, hna, rfl⟩)) (by omega) (fun q => absurd q (by omega)) d_La_door_18
    · subst hE
      refine vx_catch (own := "PersonSeedsLaw") (name := xISE) hown [⟨0, 12, 15, 13⟩] ⟨0, 12, 19, 15⟩ [] hT (fun z hz => Or.inr (by rw [List.mem_singleton.mp hz]; exact ⟨by decide, xIAE, hK.w tw_176 rfl, hnc⟩)) rfl (by decide) (hK.w tw_177 rfl) (hK.wc tw_257 rfl) hce hcv hcl ?_
      refine lv_astore (lv' := [(5, .ref q9), (0, .ref (ad 0)), (1, .int (zI a)), (2, .int (zI b)), (3, .int (zI w)), (4, .ref qo)]) hx hb d_La_door_19 hl (by decide) rfl (fun ls hl => ?_)
      refine z_const hx hb d_La_door_21 ?_
      refine W.widen (k := 5) (n := 30) (Nat.le_of_ble_eq_true rfl) (Nat.le_of_ble_eq_true rfl) ?_
      exact h_ret (k := 2) (w := 0) hx hb hr hlk hX hO1 hS (by omega) (Or.inr (Or.inr ⟨rfl, ha, hns, rfl⟩)) (by omega) (fun q => absurd q (by omega)) d_La_door_22
  · obtain ⟨⟨ha, hs⟩, hzF, hu⟩ := hp
    refine z_i2l hx hb hz d_La_door_10 ?_
    refine z_last (A := hA ad (xL sd) qo) hx hb hK hX hO1 hq (fun q h => Or.inl h) (Or.inr rfl) hS d_La_door_11 (fun H locs f1 hf1 hX hO1 hS => ?_)
    refine lv_goto (tgt := 23) hx hb d_La_door_12 (by decide) ?_
    refine z_const hx hb d_La_door_23 ?_
    refine W.widen (k := 5) (n := 30) (Nat.le_of_ble_eq_true rfl) (Nat.le_of_ble_eq_true rfl) ?_
    exact h_ret (k := 0) (w := z) hx hb hr hlk hX hO1 hS (by omega) (Or.inl ⟨rfl, ha, hs, hu, hzF⟩) hz (fun _ => hf1) d_La_door_24
set_option maxHeartbeats 800000 in
set_option maxRecDepth 100000 in
theorem h_arrives (l : Launch) (hlt : l.stackTraces = false) (D : va_G) (ad : Nat → Nat) (cI : Nat → ClassId) (sd : Int64) (M : zM) (qo : Nat) (f : Nat → Int64) (t n : Int) (g0 : -2147483648 ≤ t ∧ t ≤ 2147483647) (g1 : -2147483648 ≤ n ∧ n ≤ 2147483647) (hO : xOK M) (hq : ¬ zA ad (xL sd) qo) : hMi l y_La_arrives (.codeWith y_La_arrives c_La_arrives 5 (some .int) [(0, 10, 13, 13), (0, 10, 17, 15)]) { frames := 8, cells := 3, slots := 18, locals := 134 } D (xL sd) ad cI M qo f [.ref (ad 0), .int (zI t), .int (zI n), .ref qo] (fun k0 w0 u0 => cO ((0 ≤ t ∧ t ≤ 1439) ∧ (1 ≤ n ∧ n ≤ 20)) (M 0 4 = 0 ∧ 0 < M 1 0 ∧ M 4 1 + n ≤ 60) (M 4 1 + n) (xPlan sd (xPersAdd M t n) (M 1 0)) M k0 w0 u0) 3 18 := by
  refine h_of (cc := c_La_arrives) (maxL := 5) (own := "PersonSeedsLaw") (by decide) rfl (Nat.le_of_ble_eq_true rfl) ?_
  intro p e s m below meth c ls hF hr hT hP hl
  obtain ⟨hx, hb, hml, hown, hlk⟩ := id hF
  obtain ⟨hTP, hOo, hnc⟩ := hP
  have hK := hTP.2.1
  have hl : lv_has ls 5 [(0, .ref (ad 0)), (1, .int (zI t)), (2, .int (zI n)), (3, .ref qo)] := hl
  refine lv_aload_n hx hb d_La_arrives_0 rfl (lv_at hl 3 rfl) ?_
  refine z_const hx hb d_La_arrives_1 ?_
  refine lv_aload_n hx hb d_La_arrives_2 rfl (lv_at hl 0 rfl) ?_
  refine lv_iload_n hx hb d_La_arrives_3 rfl (lv_at hl 1 rfl) ?_
  refine lv_iload_n hx hb d_La_arrives_4 rfl (lv_at hl 2 rfl) ?_
  refine h_call (rest := [.int (zI 0), .ref qo]) (f := f) hF (k_arrives l hlt D ad cI sd M t n g0 g1 hO) (hK.cV 2 tw_322 tw_319 tw_1 tw_320 tw_321 (by decide +kernel) rfl rfl ⟨Nat.le_of_ble_eq_true rfl, Nat.le_of_ble_eq_true rfl⟩) hTP hOo hq rfl rfl rfl hl.1 rfl (Nat.le_of_ble_eq_true rfl) d_La_arrives_5 ⟨Nat.le_of_ble_eq_true rfl, Nat.le_of_ble_eq_true rfl⟩ (fun E ce q9 H locs hbad hX hO1 hS hce hcv hcl => ?_) (fun z u H locs hz hp hX hO1 hS => ?_)
  · rcases hbad with ⟨hE, hna⟩ | ⟨hE, ha, hns⟩
    · subst hE
      refine vx_catch (own := "PersonSeedsLaw") (name := xIAE) hown [] ⟨0, 10, 13, 13⟩ [⟨0, 10, 17, 15⟩] hT (fun z hz => nomatch hz) rfl (by decide) (hK.w tw_176 rfl) (hK.wc tw_187 rfl) hce hcv hcl ?_
      refine lv_astore (lv' := [(4, .ref q9), (0, .ref (ad 0)), (1, .int (zI t)), (2, .int (zI n)), (3, .ref qo)]) hx hb d_La_arrives_13 hl (by decide) rfl (fun ls hl => ?_)
      refine z_const hx hb d_La_arrives_15 ?_
      refine W.widen (k := 3) (n := 18) (Nat.le_of_ble_eq_true rfl) (Nat.le_of_ble_eq_true rfl) ?_
      exact h_ret (k := 1) (w := 0) hx hb hr hlk hX hO1 hS (by omega) (Or.inr (Or.inl ⟨rfl, hna, rfl⟩)) (by omega) (fun q => absurd q (by omega)) d_La_arrives_16
    · subst hE
      refine vx_catch (own := "PersonSeedsLaw") (name := xISE) hown [⟨0, 10, 13, 13⟩] ⟨0, 10, 17, 15⟩ [] hT (fun z hz => Or.inr (by rw [List.mem_singleton.mp hz]; exact ⟨by decide, xIAE, hK.w tw_176 rfl, hnc⟩)) rfl (by decide) (hK.w tw_177 rfl) (hK.wc tw_257 rfl) hce hcv hcl ?_
      refine lv_astore (lv' := [(4, .ref q9), (0, .ref (ad 0)), (1, .int (zI t)), (2, .int (zI n)), (3, .ref qo)]) hx hb d_La_arrives_17 hl (by decide) rfl (fun ls hl => ?_)
      refine z_const hx hb d_La_arrives_19 ?_
      refine W.widen (k := 3) (n := 18) (Nat.le_of_ble_eq_true rfl) (Nat.le_of_ble_eq_true rfl) ?_
      exact h_ret (k := 2) (w := 0) hx hb hr hlk hX hO1 hS (by omega) (Or.inr (Or.inr ⟨rfl, ha, hns, rfl⟩)) (by omega) (fun q => absurd q (by omega)) d_La_arrives_20
  · obtain ⟨⟨ha, hs⟩, hzF, hu⟩ := hp
    refine z_i2l hx hb hz d_La_arrives_8 ?_
    refine z_last (A := hA ad (xL sd) qo) hx hb hK hX hO1 hq (fun q h => Or.inl h) (Or.inr rfl) hS d_La_arrives_9 (fun H locs f1 hf1 hX hO1 hS => ?_)
    refine lv_goto (tgt := 21) hx hb d_La_arrives_10 (by decide) ?_
    refine z_const hx hb d_La_arrives_21 ?_
    refine W.widen (k := 3) (n := 18) (Nat.le_of_ble_eq_true rfl) (Nat.le_of_ble_eq_true rfl) ?_
    exact h_ret (k := 0) (w := z) hx hb hr hlk hX hO1 hS (by omega) (Or.inl ⟨rfl, ha, hs, hu, hzF⟩) hz (fun _ => hf1) d_La_arrives_22
set_option maxHeartbeats 800000 in
set_option maxRecDepth 100000 in
theorem h_draw (l : Launch) (hlt : l.stackTraces = false) (D : va_G) (ad : Nat → Nat) (cI : Nat → ClassId) (sd : Int64) (M : zM) (qo : Nat) (f : Nat → Int64) (p1 k1 m1 : Int) (g0 : -2147483648 ≤ p1 ∧ p1 ≤ 2147483647) (g1 : -2147483648 ≤ k1 ∧ k1 ≤ 2147483647) (g2 : -2147483648 ≤ m1 ∧ m1 ≤ 2147483647) (hO : xOK M) (hq : ¬ zA ad (xL sd) qo) : hMi l y_La_draw (.codeWith y_La_draw c_La_draw 6 (some .int) [(0, 12, 15, 13)]) { frames := 8, cells := 3, slots := 18, locals := 135 } D (xL sd) ad cI M qo f [.ref (ad 0), .int (zI p1), .int (zI k1), .int (zI m1), .ref qo] (fun k0 w0 u0 => cO ((0 ≤ p1 ∧ p1 ≤ 59) ∧ (0 ≤ k1 ∧ k1 ≤ 7) ∧ (1 ≤ m1 ∧ m1 ≤ 1000000)) (True) (xDraw sd p1 k1 m1) (M) M k0 w0 u0) 3 18 := by
  refine h_of (cc := c_La_draw) (maxL := 6) (own := "PersonSeedsLaw") (by decide) rfl (Nat.le_of_ble_eq_true rfl) ?_
  intro p e s m below meth c ls hF hr hT hP hl
  obtain ⟨hx, hb, hml, hown, hlk⟩ := id hF
  obtain ⟨hTP, hOo, hnc⟩ := hP
  have hK := hTP.2.1
  have hl : lv_has ls 6 [(0, .ref (ad 0)), (1, .int (zI p1)), (2, .int (zI k1)), (3, .int (zI m1)), (4, .ref qo)] := hl
  refine lv_aload hx hb d_La_draw_0 (lv_at hl 4 rfl) ?_
  refine z_const hx hb d_La_draw_2 ?_
  refine lv_aload_n hx hb d_La_draw_3 rfl (lv_at hl 0 rfl) ?_
  refine lv_iload_n hx hb d_La_draw_4 rfl (lv_at hl 1 rfl) ?_
  refine lv_iload_n hx hb d_La_draw_5 rfl (lv_at hl 2 rfl) ?_
  refine lv_iload_n hx hb d_La_draw_6 rfl (lv_at hl 3 rfl) ?_
  refine h_call (rest := [.int (zI 0), .ref qo]) (f := f) hF (k_draw l hlt D ad cI sd M p1 k1 m1 g0 g1 g2 hO) (hK.cV 3 tw_333 tw_330 tw_1 tw_331 tw_332 (by decide +kernel) rfl rfl ⟨Nat.le_of_ble_eq_true rfl, Nat.le_of_ble_eq_true rfl⟩) hTP hOo hq rfl rfl rfl hl.1 rfl (Nat.le_of_ble_eq_true rfl) d_La_draw_7 ⟨Nat.le_of_ble_eq_true rfl, Nat.le_of_ble_eq_true rfl⟩ (fun E ce q9 H locs hbad hX hO1 hS hce hcv hcl => ?_) (fun z u H locs hz hp hX hO1 hS => ?_)
  · obtain ⟨hE, hna⟩ := hbad
    subst hE
    refine vx_catch (own := "PersonSeedsLaw") (name := xIAE) hown [] ⟨0, 12, 15, 13⟩ [] hT (fun z hz => nomatch hz) rfl (by decide) (hK.w tw_176 rfl) (hK.wc tw_187 rfl) hce hcv hcl ?_
    refine lv_astore (lv' := [(5, .ref q9), (0, .ref (ad 0)), (1, .int (zI p1)), (2, .int (zI k1)), (3, .int (zI m1)), (4, .ref qo)]) hx hb d_La_draw_15 hl (by decide) rfl (fun ls hl => ?_)
    refine z_const hx hb d_La_draw_17 ?_
    refine W.widen (k := 3) (n := 18) (Nat.le_of_ble_eq_true rfl) (Nat.le_of_ble_eq_true rfl) ?_
    exact h_ret (k := 1) (w := 0) hx hb hr hlk hX hO1 hS (by omega) (Or.inr (Or.inl ⟨rfl, hna, rfl⟩)) (by omega) (fun q => absurd q (by omega)) d_La_draw_18
  · obtain ⟨ha, hzF, hu⟩ := hp
    refine z_i2l hx hb hz d_La_draw_10 ?_
    refine z_last (A := hA ad (xL sd) qo) hx hb hK hX hO1 hq (fun q h => Or.inl h) (Or.inr rfl) hS d_La_draw_11 (fun H locs f1 hf1 hX hO1 hS => ?_)
    refine lv_goto (tgt := 19) hx hb d_La_draw_12 (by decide) ?_
    refine z_const hx hb d_La_draw_19 ?_
    refine W.widen (k := 3) (n := 18) (Nat.le_of_ble_eq_true rfl) (Nat.le_of_ble_eq_true rfl) ?_
    exact h_ret (k := 0) (w := z) hx hb hr hlk hX hO1 hS (by omega) (Or.inl ⟨rfl, ha, trivial, hu, hzF⟩) hz (fun _ => hf1) d_La_draw_20
set_option maxHeartbeats 800000 in
set_option maxRecDepth 100000 in
theorem h_run (l : Launch) (hlt : l.stackTraces = false) (D : va_G) (ad : Nat → Nat) (cI : Nat → ClassId) (sd : Int64) (M : zM) (qo : Nat) (f : Nat → Int64) (n : Int) (g0 : -2147483648 ≤ n ∧ n ≤ 2147483647) (hO : xOK M) (hq : ¬ zA ad (xL sd) qo) : hMi l y_La_run (.codeWith y_La_run c_La_run 4 (some .int) [(0, 9, 12, 13), (0, 9, 15, 15)]) { frames := 8, cells := 2, slots := 12, locals := 138 } D (xL sd) ad cI M qo f [.ref (ad 0), .int (zI n), .ref qo] (fun k0 w0 u0 => cO (1 ≤ n ∧ n ≤ 500) (0 < M 1 0 ∧ M 0 4 + n ≤ 2000) (bm (xRun M n.toNat 0 5 - xRun M n.toNat 0 6)) (xRun M n.toNat) M k0 w0 u0) 2 12 := by
  refine h_of (cc := c_La_run) (maxL := 4) (own := "PersonSeedsLaw") (by decide) rfl (Nat.le_of_ble_eq_true rfl) ?_
  intro p e s m below meth c ls hF hr hT hP hl
  obtain ⟨hx, hb, hml, hown, hlk⟩ := id hF
  obtain ⟨hTP, hOo, hnc⟩ := hP
  have hK := hTP.2.1
  have hl : lv_has ls 4 [(0, .ref (ad 0)), (1, .int (zI n)), (2, .ref qo)] := hl
  refine lv_aload_n hx hb d_La_run_0 rfl (lv_at hl 2 rfl) ?_
  refine z_const hx hb d_La_run_1 ?_
  refine lv_aload_n hx hb d_La_run_2 rfl (lv_at hl 0 rfl) ?_
  refine lv_iload_n hx hb d_La_run_3 rfl (lv_at hl 1 rfl) ?_
  refine h_call (rest := [.int (zI 0), .ref qo]) (f := f) hF (k_run l hlt D ad cI sd M n g0 hO) (hK.cV 1 tw_342 tw_339 tw_1 tw_340 tw_341 (by decide +kernel) rfl rfl ⟨Nat.le_of_ble_eq_true rfl, Nat.le_of_ble_eq_true rfl⟩) hTP hOo hq rfl rfl rfl hl.1 rfl (Nat.le_of_ble_eq_true rfl) d_La_run_4 ⟨Nat.le_of_ble_eq_true rfl, Nat.le_of_ble_eq_true rfl⟩ (fun E ce q9 H locs hbad hX hO1 hS hce hcv hcl => ?_) (fun z u H locs hz hp hX hO1 hS => ?_)
  · rcases hbad with ⟨hE, hna⟩ | ⟨hE, ha, hns⟩
    · subst hE
      refine vx_catch (own := "PersonSeedsLaw") (name := xIAE) hown [] ⟨0, 9, 12, 13⟩ [⟨0, 9, 15, 15⟩] hT (fun z hz => nomatch hz) rfl (by decide) (hK.w tw_176 rfl) (hK.wc tw_187 rfl) hce hcv hcl ?_
      refine lv_astore_n (lv' := [(3, .ref q9), (0, .ref (ad 0)), (1, .int (zI n)), (2, .ref qo)]) hx hb d_La_run_12 rfl hl (by decide) rfl (fun ls hl => ?_)
      refine z_const hx hb d_La_run_13 ?_
      refine W.widen (k := 2) (n := 12) (Nat.le_of_ble_eq_true rfl) (Nat.le_of_ble_eq_true rfl) ?_
      exact h_ret (k := 1) (w := 0) hx hb hr hlk hX hO1 hS (by omega) (Or.inr (Or.inl ⟨rfl, hna, rfl⟩)) (by omega) (fun q => absurd q (by omega)) d_La_run_14
    · subst hE
      refine vx_catch (own := "PersonSeedsLaw") (name := xISE) hown [⟨0, 9, 12, 13⟩] ⟨0, 9, 15, 15⟩ [] hT (fun z hz => Or.inr (by rw [List.mem_singleton.mp hz]; exact ⟨by decide, xIAE, hK.w tw_176 rfl, hnc⟩)) rfl (by decide) (hK.w tw_177 rfl) (hK.wc tw_257 rfl) hce hcv hcl ?_
      refine lv_astore_n (lv' := [(3, .ref q9), (0, .ref (ad 0)), (1, .int (zI n)), (2, .ref qo)]) hx hb d_La_run_15 rfl hl (by decide) rfl (fun ls hl => ?_)
      refine z_const hx hb d_La_run_16 ?_
      refine W.widen (k := 2) (n := 12) (Nat.le_of_ble_eq_true rfl) (Nat.le_of_ble_eq_true rfl) ?_
      exact h_ret (k := 2) (w := 0) hx hb hr hlk hX hO1 hS (by omega) (Or.inr (Or.inr ⟨rfl, ha, hns, rfl⟩)) (by omega) (fun q => absurd q (by omega)) d_La_run_17
  · obtain ⟨⟨ha, hs⟩, hzF, hu⟩ := hp
    refine z_i2l hx hb hz d_La_run_7 ?_
    refine z_last (A := hA ad (xL sd) qo) hx hb hK hX hO1 hq (fun q h => Or.inl h) (Or.inr rfl) hS d_La_run_8 (fun H locs f1 hf1 hX hO1 hS => ?_)
    refine lv_goto (tgt := 18) hx hb d_La_run_9 (by decide) ?_
    refine z_const hx hb d_La_run_18 ?_
    refine W.widen (k := 2) (n := 12) (Nat.le_of_ble_eq_true rfl) (Nat.le_of_ble_eq_true rfl) ?_
    exact h_ret (k := 0) (w := z) hx hb hr hlk hX hO1 hS (by omega) (Or.inl ⟨rfl, ha, hs, hu, hzF⟩) hz (fun _ => hf1) d_La_run_19
set_option maxHeartbeats 800000 in
set_option maxRecDepth 100000 in
theorem h_person (l : Launch) (hlt : l.stackTraces = false) (D : va_G) (ad : Nat → Nat) (cI : Nat → ClassId) (sd : Int64) (M : zM) (qo : Nat) (f : Nat → Int64) (p1 what : Int) (g0 : -2147483648 ≤ p1 ∧ p1 ≤ 2147483647) (g1 : -2147483648 ≤ what ∧ what ≤ 2147483647) (hO : xOK M) (hq : ¬ zA ad (xL sd) qo) : hMi l y_La_person (.codeWith y_La_person c_La_person 5 (some .int) [(0, 10, 13, 13)]) { frames := 9, cells := 2, slots := 12, locals := 155 } D (xL sd) ad cI M qo f [.ref (ad 0), .int (zI p1), .int (zI what), .ref qo] (fun k0 w0 u0 => cO ((0 ≤ p1 ∧ p1 < M 4 1) ∧ (0 ≤ what ∧ what ≤ 5)) (True) (xTell M p1 what) (M) M k0 w0 u0) 2 12 := by
  refine h_of (cc := c_La_person) (maxL := 5) (own := "PersonSeedsLaw") (by decide) rfl (Nat.le_of_ble_eq_true rfl) ?_
  intro p e s m below meth c ls hF hr hT hP hl
  obtain ⟨hx, hb, hml, hown, hlk⟩ := id hF
  obtain ⟨hTP, hOo, hnc⟩ := hP
  have hK := hTP.2.1
  have hl : lv_has ls 5 [(0, .ref (ad 0)), (1, .int (zI p1)), (2, .int (zI what)), (3, .ref qo)] := hl
  refine lv_aload_n hx hb d_La_person_0 rfl (lv_at hl 3 rfl) ?_
  refine z_const hx hb d_La_person_1 ?_
  refine lv_aload_n hx hb d_La_person_2 rfl (lv_at hl 0 rfl) ?_
  refine lv_iload_n hx hb d_La_person_3 rfl (lv_at hl 1 rfl) ?_
  refine lv_iload_n hx hb d_La_person_4 rfl (lv_at hl 2 rfl) ?_
  refine h_call (rest := [.int (zI 0), .ref qo]) (f := f) hF (k_person l hlt D ad cI sd M p1 what g0 g1 hO) (hK.cV 2 tw_414 tw_411 tw_1 tw_412 tw_413 (by decide +kernel) rfl rfl ⟨Nat.le_of_ble_eq_true rfl, Nat.le_of_ble_eq_true rfl⟩) hTP hOo hq rfl rfl rfl hl.1 rfl (Nat.le_of_ble_eq_true rfl) d_La_person_5 ⟨Nat.le_of_ble_eq_true rfl, Nat.le_of_ble_eq_true rfl⟩ (fun E ce q9 H locs hbad hX hO1 hS hce hcv hcl => ?_) (fun z u H locs hz hp hX hO1 hS => ?_)
  · obtain ⟨hE, hna⟩ := hbad
    subst hE
    refine vx_catch (own := "PersonSeedsLaw") (name := xIAE) hown [] ⟨0, 10, 13, 13⟩ [] hT (fun z hz => nomatch hz) rfl (by decide) (hK.w tw_176 rfl) (hK.wc tw_187 rfl) hce hcv hcl ?_
    refine lv_astore (lv' := [(4, .ref q9), (0, .ref (ad 0)), (1, .int (zI p1)), (2, .int (zI what)), (3, .ref qo)]) hx hb d_La_person_13 hl (by decide) rfl (fun ls hl => ?_)
    refine z_const hx hb d_La_person_15 ?_
    refine W.widen (k := 2) (n := 12) (Nat.le_of_ble_eq_true rfl) (Nat.le_of_ble_eq_true rfl) ?_
    exact h_ret (k := 1) (w := 0) hx hb hr hlk hX hO1 hS (by omega) (Or.inr (Or.inl ⟨rfl, hna, rfl⟩)) (by omega) (fun q => absurd q (by omega)) d_La_person_16
  · obtain ⟨ha, hzF, hu⟩ := hp
    refine z_i2l hx hb hz d_La_person_8 ?_
    refine z_last (A := hA ad (xL sd) qo) hx hb hK hX hO1 hq (fun q h => Or.inl h) (Or.inr rfl) hS d_La_person_9 (fun H locs f1 hf1 hX hO1 hS => ?_)
    refine lv_goto (tgt := 17) hx hb d_La_person_10 (by decide) ?_
    refine z_const hx hb d_La_person_17 ?_
    refine W.widen (k := 2) (n := 12) (Nat.le_of_ble_eq_true rfl) (Nat.le_of_ble_eq_true rfl) ?_
    exact h_ret (k := 0) (w := z) hx hb hr hlk hX hO1 hS (by omega) (Or.inl ⟨rfl, ha, trivial, hu, hzF⟩) hz (fun _ => hf1) d_La_person_18
set_option maxHeartbeats 800000 in
set_option maxRecDepth 100000 in
theorem h_at (l : Launch) (hlt : l.stackTraces = false) (D : va_G) (ad : Nat → Nat) (cI : Nat → ClassId) (sd : Int64) (M : zM) (qo : Nat) (f : Nat → Int64) (p1 : Int) (g0 : -2147483648 ≤ p1 ∧ p1 ≤ 2147483647) (hO : xOK M) (hq : ¬ zA ad (xL sd) qo) : hMi l y_La_at (.codeWith y_La_at c_La_at 4 (some .int) [(0, 9, 12, 13)]) { frames := 9, cells := 1, slots := 6, locals := 154 } D (xL sd) ad cI M qo f [.ref (ad 0), .int (zI p1), .ref qo] (fun k0 w0 u0 => cO (0 ≤ p1 ∧ p1 < M 4 1) (True) (xNow M p1) (M) M k0 w0 u0) 1 6 := by
  refine h_of (cc := c_La_at) (maxL := 4) (own := "PersonSeedsLaw") (by decide) rfl (Nat.le_of_ble_eq_true rfl) ?_
  intro p e s m below meth c ls hF hr hT hP hl
  obtain ⟨hx, hb, hml, hown, hlk⟩ := id hF
  obtain ⟨hTP, hOo, hnc⟩ := hP
  have hK := hTP.2.1
  have hl : lv_has ls 4 [(0, .ref (ad 0)), (1, .int (zI p1)), (2, .ref qo)] := hl
  refine lv_aload_n hx hb d_La_at_0 rfl (lv_at hl 2 rfl) ?_
  refine z_const hx hb d_La_at_1 ?_
  refine lv_aload_n hx hb d_La_at_2 rfl (lv_at hl 0 rfl) ?_
  refine lv_iload_n hx hb d_La_at_3 rfl (lv_at hl 1 rfl) ?_
  refine h_call (rest := [.int (zI 0), .ref qo]) (f := f) hF (k_at l hlt D ad cI sd M p1 g0 hO) (hK.cV 1 tw_425 tw_422 tw_1 tw_423 tw_424 (by decide +kernel) rfl rfl ⟨Nat.le_of_ble_eq_true rfl, Nat.le_of_ble_eq_true rfl⟩) hTP hOo hq rfl rfl rfl hl.1 rfl (Nat.le_of_ble_eq_true rfl) d_La_at_4 ⟨Nat.le_of_ble_eq_true rfl, Nat.le_of_ble_eq_true rfl⟩ (fun E ce q9 H locs hbad hX hO1 hS hce hcv hcl => ?_) (fun z u H locs hz hp hX hO1 hS => ?_)
  · obtain ⟨hE, hna⟩ := hbad
    subst hE
    refine vx_catch (own := "PersonSeedsLaw") (name := xIAE) hown [] ⟨0, 9, 12, 13⟩ [] hT (fun z hz => nomatch hz) rfl (by decide) (hK.w tw_176 rfl) (hK.wc tw_187 rfl) hce hcv hcl ?_
    refine lv_astore_n (lv' := [(3, .ref q9), (0, .ref (ad 0)), (1, .int (zI p1)), (2, .ref qo)]) hx hb d_La_at_12 rfl hl (by decide) rfl (fun ls hl => ?_)
    refine z_const hx hb d_La_at_13 ?_
    refine W.widen (k := 1) (n := 6) (Nat.le_of_ble_eq_true rfl) (Nat.le_of_ble_eq_true rfl) ?_
    exact h_ret (k := 1) (w := 0) hx hb hr hlk hX hO1 hS (by omega) (Or.inr (Or.inl ⟨rfl, hna, rfl⟩)) (by omega) (fun q => absurd q (by omega)) d_La_at_14
  · obtain ⟨ha, hzF, hu⟩ := hp
    refine z_i2l hx hb hz d_La_at_7 ?_
    refine z_last (A := hA ad (xL sd) qo) hx hb hK hX hO1 hq (fun q h => Or.inl h) (Or.inr rfl) hS d_La_at_8 (fun H locs f1 hf1 hX hO1 hS => ?_)
    refine lv_goto (tgt := 15) hx hb d_La_at_9 (by decide) ?_
    refine z_const hx hb d_La_at_15 ?_
    refine W.widen (k := 1) (n := 6) (Nat.le_of_ble_eq_true rfl) (Nat.le_of_ble_eq_true rfl) ?_
    exact h_ret (k := 0) (w := z) hx hb hr hlk hX hO1 hS (by omega) (Or.inl ⟨rfl, ha, trivial, hu, hzF⟩) hz (fun _ => hf1) d_La_at_16
set_option maxHeartbeats 800000 in
set_option maxRecDepth 100000 in
theorem h_was (l : Launch) (hlt : l.stackTraces = false) (D : va_G) (ad : Nat → Nat) (cI : Nat → ClassId) (sd : Int64) (M : zM) (qo : Nat) (f : Nat → Int64) (p1 t : Int) (g0 : -2147483648 ≤ p1 ∧ p1 ≤ 2147483647) (g1 : -2147483648 ≤ t ∧ t ≤ 2147483647) (hO : xOK M) (hq : ¬ zA ad (xL sd) qo) : hMi l y_La_was (.codeWith y_La_was c_La_was 5 (some .int) [(0, 10, 13, 13)]) { frames := 9, cells := 2, slots := 12, locals := 155 } D (xL sd) ad cI M qo f [.ref (ad 0), .int (zI p1), .int (zI t), .ref qo] (fun k0 w0 u0 => cO ((0 ≤ p1 ∧ p1 < M 4 1) ∧ (0 ≤ t ∧ t < M 0 4)) (True) (xBeh M p1 t) (M) M k0 w0 u0) 2 12 := by
  refine h_of (cc := c_La_was) (maxL := 5) (own := "PersonSeedsLaw") (by decide) rfl (Nat.le_of_ble_eq_true rfl) ?_
  intro p e s m below meth c ls hF hr hT hP hl
  obtain ⟨hx, hb, hml, hown, hlk⟩ := id hF
  obtain ⟨hTP, hOo, hnc⟩ := hP
  have hK := hTP.2.1
  have hl : lv_has ls 5 [(0, .ref (ad 0)), (1, .int (zI p1)), (2, .int (zI t)), (3, .ref qo)] := hl
  refine lv_aload_n hx hb d_La_was_0 rfl (lv_at hl 3 rfl) ?_
  refine z_const hx hb d_La_was_1 ?_
  refine lv_aload_n hx hb d_La_was_2 rfl (lv_at hl 0 rfl) ?_
  refine lv_iload_n hx hb d_La_was_3 rfl (lv_at hl 1 rfl) ?_
  refine lv_iload_n hx hb d_La_was_4 rfl (lv_at hl 2 rfl) ?_
  refine h_call (rest := [.int (zI 0), .ref qo]) (f := f) hF (k_was l hlt D ad cI sd M p1 t g0 g1 hO) (hK.cV 2 tw_432 tw_429 tw_1 tw_430 tw_431 (by decide +kernel) rfl rfl ⟨Nat.le_of_ble_eq_true rfl, Nat.le_of_ble_eq_true rfl⟩) hTP hOo hq rfl rfl rfl hl.1 rfl (Nat.le_of_ble_eq_true rfl) d_La_was_5 ⟨Nat.le_of_ble_eq_true rfl, Nat.le_of_ble_eq_true rfl⟩ (fun E ce q9 H locs hbad hX hO1 hS hce hcv hcl => ?_) (fun z u H locs hz hp hX hO1 hS => ?_)
  · obtain ⟨hE, hna⟩ := hbad
    subst hE
    refine vx_catch (own := "PersonSeedsLaw") (name := xIAE) hown [] ⟨0, 10, 13, 13⟩ [] hT (fun z hz => nomatch hz) rfl (by decide) (hK.w tw_176 rfl) (hK.wc tw_187 rfl) hce hcv hcl ?_
    refine lv_astore (lv' := [(4, .ref q9), (0, .ref (ad 0)), (1, .int (zI p1)), (2, .int (zI t)), (3, .ref qo)]) hx hb d_La_was_13 hl (by decide) rfl (fun ls hl => ?_)
    refine z_const hx hb d_La_was_15 ?_
    refine W.widen (k := 2) (n := 12) (Nat.le_of_ble_eq_true rfl) (Nat.le_of_ble_eq_true rfl) ?_
    exact h_ret (k := 1) (w := 0) hx hb hr hlk hX hO1 hS (by omega) (Or.inr (Or.inl ⟨rfl, hna, rfl⟩)) (by omega) (fun q => absurd q (by omega)) d_La_was_16
  · obtain ⟨ha, hzF, hu⟩ := hp
    refine z_i2l hx hb hz d_La_was_8 ?_
    refine z_last (A := hA ad (xL sd) qo) hx hb hK hX hO1 hq (fun q h => Or.inl h) (Or.inr rfl) hS d_La_was_9 (fun H locs f1 hf1 hX hO1 hS => ?_)
    refine lv_goto (tgt := 17) hx hb d_La_was_10 (by decide) ?_
    refine z_const hx hb d_La_was_17 ?_
    refine W.widen (k := 2) (n := 12) (Nat.le_of_ble_eq_true rfl) (Nat.le_of_ble_eq_true rfl) ?_
    exact h_ret (k := 0) (w := z) hx hb hr hlk hX hO1 hS (by omega) (Or.inl ⟨rfl, ha, trivial, hu, hzF⟩) hz (fun _ => hf1) d_La_was_18
set_option maxHeartbeats 800000 in
set_option maxRecDepth 100000 in
theorem h_waited (l : Launch) (hlt : l.stackTraces = false) (D : va_G) (ad : Nat → Nat) (cI : Nat → ClassId) (sd : Int64) (M : zM) (qo : Nat) (f : Nat → Int64) (p1 : Int) (g0 : -2147483648 ≤ p1 ∧ p1 ≤ 2147483647) (hO : xOK M) (hq : ¬ zA ad (xL sd) qo) : hMi l y_La_waited (.codeWith y_La_waited c_La_waited 4 (some .int) [(0, 9, 12, 13)]) { frames := 9, cells := 1, slots := 6, locals := 154 } D (xL sd) ad cI M qo f [.ref (ad 0), .int (zI p1), .ref qo] (fun k0 w0 u0 => cO (0 ≤ p1 ∧ p1 < M 4 1) (True) (M 25 p1) (M) M k0 w0 u0) 1 6 := by
  refine h_of (cc := c_La_waited) (maxL := 4) (own := "PersonSeedsLaw") (by decide) rfl (Nat.le_of_ble_eq_true rfl) ?_
  intro p e s m below meth c ls hF hr hT hP hl
  obtain ⟨hx, hb, hml, hown, hlk⟩ := id hF
  obtain ⟨hTP, hOo, hnc⟩ := hP
  have hK := hTP.2.1
  have hl : lv_has ls 4 [(0, .ref (ad 0)), (1, .int (zI p1)), (2, .ref qo)] := hl
  refine lv_aload_n hx hb d_La_waited_0 rfl (lv_at hl 2 rfl) ?_
  refine z_const hx hb d_La_waited_1 ?_
  refine lv_aload_n hx hb d_La_waited_2 rfl (lv_at hl 0 rfl) ?_
  refine lv_iload_n hx hb d_La_waited_3 rfl (lv_at hl 1 rfl) ?_
  refine h_call (rest := [.int (zI 0), .ref qo]) (f := f) hF (k_waited l hlt D ad cI sd M p1 g0 hO) (hK.cV 1 tw_447 tw_444 tw_1 tw_445 tw_446 (by decide +kernel) rfl rfl ⟨Nat.le_of_ble_eq_true rfl, Nat.le_of_ble_eq_true rfl⟩) hTP hOo hq rfl rfl rfl hl.1 rfl (Nat.le_of_ble_eq_true rfl) d_La_waited_4 ⟨Nat.le_of_ble_eq_true rfl, Nat.le_of_ble_eq_true rfl⟩ (fun E ce q9 H locs hbad hX hO1 hS hce hcv hcl => ?_) (fun z u H locs hz hp hX hO1 hS => ?_)
  · obtain ⟨hE, hna⟩ := hbad
    subst hE
    refine vx_catch (own := "PersonSeedsLaw") (name := xIAE) hown [] ⟨0, 9, 12, 13⟩ [] hT (fun z hz => nomatch hz) rfl (by decide) (hK.w tw_176 rfl) (hK.wc tw_187 rfl) hce hcv hcl ?_
    refine lv_astore_n (lv' := [(3, .ref q9), (0, .ref (ad 0)), (1, .int (zI p1)), (2, .ref qo)]) hx hb d_La_waited_12 rfl hl (by decide) rfl (fun ls hl => ?_)
    refine z_const hx hb d_La_waited_13 ?_
    refine W.widen (k := 1) (n := 6) (Nat.le_of_ble_eq_true rfl) (Nat.le_of_ble_eq_true rfl) ?_
    exact h_ret (k := 1) (w := 0) hx hb hr hlk hX hO1 hS (by omega) (Or.inr (Or.inl ⟨rfl, hna, rfl⟩)) (by omega) (fun q => absurd q (by omega)) d_La_waited_14
  · obtain ⟨ha, hzF, hu⟩ := hp
    refine z_i2l hx hb hz d_La_waited_7 ?_
    refine z_last (A := hA ad (xL sd) qo) hx hb hK hX hO1 hq (fun q h => Or.inl h) (Or.inr rfl) hS d_La_waited_8 (fun H locs f1 hf1 hX hO1 hS => ?_)
    refine lv_goto (tgt := 15) hx hb d_La_waited_9 (by decide) ?_
    refine z_const hx hb d_La_waited_15 ?_
    refine W.widen (k := 1) (n := 6) (Nat.le_of_ble_eq_true rfl) (Nat.le_of_ble_eq_true rfl) ?_
    exact h_ret (k := 0) (w := z) hx hb hr hlk hX hO1 hS (by omega) (Or.inl ⟨rfl, ha, trivial, hu, hzF⟩) hz (fun _ => hf1) d_La_waited_16
set_option maxHeartbeats 800000 in
set_option maxRecDepth 100000 in
theorem h_in (l : Launch) (hlt : l.stackTraces = false) (D : va_G) (ad : Nat → Nat) (cI : Nat → ClassId) (sd : Int64) (M : zM) (qo : Nat) (f : Nat → Int64) (r what : Int) (g0 : -2147483648 ≤ r ∧ r ≤ 2147483647) (g1 : -2147483648 ≤ what ∧ what ≤ 2147483647) (hO : xOK M) (hq : ¬ zA ad (xL sd) qo) : hMi l y_La_in (.codeWith y_La_in c_La_in 5 (some .int) [(0, 10, 13, 13)]) { frames := 9, cells := 2, slots := 12, locals := 155 } D (xL sd) ad cI M qo f [.ref (ad 0), .int (zI r), .int (zI what), .ref qo] (fun k0 w0 u0 => cO ((0 ≤ r ∧ r < M 1 0) ∧ (0 ≤ what ∧ what ≤ 2)) (True) (xIn M r what) (M) M k0 w0 u0) 2 12 := by
  refine h_of (cc := c_La_in) (maxL := 5) (own := "PersonSeedsLaw") (by decide) rfl (Nat.le_of_ble_eq_true rfl) ?_
  intro p e s m below meth c ls hF hr hT hP hl
  obtain ⟨hx, hb, hml, hown, hlk⟩ := id hF
  obtain ⟨hTP, hOo, hnc⟩ := hP
  have hK := hTP.2.1
  have hl : lv_has ls 5 [(0, .ref (ad 0)), (1, .int (zI r)), (2, .int (zI what)), (3, .ref qo)] := hl
  refine lv_aload_n hx hb d_La_in_0 rfl (lv_at hl 3 rfl) ?_
  refine z_const hx hb d_La_in_1 ?_
  refine lv_aload_n hx hb d_La_in_2 rfl (lv_at hl 0 rfl) ?_
  refine lv_iload_n hx hb d_La_in_3 rfl (lv_at hl 1 rfl) ?_
  refine lv_iload_n hx hb d_La_in_4 rfl (lv_at hl 2 rfl) ?_
  refine h_call (rest := [.int (zI 0), .ref qo]) (f := f) hF (k_in l hlt D ad cI sd M r what g0 g1 hO) (hK.cV 2 tw_454 tw_451 tw_1 tw_452 tw_453 (by decide +kernel) rfl rfl ⟨Nat.le_of_ble_eq_true rfl, Nat.le_of_ble_eq_true rfl⟩) hTP hOo hq rfl rfl rfl hl.1 rfl (Nat.le_of_ble_eq_true rfl) d_La_in_5 ⟨Nat.le_of_ble_eq_true rfl, Nat.le_of_ble_eq_true rfl⟩ (fun E ce q9 H locs hbad hX hO1 hS hce hcv hcl => ?_) (fun z u H locs hz hp hX hO1 hS => ?_)
  · obtain ⟨hE, hna⟩ := hbad
    subst hE
    refine vx_catch (own := "PersonSeedsLaw") (name := xIAE) hown [] ⟨0, 10, 13, 13⟩ [] hT (fun z hz => nomatch hz) rfl (by decide) (hK.w tw_176 rfl) (hK.wc tw_187 rfl) hce hcv hcl ?_
    refine lv_astore (lv' := [(4, .ref q9), (0, .ref (ad 0)), (1, .int (zI r)), (2, .int (zI what)), (3, .ref qo)]) hx hb d_La_in_13 hl (by decide) rfl (fun ls hl => ?_)
    refine z_const hx hb d_La_in_15 ?_
    refine W.widen (k := 2) (n := 12) (Nat.le_of_ble_eq_true rfl) (Nat.le_of_ble_eq_true rfl) ?_
    exact h_ret (k := 1) (w := 0) hx hb hr hlk hX hO1 hS (by omega) (Or.inr (Or.inl ⟨rfl, hna, rfl⟩)) (by omega) (fun q => absurd q (by omega)) d_La_in_16
  · obtain ⟨ha, hzF, hu⟩ := hp
    refine z_i2l hx hb hz d_La_in_8 ?_
    refine z_last (A := hA ad (xL sd) qo) hx hb hK hX hO1 hq (fun q h => Or.inl h) (Or.inr rfl) hS d_La_in_9 (fun H locs f1 hf1 hX hO1 hS => ?_)
    refine lv_goto (tgt := 17) hx hb d_La_in_10 (by decide) ?_
    refine z_const hx hb d_La_in_17 ?_
    refine W.widen (k := 2) (n := 12) (Nat.le_of_ble_eq_true rfl) (Nat.le_of_ble_eq_true rfl) ?_
    exact h_ret (k := 0) (w := z) hx hb hr hlk hX hO1 hS (by omega) (Or.inl ⟨rfl, ha, trivial, hu, hzF⟩) hz (fun _ => hf1) d_La_in_18
set_option maxHeartbeats 800000 in
set_option maxRecDepth 100000 in
theorem h_inThen (l : Launch) (hlt : l.stackTraces = false) (D : va_G) (ad : Nat → Nat) (cI : Nat → ClassId) (sd : Int64) (M : zM) (qo : Nat) (f : Nat → Int64) (r t : Int) (g0 : -2147483648 ≤ r ∧ r ≤ 2147483647) (g1 : -2147483648 ≤ t ∧ t ≤ 2147483647) (hO : xOK M) (hq : ¬ zA ad (xL sd) qo) : hMi l y_La_inThen (.codeWith y_La_inThen c_La_inThen 5 (some .int) [(0, 10, 13, 13)]) { frames := 9, cells := 2, slots := 12, locals := 157 } D (xL sd) ad cI M qo f [.ref (ad 0), .int (zI r), .int (zI t), .ref qo] (fun k0 w0 u0 => cO ((0 ≤ r ∧ r < M 1 0) ∧ (0 ≤ t ∧ t < M 0 4)) (True) (xCnt M r t (M 4 1).toNat) (M) M k0 w0 u0) 2 12 := by
  refine h_of (cc := c_La_inThen) (maxL := 5) (own := "PersonSeedsLaw") (by decide) rfl (Nat.le_of_ble_eq_true rfl) ?_
  intro p e s m below meth c ls hF hr hT hP hl
  obtain ⟨hx, hb, hml, hown, hlk⟩ := id hF
  obtain ⟨hTP, hOo, hnc⟩ := hP
  have hK := hTP.2.1
  have hl : lv_has ls 5 [(0, .ref (ad 0)), (1, .int (zI r)), (2, .int (zI t)), (3, .ref qo)] := hl
  refine lv_aload_n hx hb d_La_inThen_0 rfl (lv_at hl 3 rfl) ?_
  refine z_const hx hb d_La_inThen_1 ?_
  refine lv_aload_n hx hb d_La_inThen_2 rfl (lv_at hl 0 rfl) ?_
  refine lv_iload_n hx hb d_La_inThen_3 rfl (lv_at hl 1 rfl) ?_
  refine lv_iload_n hx hb d_La_inThen_4 rfl (lv_at hl 2 rfl) ?_
  refine h_call (rest := [.int (zI 0), .ref qo]) (f := f) hF (k_inThen l hlt D ad cI sd M r t g0 g1 hO) (hK.cV 2 tw_461 tw_458 tw_1 tw_459 tw_460 (by decide +kernel) rfl rfl ⟨Nat.le_of_ble_eq_true rfl, Nat.le_of_ble_eq_true rfl⟩) hTP hOo hq rfl rfl rfl hl.1 rfl (Nat.le_of_ble_eq_true rfl) d_La_inThen_5 ⟨Nat.le_of_ble_eq_true rfl, Nat.le_of_ble_eq_true rfl⟩ (fun E ce q9 H locs hbad hX hO1 hS hce hcv hcl => ?_) (fun z u H locs hz hp hX hO1 hS => ?_)
  · obtain ⟨hE, hna⟩ := hbad
    subst hE
    refine vx_catch (own := "PersonSeedsLaw") (name := xIAE) hown [] ⟨0, 10, 13, 13⟩ [] hT (fun z hz => nomatch hz) rfl (by decide) (hK.w tw_176 rfl) (hK.wc tw_187 rfl) hce hcv hcl ?_
    refine lv_astore (lv' := [(4, .ref q9), (0, .ref (ad 0)), (1, .int (zI r)), (2, .int (zI t)), (3, .ref qo)]) hx hb d_La_inThen_13 hl (by decide) rfl (fun ls hl => ?_)
    refine z_const hx hb d_La_inThen_15 ?_
    refine W.widen (k := 2) (n := 12) (Nat.le_of_ble_eq_true rfl) (Nat.le_of_ble_eq_true rfl) ?_
    exact h_ret (k := 1) (w := 0) hx hb hr hlk hX hO1 hS (by omega) (Or.inr (Or.inl ⟨rfl, hna, rfl⟩)) (by omega) (fun q => absurd q (by omega)) d_La_inThen_16
  · obtain ⟨ha, hzF, hu⟩ := hp
    refine z_i2l hx hb hz d_La_inThen_8 ?_
    refine z_last (A := hA ad (xL sd) qo) hx hb hK hX hO1 hq (fun q h => Or.inl h) (Or.inr rfl) hS d_La_inThen_9 (fun H locs f1 hf1 hX hO1 hS => ?_)
    refine lv_goto (tgt := 17) hx hb d_La_inThen_10 (by decide) ?_
    refine z_const hx hb d_La_inThen_17 ?_
    refine W.widen (k := 2) (n := 12) (Nat.le_of_ble_eq_true rfl) (Nat.le_of_ble_eq_true rfl) ?_
    exact h_ret (k := 0) (w := z) hx hb hr hlk hX hO1 hS (by omega) (Or.inl ⟨rfl, ha, trivial, hu, hzF⟩) hz (fun _ => hf1) d_La_inThen_18
set_option maxHeartbeats 800000 in
set_option maxRecDepth 100000 in
theorem h_through (l : Launch) (hlt : l.stackTraces = false) (D : va_G) (ad : Nat → Nat) (cI : Nat → ClassId) (sd : Int64) (M : zM) (qo : Nat) (f : Nat → Int64) (d on : Int) (g0 : -2147483648 ≤ d ∧ d ≤ 2147483647) (g1 : -2147483648 ≤ on ∧ on ≤ 2147483647) (hO : xOK M) (hq : ¬ zA ad (xL sd) qo) : hMi l y_La_through (.codeWith y_La_through c_La_through 5 (some .int) [(0, 10, 13, 13)]) { frames := 8, cells := 1, slots := 6, locals := 134 } D (xL sd) ad cI M qo f [.ref (ad 0), .int (zI d), .int (zI on), .ref qo] (fun k0 w0 u0 => cO (0 ≤ d ∧ d < M 2 0) (True) (if on = 0 then M 13 d else M 12 d) (M) M k0 w0 u0) 1 6 := by
  refine h_of (cc := c_La_through) (maxL := 5) (own := "PersonSeedsLaw") (by decide) rfl (Nat.le_of_ble_eq_true rfl) ?_
  intro p e s m below meth c ls hF hr hT hP hl
  obtain ⟨hx, hb, hml, hown, hlk⟩ := id hF
  obtain ⟨hTP, hOo, hnc⟩ := hP
  have hK := hTP.2.1
  have hl : lv_has ls 5 [(0, .ref (ad 0)), (1, .int (zI d)), (2, .int (zI on)), (3, .ref qo)] := hl
  refine lv_aload_n hx hb d_La_through_0 rfl (lv_at hl 3 rfl) ?_
  refine z_const hx hb d_La_through_1 ?_
  refine lv_aload_n hx hb d_La_through_2 rfl (lv_at hl 0 rfl) ?_
  refine lv_iload_n hx hb d_La_through_3 rfl (lv_at hl 1 rfl) ?_
  refine lv_iload_n hx hb d_La_through_4 rfl (lv_at hl 2 rfl) ?_
  refine h_call (rest := [.int (zI 0), .ref qo]) (f := f) hF (k_through l hlt D ad cI sd M d on g0 g1 hO) (hK.cV 2 tw_468 tw_465 tw_1 tw_466 tw_467 (by decide +kernel) rfl rfl ⟨Nat.le_of_ble_eq_true rfl, Nat.le_of_ble_eq_true rfl⟩) hTP hOo hq rfl rfl rfl hl.1 rfl (Nat.le_of_ble_eq_true rfl) d_La_through_5 ⟨Nat.le_of_ble_eq_true rfl, Nat.le_of_ble_eq_true rfl⟩ (fun E ce q9 H locs hbad hX hO1 hS hce hcv hcl => ?_) (fun z u H locs hz hp hX hO1 hS => ?_)
  · obtain ⟨hE, hna⟩ := hbad
    subst hE
    refine vx_catch (own := "PersonSeedsLaw") (name := xIAE) hown [] ⟨0, 10, 13, 13⟩ [] hT (fun z hz => nomatch hz) rfl (by decide) (hK.w tw_176 rfl) (hK.wc tw_187 rfl) hce hcv hcl ?_
    refine lv_astore (lv' := [(4, .ref q9), (0, .ref (ad 0)), (1, .int (zI d)), (2, .int (zI on)), (3, .ref qo)]) hx hb d_La_through_13 hl (by decide) rfl (fun ls hl => ?_)
    refine z_const hx hb d_La_through_15 ?_
    refine W.widen (k := 1) (n := 6) (Nat.le_of_ble_eq_true rfl) (Nat.le_of_ble_eq_true rfl) ?_
    exact h_ret (k := 1) (w := 0) hx hb hr hlk hX hO1 hS (by omega) (Or.inr (Or.inl ⟨rfl, hna, rfl⟩)) (by omega) (fun q => absurd q (by omega)) d_La_through_16
  · obtain ⟨ha, hzF, hu⟩ := hp
    refine z_i2l hx hb hz d_La_through_8 ?_
    refine z_last (A := hA ad (xL sd) qo) hx hb hK hX hO1 hq (fun q h => Or.inl h) (Or.inr rfl) hS d_La_through_9 (fun H locs f1 hf1 hX hO1 hS => ?_)
    refine lv_goto (tgt := 17) hx hb d_La_through_10 (by decide) ?_
    refine z_const hx hb d_La_through_17 ?_
    refine W.widen (k := 1) (n := 6) (Nat.le_of_ble_eq_true rfl) (Nat.le_of_ble_eq_true rfl) ?_
    exact h_ret (k := 0) (w := z) hx hb hr hlk hX hO1 hS (by omega) (Or.inl ⟨rfl, ha, trivial, hu, hzF⟩) hz (fun _ => hf1) d_La_through_18
set_option maxHeartbeats 800000 in
set_option maxRecDepth 100000 in
theorem h_distance (l : Launch) (hlt : l.stackTraces = false) (D : va_G) (ad : Nat → Nat) (cI : Nat → ClassId) (sd : Int64) (M : zM) (qo : Nat) (f : Nat → Int64) (a b : Int) (g0 : -2147483648 ≤ a ∧ a ≤ 2147483647) (g1 : -2147483648 ≤ b ∧ b ≤ 2147483647) (hO : xOK M) (hq : ¬ zA ad (xL sd) qo) : hMi l y_La_distance (.codeWith y_La_distance c_La_distance 5 (some .int) [(0, 10, 13, 13)]) { frames := 9, cells := 2, slots := 12, locals := 156 } D (xL sd) ad cI M qo f [.ref (ad 0), .int (zI a), .int (zI b), .ref qo] (fun k0 w0 u0 => cO ((0 ≤ a ∧ a < M 1 0) ∧ (0 ≤ b ∧ b < M 1 0)) (True) (if M 15 (a * 12 + b) < 1000 then M 15 (a * 12 + b) else -1) (M) M k0 w0 u0) 2 12 := by
  refine h_of (cc := c_La_distance) (maxL := 5) (own := "PersonSeedsLaw") (by decide) rfl (Nat.le_of_ble_eq_true rfl) ?_
  intro p e s m below meth c ls hF hr hT hP hl
  obtain ⟨hx, hb, hml, hown, hlk⟩ := id hF
  obtain ⟨hTP, hOo, hnc⟩ := hP
  have hK := hTP.2.1
  have hl : lv_has ls 5 [(0, .ref (ad 0)), (1, .int (zI a)), (2, .int (zI b)), (3, .ref qo)] := hl
  refine lv_aload_n hx hb d_La_distance_0 rfl (lv_at hl 3 rfl) ?_
  refine z_const hx hb d_La_distance_1 ?_
  refine lv_aload_n hx hb d_La_distance_2 rfl (lv_at hl 0 rfl) ?_
  refine lv_iload_n hx hb d_La_distance_3 rfl (lv_at hl 1 rfl) ?_
  refine lv_iload_n hx hb d_La_distance_4 rfl (lv_at hl 2 rfl) ?_
  refine h_call (rest := [.int (zI 0), .ref qo]) (f := f) hF (k_distance l hlt D ad cI sd M a b g0 g1 hO) (hK.cV 2 tw_475 tw_472 tw_1 tw_473 tw_474 (by decide +kernel) rfl rfl ⟨Nat.le_of_ble_eq_true rfl, Nat.le_of_ble_eq_true rfl⟩) hTP hOo hq rfl rfl rfl hl.1 rfl (Nat.le_of_ble_eq_true rfl) d_La_distance_5 ⟨Nat.le_of_ble_eq_true rfl, Nat.le_of_ble_eq_true rfl⟩ (fun E ce q9 H locs hbad hX hO1 hS hce hcv hcl => ?_) (fun z u H locs hz hp hX hO1 hS => ?_)
  · obtain ⟨hE, hna⟩ := hbad
    subst hE
    refine vx_catch (own := "PersonSeedsLaw") (name := xIAE) hown [] ⟨0, 10, 13, 13⟩ [] hT (fun z hz => nomatch hz) rfl (by decide) (hK.w tw_176 rfl) (hK.wc tw_187 rfl) hce hcv hcl ?_
    refine lv_astore (lv' := [(4, .ref q9), (0, .ref (ad 0)), (1, .int (zI a)), (2, .int (zI b)), (3, .ref qo)]) hx hb d_La_distance_13 hl (by decide) rfl (fun ls hl => ?_)
    refine z_const hx hb d_La_distance_15 ?_
    refine W.widen (k := 2) (n := 12) (Nat.le_of_ble_eq_true rfl) (Nat.le_of_ble_eq_true rfl) ?_
    exact h_ret (k := 1) (w := 0) hx hb hr hlk hX hO1 hS (by omega) (Or.inr (Or.inl ⟨rfl, hna, rfl⟩)) (by omega) (fun q => absurd q (by omega)) d_La_distance_16
  · obtain ⟨ha, hzF, hu⟩ := hp
    refine z_i2l hx hb hz d_La_distance_8 ?_
    refine z_last (A := hA ad (xL sd) qo) hx hb hK hX hO1 hq (fun q h => Or.inl h) (Or.inr rfl) hS d_La_distance_9 (fun H locs f1 hf1 hX hO1 hS => ?_)
    refine lv_goto (tgt := 17) hx hb d_La_distance_10 (by decide) ?_
    refine z_const hx hb d_La_distance_17 ?_
    refine W.widen (k := 2) (n := 12) (Nat.le_of_ble_eq_true rfl) (Nat.le_of_ble_eq_true rfl) ?_
    exact h_ret (k := 0) (w := z) hx hb hr hlk hX hO1 hS (by omega) (Or.inl ⟨rfl, ha, trivial, hu, hzF⟩) hz (fun _ => hf1) d_La_distance_18
set_option maxHeartbeats 800000 in
set_option maxRecDepth 100000 in
theorem h_met (l : Launch) (hlt : l.stackTraces = false) (D : va_G) (ad : Nat → Nat) (cI : Nat → ClassId) (sd : Int64) (M : zM) (qo : Nat) (f : Nat → Int64) (p1 o : Int) (g0 : -2147483648 ≤ p1 ∧ p1 ≤ 2147483647) (g1 : -2147483648 ≤ o ∧ o ≤ 2147483647) (hO : xOK M) (hq : ¬ zA ad (xL sd) qo) : hMi l y_La_met (.codeWith y_La_met c_La_met 5 (some .int) [(0, 10, 13, 13)]) { frames := 9, cells := 3, slots := 18, locals := 157 } D (xL sd) ad cI M qo f [.ref (ad 0), .int (zI p1), .int (zI o), .ref qo] (fun k0 w0 u0 => cO ((0 ≤ p1 ∧ p1 < M 4 1) ∧ (0 ≤ o ∧ o < M 4 1) ∧ ¬ p1 = o) (True) (xMet M p1 o) (M) M k0 w0 u0) 3 18 := by
  refine h_of (cc := c_La_met) (maxL := 5) (own := "PersonSeedsLaw") (by decide) rfl (Nat.le_of_ble_eq_true rfl) ?_
  intro p e s m below meth c ls hF hr hT hP hl
  obtain ⟨hx, hb, hml, hown, hlk⟩ := id hF
  obtain ⟨hTP, hOo, hnc⟩ := hP
  have hK := hTP.2.1
  have hl : lv_has ls 5 [(0, .ref (ad 0)), (1, .int (zI p1)), (2, .int (zI o)), (3, .ref qo)] := hl
  refine lv_aload_n hx hb d_La_met_0 rfl (lv_at hl 3 rfl) ?_
  refine z_const hx hb d_La_met_1 ?_
  refine lv_aload_n hx hb d_La_met_2 rfl (lv_at hl 0 rfl) ?_
  refine lv_iload_n hx hb d_La_met_3 rfl (lv_at hl 1 rfl) ?_
  refine lv_iload_n hx hb d_La_met_4 rfl (lv_at hl 2 rfl) ?_
  refine h_call (rest := [.int (zI 0), .ref qo]) (f := f) hF (k_met l hlt D ad cI sd M p1 o g0 g1 hO) (hK.cV 2 tw_483 tw_480 tw_1 tw_481 tw_482 (by decide +kernel) rfl rfl ⟨Nat.le_of_ble_eq_true rfl, Nat.le_of_ble_eq_true rfl⟩) hTP hOo hq rfl rfl rfl hl.1 rfl (Nat.le_of_ble_eq_true rfl) d_La_met_5 ⟨Nat.le_of_ble_eq_true rfl, Nat.le_of_ble_eq_true rfl⟩ (fun E ce q9 H locs hbad hX hO1 hS hce hcv hcl => ?_) (fun z u H locs hz hp hX hO1 hS => ?_)
  · obtain ⟨hE, hna⟩ := hbad
    subst hE
    refine vx_catch (own := "PersonSeedsLaw") (name := xIAE) hown [] ⟨0, 10, 13, 13⟩ [] hT (fun z hz => nomatch hz) rfl (by decide) (hK.w tw_176 rfl) (hK.wc tw_187 rfl) hce hcv hcl ?_
    refine lv_astore (lv' := [(4, .ref q9), (0, .ref (ad 0)), (1, .int (zI p1)), (2, .int (zI o)), (3, .ref qo)]) hx hb d_La_met_13 hl (by decide) rfl (fun ls hl => ?_)
    refine z_const hx hb d_La_met_15 ?_
    refine W.widen (k := 3) (n := 18) (Nat.le_of_ble_eq_true rfl) (Nat.le_of_ble_eq_true rfl) ?_
    exact h_ret (k := 1) (w := 0) hx hb hr hlk hX hO1 hS (by omega) (Or.inr (Or.inl ⟨rfl, hna, rfl⟩)) (by omega) (fun q => absurd q (by omega)) d_La_met_16
  · obtain ⟨ha, hzF, hu⟩ := hp
    refine z_i2l hx hb hz d_La_met_8 ?_
    refine z_last (A := hA ad (xL sd) qo) hx hb hK hX hO1 hq (fun q h => Or.inl h) (Or.inr rfl) hS d_La_met_9 (fun H locs f1 hf1 hX hO1 hS => ?_)
    refine lv_goto (tgt := 17) hx hb d_La_met_10 (by decide) ?_
    refine z_const hx hb d_La_met_17 ?_
    refine W.widen (k := 3) (n := 18) (Nat.le_of_ble_eq_true rfl) (Nat.le_of_ble_eq_true rfl) ?_
    exact h_ret (k := 0) (w := z) hx hb hr hlk hX hO1 hS (by omega) (Or.inl ⟨rfl, ha, trivial, hu, hzF⟩) hz (fun _ => hf1) d_La_met_18

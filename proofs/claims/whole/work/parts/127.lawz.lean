set_option maxHeartbeats 1600000 in
set_option maxRecDepth 100000 in
/-- from the entry, for every script of at most 2049 ints, the law comes to its end with true -/
theorem whole_start {p : Program} {e : Env} {s : State} {m : MethodId} {below : List Frame} {meth : Method} {c : Code} (l : Launch) (hlt : l.stackTraces = false) {b L : Nat} {xs : Nat → Int32} (hL : L ≤ 2049) (C0 : lw_At p s m meth c b L xs) : W p l e room_1 s m #[Value.ref b] below meth c s.heap [] 0 0 (lw_Z below #[Value.ref b] s) (entryFrame m ([Value.ref b] : List Value).toArray 7) := by
  obtain ⟨hx, hb, hr, hml, hown, hts, hX, hbl, hlk, hgv⟩ := id C0
  obtain ⟨D, cI, hK⟩ := lw_K hts
  have hF : zB p s m meth c code 7 "PersonSeedsLaw" := ⟨hx, hb, hml, hown, hlk⟩
  have hA : ∀ q : Nat, s.heap.size ≤ q → lwA s q := fun _ h => h
  have hS : va_S (lwA s) s.heap s.heap [] := va_S.rf
  have hP : va_P D zCl [] s.heap := fun k q h => by simp at h
  have hD : va_D (lwA s) [] := ⟨fun i j p q h => by simp at h, fun k q h => by simp at h⟩
  have hl := lv_entry ([.ref b]) (n := 7) (Nat.le_of_ble_eq_true rfl)
  rw [lg_entry_eq]
  generalize (lg_sl ([.ref b]) ++ List.replicate (7 - (lg_sl ([.ref b])).length) Slot.unset).toArray = ls at hl ⊢
  have hl : lv_has ls 7 [(0, .ref b)] := hl
  have hv0 : -2147483648 ≤ (if 0 < L then sc xs 0 else 0) ∧ (if 0 < L then sc xs 0 else 0) ≤ 2147483647 := by
    have := sc_rg xs 0
    split <;> omega
  generalize hv : (if 0 < L then sc xs 0 else 0) = v0 at hv0
  refine zc_new (ci := 0) (fs := [.null, .null, .null, .null, .int 0, .int 0, .int 0]) hF iw_PS ty_PS tyo_PS hK tw_14 tw_15 tw_1 hP hD hS hA rfl (fun j hj => by rcases (show j = 0 ∨ j = 1 ∨ j = 2 ∨ j = 3 ∨ j = 4 ∨ j = 5 ∨ j = 6 by omega) with rfl | rfl | rfl | rfl | rfl | rfl | rfl <;> rfl) (Nat.le_of_ble_eq_true rfl) (Nat.le_of_ble_eq_true rfl) d_La_law_0 (fun qc H hP hD hS => ?_)
  refine W.widen (k := 1) (n := 7) (Nat.le_of_ble_eq_true rfl) (Nat.le_of_ble_eq_true rfl) ?_
  refine lv_dup hx hb d_La_law_3 rfl ?_
  refine lv_aload_n hx hb d_La_law_4 rfl (lv_at hl 0 rfl) ?_
  refine z_const hx hb d_La_law_5 ?_
  refine va_calli (va_runS (As := [.ref b, .int (zI 0)]) (rest := [.ref qc, .ref qc]) (Ts := []) ⟨hx, hb, hml, hown, fun _ h => nomatch h⟩ (h_cell l b L xs hL) (hK.cS 2 tw_172 tw_170 tw_0 tw_171 (by decide +kernel) rfl rfl ⟨Nat.le_of_ble_eq_true rfl, Nat.le_of_ble_eq_true rfl⟩) ⟨fun a U g mk q => ⟨q.1, va_X.moved (u := U) (U := U.calling g mk a) (Vm.Alike.refl U.vm) q.2.1, q.2.2⟩, fun U hU hW => ⟨rfl, by rw [hU]; exact va_X.moved hW.alike (hX.kept (hS.2.1 b hbl (Nat.not_le.mpr hbl))), by rw [hU]; exact Nat.lt_of_lt_of_le hbl hS.1⟩⟩ rfl rfl hl.1 rfl (lv_room (Nat.le_of_ble_eq_true rfl)) d_La_law_6 ⟨Nat.le_of_ble_eq_true rfl, Nat.le_of_ble_eq_true rfl⟩) hS (fun q _ h => h.elim) (fun q h => h.elim) (fun r u t H1 locs ht hvm hp hB hz1 hk1 hS => ?_)
  rw [hp]
  replace hP := hP.kept (fun k x hx => hk1 x.1 (hP k x hx).lt (fun h => h))
  refine W.widen (k := 1) (n := 7) (Nat.le_of_ble_eq_true rfl) (Nat.le_of_ble_eq_true rfl) ?_
  rw [hv]
  refine z_i2l hx hb hv0 d_La_law_9 ?_
  refine zc_callI (wr := []) (rest := [.ref qc]) hF (k_PS_init l D cI qc H1.size (lI v0)) (hK.cI' 1 tw_18 tw_16 tw_1 tw_17 rfl (by decide +kernel) rfl rfl ⟨Nat.le_of_ble_eq_true rfl, Nat.le_of_ble_eq_true rfl⟩) hK hP hD hS hA rfl hl.1 rfl (Nat.le_of_ble_eq_true rfl) d_La_law_10 ⟨Nat.le_of_ble_eq_true rfl, Nat.le_of_ble_eq_true rfl⟩ (fun adC H locs had hP hD hS => ?_)
  rw [← had]
  refine W.widen (k := 26) (n := 6320) (Nat.le_of_ble_eq_true rfl) (Nat.le_of_ble_eq_true rfl) ?_
  replace hP : va_P D zCl (zW adC cI xM0 0 (xL (lI v0))) H := hP
  replace hD : va_D (lwA s) (zW adC cI xM0 0 (xL (lI v0))) := hD
  refine lv_astore_n (lv' := [(1, .ref (adC 0)), (0, .ref b)]) hx hb d_La_law_13 rfl hl (by decide) rfl (fun ls hl => ?_)
  refine zc_new (ci := 5) (fs := [.long 0, .int 0, .int 0, .int 0, .null, .null, .null, .null, .null, .int 0, .null, .null, .null, .null, .null, .null, .int 0, .null, .null, .null, .null, .int 0, .int 0]) hF iw_Mo ty_Mo tyo_Mo hK tw_491 tw_492 tw_7 hP hD hS hA rfl (fun j hj => by rcases (show j = 0 ∨ j = 1 ∨ j = 2 ∨ j = 3 ∨ j = 4 ∨ j = 5 ∨ j = 6 ∨ j = 7 ∨ j = 8 ∨ j = 9 ∨ j = 10 ∨ j = 11 ∨ j = 12 ∨ j = 13 ∨ j = 14 ∨ j = 15 ∨ j = 16 ∨ j = 17 ∨ j = 18 ∨ j = 19 ∨ j = 20 ∨ j = 21 ∨ j = 22 by omega) with rfl | rfl | rfl | rfl | rfl | rfl | rfl | rfl | rfl | rfl | rfl | rfl | rfl | rfl | rfl | rfl | rfl | rfl | rfl | rfl | rfl | rfl | rfl <;> rfl) (Nat.le_of_ble_eq_true rfl) (Nat.le_of_ble_eq_true rfl) d_La_law_14 (fun qn H hP hD hS => ?_)
  refine W.widen (k := 27) (n := 6343) (Nat.le_of_ble_eq_true rfl) (Nat.le_of_ble_eq_true rfl) ?_
  refine lv_dup hx hb d_La_law_17 rfl ?_
  refine lv_aload_n hx hb d_La_law_18 rfl (lv_at hl 1 rfl) ?_
  refine z_const hx hb d_La_law_19 ?_
  refine va_calli (va_runS (As := [.ref b, .int (zI 0)]) (rest := [.ref qn, .ref qn]) (Ts := []) ⟨hx, hb, hml, hown, fun _ h => nomatch h⟩ (h_cell l b L xs hL) (hK.cS 2 tw_172 tw_170 tw_0 tw_171 (by decide +kernel) rfl rfl ⟨Nat.le_of_ble_eq_true rfl, Nat.le_of_ble_eq_true rfl⟩) ⟨fun a U g mk q => ⟨q.1, va_X.moved (u := U) (U := U.calling g mk a) (Vm.Alike.refl U.vm) q.2.1, q.2.2⟩, fun U hU hW => ⟨rfl, by rw [hU]; exact va_X.moved hW.alike (hX.kept (hS.2.1 b hbl (Nat.not_le.mpr hbl))), by rw [hU]; exact Nat.lt_of_lt_of_le hbl hS.1⟩⟩ rfl rfl hl.1 rfl (lv_room (Nat.le_of_ble_eq_true rfl)) d_La_law_20 ⟨Nat.le_of_ble_eq_true rfl, Nat.le_of_ble_eq_true rfl⟩) hS (fun q _ h => h.elim) (fun q h => h.elim) (fun r u t H1 locs ht hvm hp hB hz1 hk1 hS => ?_)
  rw [hp]
  replace hP := hP.kept (fun k x hx => hk1 x.1 (hP k x hx).lt (fun h => h))
  refine W.widen (k := 27) (n := 6343) (Nat.le_of_ble_eq_true rfl) (Nat.le_of_ble_eq_true rfl) ?_
  rw [hv]
  refine z_i2l hx hb hv0 d_La_law_23 ?_
  refine zc_callI (wr := zW adC cI xM0 0 (xL (lI v0))) (rest := [.ref qn]) hF (k_Mo_init l D cI qn H1.size (lI v0)) (hK.cI' 1 tw_495 tw_493 tw_7 tw_494 rfl (by decide +kernel) rfl rfl ⟨Nat.le_of_ble_eq_true rfl, Nat.le_of_ble_eq_true rfl⟩) hK hP hD hS hA rfl hl.1 rfl (Nat.le_of_ble_eq_true rfl) d_La_law_24 ⟨Nat.le_of_ble_eq_true rfl, Nat.le_of_ble_eq_true rfl⟩ (fun adN H locs had2 hP hD hS => ?_)
  rw [← had2]
  refine W.widen (k := 42) (n := 126811) (Nat.le_of_ble_eq_true rfl) (Nat.le_of_ble_eq_true rfl) ?_
  refine lv_astore_n (lv' := [(2, .ref (adN 0)), (1, .ref (adC 0)), (0, .ref b)]) hx hb d_La_law_27 rfl hl (by decide) rfl (fun ls hl => ?_)
  refine z_const hx hb d_La_law_28 ?_
  refine zc_newl (N := 1) hx hb hK hP hD hS hA rfl (by decide) (Nat.le_of_ble_eq_true rfl) (Nat.le_of_ble_eq_true rfl) d_La_law_29 (fun qo H hP hD hS => ?_)
  refine W.widen (k := 43) (n := 126812) (Nat.le_of_ble_eq_true rfl) (Nat.le_of_ble_eq_true rfl) ?_
  refine lv_astore_n (lv' := [(3, .ref qo), (2, .ref (adN 0)), (1, .ref (adC 0)), (0, .ref b)]) hx hb d_La_law_31 rfl hl (by decide) rfl (fun ls hl => ?_)
  refine z_const hx hb d_La_law_32 ?_
  refine lv_istore (lv' := [(4, .int (zI 1)), (3, .ref qo), (2, .ref (adN 0)), (1, .ref (adC 0)), (0, .ref b)]) hx hb d_La_law_33 hl (by decide) rfl (fun ls hl => ?_)
  obtain ⟨⟨hP1, hD1⟩, ⟨hPo, hDo⟩, dO⟩ := va_split hP hD
  obtain ⟨⟨hPc, hDc⟩, ⟨hPn, hDn⟩, dN⟩ := va_split hP1 hD1
  have sim := sSim.zero (lI v0)
  have hXC : zX D (xL (lI v0)) adC cI xM0 H := zX_of hPc hDc (fun k i => by unfold xM0; repeat' split; all_goals omega)
  have hXN : zX D (nL (lI v0)) adN cI nM0 H := zX_of hPn hDn (fun k i => by unfold nM0; repeat' split; all_goals omega)
  have inC : ∀ q, zA adC (xL (lI v0)) q → ∃ (k : Nat) (x : va_E), (zW adC cI xM0 0 (xL (lI v0)))[k]? = some (q, x) := fun q h => by
    obtain ⟨k, hk, rfl⟩ := h
    exact ⟨k, _, zW_is (List.getElem?_eq_getElem hk)⟩
  have inN : ∀ q, zA adN (nL (lI v0)) q → ∃ (k : Nat) (x : va_E), (zW adN cI nM0 0 (nL (lI v0)))[k]? = some (q, x) := fun q h => by
    obtain ⟨k, hk, rfl⟩ := h
    exact ⟨k, _, zW_is (List.getElem?_eq_getElem hk)⟩
  have hC := hXC.in hDc
  have hN := hXN.in hDn
  have hqo : s.heap.size ≤ qo := hDo.2 0 _ rfl
  have Z : lwZ D cI (lI v0) b L xs adC adN qo p s m meth c := by
    refine ⟨hF, hK, ⟨hX, hbl, hL⟩, ⟨hC, hN, hqo, fun q h1 h2 => ?_, fun h1 => ?_, fun h1 => ?_⟩, lw_Th hts hgv hC, lw_Nc hgv⟩
    · obtain ⟨k1, x1, e1⟩ := inC q h1
      obtain ⟨k2, x2, e2⟩ := inN q h2
      exact dN k1 k2 _ _ e1 e2 rfl
    · obtain ⟨k1, x1, e1⟩ := inC qo h1
      exact dO k1 0 (qo, x1) _ (by rw [List.getElem?_append_left (List.getElem?_eq_some_iff.mp e1).1]; exact e1) rfl rfl
    · obtain ⟨k1, x1, e1⟩ := inN qo h1
      exact dO (((zW adC cI xM0 0 (xL (lI v0))).length) + k1) 0 (qo, x1) _ (by rw [List.getElem?_append_right (by omega), show (zW adC cI xM0 0 (xL (lI v0))).length + k1 - (zW adC cI xM0 0 (xL (lI v0))).length = k1 by omega]; exact e1) rfl rfl
  exact law_loop hlt hr Z (L + 1) 0 xM0 nM0 (fun _ => 0) H _ ls (by omega) (by omega) sim ⟨hXC, hXN, hPo, hS⟩ (lv_sub hl [4, 3, 2, 1, 0] rfl)

/-! The law: script, calls of helpers and of the reference, comparison -/
def lwA (s : State) : Nat → Prop := fun q => s.heap.size ≤ q
def sc (xs : Nat → Int32) (a : Int) : Int := (xs a.toNat).toInt
theorem sc_rg (xs : Nat → Int32) (a : Int) : -2147483648 ≤ sc xs a ∧ sc xs a ≤ 2147483647 := zI_rg _
theorem and15 (y : Int32) : 0 ≤ (y &&& zI 15).toInt ∧ (y &&& zI 15).toInt ≤ 15 := by
  have h : (y &&& zI 15).toBitVec.toNat ≤ 15 := by
    rw [Int32.toBitVec_and, BitVec.toNat_and]
    exact Nat.and_le_right
  have e : (y &&& zI 15).toInt = ((y &&& zI 15).toBitVec.toNat : Int) := by
    show (y &&& zI 15).toBitVec.toInt = _
    exact BitVec.toInt_eq_toNat_of_lt (by omega)
  omega
/-- what stands fast in the law -/
def lwZ (D : va_G) (cI : Nat → ClassId) (sd : Int64) (b L : Nat) (xs : Nat → Int32) (adC adN : Nat → Nat) (qo : Nat) (p : Program) (s : State) (m : MethodId) (meth : Method) (c : Code) : Prop :=
  zB p s m meth c code 7 "PersonSeedsLaw" ∧ zK D cI s ∧ (va_X b L xs s s.heap ∧ b < s.heap.size ∧ L ≤ 2049) ∧
  ((∀ q, zA adC (xL sd) q → s.heap.size ≤ q) ∧ (∀ q, zA adN (nL sd) q → s.heap.size ≤ q) ∧ s.heap.size ≤ qo ∧ (∀ q, zA adC (xL sd) q → ¬ zA adN (nL sd) q) ∧ ¬ zA adC (xL sd) qo ∧ ¬ zA adN (nL sd) qo) ∧
  zTh adC (xL sd) s s.heap ∧ va_Nc xISE xIAE s
def lwI (D : va_G) (cI : Nat → ClassId) (sd : Int64) (adC adN : Nat → Nat) (qo : Nat) (s : State) (M N : zM) (f : Nat → Int64) (H : Heap) (locs : List Loc) : Prop :=
  zX D (xL sd) adC cI M H ∧ zX D (nL sd) adN cI N H ∧ va_P D zCl [(qo, oE cI f)] H ∧ va_S (lwA s) s.heap H locs
theorem zK.cSW {D : va_G} {cI : Nat → ClassId} {s : State} {args : Array Value} {R rm : Room} {own : String} {index maxL mc ms : Nat} {y : MethodName} {bytes : ByteArray} {ret : Option FieldType} {hh : List (Nat × Nat × Nat × Nat)} (hK : zK D cI s) (n : Nat) (h1 : Cond.codeWith y bytes maxL ret hh ∈ lw_tbl) (h2 : Cond.methodLink own index y ∈ lw_tbl) (h3 : Cond.initialized y.cls ∈ lw_tbl) (h4 : Cond.static y ∈ lw_tbl)
    (hd : y.cls ≠ "java/lang/invoke/MethodHandle" ∧ y.cls ≠ "java/lang/invoke/VarHandle" ∧ (parseMethodDescriptor y.desc).map (fun d => d.parameters.length) = some n) (hrc : rm.cells = mc) (hrs : rm.slots = ms) (hR : rm.frames + 1 ≤ R.frames ∧ 8 + (maxL + 11) + rm.locals ≤ R.locals) :
    vx_CSW R s args own index y bytes maxL ret hh [.codeWith y bytes maxL ret hh] rm mc ms n := by
  refine ⟨⟨hrc, hrs, hR.1, hR.2, fun w hw a' U hW => ?_, List.mem_singleton.mpr rfl⟩, hK.w h1 rfl, hK.w h3 rfl, ⟨hd.1, hd.2.1⟩, fun sig h => ?_, hK.w h2 rfl, hK.w h4 rfl⟩
  · rw [List.mem_singleton.mp hw]
    exact (zK.warm hW hK).w h1 rfl
  · have h5 := hd.2.2
    rw [h] at h5
    exact (Option.some.inj h5).symm
section LROWS
variable {p : Program} {l : Launch} {e : Env} {R : Room} {s : State} {m : MethodId} {args : Array Value} {below : List Frame} {meth : Method} {c : Code} {H : Heap} {locs : List Loc} {cells slots : Nat} {Q : State → Prop}
variable {pc : Nat} {ls : Array Slot} {rest : List Value}
variable {D : va_G} {cI : Nat → ClassId} {sd : Int64} {b L : Nat} {xs : Nat → Int32} {adC adN : Nat → Nat} {qo : Nat} {M N : zM} {f : Nat → Int64}
theorem lw_sld (Z : lwZ D cI sd b L xs adC adN qo p s m meth c) (hS : va_S (lwA s) s.heap H locs) {a : Int} (ha : 0 ≤ a ∧ a < L) (hdg : decode code pc = .ok (.iaload, 1))
    (kk : W p l e R s m args below meth c H locs cells slots Q (F0 m (pc + 1) ls (.int (zI (sc xs a)) :: rest))) : W p l e R s m args below meth c H locs cells slots Q (F0 m pc ls (.int (zI a) :: .ref b :: rest)) := by
  obtain ⟨hF, hK, ⟨hX, hbl, hL⟩, -⟩ := Z
  refine va_sld hF.1 hF.2.1 hX hbl (Nat.not_le.mpr hbl) hS (zI_in (n := L) ha (by omega)) hdg ?_
  rw [zI_cl (n := L) ha (by omega), zI_of (xs a.toNat)]
  exact kk
theorem lw_slen (Z : lwZ D cI sd b L xs adC adN qo p s m meth c) (hS : va_S (lwA s) s.heap H locs) (hdg : decode code pc = .ok (.arraylength, 1))
    (kk : W p l e R s m args below meth c H locs cells slots Q (F0 m (pc + 1) ls (.int (zI (L : Int)) :: rest))) : W p l e R s m args below meth c H locs cells slots Q (F0 m pc ls (.ref b :: rest)) := by
  obtain ⟨hF, hK, ⟨hX, hbl, hL⟩, -⟩ := Z
  refine va_slen hF.1 hF.2.1 hX hbl (Nat.not_le.mpr hbl) hS hdg ?_
  rw [zI_nI] at kk
  exact kk
variable {y : MethodName} {bytes : ByteArray} {maxL n index mc ms : Nat} {ret : Option FieldType} {rm : Room} {As st0 : List Value} {hh : List (Nat × Nat × Nat × Nat)}
/-- a helper is called -/
theorem lw_help {post : Int → Int → zM → Prop} (Z : lwZ D cI sd b L xs adC adN qo p s m meth c) (I : lwI D cI sd adC adN qo s M N f H locs) (hM : hMi l y (.codeWith y bytes maxL ret hh) rm D (xL sd) adC cI M qo f As post mc ms) (cw : vx_CSW R s args "PersonSeedsLaw" index y bytes maxL ret hh [.codeWith y bytes maxL ret hh] rm mc ms n)
    (hn : As.length = n) (hls : ls.size = 7) (hst : st0 = As.reverse ++ rest) (hro : (rest.map fun v => v.category).sum ≤ 8) (hdg : decode code pc = .ok (.invokestatic index, 3)) (hf : cells + mc ≤ R.cells ∧ slots + ms ≤ R.slots)
    (kk : ∀ (k w : Int) (u : zM) (f1 : Nat → Int64) (H1 : Heap) (locs1 : List Loc), (0 ≤ k ∧ k ≤ 2) → post k w u → (-2147483648 ≤ w ∧ w ≤ 2147483647) → (k = 0 → f1 0 = lI w) → lwI D cI sd adC adN qo s u N f1 H1 locs1 → W p l e R s m args below meth c H1 locs1 (cells + mc) (slots + ms) Q (F0 m (pc + 3) ls (.int (zI k) :: rest))) : W p l e R s m args below meth c H locs cells slots Q (F0 m pc ls st0) := by
  obtain ⟨hF, hK, -, ⟨hC, hN, ho, d1, d2, d3⟩, hth, hnc⟩ := Z
  obtain ⟨hX, hXN, hO, hS⟩ := I
  have hAll : ∀ q, hA adC (xL sd) qo q → lwA s q := by
    intro q h
    rcases h with h | h
    · exact hC q h
    · rw [h]; exact ho
  have hth2 : zTh adC (xL sd) s H := hth.kept (fun a h1 h2 => hS.2.1 a h1 (fun h3 => absurd (show s.heap.size ≤ a from h3) (by omega)))
  refine va_calli (vx_runSW (As := As) (rest := rest) (Ts := []) ⟨hF.1, hF.2.1, hF.2.2.1, hF.2.2.2.1, fun _ h => nomatch h⟩ hM cw ⟨h_blind, fun U hU hW => ⟨rfl, ⟨by rw [hU]; exact hX, zK.warm hW hK, by rw [hU]; exact hth2.warm hW⟩, by rw [hU]; exact hO, va_Nc.moved hW.alike hnc⟩⟩ rfl hn hls hst (lv_room hro) hdg hf) hS (fun q _ h => hAll q h) hAll (fun r u t H1 locs1 ht hvm hp hB hz hk hS1 => ?_)
  obtain ⟨rfl, hk0, hpp, hw, h0⟩ := hp
  refine kk u.1 u.2.1 u.2.2.1 u.2.2.2 H1 locs1 hk0 hpp hw h0 ⟨by rw [← ht]; exact hB.1, hXN.kept (fun q hq hz => hk q hq (fun h => ?_)), by rw [← ht]; exact hB.2, hS1⟩
  rcases h with h | h
  · exact d1 q h hz
  · rw [h] at hz; exact d3 hz
/-- the reference is called -/
theorem lw_ref {post : Int → zM → Prop} (Z : lwZ D cI sd b L xs adC adN qo p s m meth c) (I : lwI D cI sd adC adN qo s M N f H locs) (hM : zMi l y (.code y bytes maxL ret) rm D (nL sd) adN cI N (.ref (adN 0) :: As) post) (cw : CallW R s args "PersonSeedsLaw" "PersonSeedsModel" index y bytes maxL ret [.code y bytes maxL ret] rm 0 0 n)
    (hn : As.length = n) (hls : ls.size = 7) (hst : st0 = As.reverse ++ .ref (adN 0) :: rest) (hro : (rest.map fun v => v.category).sum ≤ 8) (hdg : decode code pc = .ok (.invokevirtual index, 3)) (hf : cells ≤ R.cells ∧ slots ≤ R.slots)
    (kk : ∀ (z : Int) (u : zM) (H1 : Heap) (locs1 : List Loc), (-2147483648 ≤ z ∧ z ≤ 2147483647) → post z u → lwI D cI sd adC adN qo s M u f H1 locs1 → W p l e R s m args below meth c H1 locs1 cells slots Q (F0 m (pc + 3) ls (.int (zI z) :: rest))) : W p l e R s m args below meth c H locs cells slots Q (F0 m pc ls st0) := by
  obtain ⟨hF, hK, -, ⟨hC, hN, ho, d1, d2, d3⟩, -, -⟩ := Z
  obtain ⟨hX, hXN, hO, hS⟩ := I
  obtain ⟨fs5, h5⟩ : ∃ fs, (nL sd)[0]? = some (.inl (5, fs)) := ⟨_, rfl⟩
  refine va_calli (va_runV (As := As) (rest := rest) (Ts := []) ⟨hF.1, hF.2.1, hF.2.2.1, hF.2.2.2.1, fun _ h => nomatch h⟩ hM cw ⟨z_blind, va_recv hK.1 hXN.1 (show zCl[5]? = some ("PersonSeedsModel", T_Mo, 23) from rfl) (zW_is h5), fun U hU hW => ⟨rfl, by rw [hU]; exact hXN, zK.warm hW hK⟩⟩ rfl hn hls hst (lv_room hro) hdg hf) hS (fun q _ h => hN q h) (fun q h => hN q h) (fun r u t H1 locs1 ht hvm hp hB hz hk hS1 => ?_)
  obtain ⟨rfl, hzr, hpp⟩ := hp
  exact kk u.1 u.2 H1 locs1 hzr hpp ⟨hX.kept (fun q hq hz => hk q hq (d1 q hz)), by rw [← ht]; exact hB, oP_kept hO (hk qo (oP_lt hO) d3), hS1⟩
/-- the class is called, where it never throws -/
theorem lw_cls {post : Int → zM → Prop} (Z : lwZ D cI sd b L xs adC adN qo p s m meth c) (I : lwI D cI sd adC adN qo s M N f H locs) (hM : zMi l y (.code y bytes maxL ret) rm D (xL sd) adC cI M (.ref (adC 0) :: As) post) (cw : CallW R s args "PersonSeedsLaw" "PersonSeeds" index y bytes maxL ret [.code y bytes maxL ret] rm 0 0 n)
    (hn : As.length = n) (hls : ls.size = 7) (hst : st0 = As.reverse ++ .ref (adC 0) :: rest) (hro : (rest.map fun v => v.category).sum ≤ 8) (hdg : decode code pc = .ok (.invokevirtual index, 3)) (hf : cells ≤ R.cells ∧ slots ≤ R.slots)
    (kk : ∀ (z : Int) (u : zM) (H1 : Heap) (locs1 : List Loc), (-2147483648 ≤ z ∧ z ≤ 2147483647) → post z u → lwI D cI sd adC adN qo s u N f H1 locs1 → W p l e R s m args below meth c H1 locs1 cells slots Q (F0 m (pc + 3) ls (.int (zI z) :: rest))) : W p l e R s m args below meth c H locs cells slots Q (F0 m pc ls st0) := by
  obtain ⟨hF, hK, -, ⟨hC, hN, ho, d1, d2, d3⟩, -, -⟩ := Z
  obtain ⟨hX, hXN, hO, hS⟩ := I
  obtain ⟨fs5, h5⟩ : ∃ fs, (xL sd)[0]? = some (.inl (0, fs)) := ⟨_, rfl⟩
  refine va_calli (va_runV (As := As) (rest := rest) (Ts := []) ⟨hF.1, hF.2.1, hF.2.2.1, hF.2.2.2.1, fun _ h => nomatch h⟩ hM cw ⟨z_blind, va_recv hK.1 hX.1 (show zCl[0]? = some ("PersonSeeds", T_PS, 7) from rfl) (zW_is h5), fun U hU hW => ⟨rfl, by rw [hU]; exact hX, zK.warm hW hK⟩⟩ rfl hn hls hst (lv_room hro) hdg hf) hS (fun q _ h => hC q h) (fun q h => hC q h) (fun r u t H1 locs1 ht hvm hp hB hz hk hS1 => ?_)
  obtain ⟨rfl, hzr, hpp⟩ := hp
  exact kk u.1 u.2 H1 locs1 hzr hpp ⟨by rw [← ht]; exact hB, hXN.kept (fun q hq hz => hk q hq (fun h => d1 q h hz)), oP_kept hO (hk qo (oP_lt hO) d2), hS1⟩
/-- the tail of a case: both have answered -/
theorem lw_tail {i k w z : Int} (Z : lwZ D cI sd b L xs adC adN qo p s m meth c) (I : lwI D cI sd adC adN qo s M N f H locs) (hs : sSim sd M N ∧ N 0 1 = k ∧ (k = 0 → z = w)) (hk : 0 ≤ k ∧ k ≤ 2) (hw : -2147483648 ≤ w ∧ w ≤ 2147483647) (hz : -2147483648 ≤ z ∧ z ≤ 2147483647) (h0 : k = 0 → f 0 = lI w)
    (hl : lv_has ls 7 [(5, .int (zI k)), (0, .ref b), (1, .ref (adC 0)), (2, .ref (adN 0)), (3, .ref qo), (4, .int (zI i))]) (hf : cells ≤ room_1.cells ∧ slots ≤ room_1.slots) {off : Int}
    (t0 : decode code pc = .ok (.istore 6, 2)) (t2 : decode code (pc + 2) = .ok (.aload_n 2, 1)) (t3 : decode code (pc + 3) = .ok (.invokevirtual 75, 3)) (t6 : decode code (pc + 6) = .ok (.iload 5, 2)) (t8 : decode code (pc + 8) = .ok (.if_icmp .eq 5, 3)) (t13 : decode code (pc + 13) = .ok (.iload 5, 2)) (t15 : decode code (pc + 15) = .ok (.ifCond .ne 15, 3)) (t18 : decode code (pc + 18) = .ok (.aload_n 3, 1)) (t19 : decode code (pc + 19) = .ok (.iconst 0, 1)) (t20 : decode code (pc + 20) = .ok (.laload, 1)) (t21 : decode code (pc + 21) = .ok (.iload 6, 2)) (t23 : decode code (pc + 23) = .ok (.i2l, 1)) (t24 : decode code (pc + 24) = .ok (.lcmp, 1)) (t25 : decode code (pc + 25) = .ok (.ifCond .eq 5, 3)) (t30 : decode code (pc + 30) = .ok (.goto off, 3)) (ho : ((pc + 30 : Nat) : Int) + off = 1109)
    (kk : ∀ (H1 : Heap) (locs1 : List Loc) (ls1 : Array Slot), lwI D cI sd adC adN qo s M N f H1 locs1 → lv_has ls1 7 [(0, .ref b), (1, .ref (adC 0)), (2, .ref (adN 0)), (3, .ref qo), (4, .int (zI i))] → W p l e room_1 s m args below meth c H1 locs1 cells slots Q (F0 m 1109 ls1 [])) : W p l e room_1 s m args below meth c H locs cells slots Q (F0 m pc ls [.int (zI z)]) := by
  obtain ⟨hx, hb, hml, hown, hlk⟩ := id Z.1
  have hK := Z.2.1
  refine lv_istore (lv' := [(6, .int (zI z)), (5, .int (zI k)), (0, .ref b), (1, .ref (adC 0)), (2, .ref (adN 0)), (3, .ref qo), (4, .int (zI i))]) hx hb t0 hl (by decide) rfl (fun ls hl => ?_)
  refine lv_aload_n hx hb t2 rfl (lv_at hl 4 rfl) ?_
  refine lw_ref (rest := []) Z I (m_thrown l D adN cI sd N) (hK.cV 0 tw_571 tw_568 tw_7 tw_569 tw_570 (by decide +kernel) rfl rfl ⟨Nat.le_of_ble_eq_true rfl, Nat.le_of_ble_eq_true rfl⟩) rfl hl.1 rfl (Nat.le_of_ble_eq_true rfl) t3 hf (fun z1 u H locs hz1 hp I => ?_)
  obtain ⟨e1, e2⟩ := hp
  rw [e2] at I
  rw [e1, hs.2.1]
  refine lv_iload hx hb t6 (lv_at hl 1 rfl) ?_
  refine z_icmp_eq (a := k) (b := k) (tgt := pc + 13) hx hb t8 (by omega) (by omega) (fun _ => ?_) (fun q => absurd rfl q)
  refine lv_iload hx hb t13 (lv_at hl 1 rfl) ?_
  refine z_if_ne (a := k) (tgt := pc + 30) hx hb t15 (by omega) (by omega) (fun hk1 => ?_) (fun hk0 => ?_)
  · refine lv_goto (tgt := 1109) hx hb t30 ho ?_
    exact kk _ _ _ I (lv_sub hl [2, 3, 4, 5, 6] rfl)
  · refine lv_aload_n hx hb t18 rfl (lv_at hl 5 rfl) ?_
    refine z_const hx hb t19 ?_
    refine z_lald hx hb hK I.2.2.1 t20 ?_
    rw [h0 hk0]
    refine lv_iload hx hb t21 (lv_at hl 0 rfl) ?_
    refine z_i2l hx hb hz t23 ?_
    refine z_lcmp (a := w) (b := z) hx hb (by omega) t24 ?_
    have ez : zSg w z = 0 := by
      rw [hs.2.2 hk0]
      unfold zSg
      rw [if_neg (by omega), if_pos rfl]
    rw [ez]
    refine z_if_eq (a := 0) (tgt := pc + 30) hx hb t25 (by omega) (by omega) (fun _ => ?_) (fun q => absurd rfl q)
    refine lv_goto (tgt := 1109) hx hb t30 ho ?_
    exact kk _ _ _ I (lv_sub hl [2, 3, 4, 5, 6] rfl)
end LROWS

/-! The law's helpers: a call of the class, its answer put into out[0], or 1, 2 for what it threw -/
abbrev xIAE : String := "java/lang/IllegalArgumentException"
abbrev xISE : String := "java/lang/IllegalStateException"
abbrev oE (cI : Nat → ClassId) (f : Nat → Int64) : va_E := .inl (cI 2, 1, .inr (.inl f))
def hA (ad : Nat → Nat) (L : List zC) (qo : Nat) : Nat → Prop := fun q => zA ad L q ∨ q = qo
def hP (D : va_G) (L : List zC) (ad : Nat → Nat) (cI : Nat → ClassId) (M : zM) (qo : Nat) (f : Nat → Int64) (U : State) : Prop := zTP D L ad cI M U ∧ va_P D zCl [(qo, oE cI f)] U.heap ∧ va_Nc xISE xIAE U
def hQ (D : va_G) (L : List zC) (ad : Nat → Nat) (cI : Nat → ClassId) (qo : Nat) (post : Int → Int → zM → Prop) : Array Value → State → Outcome → State → Prop :=
  va_Qi (fun (r : Int32) (u : Int × Int × zM × (Nat → Int64)) => r = zI u.1 ∧ (0 ≤ u.1 ∧ u.1 ≤ 2) ∧ post u.1 u.2.1 u.2.2.1 ∧ (-2147483648 ≤ u.2.1 ∧ u.2.1 ≤ 2147483647) ∧ (u.1 = 0 → u.2.2.2 0 = lI u.2.1)) (fun u t => zX D L ad cI u.2.2.1 t.heap ∧ va_P D zCl [(qo, oE cI u.2.2.2)] t.heap) (hA ad L qo)
def hMi (l : Launch) (y : MethodName) (w : Cond) (rm : Room) (D : va_G) (L : List zC) (ad : Nat → Nat) (cI : Nat → ClassId) (M : zM) (qo : Nat) (f : Nat → Int64) (av : List Value) (post : Int → Int → zM → Prop) (mc ms : Nat) : Prop :=
  Met l y [w] rm (va_Pc av (hP D L ad cI M qo f)) (hQ D L ad cI qo post) mc ms (hA ad L qo)
theorem h_blind {D : va_G} {L : List zC} {ad : Nat → Nat} {cI : Nat → ClassId} {M : zM} {qo : Nat} {f : Nat → Int64} {av : List Value} : FrameBlind (va_Pc av (hP D L ad cI M qo f)) := fun a U g mk q => ⟨q.1, ⟨q.2.1.1, zK.warm (u := U) (U := U.calling g mk a) (State.WarmedH.refl U) q.2.1.2.1, zTh.warm (u := U) (U := U.calling g mk a) (State.WarmedH.refl U) q.2.1.2.2⟩, q.2.2.1, va_Nc.moved (u := U) (U := U.calling g mk a) (Vm.Alike.refl U.vm) q.2.2.2⟩
theorem h_of {l : Launch} {y : MethodName} {rm : Room} {Pc : State → Prop} {Qc : Array Value → State → Outcome → State → Prop} {mc ms : Nat} {free : Addr → Prop} {cc : ByteArray} {maxL : Nat} {ret : Option FieldType} {hh : List (Nat × Nat × Nat × Nat)} {av : List Value} {own : String}
    (hy : plainName y.cls = true) (ho : y.cls = own) (hlen : (lg_sl av).length ≤ maxL)
    (body : ∀ (p : Program) (e : Env) (s : State) (m : MethodId) (below : List Frame) (meth : Method) (c : Code) (ls : Array Slot), zB p s m meth c cc maxL own → meth.sig.returnType = ret → c.exceptionTable.toList = tableOf hh → Pc s → lv_has ls maxL (lv_args 0 av) →
      W p l e rm s m av.toArray below meth c s.heap [] 0 0 (MQ below Qc av.toArray s mc ms free) (F0 m 0 ls [])) : Met l y [.codeWith y cc maxL ret hh] rm (va_Pc av Pc) Qc mc ms free := by
  refine MetFree.of_bodyS (code := cc) (maxLocals := maxL) (ret := ret) hy ?_ ?_
  · intro args s m h hn
    obtain ⟨m9, meth, c, hn9, h1, h2, h3, h4, -, h5, h6, -⟩ := Cond.codeWith_spec (atoms_spec (ws := [.codeWith y cc maxL ret hh]) h _ List.mem_cons_self)
    cases hn.symm.trans hn9
    exact ⟨meth, c, h1, h2, h3, h4, h5, h6⟩
  · intro p e s m args below meth c s₁ B hml hP _
    have hh0 : s₁.heap = s.heap := by rw [B.state]; rfl
    obtain ⟨rfl, hPs⟩ := hP
    have hT := vx_table (x := y) B (atoms_spec (ws := [.codeWith y cc maxL ret hh]) B.pre _ List.mem_cons_self)
    have K := body p e s m below meth c _ ⟨B.exec, B.bytes, hml, by rw [← ho]; exact findClass_of_methodNamed B.named, B.notSynchronized⟩ B.returns hT hPs (lv_entry av hlen)
    rw [← lg_entry_eq] at K
    obtain ⟨t, a1, o, b1, b2, b3⟩ := K s₁ hh0 (Stand.of_body B)
    exact ⟨t, o, a1, b1, b2, ⟨b3.1, b3.2⟩⟩
section HROWS
variable {p : Program} {l : Launch} {e : Env} {R : Room} {s : State} {m : MethodId} {args : Array Value} {below : List Frame} {meth : Method} {c : Code} {H : Heap} {locs : List Loc} {cells slots : Nat} {Q : State → Prop}
variable {cc : ByteArray} {pc : Nat} {ls : Array Slot} {rest : List Value}
variable {D : va_G} {L : List zC} {ad : Nat → Nat} {cI : Nat → ClassId} {M : zM} {H0 : Heap} {A : Nat → Prop} {qo : Nat} {f : Nat → Int64}
theorem oP_kept {H1 : Heap} (h : va_P D zCl [(qo, oE cI f)] H) (hq : H1[qo]? = H[qo]?) : va_P D zCl [(qo, oE cI f)] H1 := by
  refine h.kept (fun k q hk => ?_)
  have hz : k < 1 := (List.getElem?_eq_some_iff.mp hk).1
  rw [show k = 0 by omega] at hk
  have hk : (qo, oE cI f) = q := Option.some.inj hk
  rw [← hk]
  exact hq
theorem oP_lt (h : va_P D zCl [(qo, oE cI f)] H) : qo < H.size := (h 0 _ rfl).lt
/-- out[0] is written: the row stays -/
theorem z_last {x : Int64} (hx : p.tables.exec = Jvm.exec) (hb : c.code = cc) (hK : zK D cI s) (hX : zX D L ad cI M H) (hO : va_P D zCl [(qo, oE cI f)] H) (hq : ¬ zA ad L qo) (hAz : ∀ q, zA ad L q → A q) (hAo : A qo) (hS : va_S A H0 H locs) (hdg : decode cc pc = .ok (.lastore, 1))
    (kk : ∀ (H1 : Heap) (locs1 : List Loc) (f1 : Nat → Int64), f1 0 = x → zX D L ad cI M H1 → va_P D zCl [(qo, oE cI f1)] H1 → va_S A H0 H1 locs1 → W p l e R s m args below meth c H1 locs1 cells slots Q (F0 m (pc + 1) ls rest)) : W p l e R s m args below meth c H locs cells slots Q (F0 m pc ls (.long x :: .int (zI 0) :: .ref qo :: rest)) := by
  have hlen := zW_len ad cI M L 0
  have hP : va_P D zCl (zW ad cI M 0 L ++ [(qo, oE cI f)]) H := hX.1.app hO
  have hlo : (zW ad cI M 0 L ++ [(qo, oE cI f)])[L.length]? = some (qo, oE cI f) := by
    rw [List.getElem?_append_right (by omega), hlen, Nat.sub_self]; rfl
  have za : ∀ (k : Nat) (q : Nat × va_E), (zW ad cI M 0 L)[k]? = some q → zA ad L q.1 := fun k q hk => hX.2.1.2 k q hk
  have hD : va_D A (zW ad cI M 0 L ++ [(qo, oE cI f)]) := by
    have sp : ∀ (k : Nat) (q : Nat × va_E), (zW ad cI M 0 L ++ [(qo, oE cI f)])[k]? = some q → ((zW ad cI M 0 L)[k]? = some q ∧ k < L.length) ∨ (k = L.length ∧ q.1 = qo) := by
      intro k q hk
      by_cases c1 : k < L.length
      · rw [List.getElem?_append_left (by omega)] at hk
        exact Or.inl ⟨hk, c1⟩
      · rw [List.getElem?_append_right (by omega), hlen] at hk
        have hz : k - L.length < 1 := (List.getElem?_eq_some_iff.mp hk).1
        have hk0 : k = L.length := by omega
        rw [hk0, Nat.sub_self] at hk
        have hk : (qo, oE cI f) = q := Option.some.inj hk
        exact Or.inr ⟨hk0, by rw [← hk]⟩
    refine ⟨fun i j x y hi hj hxy => ?_, fun k q hk => ?_⟩
    · rcases sp i x hi with ⟨a1, a2⟩ | ⟨a1, a2⟩
      · rcases sp j y hj with ⟨b1, b2⟩ | ⟨b1, b2⟩
        · exact hX.2.1.1 i j x y a1 b1 hxy
        · exact absurd (by rw [← b2, ← hxy]; exact za i x a1) hq
      · rcases sp j y hj with ⟨b1, b2⟩ | ⟨b1, b2⟩
        · exact absurd (by rw [← a2, hxy]; exact za j y b1) hq
        · omega
    · rcases sp k q hk with ⟨a1, a2⟩ | ⟨a1, a2⟩
      · exact hAz _ (za k q a1)
      · rw [a2]; exact hAo
  refine va_last hx hb hK.1 hP hD hS L.length 2 hlo rfl (zI_in (n := 1) (by omega) (by decide)) hdg (fun H1 locs1 hP1 hD1 hS1 => ?_)
  have e1 : (zW ad cI M 0 L ++ [(qo, oE cI f)]).set L.length (qo, .inl (cI 2, 1, .inr (.inl (vp_updL f (zI 0).toNatClampNeg x)))) = zW ad cI M 0 L ++ [(qo, oE cI (vp_updL f (zI 0).toNatClampNeg x))] := by
    rw [List.set_append_right _ _ (by omega), hlen, Nat.sub_self]; rfl
  rw [e1] at hP1
  refine kk H1 locs1 (vp_updL f (zI 0).toNatClampNeg x) ?_ ⟨fun k q hk => ?_, hX.2⟩ (fun k q hk => ?_) hS1
  · show vp_updL f (zI 0).toNatClampNeg x 0 = x
    rw [show (zI 0).toNatClampNeg = 0 from rfl]
    simp [vp_updL]
  · refine hP1 k q ?_
    rw [List.getElem?_append_left (by have := (List.getElem?_eq_some_iff.mp hk).1; omega)]
    exact hk
  · refine hP1 (L.length + k) q ?_
    rw [List.getElem?_append_right (by omega), hlen, show L.length + k - L.length = k by omega]
    exact hk
theorem z_lald (hx : p.tables.exec = Jvm.exec) (hb : c.code = cc) (hK : zK D cI s) (hO : va_P D zCl [(qo, oE cI f)] H) (hdg : decode cc pc = .ok (.laload, 1))
    (kk : W p l e R s m args below meth c H locs cells slots Q (F0 m (pc + 1) ls (.long (f 0) :: rest))) : W p l e R s m args below meth c H locs cells slots Q (F0 m pc ls (.int (zI 0) :: .ref qo :: rest)) :=
  va_lald hx hb hK.1 hO 0 2 rfl rfl (zI_in (n := 1) (by omega) (by decide)) hdg kk
variable {y : MethodName} {bytes : ByteArray} {maxL nL n index mc' ms' : Nat} {ret : Option FieldType} {rm : Room} {own C : String} {As st0 : List Value} {bad : String → Prop}
/-- the class is called, on the row's first cell -/
theorem h_call {post : Int → zM → Prop} (hF : zB p s m meth c cc nL own) (hM : zTi l y (.code y bytes maxL ret) rm D L ad cI M (.ref (ad 0) :: As) post bad mc' ms') (cw : CallW R s args own C index y bytes maxL ret [.code y bytes maxL ret] rm mc' ms' n) (hT : zTP D L ad cI M s) (hO : va_P D zCl [(qo, oE cI f)] s.heap) (hq : ¬ zA ad L qo) {ci N : Nat} {T : u_T} {fs : List zF} (ho : L[0]? = some (.inl (ci, fs))) (hc : zCl[ci]? = some (C, T, N))
    (hn : As.length = n) (hls : ls.size = nL) (hst : st0 = As.reverse ++ .ref (ad 0) :: rest) (hro : (rest.map fun v => v.category).sum ≤ 8) (hdg : decode cc pc = .ok (.invokevirtual index, 3)) (hf : 0 + mc' ≤ R.cells ∧ 0 + ms' ≤ R.slots)
    (kx : ∀ (E : String) (ce : Cell) (q9 : Addr) (H1 : Heap) (locs1 : List Loc), bad E → zX D L ad cI M H1 → va_P D zCl [(qo, oE cI f)] H1 → va_S (hA ad L qo) s.heap H1 locs1 → H1[q9]? = some ce → ce.vm = .none → s.vm.findClass E = some ce.cls → vx_W p l e R s m args below meth c H1 locs1 (0 + mc') (0 + ms') Q (F0 m pc ls rest) q9)
    (kk : ∀ (z : Int) (u : zM) (H1 : Heap) (locs1 : List Loc), (-2147483648 ≤ z ∧ z ≤ 2147483647) → post z u → zX D L ad cI u H1 → va_P D zCl [(qo, oE cI f)] H1 → va_S (hA ad L qo) s.heap H1 locs1 → W p l e R s m args below meth c H1 locs1 (0 + mc') (0 + ms') Q (F0 m (pc + 3) ls (.int (zI z) :: rest))) : W p l e R s m args below meth c s.heap [] 0 0 Q (F0 m pc ls st0) := by
  obtain ⟨hX, hK, hth⟩ := hT
  refine vx_calli (vx_runV (As := As) (rest := rest) (Ts := []) ⟨hF.1, hF.2.1, hF.2.2.1, hF.2.2.2.1, fun _ h => nomatch h⟩ hM cw ⟨zt_blind, va_recv hK.1 hX.1 hc (zW_is ho), fun U hU hW => ⟨rfl, by rw [hU]; exact hX, zK.warm hW hK, by rw [hU]; exact hth.warm hW⟩⟩ rfl hn hls hst (lv_room hro) hdg hf) (va_S.rf (A := hA ad L qo)) (fun q _ h => Or.inl h) (fun q h => Or.inl h) (fun q _ h => Or.inl h) (fun E ce q9 u t H1 locs1 ht hvm _ hB hz hk hS1 hce hcv hcl => ?_) (fun r u t H1 locs1 ht hvm hp hB hz hk hS1 => ?_)
  · exact kx E ce q9 H1 locs1 hB.1 (by rw [← ht]; exact hB.2) (oP_kept hO (hk qo (oP_lt hO) hq)) hS1 hce hcv hcl
  · obtain ⟨rfl, hzr, hp⟩ := hp
    exact kk u.1 u.2 H1 locs1 hzr hp (by rw [← ht]; exact hB) (oP_kept hO (hk qo (oP_lt hO) hq)) hS1
theorem h_ret {post : Int → Int → zM → Prop} {k w : Int} (hx : p.tables.exec = Jvm.exec) (hb : c.code = cc) (hr : meth.sig.returnType = some .int) (hlk : meth.locks = false) (hX : zX D L ad cI M H) (hO : va_P D zCl [(qo, oE cI f)] H) (hS : va_S (hA ad L qo) s.heap H locs) (hk : 0 ≤ k ∧ k ≤ 2) (hp : post k w M) (hw : -2147483648 ≤ w ∧ w ≤ 2147483647) (h0 : k = 0 → f 0 = lI w) (hdg : decode cc pc = .ok (.ireturn, 1)) :
    W p l e R s m args below meth c H locs cells slots (MQ below (hQ D L ad cI qo post) args s cells slots (hA ad L qo)) (F0 m pc ls [.int (zI k)]) :=
  W.iret hx hb hr (fun t ht hW => ⟨⟨zI k, (k, w, M, f), rfl, ⟨rfl, hk, hp, hw, h0⟩, by show zX D L ad cI M t.heap; rw [ht]; exact hX, by show va_P D zCl [(qo, oE cI f)] t.heap; rw [ht]; exact hO⟩, hS.F ht⟩) hS.2.2 hdg hlk
end HROWS

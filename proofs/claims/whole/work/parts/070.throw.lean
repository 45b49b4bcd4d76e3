/-! Own layer: methods that may throw. What a throw needs of the start; contracts; calls that let it through -/
def isCast (w : Cond) : Bool := match w with
  | .castable _ _ => true
  | .declares _ => true
  | _ => false
theorem zK.wc {D : va_G} {cI : Nat → ClassId} {U : State} (h : zK D cI U) {w : Cond} {args : Array Value} (hm : w ∈ lw_tbl) (hg : (goodWord w || isCast w) = true) : w.before args U = true := by
  by_cases g : goodWord w = true
  · exact h.w hm g
  · have hc : isCast w = true := by
      cases hgw : goodWord w
      · rw [hgw] at hg; exact hg
      · exact absurd hgw g
    obtain ⟨-, a0, s0, h2, h3⟩ := h
    have h4 := h3 _ hm
    cases w with
    | castable a b =>
      have h5 : (Cond.castable a b).before a0 (s0.setVm U.vm) = true := by rw [Cond.castable_setVm h2.alike]; exact h4
      exact va_tabs rfl (rfl : (s0.setVm U.vm).vm = U.vm) h5
    | declares y =>
      have h5 : (Cond.declares y).before a0 (s0.setVm U.vm) = true := by rw [Cond.declares_setVm h2.alike]; exact h4
      exact va_tabs rfl (rfl : (s0.setVm U.vm).vm = U.vm) h5
    | _ => cases hc
def zTh (ad : Nat → Nat) (L : List zC) (U : State) (H : Heap) : Prop :=
  vx_Zq Bundle.tN "UNASSIGNED_STACK" Bundle.steD (zA ad L) U H ∧ vx_Zq Bundle.tN "SUPPRESSED_SENTINEL" Bundle.listD (zA ad L) U H ∧
  ∃ a1 a2 a3 : Nat, vk_R "PersonSeeds" 155 "out of bounds, or there is no such one" a1 U ∧ vk_R "PersonSeeds" 160 "both are one" a2 U ∧ vk_R "PersonSeeds" 164 "not now, or no more of these" a3 U
theorem zTh.warm {ad : Nat → Nat} {L : List zC} {u U : State} {H : Heap} (hW : u.WarmedH U.vm) (h : zTh ad L u H) : zTh ad L U H := by
  obtain ⟨h1, h2, a1, a2, a3, h3, h4, h5⟩ := h
  exact ⟨vx_Zq.moved hW.alike h1, vx_Zq.moved hW.alike h2, a1, a2, a3, vk_R.warm hW h3, vk_R.warm hW h4, vk_R.warm hW h5⟩
theorem zTh.kept {ad : Nat → Nat} {L : List zC} {U : State} {H H1 : Heap} (h : zTh ad L U H) (hq : ∀ a : Nat, a < H.size → ¬ zA ad L a → H1[a]? = H[a]?) : zTh ad L U H1 := by
  obtain ⟨h1, h2, h3⟩ := h
  exact ⟨h1.kept hq, h2.kept hq, h3⟩
def zTP (D : va_G) (L : List zC) (ad : Nat → Nat) (cI : Nat → ClassId) (M : zM) (U : State) : Prop := zX D L ad cI M U.heap ∧ zK D cI U ∧ zTh ad L U U.heap
def zXc (D : va_G) (L : List zC) (ad : Nat → Nat) (cI : Nat → ClassId) (M : zM) (bad : String → Prop) : String → State → State → Prop :=
  vx_X (fun (_ : Unit) => True) (fun E _ t => bad E ∧ zX D L ad cI M t.heap) (zA ad L)
def zTi (l : Launch) (y : MethodName) (w : Cond) (rm : Room) (D : va_G) (L : List zC) (ad : Nat → Nat) (cI : Nat → ClassId) (M : zM) (av : List Value) (post : Int → zM → Prop) (bad : String → Prop) (mc ms : Nat) : Prop :=
  vx_Met l y [w] rm (va_Pc av (zTP D L ad cI M)) (zQi D L ad cI post) (zXc D L ad cI M bad) mc ms (zA ad L)
def zTv (l : Launch) (y : MethodName) (w : Cond) (rm : Room) (D : va_G) (L : List zC) (ad : Nat → Nat) (cI : Nat → ClassId) (M : zM) (av : List Value) (post : zM → Prop) (bad : String → Prop) (mc ms : Nat) : Prop :=
  vx_Met l y [w] rm (va_Pc av (zTP D L ad cI M)) (zQv D L ad cI post) (zXc D L ad cI M bad) mc ms (zA ad L)
theorem zt_of {l : Launch} {y : MethodName} {ws ws' : List Cond} {rm : Room} {D : va_G} {L : List zC} {ad : Nat → Nat} {cI : Nat → ClassId} {M : zM} {av : List Value} {Qc : Array Value → State → Outcome → State → Prop} {XC : String → State → State → Prop} {mc ms : Nat} {free : Addr → Prop} {cc : ByteArray} {maxL : Nat} {ret : Option FieldType} {own : String}
    (hy : plainName y.cls = true) (hw : ws = Cond.code y cc maxL ret :: ws') (ho : y.cls = own) (hlen : (lg_sl av).length ≤ maxL)
    (body : ∀ (p : Program) (e : Env) (s : State) (m : MethodId) (below : List Frame) (meth : Method) (c : Code) (ls : Array Slot), zB p s m meth c cc maxL own → meth.sig.returnType = ret → (∀ x ∈ c.exceptionTable.toList, False) → zX D L ad cI M s.heap → zK D cI s → zTh ad L s s.heap → lv_has ls maxL (lv_args 0 av) →
      W p l e rm s m av.toArray below meth c s.heap [] 0 0 (vx_MQ below Qc XC av.toArray s mc ms free) (F0 m 0 ls [])) : vx_Met l y ws rm (va_Pc av (zTP D L ad cI M)) Qc XC mc ms free := by
  refine vx_ofW (cc := cc) (maxL := maxL) (ret := ret) hy hw ?_
  intro p e s m args below meth c s₁ B hml hT hv
  obtain ⟨rfl, hX, hK, hth⟩ := hv
  rw [lg_entry_eq]
  refine body p e s m below meth c _ ⟨B.exec, B.bytes, hml, ?_, B.notSynchronized⟩ B.returns hT hX hK hth (lv_entry av hlen)
  rw [← ho]
  exact findClass_of_methodNamed B.named
theorem zt_IAE : (vx_atS "PersonSeeds" 157 "java/lang/IllegalArgumentException" ["java/lang/RuntimeException", "java/lang/Exception"]).all (fun w => decide (w ∈ lw_tbl) && (goodWord w || isCast w) && vx_ot w) = true := by decide +kernel
theorem zt_ISE : (vx_atS "PersonSeeds" 166 "java/lang/IllegalStateException" ["java/lang/RuntimeException", "java/lang/Exception"]).all (fun w => decide (w ∈ lw_tbl) && (goodWord w || isCast w) && vx_ot w) = true := by decide +kernel
section ZTHROW
variable {p : Program} {l : Launch} {e : Env} {R : Room} {s : State} {m : MethodId} {args : Array Value} {below : List Frame} {meth : Method} {c : Code} {H : Heap} {locs : List Loc} {cells slots : Nat}
variable {cc : ByteArray} {pc : Nat} {ls : Array Slot} {rest : List Value}
variable {D : va_G} {L : List zC} {ad : Nat → Nat} {cI : Nat → ClassId} {M M0 : zM} {bad : String → Prop} {mc ms : Nat}
theorem zt_blind {av : List Value} : FrameBlind (va_Pc av (zTP D L ad cI M)) := fun a U g mk q => ⟨q.1, q.2.1, zK.warm (u := U) (U := U.calling g mk a) (State.WarmedH.refl U) q.2.2.1, zTh.warm (u := U) (U := U.calling g mk a) (State.WarmedH.refl U) q.2.2.2⟩
theorem zt_iret {post : Int → zM → Prop} {XC : String → State → State → Prop} {z : Int} (hx : p.tables.exec = Jvm.exec) (hb : c.code = cc) (hr : meth.sig.returnType = some .int) (hlk : meth.locks = false) (hK : zK D cI s) (hX : zX D L ad cI M H) (hS : va_S (zA ad L) s.heap H locs) (hv : -2147483648 ≤ z ∧ z ≤ 2147483647) (hp : post z M) (hc : cells ≤ mc) (hs : slots ≤ ms) (hdg : decode cc pc = .ok (.ireturn, 1)) :
    W p l e R s m args below meth c H locs cells slots (vx_MQ below (zQi D L ad cI post) XC args s mc ms (zA ad L)) (F0 m pc ls [.int (zI z)]) :=
  vx_ret (W.widen hc hs (z_iret hx hb hr hlk hK hX hS hv hp hdg))
theorem zt_vret {post : zM → Prop} {XC : String → State → State → Prop} (hx : p.tables.exec = Jvm.exec) (hb : c.code = cc) (hr : meth.sig.returnType = none) (hlk : meth.locks = false) (hK : zK D cI s) (hX : zX D L ad cI M H) (hS : va_S (zA ad L) s.heap H locs) (hp : post M) (hc : cells ≤ mc) (hs : slots ≤ ms) (hdg : decode cc pc = .ok (.return_, 1)) :
    W p l e R s m args below meth c H locs cells slots (vx_MQ below (zQv D L ad cI post) XC args s mc ms (zA ad L)) (F0 m pc ls []) :=
  vx_ret (W.widen hc hs (z_vret hx hb hr hlk hK hX hS hp hdg))
/-- 'throw new E("..")' -/
theorem zt_throw {Qc : Array Value → State → Outcome → State → Prop} {cls text : String} {names : List String} {ik is ic sa : Nat} (hF : zB p s m meth c cc c.maxLocals "PersonSeeds") (hl : l.stackTraces = false) (hT : ∀ x ∈ c.exceptionTable.toList, False) (hK : zK D cI s) (hX : zX D L ad cI M H) (hth : zTh ad L s s.heap) (hS : va_S (zA ad L) s.heap H locs)
    (hcls : Bundle.fit cls = true) (hnames : ∀ n ∈ names, Bundle.fit n = true) (hk : Cond.classLink "PersonSeeds" ik cls ∈ lw_tbl) (hini : Cond.initialized cls ∈ lw_tbl) (hstr : vk_R "PersonSeeds" is text sa s)
    (hat : (vx_atS "PersonSeeds" ic cls names).all (fun w => decide (w ∈ lw_tbl) && (goodWord w || isCast w) && vx_ot w) = true) (hsize : ls.size = c.maxLocals)
    (d0 : decode cc pc = .ok (.new ik, 3)) (d3 : decode cc (pc + 3) = .ok (.dup, 1)) (d4 : decode cc (pc + 4) = .ok (.ldc is, 2)) (d6 : decode cc (pc + 6) = .ok (.invokespecial ic, 3)) (d9 : decode cc (pc + 9) = .ok (.athrow, 1))
    (hRf : names.length + 3 < R.frames) (hRl : (rest.map fun v => v.category).sum + (13 * (names.length + 1) + 43) ≤ R.locals) (hRc : cells + 1 ≤ R.cells) (hRs : slots + 6 ≤ R.slots) (hbad : bad cls) (hc : cells + 1 ≤ mc) (hs : slots + 6 ≤ ms) :
    W p l e R s m args below meth c H locs cells slots (vx_MQ below Qc (zXc D L ad cI M bad) args s mc ms (zA ad L)) (F0 m pc ls rest) := by
  have hall := List.all_eq_true.mp hat
  refine vx_throwS hF.1 hF.2.1 hl hF.2.2.2.1 hcls hnames (hK.w hk rfl) (hK.w hini rfl) hstr (fun w hw => ?_) (fun w hw => ?_) hth.1 hth.2.1 hS hsize d0 d3 d4 d6 d9 (fun x hx => (hT x hx).elim) hRf hRl hRc hRs hF.2.2.2.2 (fun t hal hz hk9 => ?_) hS.2.2 hc hs
  · have h1 := hall w hw
    simp only [Bool.and_eq_true, decide_eq_true_eq] at h1
    exact hK.wc h1.1.1 h1.1.2
  · rcases List.mem_cons.mp hw with rfl | hw
    · rfl
    · rcases List.mem_cons.mp hw with rfl | hw
      · rfl
      · have h1 := hall w hw
        simp only [Bool.and_eq_true, decide_eq_true_eq] at h1
        exact h1.2
  · refine ⟨(), trivial, ⟨hbad, hX.kept (fun q hq _ => hk9 q hq)⟩, Nat.le_trans hS.1 hz, fun q h1 h2 => ?_⟩
    rw [hk9 q (Nat.lt_of_lt_of_le h1 hS.1)]
    exact hS.2.1 q h1 h2
variable {y : MethodName} {bytes : ByteArray} {maxL nL n index mc' ms' : Nat} {ret : Option FieldType} {rm : Room} {own C : String} {As st0 : List Value} {bad' : String → Prop} {Qc : Array Value → State → Outcome → State → Prop}
theorem zt_pass {E : String} {ce : Cell} {q9 : Addr} {t : State} {H1 : Heap} {locs1 : List Loc} (hF : zB p s m meth c cc nL own) (hT : ∀ x ∈ c.exceptionTable.toList, False) (ht : t.heap = H1) (hB : bad' E ∧ zX D L ad cI M t.heap) (hS1 : va_S (zA ad L) s.heap H1 locs1) (hce : H1[q9]? = some ce) (hcv : ce.vm = .none) (hcl : s.vm.findClass E = some ce.cls) (hb' : ∀ E, bad' E → bad E) {k n : Nat} (hcm : k ≤ mc) (hsm : n ≤ ms) :
    vx_W p l e R s m args below meth c H1 locs1 k n (vx_MQ below Qc (zXc D L ad cI M bad) args s mc ms (zA ad L)) (F0 m pc ls rest) q9 :=
  vx_out (fun x hx => (hT x hx).elim) hF.2.2.2.2 hce hcv hcl (fun t2 h2 _ => ⟨(), trivial, ⟨hb' E hB.1, by rw [h2, ← ht]; exact hB.2⟩, hS1.F h2⟩) hS1.2.2 hcm hsm
/-- a static call that may throw, and lets it through -/
theorem zt_callS {post : zM → Prop} (hF : zB p s m meth c cc nL own) (hT : ∀ x ∈ c.exceptionTable.toList, False) (hM : zTv l y (.code y bytes maxL ret) rm D L ad cI M As post bad' mc' ms') (cw : CallB R s args own index y bytes maxL ret [.code y bytes maxL ret] rm mc' ms' n ∧ (Cond.static y).before args s = true) (hK : zK D cI s) (hX : zX D L ad cI M H) (hth : zTh ad L s s.heap) (hS : va_S (zA ad L) s.heap H locs)
    (hn : As.length = n) (hls : ls.size = nL) (hst : st0 = As.reverse ++ rest) (hro : (rest.map fun v => v.category).sum ≤ 8) (hdg : decode cc pc = .ok (.invokestatic index, 3)) (hf : cells + mc' ≤ R.cells ∧ slots + ms' ≤ R.slots) (hb' : ∀ E, bad' E → bad E) (hcm : cells + mc' ≤ mc) (hsm : slots + ms' ≤ ms)
    (kk : ∀ (u : zM) (H1 : Heap) (locs1 : List Loc), post u → zX D L ad cI u H1 → va_S (zA ad L) s.heap H1 locs1 → W p l e R s m args below meth c H1 locs1 (cells + mc') (slots + ms') (vx_MQ below Qc (zXc D L ad cI M bad) args s mc ms (zA ad L)) (F0 m (pc + 3) ls rest)) :
    W p l e R s m args below meth c H locs cells slots (vx_MQ below Qc (zXc D L ad cI M bad) args s mc ms (zA ad L)) (F0 m pc ls st0) := by
  refine vx_callv (vx_runS (As := As) (rest := rest) (Ts := []) ⟨hF.1, hF.2.1, hF.2.2.1, hF.2.2.2.1, fun _ h => nomatch h⟩ hM cw ⟨zt_blind, fun U hU hW => ⟨rfl, by rw [hU]; exact hX, zK.warm hW hK, by rw [hU]; exact (hth.kept hS.2.1).warm hW⟩⟩ rfl hn hls hst (lv_room hro) hdg hf) hS (fun q _ h => h) (fun q h => h) (fun q _ h => h) (fun E ce q9 u t H1 locs1 ht hvm _ hB _ _ hS1 hce hcv hcl => ?_) (fun u t H1 locs1 ht hvm hp hB _ _ hS1 => ?_)
  · exact zt_pass hF hT ht hB hS1 hce hcv hcl hb' hcm hsm
  · exact kk u H1 locs1 hp (by rw [← ht]; exact hB) hS1
/-- a call of an instance method that may throw, and lets it through -/
theorem zt_callV {post : zM → Prop} (hF : zB p s m meth c cc nL own) (hT : ∀ x ∈ c.exceptionTable.toList, False) {o : Nat} (hM : zTv l y (.code y bytes maxL ret) rm D L ad cI M (.ref (ad o) :: As) post bad' mc' ms') (cw : CallW R s args own C index y bytes maxL ret [.code y bytes maxL ret] rm mc' ms' n) (hK : zK D cI s) (hX : zX D L ad cI M H) (hth : zTh ad L s s.heap) (hS : va_S (zA ad L) s.heap H locs) {ci N : Nat} {T : u_T} {fs : List zF} (ho : L[o]? = some (.inl (ci, fs))) (hc : zCl[ci]? = some (C, T, N))
    (hn : As.length = n) (hls : ls.size = nL) (hst : st0 = As.reverse ++ .ref (ad o) :: rest) (hro : (rest.map fun v => v.category).sum ≤ 8) (hdg : decode cc pc = .ok (.invokevirtual index, 3)) (hf : cells + mc' ≤ R.cells ∧ slots + ms' ≤ R.slots) (hb' : ∀ E, bad' E → bad E) (hcm : cells + mc' ≤ mc) (hsm : slots + ms' ≤ ms)
    (kk : ∀ (u : zM) (H1 : Heap) (locs1 : List Loc), post u → zX D L ad cI u H1 → va_S (zA ad L) s.heap H1 locs1 → W p l e R s m args below meth c H1 locs1 (cells + mc') (slots + ms') (vx_MQ below Qc (zXc D L ad cI M bad) args s mc ms (zA ad L)) (F0 m (pc + 3) ls rest)) :
    W p l e R s m args below meth c H locs cells slots (vx_MQ below Qc (zXc D L ad cI M bad) args s mc ms (zA ad L)) (F0 m pc ls st0) := by
  refine vx_callv (vx_runV (As := As) (rest := rest) (Ts := []) ⟨hF.1, hF.2.1, hF.2.2.1, hF.2.2.2.1, fun _ h => nomatch h⟩ hM cw ⟨zt_blind, va_recv hK.1 hX.1 hc (zW_is ho), fun U hU hW => ⟨rfl, by rw [hU]; exact hX, zK.warm hW hK, by rw [hU]; exact (hth.kept hS.2.1).warm hW⟩⟩ rfl hn hls hst (lv_room hro) hdg hf) hS (fun q _ h => h) (fun q h => h) (fun q _ h => h) (fun E ce q9 u t H1 locs1 ht hvm _ hB _ _ hS1 hce hcv hcl => ?_) (fun u t H1 locs1 ht hvm hp hB _ _ hS1 => ?_)
  · exact zt_pass hF hT ht hB hS1 hce hcv hcl hb' hcm hsm
  · exact kk u H1 locs1 hp (by rw [← ht]; exact hB) hS1
end ZTHROW

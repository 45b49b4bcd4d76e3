/-! Constructors: contracts; their beginning; arrays that are made; calls -/
abbrev zO (h0 ci : Nat) (fs : List Value) : va_W := [(h0, .inr (ci, fs))]
def zNP (D : va_G) (cI : Nat → ClassId) (h0 sz ci : Nat) (fs : List Value) (U : State) : Prop := U.heap.size = sz ∧ va_P D zCl (zO h0 ci fs) U.heap ∧ va_D (fun _ => True) (zO h0 ci fs) ∧ zK D cI U
def zNQ (D : va_G) (cI : Nat → ClassId) (h0 sz ci : Nat) (fs : List Value) (L : List zC) (M0 : zM) : Array Value → State → Outcome → State → Prop :=
  va_Qv (fun (ad : Nat → Nat) => ad 0 = h0) (fun ad t => va_P D zCl (zW ad cI M0 0 L) t.heap ∧ va_D (va_A (zO h0 ci fs) sz) (zW ad cI M0 0 L)) (va_A (zO h0 ci fs) sz)
/-- behind the constructor the row L stands, with M0, at the object and cells that are new -/
def zN (l : Launch) (y : MethodName) (w : Cond) (rm : Room) (D : va_G) (cI : Nat → ClassId) (h0 sz ci : Nat) (fs : List Value) (av : List Value) (L : List zC) (M0 : zM) (mc ms : Nat) : Prop :=
  Met l y [w] rm (va_Pc (.ref h0 :: av) (zNP D cI h0 sz ci fs)) (zNQ D cI h0 sz ci fs L M0) mc ms (va_A (zO h0 ci fs) sz)
theorem zN_blind {D : va_G} {cI : Nat → ClassId} {h0 sz ci : Nat} {fs av : List Value} : FrameBlind (va_Pc av (zNP D cI h0 sz ci fs)) := fun a U g mk q => ⟨q.1, q.2.1, q.2.2.1, q.2.2.2.1, zK.warm (u := U) (U := U.calling g mk a) (State.WarmedH.refl U) q.2.2.2.2⟩
theorem zn_of {l : Launch} {y : MethodName} {rm : Room} {D : va_G} {cI : Nat → ClassId} {h0 sz ci : Nat} {fs av : List Value} {L : List zC} {M0 : zM} {mc ms : Nat} {cc : ByteArray} {maxL : Nat} {own : String}
    (hy : plainName y.cls = true) (ho : y.cls = own) (hni : y.name = "<init>") (hlen : (lg_sl (.ref h0 :: av)).length ≤ maxL)
    (body : ∀ (p : Program) (e : Env) (s : State) (m : MethodId) (below : List Frame) (meth : Method) (c : Code) (ls : Array Slot) (A : Nat → Prop), zB p s m meth c cc maxL own → meth.sig.returnType = none → meth.name = "<init>" → A = va_A (zO h0 ci fs) sz → (∀ q, s.heap.size ≤ q → A q) → va_P D zCl (zO h0 ci fs) s.heap → va_D A (zO h0 ci fs) → zK D cI s → lv_has ls maxL (lv_args 0 (.ref h0 :: av)) →
      W p l e rm s m (.ref h0 :: av : List Value).toArray below meth c s.heap [] 0 0 (MQ below (zNQ D cI h0 sz ci fs L M0) (.ref h0 :: av : List Value).toArray s mc ms (va_A (zO h0 ci fs) sz)) (F0 m 0 ls [])) : zN l y (.code y cc maxL none) rm D cI h0 sz ci fs av L M0 mc ms := by
  refine Met.ofW (cc := cc) (maxL := maxL) (ret := none) hy rfl ?_
  intro p e s m args below meth c s₁ B hml hv
  obtain ⟨rfl, hsz, hP, hD, hK⟩ := hv
  rw [lg_entry_eq]
  refine body p e s m below meth c _ _ ⟨B.exec, B.bytes, hml, ?_, B.notSynchronized⟩ B.returns ?_ rfl (fun q h => Or.inr (by rw [← hsz]; exact h)) hP (hD.self (sz := sz)) hK (lv_entry (.ref h0 :: av) hlen)
  · rw [← ho]
    exact findClass_of_methodNamed B.named
  · rw [← hni]
    exact (name_of_methodNamed B.named B.method).1
section ZCTOR
variable {p : Program} {l : Launch} {e : Env} {R : Room} {s : State} {m : MethodId} {args : Array Value} {below : List Frame} {meth : Method} {c : Code} {H : Heap} {locs : List Loc} {cells slots : Nat} {Q : State → Prop}
variable {cc : ByteArray} {pc : Nat} {ls : Array Slot} {rest : List Value}
variable {D : va_G} {cI : Nat → ClassId} {H0 : Heap} {A : Nat → Prop} {ws : va_W}
variable {own : String} {nL : Nat}
theorem zc_obj (hF : zB p s m meth c cc nL own) {idx : Nat} (hK : zK D cI s) (hl : Cond.methodLink own idx objectInit ∈ lw_tbl) (hsz : ls.size = nL) {a : Nat} (hro : (rest.map fun v => v.category).sum = 0) (hdg : decode cc pc = .ok (.invokespecial idx, 3)) (h1 : 1 ≤ R.frames) (h2 : 12 ≤ R.locals)
    (kk : W p l e R s m args below meth c H locs cells slots Q (F0 m (pc + 3) ls rest)) : W p l e R s m args below meth c H locs cells slots Q (F0 m pc ls (.ref a :: rest)) := by
  refine W.objInit hF.1 hF.2.1 hF.2.2.2.1 (hK.w hl rfl) (hK.w tw_20 rfl) (hK.w tw_21 rfl) rfl (by rw [hF.2.2.1]; exact hsz) rfl hdg h1 ?_ kk
  show 2 * 0 + (rest.map fun v => v.category).sum + 12 ≤ R.locals
  omega
theorem zc_newi (hx : p.tables.exec = Jvm.exec) (hb : c.code = cc) (hK : zK D cI s) (hP : va_P D zCl ws H) (hD : va_D A ws) (hS : va_S A H0 H locs) (hA : ∀ q, H0.size ≤ q → A q) {n : Int} {N : Nat} (hn : n = (N : Int)) (hN : N < 1000000) (hcells : cells + 1 ≤ R.cells) (hslots : slots + N ≤ R.slots) (hdg : decode cc pc = .ok (.newarray .int, 2))
    (kk : ∀ (q : Nat) (H1 : Heap), va_P D zCl (ws ++ [(q, .inl (cI 0, N, .inl (fun _ => zI 0)))]) H1 → va_D A (ws ++ [(q, .inl (cI 0, N, .inl (fun _ => zI 0)))]) → va_S A H0 H1 locs → W p l e R s m args below meth c H1 locs (cells + 1) (slots + N) Q (F0 m (pc + 2) ls (.ref q :: rest))) : W p l e R s m args below meth c H locs cells slots Q (F0 m pc ls (.int (zI n) :: rest)) := by
  subst hn
  refine va_newa (atype := .int) (N' := N) (a0 := (N, .inl (fun _ => zI 0))) (ty := .int) hx hb (hK.w tw_48 rfl) rfl hK.1 hP hD hS hA (fun cA => rfl) (fun q => ?_) (zI_cl (n := N + 1) (by omega) (by omega)) ?_ hcells hslots hdg (fun q cA H1 hK1 hP1 hD1 hS1 => ?_)
  · rw [← zI_0, zI_lt (by omega)] at q
    omega
  · show N * 4 ≤ 536870912
    omega
  · have e1 : s.vm.findClass ("[" ++ FieldType.int.toString) = some cA := (hK1.2 3 (cA, .int) rfl).2
    have e0 : s.vm.findClass ("[" ++ FieldType.int.toString) = some (cI 0) := (hK.1.2 0 (cI 0, .int) rfl).2
    have e : cA = cI 0 := Option.some.inj (e1.symm.trans e0)
    subst e
    exact kk q H1 hP1 hD1 hS1
theorem zc_newb (hx : p.tables.exec = Jvm.exec) (hb : c.code = cc) (hK : zK D cI s) (hP : va_P D zCl ws H) (hD : va_D A ws) (hS : va_S A H0 H locs) (hA : ∀ q, H0.size ≤ q → A q) {n : Int} {N : Nat} (hn : n = (N : Int)) (hN : N < 1000000) (hcells : cells + 1 ≤ R.cells) (hslots : slots + N ≤ R.slots) (hdg : decode cc pc = .ok (.newarray .byte, 2))
    (kk : ∀ (q : Nat) (H1 : Heap), va_P D zCl (ws ++ [(q, .inl (cI 1, N, .inl (fun _ => zI 0)))]) H1 → va_D A (ws ++ [(q, .inl (cI 1, N, .inl (fun _ => zI 0)))]) → va_S A H0 H1 locs → W p l e R s m args below meth c H1 locs (cells + 1) (slots + N) Q (F0 m (pc + 2) ls (.ref q :: rest))) : W p l e R s m args below meth c H locs cells slots Q (F0 m pc ls (.int (zI n) :: rest)) := by
  subst hn
  refine va_newa (atype := .byte) (N' := N) (a0 := (N, .inl (fun _ => zI 0))) (ty := .byte) hx hb (hK.w tw_251 rfl) rfl hK.1 hP hD hS hA (fun cA => rfl) (fun q => ?_) (zI_cl (n := N + 1) (by omega) (by omega)) ?_ hcells hslots hdg (fun q cA H1 hK1 hP1 hD1 hS1 => ?_)
  · rw [← zI_0, zI_lt (by omega)] at q
    omega
  · show N * 1 ≤ 536870912
    omega
  · have e1 : s.vm.findClass ("[" ++ FieldType.byte.toString) = some cA := (hK1.2 3 (cA, .byte) rfl).2
    have e0 : s.vm.findClass ("[" ++ FieldType.byte.toString) = some (cI 1) := (hK.1.2 1 (cI 1, .byte) rfl).2
    have e : cA = cI 1 := Option.some.inj (e1.symm.trans e0)
    subst e
    exact kk q H1 hP1 hD1 hS1
theorem zc_newl (hx : p.tables.exec = Jvm.exec) (hb : c.code = cc) (hK : zK D cI s) (hP : va_P D zCl ws H) (hD : va_D A ws) (hS : va_S A H0 H locs) (hA : ∀ q, H0.size ≤ q → A q) {n : Int} {N : Nat} (hn : n = (N : Int)) (hN : N < 1000000) (hcells : cells + 1 ≤ R.cells) (hslots : slots + N ≤ R.slots) (hdg : decode cc pc = .ok (.newarray .long, 2))
    (kk : ∀ (q : Nat) (H1 : Heap), va_P D zCl (ws ++ [(q, .inl (cI 2, N, .inr (.inl (fun _ => 0))))]) H1 → va_D A (ws ++ [(q, .inl (cI 2, N, .inr (.inl (fun _ => 0))))]) → va_S A H0 H1 locs → W p l e R s m args below meth c H1 locs (cells + 1) (slots + N) Q (F0 m (pc + 2) ls (.ref q :: rest))) : W p l e R s m args below meth c H locs cells slots Q (F0 m pc ls (.int (zI n) :: rest)) := by
  subst hn
  refine va_newa (atype := .long) (N' := N) (a0 := (N, .inr (.inl (fun _ => 0)))) (ty := .long) hx hb (hK.w tw_700 rfl) rfl hK.1 hP hD hS hA (fun cA => rfl) (fun q => ?_) (zI_cl (n := N + 1) (by omega) (by omega)) ?_ hcells hslots hdg (fun q cA H1 hK1 hP1 hD1 hS1 => ?_)
  · rw [← zI_0, zI_lt (by omega)] at q
    omega
  · show N * 8 ≤ 536870912
    omega
  · have e1 : s.vm.findClass ("[" ++ FieldType.long.toString) = some cA := (hK1.2 3 (cA, .long) rfl).2
    have e0 : s.vm.findClass ("[" ++ FieldType.long.toString) = some (cI 2) := (hK.1.2 2 (cI 2, .long) rfl).2
    have e : cA = cI 2 := Option.some.inj (e1.symm.trans e0)
    subst e
    exact kk q H1 hP1 hD1 hS1
theorem zc_put (hF : zB p s m meth c cc nL own) {C : String} {T : u_T} {N ci index : Nat} (hin : ∀ w ∈ u_ws C T N, w ∈ lw_tbl ∧ goodWord w = true) (ty0 : Nat → FieldType) (hty : ∀ k, k < N → parseFieldDescriptor (T k).2.2.1 = some (ty0 k)) (hnm : ∀ a, a < N → ∀ b, b < N → a ≠ b → (T a).2.1 ≠ (T b).2.1) (hini : meth.name = "<init>") (hK : zK D cI s) (hP : va_P D zCl ws H) (hD : va_D A ws) (hS : va_S A H0 H locs) (q0 : Nat) {a : Nat} {fs : List Value} (he : ws[q0]? = some (a, .inr (ci, fs))) (hc : zCl[ci]? = some (C, T, N)) (k : Nat) (hk : k < N) (hlink : Cond.fieldLink own index own (T k).2.1 (T k).2.2.1 ∈ lw_tbl) (hfin : (T k).2.2.2 = true) (hdecl : (T k).1 = own) {ty : FieldType} {v : Value} (hd : parseFieldDescriptor (T k).2.2.1 = some ty) (hn : narrow ty v = v) (hfit : fits ty v = true) (hl : k < fs.length) (hdg : decode cc pc = .ok (.putfield index, 3))
    (kk : ∀ (H1 : Heap) (locs1 : List Loc), va_P D zCl (ws.set q0 (a, .inr (ci, fs.set k v))) H1 → va_D A (ws.set q0 (a, .inr (ci, fs.set k v))) → va_S A H0 H1 locs1 → W p l e R s m args below meth c H1 locs1 cells slots Q (F0 m (pc + 3) ls rest)) : W p l e R s m args below meth c H locs cells slots Q (F0 m pc ls (v :: .ref a :: rest)) :=
  va_putF hF.1 hF.2.1 (fun w hw => hK.w (hin w hw).1 (hin w hw).2) (fun w hw => hw) ty0 hty hnm hF.2.2.2.1 hK.1 hP hD hS q0 he hc k hk (hK.w hlink rfl) (fun x h => by rw [← hdecl]; exact h) hfin hini hdecl hd hn hfit hl hdg kk
theorem zc_new (hF : zB p s m meth c cc nL own) {C : String} {T : u_T} {N ci index : Nat} (hin : ∀ w ∈ u_ws C T N, w ∈ lw_tbl ∧ goodWord w = true) (ty0 : Nat → FieldType) (hty : ∀ k, k < N → parseFieldDescriptor (T k).2.2.1 = some (ty0 k)) (hK : zK D cI s) (hcl : Cond.classLink own index C ∈ lw_tbl) (hinst : Cond.instantiable C N ∈ lw_tbl) (hini : Cond.initialized C ∈ lw_tbl) (hP : va_P D zCl ws H) (hD : va_D A ws) (hS : va_S A H0 H locs) (hA : ∀ q, H0.size ≤ q → A q) (hc : zCl[ci]? = some (C, T, N)) {fs : List Value} (hfs : ∀ j, j < N → defaultValue (ty0 j) = vp_V fs j) (hcells : cells + 1 ≤ R.cells) (hslots : slots + N ≤ R.slots) (hdg : decode cc pc = .ok (.new index, 3))
    (kk : ∀ (q : Nat) (H1 : Heap), va_P D zCl (ws ++ [(q, .inr (ci, fs))]) H1 → va_D A (ws ++ [(q, .inr (ci, fs))]) → va_S A H0 H1 locs → W p l e R s m args below meth c H1 locs (cells + 1) (slots + N) Q (F0 m (pc + 3) ls (.ref q :: rest))) : W p l e R s m args below meth c H locs cells slots Q (F0 m pc ls rest) :=
  va_new hF.1 hF.2.1 (fun w hw => hK.w (hin w hw).1 (hin w hw).2) (fun w hw => hw) ty0 hty hF.2.2.2.1 (hK.w hcl rfl) (hK.w hinst rfl) (hK.w hini rfl) hK.1 hP hD hS hA hc hfs hcells hslots hdg kk
/-- the constructor's last cell ws[j] is the new object, all others stay -/
theorem zc_join {wr w1 : va_W} {h0 ci : Nat} {fs : List Value} {H1 : Heap} (hP : va_P D zCl (wr ++ zO h0 ci fs) H) (hD : va_D A (wr ++ zO h0 ci fs)) (hF : ∀ q, va_A (zO h0 ci fs) H.size q → A q) (hk : ∀ q : Nat, q < H.size → ¬ va_A (zO h0 ci fs) H.size q → H1[q]? = H[q]?) (hP1 : va_P D zCl w1 H1) (hD1 : va_D (va_A (zO h0 ci fs) H.size) w1) : va_P D zCl (wr ++ w1) H1 ∧ va_D A (wr ++ w1) := by
  have hl : ∀ (k : Nat) (q : Nat × va_E), wr[k]? = some q → (wr ++ zO h0 ci fs)[k]? = some q := by
    intro k q hq
    rw [List.getElem?_append_left (List.getElem?_eq_some_iff.mp hq).1]
    exact hq
  have ho : (wr ++ zO h0 ci fs)[wr.length]? = some (h0, .inr (ci, fs)) := by
    rw [List.getElem?_append_right (Nat.le_refl _), Nat.sub_self]
    rfl
  have apart : ∀ (k : Nat) (q : Nat × va_E), wr[k]? = some q → q.1 < H.size ∧ ¬ va_A (zO h0 ci fs) H.size q.1 := by
    intro k q hq
    have h1 := (hP k q (hl k q hq)).lt
    refine ⟨h1, fun h => ?_⟩
    rcases h with ⟨j, e9, hj⟩ | h
    · have hz : j < 1 := (List.getElem?_eq_some_iff.mp hj).1
      rw [show j = 0 by omega] at hj
      have hj : (h0, (.inr (ci, fs) : va_E)) = (q.1, e9) := Option.some.inj hj
      have := hD.1 k wr.length q _ (hl k q hq) ho (by rw [show h0 = q.1 from congrArg Prod.fst hj])
      have := (List.getElem?_eq_some_iff.mp hq).1
      omega
    · omega
  refine ⟨va_P.app (fun k q hq => (hP k q (hl k q hq)).kept (hk _ (apart k q hq).1 (apart k q hq).2)) hP1, ?_, ?_⟩
  · intro i j x y hi hj hxy
    by_cases ci1 : i < wr.length
    · rw [List.getElem?_append_left ci1] at hi
      by_cases cj1 : j < wr.length
      · rw [List.getElem?_append_left cj1] at hj
        exact hD.1 i j x y (hl i x hi) (hl j y hj) hxy
      · rw [List.getElem?_append_right (by omega)] at hj
        have := hD1.2 _ y hj
        rw [← hxy] at this
        exact absurd this (apart i x hi).2
    · rw [List.getElem?_append_right (by omega)] at hi
      by_cases cj1 : j < wr.length
      · rw [List.getElem?_append_left cj1] at hj
        have := hD1.2 _ x hi
        rw [hxy] at this
        exact absurd this (apart j y hj).2
      · rw [List.getElem?_append_right (by omega)] at hj
        have := hD1.1 _ _ x y hi hj hxy
        omega
  · intro k q hq
    by_cases c1 : k < wr.length
    · rw [List.getElem?_append_left c1] at hq
      exact hD.2 k q (hl k q hq)
    · rw [List.getElem?_append_right (by omega)] at hq
      exact hF _ (hD1.2 _ q hq)
theorem zc_free {wr : va_W} {h0 ci : Nat} {fs : List Value} (hD : va_D A (wr ++ zO h0 ci fs)) (hS : va_S A H0 H locs) (hA : ∀ q, H0.size ≤ q → A q) : ∀ q, va_A (zO h0 ci fs) H.size q → A q := by
  intro q h
  rcases h with ⟨j, e9, hj⟩ | h
  · have hz : j < 1 := (List.getElem?_eq_some_iff.mp hj).1
    rw [show j = 0 by omega] at hj
    have hj : (h0, (.inr (ci, fs) : va_E)) = (q, e9) := Option.some.inj hj
    have ho : (wr ++ zO h0 ci fs)[wr.length]? = some (h0, .inr (ci, fs)) := by
      rw [List.getElem?_append_right (Nat.le_refl _), Nat.sub_self]
      rfl
    have := hD.2 _ _ ho
    rw [show h0 = q from congrArg Prod.fst hj] at this
    exact this
  · exact hA q (Nat.le_trans hS.1 h)
theorem zc_last {wr : va_W} {h0 ci : Nat} {fs : List Value} (hP : va_P D zCl (wr ++ zO h0 ci fs) H) : va_P D zCl (zO h0 ci fs) H := by
  intro k q hq
  have hz : k < 1 := (List.getElem?_eq_some_iff.mp hq).1
  refine hP (wr.length + k) q ?_
  rw [List.getElem?_append_right (by omega), show wr.length + k - wr.length = k by omega]
  exact hq
theorem zc_one {h0 ci : Nat} {fs : List Value} : va_D (fun _ => True) (zO h0 ci fs) := by
  refine ⟨fun i j x y hi hj _ => ?_, fun _ _ _ => trivial⟩
  have h1 : i < 1 := (List.getElem?_eq_some_iff.mp hi).1
  have h2 : j < 1 := (List.getElem?_eq_some_iff.mp hj).1
  omega
variable {y : MethodName} {bytes : ByteArray} {maxL n index mc ms ci h0 : Nat} {rm : Room} {host : String} {As st0 fs : List Value} {L : List zC} {M0 : zM}
/-- a constructor of the nest is called on the object that was just made -/
theorem zc_callN (hF : zB p s m meth c cc nL own) {wr : va_W} (hM : zN l y (.code y bytes maxL none) rm D cI h0 H.size ci fs As L M0 mc ms) (cw : va_CN R s args own index y host bytes maxL none [.code y bytes maxL none] rm mc ms n ∧ y.name = "<init>" ∧ (Cond.instanceMethod y).before args s = true) (hK : zK D cI s) (hP : va_P D zCl (wr ++ zO h0 ci fs) H) (hD : va_D A (wr ++ zO h0 ci fs)) (hS : va_S A H0 H locs) (hA : ∀ q, H0.size ≤ q → A q)
    (hn : As.length = n) (hls : ls.size = nL) (hst : st0 = As.reverse ++ .ref h0 :: rest) (hro : (rest.map fun v => v.category).sum ≤ 8) (hdg : decode cc pc = .ok (.invokespecial index, 3)) (hf : cells + mc ≤ R.cells ∧ slots + ms ≤ R.slots)
    (kk : ∀ (ad : Nat → Nat) (H1 : Heap) (locs1 : List Loc), ad 0 = h0 → va_P D zCl (wr ++ zW ad cI M0 0 L) H1 → va_D A (wr ++ zW ad cI M0 0 L) → va_S A H0 H1 locs1 → W p l e R s m args below meth c H1 locs1 (cells + mc) (slots + ms) Q (F0 m (pc + 3) ls rest)) : W p l e R s m args below meth c H locs cells slots Q (F0 m pc ls st0) := by
  have hFc := zc_free hD hS hA
  refine va_callv (va_runIN (As := As) (rest := rest) (Ts := []) ⟨hF.1, hF.2.1, hF.2.2.1, hF.2.2.2.1, fun _ h => nomatch h⟩ hM cw ⟨zN_blind, fun U hU hW => ⟨rfl, by rw [hU], by rw [hU]; exact zc_last hP, zc_one, zK.warm hW hK⟩⟩ rfl hn hls hst (lv_room hro) hdg hf) hS (fun q _ h => hFc q h) hFc (fun ad t H1 locs1 ht hvm hp hB hz1 hk1 hS1 => ?_)
  obtain ⟨hP1, hD1⟩ := hB
  rw [ht] at hP1
  obtain ⟨hP2, hD2⟩ := zc_join hP hD hFc hk1 hP1 hD1
  exact kk ad H1 locs1 hp hP2 hD2 hS1
theorem zc_callI (hF : zB p s m meth c cc nL own) {wr : va_W} (hM : zN l y (.code y bytes maxL none) rm D cI h0 H.size ci fs As L M0 mc ms) (cw : CallB R s args own index y bytes maxL none [.code y bytes maxL none] rm mc ms n ∧ y.name = "<init>" ∧ (Cond.instanceMethod y).before args s = true) (hK : zK D cI s) (hP : va_P D zCl (wr ++ zO h0 ci fs) H) (hD : va_D A (wr ++ zO h0 ci fs)) (hS : va_S A H0 H locs) (hA : ∀ q, H0.size ≤ q → A q)
    (hn : As.length = n) (hls : ls.size = nL) (hst : st0 = As.reverse ++ .ref h0 :: rest) (hro : (rest.map fun v => v.category).sum ≤ 8) (hdg : decode cc pc = .ok (.invokespecial index, 3)) (hf : cells + mc ≤ R.cells ∧ slots + ms ≤ R.slots)
    (kk : ∀ (ad : Nat → Nat) (H1 : Heap) (locs1 : List Loc), ad 0 = h0 → va_P D zCl (wr ++ zW ad cI M0 0 L) H1 → va_D A (wr ++ zW ad cI M0 0 L) → va_S A H0 H1 locs1 → W p l e R s m args below meth c H1 locs1 (cells + mc) (slots + ms) Q (F0 m (pc + 3) ls rest)) : W p l e R s m args below meth c H locs cells slots Q (F0 m pc ls st0) := by
  have hFc := zc_free hD hS hA
  refine va_callv (va_runI (As := As) (rest := rest) (Ts := []) ⟨hF.1, hF.2.1, hF.2.2.1, hF.2.2.2.1, fun _ h => nomatch h⟩ hM cw ⟨zN_blind, fun U hU hW => ⟨rfl, by rw [hU], by rw [hU]; exact zc_last hP, zc_one, zK.warm hW hK⟩⟩ rfl hn hls hst (lv_room hro) hdg hf) hS (fun q _ h => hFc q h) hFc (fun ad t H1 locs1 ht hvm hp hB hz1 hk1 hS1 => ?_)
  obtain ⟨hP1, hD1⟩ := hB
  rw [ht] at hP1
  obtain ⟨hP2, hD2⟩ := zc_join hP hD hFc hk1 hP1 hD1
  exact kk ad H1 locs1 hp hP2 hD2 hS1
/-- a constructor's end -/
theorem zc_ret {sz : Nat} {av : List Value} {ad : Nat → Nat} (hx : p.tables.exec = Jvm.exec) (hb : c.code = cc) (hr : meth.sig.returnType = none) (hlk : meth.locks = false) (hAe : A = va_A (zO h0 ci fs) sz) (had : ad 0 = h0) (hP : va_P D zCl (zW ad cI M0 0 L) H) (hD : va_D A (zW ad cI M0 0 L)) (hS : va_S A s.heap H locs) (hdg : decode cc pc = .ok (.return_, 1)) :
    W p l e R s m args below meth c H locs cells slots (MQ below (zNQ D cI h0 sz ci fs L M0) args s cells slots (va_A (zO h0 ci fs) sz)) (F0 m pc ls []) := by
  subst hAe
  exact W.vret hx hb hr (fun t ht hW => ⟨⟨ad, rfl, had, by rw [ht]; exact hP, hD⟩, hS.F ht⟩) hS.2.2 hdg hlk
/-- the row, as a world of its own -/
theorem zX_of {ad : Nat → Nat} (hP : va_P D zCl (zW ad cI M0 0 L) H) (hD : va_D A (zW ad cI M0 0 L)) (hr : ∀ k i, -2147483648 ≤ M0 k i ∧ M0 k i ≤ 2147483647) : zX D L ad cI M0 H := by
  refine ⟨hP, hD.weaken (fun k q hq _ => ?_), hr⟩
  have hk : k < L.length := by
    have := (List.getElem?_eq_some_iff.mp hq).1
    rw [zW_len] at this
    exact this
  rw [zW_is (List.getElem?_eq_getElem hk)] at hq
  exact ⟨k, hk, by rw [← Option.some.inj hq]⟩
end ZCTOR

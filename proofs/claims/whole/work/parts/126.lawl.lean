/-! THE CLAIM OUT OF ONE WALK OF THE LAW'S BODY. Your part is whole_start (and what it stands on); all else here is the same for every law, but numbers. -/
def R_law : String := "PersonSeedsLaw"
def lw_P (b : Addr) (xs : List Int32) (args : Array Value) (s : State) : Prop := args = #[.ref b] ∧ s.IntsAt b xs ∧ xs.length ≤ 2049 ∧ (Jvm.Cond.and given_1 narrow_1).before args s = true
def lw_Q (_ : Array Value) (s : State) (o : Outcome) (t : State) : Prop := o = .returned (some (.int 1)) ∧ Framed s o t [] 601024 7293000
def lw_Z (below : List Frame) (a : Array Value) (s : State) : State → Prop := fun t => ∃ o, t.status = .running ∧ Ended t below o ∧ lw_Q a s o t
/-- the law's own end, with 1 on the stack, nothing written that was there before, its room as the claim has it -/
theorem lw_ret {p : Program} {l : Launch} {e : Env} {s : State} {m : MethodId} {below : List Frame} {meth : Method} {c : Code} {b : Nat} (hx : p.tables.exec = Jvm.exec) (hb : c.code = code) (hr : meth.sig.returnType = ret) (hlocks : meth.locks = false) {pc : Nat} {H : Heap} {ls : Array Slot} (hdg : decode code pc = .ok (.ireturn, 1)) : W p l e room_1 s m #[Value.ref b] below meth c H [] 601024 7293000 (lw_Z below #[Value.ref b] s) (F0 m pc ls [.int 1]) := by
  intro T hT X
  obtain ⟨fs, hret, hrun, hended, hW, hframe⟩ := X.leave (v := some (.int 1)) (hlocks := hlocks) (fun h => by rw [hr] at h; cases h)
  have hmeth' : T.vm.method? m = some meth := X.method'
  refine ⟨T.setFrames fs, ?_, .returned (some (.int 1)), hrun, hended, rfl, ⟨_, rfl⟩, hW, hframe⟩
  jvm_step X.here [X.here.top, hx, hb, hdg, hmeth', hr, ret, narrow_b1]
  (try refine ⟨rfl, ?_⟩); (try refine ⟨rfl, ?_⟩)
  first | (intro acts; rw [hret _ acts rfl rfl rfl]) | rw [hret _ _ rfl rfl rfl]
  exact Steps.refl _
/-- what holds at the law's entry: the machine, the code, the tables' words (any of lw_tbl by 'hts w (by decide +kernel)'), the script of L ints xs at the cell b, what the Statement gives of the start (any of its parts by flat_of_before) -/
def lw_At (p : Program) (s : State) (m : MethodId) (meth : Method) (c : Code) (b L : Nat) (xs : Nat → Int32) : Prop :=
  p.tables.exec = Jvm.exec ∧ c.code = code ∧ meth.sig.returnType = ret ∧ c.maxLocals = 7 ∧ s.vm.findClass R_law = some m.cls ∧ (∀ w ∈ lw_tbl, w.before #[Value.ref b] s = true) ∧ va_X b L xs s s.heap ∧ b < s.heap.size ∧ meth.locks = false ∧ (Jvm.Cond.and given_1 narrow_1).before #[Value.ref b] s = true
theorem law_end {p : Program} {l : Launch} {e : Env} {s : State} {m : MethodId} {below : List Frame} {meth : Method} {c : Code} {D : va_G} {cI : Nat → ClassId} {sd : Int64} {b L : Nat} {xs : Nat → Int32} {adC adN : Nat → Nat} {qo : Nat} (hlt : l.stackTraces = false) (hr : meth.sig.returnType = ret) (Z : lwZ D cI sd b L xs adC adN qo p s m meth c) (j : Nat) (M N : zM) (f : Nat → Int64) (H : Heap) (locs : List Loc) (ls : Array Slot) (h1 : L < j) (h2 : j ≤ 512) (hs : sSim sd M N) (I : lwI D cI sd adC adN qo s M N f H locs) (hl : lv_has ls 7 [(0, .ref b), (1, .ref (adC 0)), (2, .ref (adN 0)), (3, .ref qo), (4, .int (zI (1 + 4 * (j : Int))))]) : W p l e room_1 s m #[Value.ref b] below meth c H locs (43 + 5 * j) (126812 + 30 * j) (lw_Z below #[Value.ref b] s) (F0 m 35 ls []) := by
  obtain ⟨hx, hb, hml, hown, hlk⟩ := id Z.1
  have hL := Z.2.2.1.2.2
  refine lv_iload hx hb d_La_law_35 (lv_at hl 4 rfl) ?_
  refine lv_aload_n hx hb d_La_law_37 rfl (lv_at hl 0 rfl) ?_
  refine lw_slen Z I.2.2.2 d_La_law_38 ?_
  refine z_const hx hb d_La_law_39 ?_
  refine z_isub hx hb d_La_law_40 ?_
  refine z_icmp_gt (a := 1 + 4 * (j : Int)) (b := (L : Int) - 4) (tgt := 1115) hx hb d_La_law_41 (by decide) (by omega) (fun hg => ?_) (fun hg => absurd hg (by omega))
  refine lv_iconst (v := 1) hx hb d_La_law_1115 (by decide) ?_
  refine va_forget (fun q hq => I.2.2.2.2.2 q hq) ?_
  refine W.widen (k := 601024) (n := 7293000) (by omega) (by omega) ?_
  exact lw_ret hx hb hr hlk d_La_law_1116
theorem va_split {A : Nat → Prop} {D : va_G} {cl : List vw_C} {a b : va_W} {H : Heap} (hP : va_P D cl (a ++ b) H) (hD : va_D A (a ++ b)) : (va_P D cl a H ∧ va_D A a) ∧ (va_P D cl b H ∧ va_D A b) ∧ ∀ (i j : Nat) (x y : Nat × va_E), a[i]? = some x → b[j]? = some y → x.1 ≠ y.1 := by
  have la : ∀ (i : Nat) (x : Nat × va_E), a[i]? = some x → (a ++ b)[i]? = some x := by
    intro i x h
    rw [List.getElem?_append_left (List.getElem?_eq_some_iff.mp h).1]
    exact h
  have lb : ∀ (i : Nat) (x : Nat × va_E), b[i]? = some x → (a ++ b)[a.length + i]? = some x := by
    intro i x h
    rw [List.getElem?_append_right (by omega), show a.length + i - a.length = i by omega]
    exact h
  refine ⟨⟨fun k q h => hP k q (la k q h), fun i j x y hi hj e => hD.1 i j x y (la i x hi) (la j y hj) e, fun k q h => hD.2 k q (la k q h)⟩, ⟨fun k q h => hP _ q (lb k q h), fun i j x y hi hj e => ?_, fun k q h => hD.2 _ q (lb k q h)⟩, fun i j x y hi hj e => ?_⟩
  · have := hD.1 _ _ x y (lb i x hi) (lb j y hj) e
    omega
  · have h1 := hD.1 _ _ x y (la i x hi) (lb j y hj) e
    have h2 := (List.getElem?_eq_some_iff.mp hi).1
    omega
set_option maxHeartbeats 1600000 in
set_option maxRecDepth 100000 in
theorem law_loop {p : Program} {l : Launch} {e : Env} {s : State} {m : MethodId} {below : List Frame} {meth : Method} {c : Code} {D : va_G} {cI : Nat → ClassId} {sd : Int64} {b L : Nat} {xs : Nat → Int32} {adC adN : Nat → Nat} {qo : Nat} (hlt : l.stackTraces = false) (hr : meth.sig.returnType = ret) (Z : lwZ D cI sd b L xs adC adN qo p s m meth c) :
    ∀ (n j : Nat) (M N : zM) (f : Nat → Int64) (H : Heap) (locs : List Loc) (ls : Array Slot), L < j + n → j ≤ 512 → sSim sd M N → lwI D cI sd adC adN qo s M N f H locs → lv_has ls 7 [(0, .ref b), (1, .ref (adC 0)), (2, .ref (adN 0)), (3, .ref qo), (4, .int (zI (1 + 4 * (j : Int))))] → W p l e room_1 s m #[Value.ref b] below meth c H locs (43 + 5 * j) (126812 + 30 * j) (lw_Z below #[Value.ref b] s) (F0 m 35 ls []) := by
  obtain ⟨hx, hb, hml, hown, hlk⟩ := id Z.1
  have hL := Z.2.2.1.2.2
  intro n
  induction n with
  | zero => intro j M N f H locs ls h1 h2 hs I hl; exact law_end hlt hr Z j M N f H locs ls (by omega) h2 hs I hl
  | succ n ih =>
    intro j M N f H locs ls h1 h2 hs I hl
    refine lv_iload hx hb d_La_law_35 (lv_at hl 4 rfl) ?_
    refine lv_aload_n hx hb d_La_law_37 rfl (lv_at hl 0 rfl) ?_
    refine lw_slen Z I.2.2.2 d_La_law_38 ?_
    refine z_const hx hb d_La_law_39 ?_
    refine z_isub hx hb d_La_law_40 ?_
    refine z_icmp_gt (a := 1 + 4 * (j : Int)) (b := (L : Int) - 4) (tgt := 1115) hx hb d_La_law_41 (by decide) (by omega) (fun hg => ?_) (fun hg => ?_)
    · refine lv_iconst (v := 1) hx hb d_La_law_1115 (by decide) ?_
      refine va_forget (fun q hq => I.2.2.2.2.2 q hq) ?_
      refine W.widen (k := 601024) (n := 7293000) (by omega) (by omega) ?_
      exact lw_ret hx hb hr hlk d_La_law_1116
    · have next : ∀ (M N : zM) (f : Nat → Int64) (H : Heap) (locs : List Loc) (ls : Array Slot), sSim sd M N → lwI D cI sd adC adN qo s M N f H locs → lv_has ls 7 [(0, .ref b), (1, .ref (adC 0)), (2, .ref (adN 0)), (3, .ref qo), (4, .int (zI (1 + 4 * (j : Int))))] → W p l e room_1 s m #[Value.ref b] below meth c H locs (43 + 5 * j + 5) (126812 + 30 * j + 30) (lw_Z below #[Value.ref b] s) (F0 m 1109 ls []) := by
        intro M N f H locs ls hs I hl
        refine z_iinc (lv' := [(4, .int (zI (1 + 4 * (j : Int) + 4))), (0, .ref b), (1, .ref (adC 0)), (2, .ref (adN 0)), (3, .ref qo)]) hx hb d_La_law_1109 hl (k := 4) rfl (by decide) rfl (fun ls hl => ?_)
        refine lv_goto (tgt := 35) hx hb d_La_law_1112 (by decide) ?_
        refine W.widen (k := 43 + 5 * (j + 1)) (n := 126812 + 30 * (j + 1)) (by omega) (by omega) ?_
        rw [show 1 + 4 * (j : Int) + 4 = 1 + 4 * ((j + 1 : Nat) : Int) by omega] at hl
        exact ih (j + 1) M N f H locs ls (by omega) (by omega) hs I (lv_sub hl [1, 2, 3, 4, 0] rfl)
      have hc : 43 + 5 * j + 5 ≤ room_1.cells := by show 43 + 5 * j + 5 ≤ 601024; omega
      have hsl : 126812 + 30 * j + 30 ≤ room_1.slots := by show 126812 + 30 * j + 30 ≤ 7293000; omega
      refine lv_aload_n hx hb d_La_law_44 rfl (lv_at hl 0 rfl) ?_
      refine lv_iload hx hb d_La_law_45 (lv_at hl 4 rfl) ?_
      refine lw_sld (a := 1 + 4 * (j : Int)) Z I.2.2.2 (by omega) d_La_law_47 ?_
      refine z_bipush hx hb d_La_law_48 (by decide) ?_
      refine lv_iand hx hb d_La_law_50 ?_
      have h15 := and15 (zI (sc xs (1 + 4 * (j : Int))))
      generalize zI (sc xs (1 + 4 * (j : Int))) &&& zI 15 = x at h15 ⊢
      have hi : 1 ≤ 1 + 4 * (j : Int) ∧ 1 + 4 * (j : Int) + 3 < L := by omega
      by_cases h14 : 14 < x.toInt
      · refine lv_tableOut (tgt := 1109) hx hb d_La_law_51 (Or.inr h14) (by decide) ?_
        refine W.widen (k := 43 + 5 * j + 5) (n := 126812 + 30 * j + 30) (by omega) (by omega) ?_
        exact next M N f H locs ls hs I hl
      · rcases (show x.toInt = 0 ∨ x.toInt = 1 ∨ x.toInt = 2 ∨ x.toInt = 3 ∨ x.toInt = 4 ∨ x.toInt = 5 ∨ x.toInt = 6 ∨ x.toInt = 7 ∨ x.toInt = 8 ∨ x.toInt = 9 ∨ x.toInt = 10 ∨ x.toInt = 11 ∨ x.toInt = 12 ∨ x.toInt = 13 ∨ x.toInt = 14 by omega) with hv | hv | hv | hv | hv | hv | hv | hv | hv | hv | hv | hv | hv | hv | hv
        · refine lv_tableIn (tgt := 124) hx hb d_La_law_51 (by omega) (by omega) (by rw [hv]; rfl) (by decide) ?_
          exact lw_c_room hlt Z I hs hi hl hc hsl next
        · refine lv_tableIn (tgt := 180) hx hb d_La_law_51 (by omega) (by omega) (by rw [hv]; rfl) (by decide) ?_
          exact lw_c_door hlt Z I hs hi hl hc hsl next
        · refine lv_tableIn (tgt := 260) hx hb d_La_law_51 (by omega) (by omega) (by rw [hv]; rfl) (by decide) ?_
          exact lw_c_arrives hlt Z I hs hi hl hc hsl next
        · refine lv_tableIn (tgt := 328) hx hb d_La_law_51 (by omega) (by omega) (by rw [hv]; rfl) (by decide) ?_
          exact lw_c_draw hlt Z I hs hi hl hc hsl next
        · refine lv_tableIn (tgt := 408) hx hb d_La_law_51 (by omega) (by omega) (by rw [hv]; rfl) (by decide) ?_
          exact lw_c_run hlt Z I hs hi hl hc hsl next
        · refine lv_tableIn (tgt := 464) hx hb d_La_law_51 (by omega) (by omega) (by rw [hv]; rfl) (by decide) ?_
          exact lw_c_person hlt Z I hs hi hl hc hsl next
        · refine lv_tableIn (tgt := 532) hx hb d_La_law_51 (by omega) (by omega) (by rw [hv]; rfl) (by decide) ?_
          exact lw_c_at hlt Z I hs hi hl hc hsl next
        · refine lv_tableIn (tgt := 588) hx hb d_La_law_51 (by omega) (by omega) (by rw [hv]; rfl) (by decide) ?_
          exact lw_c_was hlt Z I hs hi hl hc hsl next
        · refine lv_tableIn (tgt := 656) hx hb d_La_law_51 (by omega) (by omega) (by rw [hv]; rfl) (by decide) ?_
          exact lw_c_waited hlt Z I hs hi hl hc hsl next
        · refine lv_tableIn (tgt := 712) hx hb d_La_law_51 (by omega) (by omega) (by rw [hv]; rfl) (by decide) ?_
          exact lw_c_in hlt Z I hs hi hl hc hsl next
        · refine lv_tableIn (tgt := 780) hx hb d_La_law_51 (by omega) (by omega) (by rw [hv]; rfl) (by decide) ?_
          exact lw_c_inThen hlt Z I hs hi hl hc hsl next
        · refine lv_tableIn (tgt := 848) hx hb d_La_law_51 (by omega) (by omega) (by rw [hv]; rfl) (by decide) ?_
          exact lw_c_through hlt Z I hs hi hl hc hsl next
        · refine lv_tableIn (tgt := 932) hx hb d_La_law_51 (by omega) (by omega) (by rw [hv]; rfl) (by decide) ?_
          exact lw_c_distance hlt Z I hs hi hl hc hsl next
        · refine lv_tableIn (tgt := 1000) hx hb d_La_law_51 (by omega) (by omega) (by rw [hv]; rfl) (by decide) ?_
          exact lw_c_met hlt Z I hs hi hl hc hsl next
        · refine lv_tableIn (tgt := 1068) hx hb d_La_law_51 (by omega) (by omega) (by rw [hv]; rfl) (by decide) ?_
          exact lw_c_entered hlt Z I hs hi hl hc hsl next

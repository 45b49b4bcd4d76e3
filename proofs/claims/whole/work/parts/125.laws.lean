/-! The law: its first cell; what the start gives; the loop -/
set_option maxHeartbeats 800000 in
theorem h_cell (l : Launch) (b L : Nat) (xs : Nat → Int32) (hL : L ≤ 2049) : Met l y_La_cell [.code y_La_cell c_La_cell 2 (some .int)] { frames := 0, cells := 0, slots := 0, locals := 0 } (va_Pc [.ref b, .int (zI 0)] (fun U => va_X b L xs U U.heap ∧ b < U.heap.size)) (va_Qi (fun (r : Int32) (_ : Unit) => r = zI (if 0 < L then sc xs 0 else 0)) (fun _ _ => True) (fun _ => False)) 0 0 (fun _ => False) := by
  refine Met.ofW (cc := c_La_cell) (maxL := 2) (ret := some .int) (by decide) rfl ?_
  intro p e s m args below meth c s₁ B hml hv
  obtain ⟨rfl, hX, hbl⟩ := hv
  have hx := B.exec
  have hb := B.bytes
  have hr := B.returns
  have hlk := B.notSynchronized
  have hS : va_S (fun _ => False) s.heap s.heap [] := va_S.rf
  have hl := lv_entry ([.ref b, .int (zI 0)]) (n := 2) (Nat.le_of_ble_eq_true rfl)
  rw [lg_entry_eq]
  generalize (lg_sl ([.ref b, .int (zI 0)]) ++ List.replicate (2 - (lg_sl ([.ref b, .int (zI 0)])).length) Slot.unset).toArray = ls at hl ⊢
  have hl : lv_has ls 2 [(0, .ref b), (1, .int (zI 0))] := hl
  refine lv_iload_n hx hb d_La_cell_0 rfl (lv_at hl 1 rfl) ?_
  refine lv_aload_n hx hb d_La_cell_1 rfl (lv_at hl 0 rfl) ?_
  refine va_slen hx hb hX hbl (fun h => h) hS d_La_cell_2 ?_
  have hn : (.int (Int32.ofNat L) : Value) = .int (zI (L : Int)) := by rw [zI_nI]; rfl
  rw [hn]
  refine z_icmp_ge (a := 0) (b := (L : Int)) (tgt := 12) hx hb d_La_cell_3 (by decide) (by omega) (fun hg => ?_) (fun hg => ?_)
  · refine z_const hx hb d_La_cell_12 ?_
    exact W.iret hx hb hr (fun t ht hW => ⟨⟨zI 0, (), rfl, by rw [if_neg (by omega)], trivial⟩, hS.F ht⟩) hS.2.2 d_La_cell_13 hlk
  · refine lv_aload_n hx hb d_La_cell_6 rfl (lv_at hl 0 rfl) ?_
    refine lv_iload_n hx hb d_La_cell_7 rfl (lv_at hl 1 rfl) ?_
    refine va_sld hx hb hX hbl (fun h => h) hS (zI_in (n := L) (by omega) (by omega)) d_La_cell_8 ?_
    refine lv_goto (tgt := 13) hx hb d_La_cell_9 (by decide) ?_
    refine W.iret hx hb hr (fun t ht hW => ⟨⟨_, (), rfl, ?_, trivial⟩, hS.F ht⟩) hS.2.2 d_La_cell_13 hlk
    rw [if_pos (by omega)]
    unfold sc
    rw [← zI_of]
    rfl
/-- the tables at the law's start -/
theorem lw_K {s : State} {args : Array Value} (hts : ∀ w ∈ lw_tbl, w.before args s = true) : ∃ (D : va_G) (cI : Nat → ClassId), zK D cI s := by
  obtain ⟨c0, i0, k0⟩ := u_known (C := "PersonSeeds") (T := T_PS) (N := 7) (n := 7) hts (fun w hw => (iw_PS w hw).1) (hts _ tw_15)
  obtain ⟨c1, i1, k1⟩ := u_known (C := "PersonSeeds$Rooms") (T := T_Ro) (N := 5) (n := 5) hts (fun w hw => (iw_Ro w hw).1) (hts _ tw_23)
  obtain ⟨c2, i2, k2⟩ := u_known (C := "PersonSeeds$Doors") (T := T_Do) (N := 8) (n := 8) hts (fun w hw => (iw_Do w hw).1) (hts _ tw_50)
  obtain ⟨c3, i3, k3⟩ := u_known (C := "PersonSeeds$Trails") (T := T_Tr) (N := 3) (n := 3) hts (fun w hw => (iw_Tr w hw).1) (hts _ tw_87)
  obtain ⟨c4, i4, k4⟩ := u_known (C := "PersonSeeds$Persons") (T := T_Pe) (N := 9) (n := 9) hts (fun w hw => (iw_Pe w hw).1) (hts _ tw_103)
  obtain ⟨c5, i5, k5⟩ := u_known (C := "PersonSeedsModel") (T := T_Mo) (N := 23) (n := 23) hts (fun w hw => (iw_Mo w hw).1) (hts _ tw_492)
  obtain ⟨a0, ka0, ca0, f0, g0, h0⟩ := Cond.arrayClass_spec (hts _ tw_48)
  obtain ⟨a1, ka1, ca1, f1, g1, h1⟩ := Cond.arrayClass_spec (hts _ tw_251)
  obtain ⟨a2, ka2, ca2, f2, g2, h2⟩ := Cond.arrayClass_spec (hts _ tw_700)
  refine ⟨(fun k => match k with | 0 => c0 | 1 => c1 | 2 => c2 | 3 => c3 | 4 => c4 | _ => c5, fun k => match k with | 0 => i0 | 1 => i1 | 2 => i2 | 3 => i3 | 4 => i4 | _ => i5), fun k => match k with | 0 => a0 | 1 => a1 | _ => a2, ⟨fun k q hq => ?_, fun k q hq => ?_⟩, args, s, State.WarmedH.refl s, hts⟩
  · match k, hq with
    | 0, hq => cases hq; exact k0
    | 1, hq => cases hq; exact k1
    | 2, hq => cases hq; exact k2
    | 3, hq => cases hq; exact k3
    | 4, hq => cases hq; exact k4
    | 5, hq => cases hq; exact k5
    | k + 6, hq => simp [zCl] at hq
  · match k, hq with
    | 0, hq => cases hq; exact ⟨fun n z => ⟨fun k h => (by cases h), ka0, g0, ca0, h0⟩, f0⟩
    | 1, hq => cases hq; exact ⟨fun n z => ⟨fun k h => (by cases h), ka1, g1, ca1, h1⟩, f1⟩
    | 2, hq => cases hq; exact ⟨fun n z => ⟨fun k h => (by cases h), ka2, g2, ca2, h2⟩, f2⟩
    | k + 3, hq => simp at hq
theorem lw_string {s : State} {args : Array Value} {own tx : String} {k : Nat} (h1 : (Cond.stringRef own k tx).before args s = true) (h2 : (Cond.exactly (.string own k) "java/lang/String").before args s = true) : ∃ a, vk_R own k tx a s := by
  obtain ⟨a, c, cA, kA, q1, q2, q3, q4, q5, q6, -⟩ := Cond.exactly_spec (args := args) (first := s) (o := none) (s := s) (idx := []) (t := .string own k) (cls := "java/lang/String") h2
  exact ⟨a, vk_R.of h1 q1⟩
theorem lw_Th {s : State} {args : Array Value} {ad : Nat → Nat} {L : List zC} (hts : ∀ w ∈ lw_tbl, w.before args s = true) (hgv : (Jvm.Cond.and given_1 narrow_1).before args s = true) (hA : ∀ q, zA ad L q → s.heap.size ≤ q) : zTh ad L s s.heap := by
  have hs := flat_of_before _ hgv
  have hn : ∀ a : Nat, a < s.heap.size → ¬ zA ad L a := fun a h1 h2 => by have := hA a h2; omega
  obtain ⟨a1, e1⟩ := lw_string (hts _ tw_225) (hs (.exactly (.string "PersonSeeds" 155) "java/lang/String") (by decide +kernel))
  obtain ⟨a2, e2⟩ := lw_string (hts _ tw_300) (hs (.exactly (.string "PersonSeeds" 160) "java/lang/String") (by decide +kernel))
  obtain ⟨a3, e3⟩ := lw_string (hts _ tw_264) (hs (.exactly (.string "PersonSeeds" 164) "java/lang/String") (by decide +kernel))
  exact ⟨vx_Zqof (hts _ tw_212) (hts _ tw_8) (hs (.isRef (.static "java/lang/Throwable" "UNASSIGNED_STACK" "[Ljava/lang/StackTraceElement;")) (by decide +kernel)) hn, vx_Zqof (hts _ tw_214) (hts _ tw_8) (hs (.isRef (.static "java/lang/Throwable" "SUPPRESSED_SENTINEL" "Ljava/util/List;")) (by decide +kernel)) hn, a1, a2, a3, e1, e2, e3⟩
theorem lw_Nc {s : State} {args : Array Value} (hgv : (Jvm.Cond.and given_1 narrow_1).before args s = true) : va_Nc xISE xIAE s :=
  va_Nc.of (flat_of_before _ hgv (.not (.castable "java/lang/IllegalStateException" "java/lang/IllegalArgumentException")) (by decide +kernel))

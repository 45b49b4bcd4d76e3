set_option maxHeartbeats 4000000 in
set_option maxRecDepth 100000 in
theorem k_Pe_plan (l : Launch) (D : va_G) (ad : Nat → Nat) (cI : Nat → ClassId) (sd : Int64) (M : zM) (r : Int) (h1 : 1 ≤ r ∧ r ≤ 12) (h2 : 0 ≤ M 4 1 ∧ M 4 1 ≤ 60) (h3 : ∀ x, 0 ≤ x → x < M 4 1 → 0 ≤ M 19 x ∧ M 19 x ≤ 1439) : zMv l y_Pe_plan (.code y_Pe_plan c_Pe_plan 3 (none)) { frames := 1, cells := 0, slots := 0, locals := 25 } D (xL sd) ad cI M [.ref (ad 4), .int (zI (r))] (fun u => u = xPlan sd M r) := by
  refine z_of (cc := c_Pe_plan) (maxL := 3) (ret := none) (own := "PersonSeeds$Persons") (by decide) rfl rfl (Nat.le_of_ble_eq_true rfl) ?_
  intro p e s m below meth c ls hF hr hX hK hl
  obtain ⟨hx, hb, hml, hown, hlk⟩ := id hF
  have hS : va_S (zA ad (xL sd)) s.heap s.heap [] := va_S.rf
  have hl : lv_has ls 3 [(0, .ref (ad 4)), (1, .int (zI (r)))] := hl
  refine z_const hx hb d_Pe_plan_0 ?_
  refine lv_istore_n (lv' := [(2, .int (zI (0))), (0, .ref (ad 4)), (1, .int (zI (r)))]) hx hb d_Pe_plan_1 rfl hl (by decide) rfl (fun ls hl => ?_)
  have loop2 : ∀ (n2 : Nat) (k : Nat) (H : Heap) (locs : List Loc) (ls : Array Slot), (k : Int) ≤ M 4 1 → (M 4 1).toNat - k < n2 → zX D (xL sd) ad cI (xPlanN sd M r k) H → va_S (zA ad (xL sd)) s.heap H locs → lv_has ls 3 [(2, .int (zI ((k : Int)))), (0, .ref (ad 4)), (1, .int (zI (r)))] → W p l e { frames := 1, cells := 0, slots := 0, locals := 25 } s m ([.ref (ad 4), .int (zI (r))] : List Value).toArray below meth c H locs 0 0 (MQ below (zQv D (xL sd) ad cI (fun u => u = xPlan sd M r)) ([.ref (ad 4), .int (zI (r))] : List Value).toArray s 0 0 (zA ad (xL sd))) (F0 m 2 ls []) := by
    intro n2
    induction n2 with
    | zero => intro k H locs ls hI hn; exact absurd hn (Nat.not_lt_zero _)
    | succ n2 ih2 =>
      intro k H locs ls hI2 hn2 hX hS hl
      have e1 : xPlanN sd M r k 4 = M 4 := xPlanN_c (by decide) (by decide) (by decide) (by decide) (by decide) k
      have e2 : xPlanN sd M r k 19 = M 19 := xPlanN_c (by decide) (by decide) (by decide) (by decide) (by decide) k
      generalize hMq : xPlanN sd M r k = Mq at hX e1 e2
      have e3 : Mq 4 1 = M 4 1 := by rw [e1]
      have e4 : Mq 19 (k : Int) = M 19 (k : Int) := by rw [e2]
      have e5 := h3 (k : Int) (by omega)
      have d0 := xDraw_rg sd (k : Int) 0 (m := r) (by omega)
      obtain ⟨x0, ed0⟩ : ∃ x9, zSame x9 (xDraw sd (k : Int) 0 r) := ⟨_, rfl⟩
      rw [← show x0 = xDraw sd (k : Int) 0 r from ed0] at d0
      have d1 := xDraw_rg sd (k : Int) 1 (m := 90) (by omega)
      obtain ⟨x1, ed1⟩ : ∃ x9, zSame x9 (xDraw sd (k : Int) 1 90) := ⟨_, rfl⟩
      rw [← show x1 = xDraw sd (k : Int) 1 90 from ed1] at d1
      have d2 := xDraw_rg sd (k : Int) 2 (m := 20) (by omega)
      obtain ⟨x2, ed2⟩ : ∃ x9, zSame x9 (xDraw sd (k : Int) 2 20) := ⟨_, rfl⟩
      rw [← show x2 = xDraw sd (k : Int) 2 20 from ed2] at d2
      have d3 := xDraw_rg sd (k : Int) 3 (m := r) (by omega)
      obtain ⟨x3, ed3⟩ : ∃ x9, zSame x9 (xDraw sd (k : Int) 3 r) := ⟨_, rfl⟩
      rw [← show x3 = xDraw sd (k : Int) 3 r from ed3] at d3
      have d4 := xDraw_rg sd (k : Int) 4 (m := 200) (by omega)
      obtain ⟨x4, ed4⟩ : ∃ x9, zSame x9 (xDraw sd (k : Int) 4 200) := ⟨_, rfl⟩
      rw [← show x4 = xDraw sd (k : Int) 4 200 from ed4] at d4
      refine lv_iload_n hx hb d_Pe_plan_2 rfl (lv_at hl 0 rfl) ?_
      refine lv_aload_n hx hb d_Pe_plan_3 rfl (lv_at hl 1 rfl) ?_
      refine z_geti (i := 1) (v := Mq 4 1) hx hb iw_Pe hown hK hX 4 rfl rfl 1 (by decide) tw_109 (fun _ h => h) rfl rfl rfl d_Pe_plan_4 (fun rg_1 => ?_)
      refine z_icmp_ge (a := (k : Int)) (b := Mq 4 1) (tgt := 116) hx hb d_Pe_plan_7 (by decide) (by omega) (fun hb_2 => ?_) (fun hb_3 => ?_)
      · skip
        exact z_vret (post := fun u => u = xPlan sd M r) hx hb hr hlk hK hX hS (by unfold xPlan; rw [← hMq, show k = (M 4 1).toNat by omega]) d_Pe_plan_116
      · skip
        refine lv_aload_n hx hb d_Pe_plan_10 rfl (lv_at hl 1 rfl) ?_
        refine z_getr hx hb iw_Pe hown hK hX 4 rfl rfl 3 (by decide) tw_113 (fun _ h => h) 20 rfl d_Pe_plan_11 ?_
        refine lv_iload_n hx hb d_Pe_plan_14 rfl (lv_at hl 0 rfl) ?_
        refine lv_aload_n hx hb d_Pe_plan_15 rfl (lv_at hl 1 rfl) ?_
        refine lv_iload_n hx hb d_Pe_plan_16 rfl (lv_at hl 0 rfl) ?_
        refine z_const hx hb d_Pe_plan_17 ?_
        refine lv_iload_n hx hb d_Pe_plan_18 rfl (lv_at hl 2 rfl) ?_
        refine z_callVi hF (k_Pe_drawn l D ad cI sd Mq (k : Int) 0 r (by omega)) (hK.cV 3 tw_282 tw_279 tw_6 tw_281 ts_3 (by decide +kernel) rfl rfl ⟨Nat.le_of_ble_eq_true rfl, Nat.le_of_ble_eq_true rfl⟩) hK hX hS rfl rfl rfl hl.1 rfl (Nat.le_of_ble_eq_true rfl) d_Pe_plan_19 ⟨Nat.zero_le _, Nat.zero_le _⟩ (fun z u H locs rg_4 hp hX hS => ?_)
        obtain ⟨hz, hu⟩ := hp
        rw [hu] at hX
        replace hz : z = x0 := Eq.trans hz (Eq.symm ed0)
        rw [hz]
        refine z_iast (i := (k : Int)) (v := x0) hx hb hK hX hS 20 rfl (by omega) (by decide) (by omega) d_Pe_plan_22 (fun H locs hX hS => ?_)
        refine lv_aload_n hx hb d_Pe_plan_23 rfl (lv_at hl 1 rfl) ?_
        refine z_getr hx hb iw_Pe hown hK hX 4 rfl rfl 4 (by decide) tw_115 (fun _ h => h) 21 rfl d_Pe_plan_24 ?_
        refine lv_iload_n hx hb d_Pe_plan_27 rfl (lv_at hl 0 rfl) ?_
        refine lv_aload_n hx hb d_Pe_plan_28 rfl (lv_at hl 1 rfl) ?_
        refine z_getr hx hb iw_Pe hown hK hX 4 rfl rfl 2 (by decide) tw_111 (fun _ h => h) 19 rfl d_Pe_plan_29 ?_
        refine lv_iload_n hx hb d_Pe_plan_32 rfl (lv_at hl 0 rfl) ?_
        refine z_iald (i := (k : Int)) (v := Mq 19 (k : Int)) hx hb hK hX 19 rfl (by omega) (by decide) rfl d_Pe_plan_33 (fun rg_5 => ?_)
        refine z_bipush hx hb d_Pe_plan_34 (by decide) ?_
        refine z_iadd hx hb d_Pe_plan_36 ?_
        refine lv_aload_n hx hb d_Pe_plan_37 rfl (lv_at hl 1 rfl) ?_
        refine lv_iload_n hx hb d_Pe_plan_38 rfl (lv_at hl 0 rfl) ?_
        refine z_const hx hb d_Pe_plan_39 ?_
        refine z_bipush hx hb d_Pe_plan_40 (by decide) ?_
        refine z_callVi hF (k_Pe_drawn l D ad cI sd (zU Mq 20 (k : Int) x0) (k : Int) 1 90 (by omega)) (hK.cV 3 tw_282 tw_279 tw_6 tw_281 ts_3 (by decide +kernel) rfl rfl ⟨Nat.le_of_ble_eq_true rfl, Nat.le_of_ble_eq_true rfl⟩) hK hX hS rfl rfl rfl hl.1 rfl (Nat.le_of_ble_eq_true rfl) d_Pe_plan_42 ⟨Nat.zero_le _, Nat.zero_le _⟩ (fun z u H locs rg_6 hp hX hS => ?_)
        obtain ⟨hz, hu⟩ := hp
        rw [hu] at hX
        replace hz : z = x1 := Eq.trans hz (Eq.symm ed1)
        rw [hz]
        refine z_iadd hx hb d_Pe_plan_45 ?_
        refine z_iast (i := (k : Int)) (v := ((Mq 19 (k : Int)) + 30) + x1) hx hb hK hX hS 21 rfl (by omega) (by decide) (by omega) d_Pe_plan_46 (fun H locs hX hS => ?_)
        refine lv_aload_n hx hb d_Pe_plan_47 rfl (lv_at hl 1 rfl) ?_
        refine z_getr hx hb iw_Pe hown hK hX 4 rfl rfl 5 (by decide) tw_117 (fun _ h => h) 22 rfl d_Pe_plan_48 ?_
        refine lv_iload_n hx hb d_Pe_plan_51 rfl (lv_at hl 0 rfl) ?_
        refine lv_aload_n hx hb d_Pe_plan_52 rfl (lv_at hl 1 rfl) ?_
        refine z_getr hx hb iw_Pe hown hK hX 4 rfl rfl 4 (by decide) tw_115 (fun _ h => h) 21 rfl d_Pe_plan_53 ?_
        refine lv_iload_n hx hb d_Pe_plan_56 rfl (lv_at hl 0 rfl) ?_
        refine z_iald (i := (k : Int)) (v := ((Mq 19 (k : Int)) + 30) + x1) hx hb hK hX 21 rfl (by omega) (by decide) (by simp [zU]) d_Pe_plan_57 (fun rg_7 => ?_)
        refine z_bipush hx hb d_Pe_plan_58 (by decide) ?_
        refine z_iadd hx hb d_Pe_plan_60 ?_
        refine lv_aload_n hx hb d_Pe_plan_61 rfl (lv_at hl 1 rfl) ?_
        refine lv_iload_n hx hb d_Pe_plan_62 rfl (lv_at hl 0 rfl) ?_
        refine z_const hx hb d_Pe_plan_63 ?_
        refine z_bipush hx hb d_Pe_plan_64 (by decide) ?_
        refine z_callVi hF (k_Pe_drawn l D ad cI sd (zU (zU Mq 20 (k : Int) x0) 21 (k : Int) (((Mq 19 (k : Int)) + 30) + x1)) (k : Int) 2 20 (by omega)) (hK.cV 3 tw_282 tw_279 tw_6 tw_281 ts_3 (by decide +kernel) rfl rfl ⟨Nat.le_of_ble_eq_true rfl, Nat.le_of_ble_eq_true rfl⟩) hK hX hS rfl rfl rfl hl.1 rfl (Nat.le_of_ble_eq_true rfl) d_Pe_plan_66 ⟨Nat.zero_le _, Nat.zero_le _⟩ (fun z u H locs rg_8 hp hX hS => ?_)
        obtain ⟨hz, hu⟩ := hp
        rw [hu] at hX
        replace hz : z = x2 := Eq.trans hz (Eq.symm ed2)
        rw [hz]
        refine z_iadd hx hb d_Pe_plan_69 ?_
        refine z_iast (i := (k : Int)) (v := ((((Mq 19 (k : Int)) + 30) + x1) + 20) + x2) hx hb hK hX hS 22 rfl (by omega) (by decide) (by omega) d_Pe_plan_70 (fun H locs hX hS => ?_)
        refine lv_aload_n hx hb d_Pe_plan_71 rfl (lv_at hl 1 rfl) ?_
        refine z_getr hx hb iw_Pe hown hK hX 4 rfl rfl 6 (by decide) tw_119 (fun _ h => h) 23 rfl d_Pe_plan_72 ?_
        refine lv_iload_n hx hb d_Pe_plan_75 rfl (lv_at hl 0 rfl) ?_
        refine lv_aload_n hx hb d_Pe_plan_76 rfl (lv_at hl 1 rfl) ?_
        refine lv_iload_n hx hb d_Pe_plan_77 rfl (lv_at hl 0 rfl) ?_
        refine z_const hx hb d_Pe_plan_78 ?_
        refine lv_iload_n hx hb d_Pe_plan_79 rfl (lv_at hl 2 rfl) ?_
        refine z_callVi hF (k_Pe_drawn l D ad cI sd (zU (zU (zU Mq 20 (k : Int) x0) 21 (k : Int) (((Mq 19 (k : Int)) + 30) + x1)) 22 (k : Int) (((((Mq 19 (k : Int)) + 30) + x1) + 20) + x2)) (k : Int) 3 r (by omega)) (hK.cV 3 tw_282 tw_279 tw_6 tw_281 ts_3 (by decide +kernel) rfl rfl ⟨Nat.le_of_ble_eq_true rfl, Nat.le_of_ble_eq_true rfl⟩) hK hX hS rfl rfl rfl hl.1 rfl (Nat.le_of_ble_eq_true rfl) d_Pe_plan_80 ⟨Nat.zero_le _, Nat.zero_le _⟩ (fun z u H locs rg_9 hp hX hS => ?_)
        obtain ⟨hz, hu⟩ := hp
        rw [hu] at hX
        replace hz : z = x3 := Eq.trans hz (Eq.symm ed3)
        rw [hz]
        refine z_iast (i := (k : Int)) (v := x3) hx hb hK hX hS 23 rfl (by omega) (by decide) (by omega) d_Pe_plan_83 (fun H locs hX hS => ?_)
        refine lv_aload_n hx hb d_Pe_plan_84 rfl (lv_at hl 1 rfl) ?_
        refine z_getr hx hb iw_Pe hown hK hX 4 rfl rfl 7 (by decide) tw_121 (fun _ h => h) 24 rfl d_Pe_plan_85 ?_
        refine lv_iload_n hx hb d_Pe_plan_88 rfl (lv_at hl 0 rfl) ?_
        refine lv_aload_n hx hb d_Pe_plan_89 rfl (lv_at hl 1 rfl) ?_
        refine z_getr hx hb iw_Pe hown hK hX 4 rfl rfl 2 (by decide) tw_111 (fun _ h => h) 19 rfl d_Pe_plan_90 ?_
        refine lv_iload_n hx hb d_Pe_plan_93 rfl (lv_at hl 0 rfl) ?_
        refine z_iald (i := (k : Int)) (v := Mq 19 (k : Int)) hx hb hK hX 19 rfl (by omega) (by decide) rfl d_Pe_plan_94 (fun rg_10 => ?_)
        refine z_sipush hx hb d_Pe_plan_95 (by decide) ?_
        refine z_iadd hx hb d_Pe_plan_98 ?_
        refine lv_aload_n hx hb d_Pe_plan_99 rfl (lv_at hl 1 rfl) ?_
        refine lv_iload_n hx hb d_Pe_plan_100 rfl (lv_at hl 0 rfl) ?_
        refine z_const hx hb d_Pe_plan_101 ?_
        refine z_sipush hx hb d_Pe_plan_102 (by decide) ?_
        refine z_callVi hF (k_Pe_drawn l D ad cI sd (zU (zU (zU (zU Mq 20 (k : Int) x0) 21 (k : Int) (((Mq 19 (k : Int)) + 30) + x1)) 22 (k : Int) (((((Mq 19 (k : Int)) + 30) + x1) + 20) + x2)) 23 (k : Int) x3) (k : Int) 4 200 (by omega)) (hK.cV 3 tw_282 tw_279 tw_6 tw_281 ts_3 (by decide +kernel) rfl rfl ⟨Nat.le_of_ble_eq_true rfl, Nat.le_of_ble_eq_true rfl⟩) hK hX hS rfl rfl rfl hl.1 rfl (Nat.le_of_ble_eq_true rfl) d_Pe_plan_105 ⟨Nat.zero_le _, Nat.zero_le _⟩ (fun z u H locs rg_11 hp hX hS => ?_)
        obtain ⟨hz, hu⟩ := hp
        rw [hu] at hX
        replace hz : z = x4 := Eq.trans hz (Eq.symm ed4)
        rw [hz]
        refine z_iadd hx hb d_Pe_plan_108 ?_
        refine z_iast (i := (k : Int)) (v := ((Mq 19 (k : Int)) + 200) + x4) hx hb hK hX hS 24 rfl (by omega) (by decide) (by omega) d_Pe_plan_109 (fun H locs hX hS => ?_)
        refine z_iinc (lv' := [(2, .int (zI ((k : Int) + 1))), (0, .ref (ad 4)), (1, .int (zI (r)))]) hx hb d_Pe_plan_110 hl (k := 0) rfl (by decide) rfl (fun ls hl => ?_)
        refine lv_goto (tgt := 2) hx hb d_Pe_plan_113 (by decide) ?_
        exact ih2 (k + 1) _ _ _ (by omega) (by omega) (by have e9 : xPlanN sd M r (k + 1) = zU (zU (zU (zU (zU Mq 20 (k : Int) x0) 21 (k : Int) (((Mq 19 (k : Int)) + 30) + x1)) 22 (k : Int) (((((Mq 19 (k : Int)) + 30) + x1) + 20) + x2)) 23 (k : Int) x3) 24 (k : Int) (((Mq 19 (k : Int)) + 200) + x4) := (by unfold zSame at ed0 ed1 ed2 ed3 ed4; rw [← hMq, ed0, ed1, ed2, ed3, ed4]; rfl); rw [e9]; exact hX) hS (lv_sub hl [0, 1, 2] rfl)
  exact loop2 _ 0 _ _ _ (by omega) (Nat.lt_succ_self _) hX hS (lv_sub hl [0, 1, 2] rfl)

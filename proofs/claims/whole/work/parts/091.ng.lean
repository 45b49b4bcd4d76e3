set_option maxHeartbeats 4000000 in
set_option maxRecDepth 100000 in
theorem m_run (l : Launch) (D : va_G) (ad : Nat → Nat) (cI : Nat → ClassId) (sd : Int64) (M : zM) (n : Int) (g0 : -2147483648 ≤ n ∧ n ≤ 2147483647) (hO : nOK M) : zMi l y_Mo_run (.code y_Mo_run c_Mo_run 4 (some .int)) { frames := 5, cells := 0, slots := 0, locals := 112 } D (nL sd) ad cI M [.ref (ad 0), .int (zI (n))] (fun z u => ((1 ≤ n ∧ n ≤ 500) ∧ (0 < M 0 3 ∧ M 0 2 + n ≤ 2000) ∧ z = (nSum (nRun sd (zU M 0 1 0) n.toNat) (M 0 3).toNat) ∧ u = nRun sd (zU M 0 1 0) n.toNat) ∨ ((1 ≤ n ∧ n ≤ 500) ∧ ¬ (0 < M 0 3 ∧ M 0 2 + n ≤ 2000) ∧ u = zU M 0 1 2) ∨ (¬ (1 ≤ n ∧ n ≤ 500) ∧ u = zU M 0 1 1)) := by
  refine z_of (cc := c_Mo_run) (maxL := 4) (ret := some .int) (own := "PersonSeedsModel") (by decide) rfl rfl (Nat.le_of_ble_eq_true rfl) ?_
  intro p e s m below meth c ls hF hr hX hK hl
  obtain ⟨hx, hb, hml, hown, hlk⟩ := id hF
  have hS : va_S (zA ad (nL sd)) s.heap s.heap [] := va_S.rf
  have hl : lv_has ls 4 [(0, .ref (ad 0)), (1, .int (zI (n)))] := hl
  have o1 := hO.1
  have o4 := hO.2.2.2.1
  refine lv_aload_n hx hb d_Mo_run_0 rfl (lv_at hl 0 rfl) ?_
  refine lv_iload_n hx hb d_Mo_run_1 rfl (lv_at hl 1 rfl) ?_
  refine z_i2l (a := n) hx hb (by omega) d_Mo_run_2 ?_
  refine z_lconst (v := 1) hx hb d_Mo_run_3 (by decide) ?_
  refine z_ldcl (v := 500) hx hb hown hK tw_621 (by decide) d_Mo_run_4 ?_
  refine z_callSi hF (m_within l D ad cI sd M n 1 500 (by omega) (by omega) (by omega)) (hK.cS 3 tw_579 tw_577 tw_7 tw_578 (by decide +kernel) rfl rfl ⟨Nat.le_of_ble_eq_true rfl, Nat.le_of_ble_eq_true rfl⟩) hK hX hS rfl hl.1 rfl (Nat.le_of_ble_eq_true rfl) d_Mo_run_7 ⟨Nat.le_of_ble_eq_true rfl, Nat.le_of_ble_eq_true rfl⟩ (fun z u H locs rg_1 hp hX hS => ?_)
  obtain ⟨hz, hu⟩ := hp
  rw [hu] at hX
  have hz : z = (if 1 ≤ n ∧ n ≤ 500 then 1 else 0) := hz
  subst hz
  refine lv_aload_n hx hb d_Mo_run_10 rfl (lv_at hl 0 rfl) ?_
  refine z_geti (i := 3) (v := M 0 3) hx hb iw_Mo hown hK hX 0 rfl rfl 3 (by decide) tw_501 (fun _ h => h) rfl rfl rfl d_Mo_run_11 (fun rg_2 => ?_)
  refine z_if_le (a := M 0 3) (tgt := 33) hx hb d_Mo_run_14 (by decide) (by omega) (fun hb_3 => ?_) (fun hb_4 => ?_)
  · skip
    refine z_const hx hb d_Mo_run_33 ?_
    by_cases hA_5 : 1 ≤ n ∧ n ≤ 500
    · skip
      rw [if_pos hA_5]
      refine z_callVi hF (m_may l D ad cI sd M 1 0 (by omega) (by omega)) (hK.cV 2 tw_583 tw_580 tw_7 tw_582 ts_28 (by decide +kernel) rfl rfl ⟨Nat.le_of_ble_eq_true rfl, Nat.le_of_ble_eq_true rfl⟩) hK hX hS rfl rfl rfl hl.1 rfl (Nat.le_of_ble_eq_true rfl) d_Mo_run_34 ⟨Nat.le_of_ble_eq_true rfl, Nat.le_of_ble_eq_true rfl⟩ (fun z u H locs rgz hp hX hS => ?_)
      obtain ⟨hz, hu⟩ := hp
      replace hz : z = 0 := hz.trans (by decide)
      subst hz
      replace hu : u = zU M 0 1 2 := hu.trans (by congr 1)
      rw [hu] at hX
      refine z_if_ne (a := 0) (tgt := 42) hx hb d_Mo_run_37 (by decide) (by omega) (fun hb_6 => ?_) (fun hb_7 => ?_)
      · skip
        exfalso
        omega
      · skip
        refine z_const hx hb d_Mo_run_40 ?_
        exact z_iret (z := 0) (post := (fun z u => ((1 ≤ n ∧ n ≤ 500) ∧ (0 < M 0 3 ∧ M 0 2 + n ≤ 2000) ∧ z = (nSum (nRun sd (zU M 0 1 0) n.toNat) (M 0 3).toNat) ∧ u = nRun sd (zU M 0 1 0) n.toNat) ∨ ((1 ≤ n ∧ n ≤ 500) ∧ ¬ (0 < M 0 3 ∧ M 0 2 + n ≤ 2000) ∧ u = zU M 0 1 2) ∨ (¬ (1 ≤ n ∧ n ≤ 500) ∧ u = zU M 0 1 1))) hx hb hr hlk hK hX hS (by omega) (by first | (exfalso; omega) | exact Or.inr (Or.inr ⟨by omega, rfl⟩) | exact Or.inr (Or.inl ⟨by omega, by omega, rfl⟩)) d_Mo_run_41
    · skip
      rw [if_neg hA_5]
      refine z_callVi hF (m_may l D ad cI sd M 0 0 (by omega) (by omega)) (hK.cV 2 tw_583 tw_580 tw_7 tw_582 ts_28 (by decide +kernel) rfl rfl ⟨Nat.le_of_ble_eq_true rfl, Nat.le_of_ble_eq_true rfl⟩) hK hX hS rfl rfl rfl hl.1 rfl (Nat.le_of_ble_eq_true rfl) d_Mo_run_34 ⟨Nat.le_of_ble_eq_true rfl, Nat.le_of_ble_eq_true rfl⟩ (fun z u H locs rgz hp hX hS => ?_)
      obtain ⟨hz, hu⟩ := hp
      replace hz : z = 0 := hz.trans (by decide)
      subst hz
      replace hu : u = zU M 0 1 1 := hu.trans (by congr 1)
      rw [hu] at hX
      refine z_if_ne (a := 0) (tgt := 42) hx hb d_Mo_run_37 (by decide) (by omega) (fun hb_8 => ?_) (fun hb_9 => ?_)
      · skip
        exfalso
        omega
      · skip
        refine z_const hx hb d_Mo_run_40 ?_
        exact z_iret (z := 0) (post := (fun z u => ((1 ≤ n ∧ n ≤ 500) ∧ (0 < M 0 3 ∧ M 0 2 + n ≤ 2000) ∧ z = (nSum (nRun sd (zU M 0 1 0) n.toNat) (M 0 3).toNat) ∧ u = nRun sd (zU M 0 1 0) n.toNat) ∨ ((1 ≤ n ∧ n ≤ 500) ∧ ¬ (0 < M 0 3 ∧ M 0 2 + n ≤ 2000) ∧ u = zU M 0 1 2) ∨ (¬ (1 ≤ n ∧ n ≤ 500) ∧ u = zU M 0 1 1))) hx hb hr hlk hK hX hS (by omega) (by first | (exfalso; omega) | exact Or.inr (Or.inr ⟨by omega, rfl⟩) | exact Or.inr (Or.inl ⟨by omega, by omega, rfl⟩)) d_Mo_run_41
  · skip
    refine lv_aload_n hx hb d_Mo_run_17 rfl (lv_at hl 0 rfl) ?_
    refine z_geti (i := 2) (v := M 0 2) hx hb iw_Mo hown hK hX 0 rfl rfl 2 (by decide) tw_500 (fun _ h => h) rfl rfl rfl d_Mo_run_18 (fun rg_10 => ?_)
    refine lv_iload_n hx hb d_Mo_run_21 rfl (lv_at hl 1 rfl) ?_
    refine z_iadd hx hb d_Mo_run_22 ?_
    refine z_bm ?_
    have bmr := bm_rg ((M 0 2) + n)
    have bme : -2147483648 ≤ (M 0 2) + n ∧ (M 0 2) + n ≤ 2147483647 → bm ((M 0 2) + n) = (M 0 2) + n := bm_of
    refine z_sipush hx hb d_Mo_run_23 (by decide) ?_
    refine z_icmp_gt (a := bm ((M 0 2) + n)) (b := 2000) (tgt := 33) hx hb d_Mo_run_26 (by decide) (by omega) (fun hb_11 => ?_) (fun hb_12 => ?_)
    · skip
      refine z_const hx hb d_Mo_run_33 ?_
      by_cases hA_13 : 1 ≤ n ∧ n ≤ 500
      · skip
        rw [if_pos hA_13]
        refine z_callVi hF (m_may l D ad cI sd M 1 0 (by omega) (by omega)) (hK.cV 2 tw_583 tw_580 tw_7 tw_582 ts_28 (by decide +kernel) rfl rfl ⟨Nat.le_of_ble_eq_true rfl, Nat.le_of_ble_eq_true rfl⟩) hK hX hS rfl rfl rfl hl.1 rfl (Nat.le_of_ble_eq_true rfl) d_Mo_run_34 ⟨Nat.le_of_ble_eq_true rfl, Nat.le_of_ble_eq_true rfl⟩ (fun z u H locs rgz hp hX hS => ?_)
        obtain ⟨hz, hu⟩ := hp
        replace hz : z = 0 := hz.trans (by decide)
        subst hz
        replace hu : u = zU M 0 1 2 := hu.trans (by congr 1)
        rw [hu] at hX
        refine z_if_ne (a := 0) (tgt := 42) hx hb d_Mo_run_37 (by decide) (by omega) (fun hb_14 => ?_) (fun hb_15 => ?_)
        · skip
          exfalso
          omega
        · skip
          refine z_const hx hb d_Mo_run_40 ?_
          exact z_iret (z := 0) (post := (fun z u => ((1 ≤ n ∧ n ≤ 500) ∧ (0 < M 0 3 ∧ M 0 2 + n ≤ 2000) ∧ z = (nSum (nRun sd (zU M 0 1 0) n.toNat) (M 0 3).toNat) ∧ u = nRun sd (zU M 0 1 0) n.toNat) ∨ ((1 ≤ n ∧ n ≤ 500) ∧ ¬ (0 < M 0 3 ∧ M 0 2 + n ≤ 2000) ∧ u = zU M 0 1 2) ∨ (¬ (1 ≤ n ∧ n ≤ 500) ∧ u = zU M 0 1 1))) hx hb hr hlk hK hX hS (by omega) (by first | (exfalso; omega) | exact Or.inr (Or.inr ⟨by omega, rfl⟩) | exact Or.inr (Or.inl ⟨by omega, by omega, rfl⟩)) d_Mo_run_41
      · skip
        rw [if_neg hA_13]
        refine z_callVi hF (m_may l D ad cI sd M 0 0 (by omega) (by omega)) (hK.cV 2 tw_583 tw_580 tw_7 tw_582 ts_28 (by decide +kernel) rfl rfl ⟨Nat.le_of_ble_eq_true rfl, Nat.le_of_ble_eq_true rfl⟩) hK hX hS rfl rfl rfl hl.1 rfl (Nat.le_of_ble_eq_true rfl) d_Mo_run_34 ⟨Nat.le_of_ble_eq_true rfl, Nat.le_of_ble_eq_true rfl⟩ (fun z u H locs rgz hp hX hS => ?_)
        obtain ⟨hz, hu⟩ := hp
        replace hz : z = 0 := hz.trans (by decide)
        subst hz
        replace hu : u = zU M 0 1 1 := hu.trans (by congr 1)
        rw [hu] at hX
        refine z_if_ne (a := 0) (tgt := 42) hx hb d_Mo_run_37 (by decide) (by omega) (fun hb_16 => ?_) (fun hb_17 => ?_)
        · skip
          exfalso
          omega
        · skip
          refine z_const hx hb d_Mo_run_40 ?_
          exact z_iret (z := 0) (post := (fun z u => ((1 ≤ n ∧ n ≤ 500) ∧ (0 < M 0 3 ∧ M 0 2 + n ≤ 2000) ∧ z = (nSum (nRun sd (zU M 0 1 0) n.toNat) (M 0 3).toNat) ∧ u = nRun sd (zU M 0 1 0) n.toNat) ∨ ((1 ≤ n ∧ n ≤ 500) ∧ ¬ (0 < M 0 3 ∧ M 0 2 + n ≤ 2000) ∧ u = zU M 0 1 2) ∨ (¬ (1 ≤ n ∧ n ≤ 500) ∧ u = zU M 0 1 1))) hx hb hr hlk hK hX hS (by omega) (by first | (exfalso; omega) | exact Or.inr (Or.inr ⟨by omega, rfl⟩) | exact Or.inr (Or.inl ⟨by omega, by omega, rfl⟩)) d_Mo_run_41
    · skip
      refine z_const hx hb d_Mo_run_29 ?_
      refine lv_goto (tgt := 34) hx hb d_Mo_run_30 (by decide) ?_
      by_cases hA_18 : 1 ≤ n ∧ n ≤ 500
      · skip
        rw [if_pos hA_18]
        refine z_callVi hF (m_may l D ad cI sd M 1 1 (by omega) (by omega)) (hK.cV 2 tw_583 tw_580 tw_7 tw_582 ts_28 (by decide +kernel) rfl rfl ⟨Nat.le_of_ble_eq_true rfl, Nat.le_of_ble_eq_true rfl⟩) hK hX hS rfl rfl rfl hl.1 rfl (Nat.le_of_ble_eq_true rfl) d_Mo_run_34 ⟨Nat.le_of_ble_eq_true rfl, Nat.le_of_ble_eq_true rfl⟩ (fun z u H locs rgz hp hX hS => ?_)
        obtain ⟨hz, hu⟩ := hp
        replace hz : z = 1 := hz.trans (by decide)
        subst hz
        replace hu : u = zU M 0 1 0 := hu.trans (by congr 1)
        rw [hu] at hX
        refine z_if_ne (a := 1) (tgt := 42) hx hb d_Mo_run_37 (by decide) (by omega) (fun hb_19 => ?_) (fun hb_20 => ?_)
        · skip
          have f2 : zU M 0 1 0 0 2 = M 0 2 := zU_n (by decide)
          have f3 : zU M 0 1 0 0 3 = M 0 3 := zU_n (by decide)
          have fO : nOK (zU M 0 1 0) := hO.f 0
          obtain ⟨M0, hM0⟩ : ∃ M9 : zM, zU M 0 1 0 = M9 := ⟨_, rfl⟩
          rw [hM0] at hX fO f2 f3
          refine z_const hx hb d_Mo_run_42 ?_
          refine lv_istore_n (lv' := [(2, .int (zI (0))), (0, .ref (ad 0)), (1, .int (zI (n)))]) hx hb d_Mo_run_43 rfl hl (by decide) rfl (fun ls hl => ?_)
          have loop44 : ∀ (n44 : Nat) (k : Nat) (H : Heap) (locs : List Loc) (ls : Array Slot), (k : Int) ≤ n → n.toNat - k < n44 → zX D (nL sd) ad cI (nRun sd M0 k) H → va_S (zA ad (nL sd)) s.heap H locs → lv_has ls 4 [(2, .int (zI ((k : Int)))), (0, .ref (ad 0)), (1, .int (zI (n)))] → W p l e { frames := 5, cells := 0, slots := 0, locals := 112 } s m ([.ref (ad 0), .int (zI (n))] : List Value).toArray below meth c H locs 0 0 (MQ below (zQi D (nL sd) ad cI (fun z u => ((1 ≤ n ∧ n ≤ 500) ∧ (0 < M 0 3 ∧ M 0 2 + n ≤ 2000) ∧ z = (nSum (nRun sd (zU M 0 1 0) n.toNat) (M 0 3).toNat) ∧ u = nRun sd (zU M 0 1 0) n.toNat) ∨ ((1 ≤ n ∧ n ≤ 500) ∧ ¬ (0 < M 0 3 ∧ M 0 2 + n ≤ 2000) ∧ u = zU M 0 1 2) ∨ (¬ (1 ≤ n ∧ n ≤ 500) ∧ u = zU M 0 1 1))) ([.ref (ad 0), .int (zI (n))] : List Value).toArray s 0 0 (zA ad (nL sd))) (F0 m 44 ls []) := by
            intro n44
            induction n44 with
            | zero => intro k H locs ls hI hn; exact absurd hn (Nat.not_lt_zero _)
            | succ n44 ih44 =>
              intro k H locs ls hI44 hn44 hX hS hl
              have r9 := nRun_ok (sd := sd) fO k (by omega)
              refine lv_iload_n hx hb d_Mo_run_44 rfl (lv_at hl 0 rfl) ?_
              refine lv_iload_n hx hb d_Mo_run_45 rfl (lv_at hl 2 rfl) ?_
              refine z_icmp_ge (a := (k : Int)) (b := n) (tgt := 59) hx hb d_Mo_run_46 (by decide) (by omega) (fun hb_21 => ?_) (fun hb_22 => ?_)
              · skip
                have r8 := nRun_ok (sd := sd) fO n.toNat (by omega)
                rw [show k = n.toNat by omega] at hX
                obtain ⟨Mr, hMr⟩ : ∃ M9 : zM, nRun sd M0 n.toNat = M9 := ⟨_, rfl⟩
                rw [hMr] at hX r8
                have r3 : Mr 0 3 = M 0 3 := by rw [r8.2.2.1, f3]
                refine z_const hx hb d_Mo_run_59 ?_
                refine lv_istore_n (lv' := [(2, .int (zI (0))), (0, .ref (ad 0)), (1, .int (zI (n)))]) hx hb d_Mo_run_60 rfl hl (by decide) rfl (fun ls hl => ?_)
                refine z_const hx hb d_Mo_run_61 ?_
                refine lv_istore_n (lv' := [(3, .int (zI (0))), (2, .int (zI (0))), (0, .ref (ad 0)), (1, .int (zI (n)))]) hx hb d_Mo_run_62 rfl hl (by decide) rfl (fun ls hl => ?_)
                have loop63 : ∀ (n63 : Nat) (k2 : Nat) (H : Heap) (locs : List Loc) (ls : Array Slot), (k2 : Int) ≤ M 0 3 → (M 0 3).toNat - k2 < n63 → zX D (nL sd) ad cI Mr H → va_S (zA ad (nL sd)) s.heap H locs → lv_has ls 4 [(3, .int (zI ((k2 : Int)))), (2, .int (zI (nSum Mr k2))), (0, .ref (ad 0)), (1, .int (zI (n)))] → W p l e { frames := 5, cells := 0, slots := 0, locals := 112 } s m ([.ref (ad 0), .int (zI (n))] : List Value).toArray below meth c H locs 0 0 (MQ below (zQi D (nL sd) ad cI (fun z u => ((1 ≤ n ∧ n ≤ 500) ∧ (0 < M 0 3 ∧ M 0 2 + n ≤ 2000) ∧ z = (nSum (nRun sd (zU M 0 1 0) n.toNat) (M 0 3).toNat) ∧ u = nRun sd (zU M 0 1 0) n.toNat) ∨ ((1 ≤ n ∧ n ≤ 500) ∧ ¬ (0 < M 0 3 ∧ M 0 2 + n ≤ 2000) ∧ u = zU M 0 1 2) ∨ (¬ (1 ≤ n ∧ n ≤ 500) ∧ u = zU M 0 1 1))) ([.ref (ad 0), .int (zI (n))] : List Value).toArray s 0 0 (zA ad (nL sd))) (F0 m 63 ls []) := by
                  intro n63
                  induction n63 with
                  | zero => intro k2 H locs ls hI hn; exact absurd hn (Nat.not_lt_zero _)
                  | succ n63 ih63 =>
                    intro k2 H locs ls hI63 hn63 hX hS hl
                    have sr := nSum_r Mr k2
                    refine lv_iload_n hx hb d_Mo_run_63 rfl (lv_at hl 0 rfl) ?_
                    refine lv_aload_n hx hb d_Mo_run_64 rfl (lv_at hl 2 rfl) ?_
                    refine z_geti (i := 3) (v := Mr 0 3) hx hb iw_Mo hown hK hX 0 rfl rfl 3 (by decide) tw_501 (fun _ h => h) rfl rfl rfl d_Mo_run_65 (fun rg_23 => ?_)
                    refine z_icmp_ge (a := (k2 : Int)) (b := Mr 0 3) (tgt := 86) hx hb d_Mo_run_68 (by decide) (by omega) (fun hb_24 => ?_) (fun hb_25 => ?_)
                    · skip
                      refine lv_iload_n hx hb d_Mo_run_86 rfl (lv_at hl 1 rfl) ?_
                      exact z_iret (z := nSum Mr k2) (post := (fun z u => ((1 ≤ n ∧ n ≤ 500) ∧ (0 < M 0 3 ∧ M 0 2 + n ≤ 2000) ∧ z = (nSum (nRun sd (zU M 0 1 0) n.toNat) (M 0 3).toNat) ∧ u = nRun sd (zU M 0 1 0) n.toNat) ∨ ((1 ≤ n ∧ n ≤ 500) ∧ ¬ (0 < M 0 3 ∧ M 0 2 + n ≤ 2000) ∧ u = zU M 0 1 2) ∨ (¬ (1 ≤ n ∧ n ≤ 500) ∧ u = zU M 0 1 1))) hx hb hr hlk hK hX hS (by omega) (Or.inl ⟨by omega, by omega, by rw [hM0, ← hMr, show k2 = (M 0 3).toNat by omega], by rw [hM0, ← hMr]⟩) d_Mo_run_87
                    · skip
                      refine lv_iload_n hx hb d_Mo_run_71 rfl (lv_at hl 1 rfl) ?_
                      refine lv_aload_n hx hb d_Mo_run_72 rfl (lv_at hl 2 rfl) ?_
                      refine z_getr hx hb iw_Mo hown hK hX 0 rfl rfl 5 (by decide) tw_503 (fun _ h => h) 2 rfl d_Mo_run_73 ?_
                      refine lv_iload_n hx hb d_Mo_run_76 rfl (lv_at hl 0 rfl) ?_
                      refine z_iald (i := (k2 : Int)) (v := Mr 2 (k2 : Int)) hx hb hK hX 2 rfl (by omega) (by decide) rfl d_Mo_run_77 (fun rg_26 => ?_)
                      refine z_iadd hx hb d_Mo_run_78 ?_
                      refine z_bm ?_
                      refine lv_istore_n (lv' := [(2, .int (zI (bm ((nSum Mr k2) + (Mr 2 (k2 : Int)))))), (3, .int (zI ((k2 : Int)))), (0, .ref (ad 0)), (1, .int (zI (n)))]) hx hb d_Mo_run_79 rfl hl (by decide) rfl (fun ls hl => ?_)
                      refine z_iinc (lv' := [(3, .int (zI ((k2 : Int) + 1))), (2, .int (zI (bm ((nSum Mr k2) + (Mr 2 (k2 : Int)))))), (0, .ref (ad 0)), (1, .int (zI (n)))]) hx hb d_Mo_run_80 hl (k := 1) rfl (by decide) rfl (fun ls hl => ?_)
                      refine lv_goto (tgt := 63) hx hb d_Mo_run_83 (by decide) ?_
                      exact ih63 (k2 + 1) _ _ _ (by omega) (by omega) hX hS (lv_sub hl [0, 1, 2, 3] rfl)
                exact loop63 _ 0 _ _ _ (by omega) (Nat.lt_succ_self _) hX hS (lv_sub hl [0, 1, 2, 3] rfl)
              · skip
                refine lv_aload_n hx hb d_Mo_run_49 rfl (lv_at hl 1 rfl) ?_
                refine z_callVv hF (m_minute l D ad cI sd (nRun sd M0 k)  r9.1 (by omega)) (hK.cV 0 tw_625 tw_622 tw_7 tw_624 ts_32 (by decide +kernel) rfl rfl ⟨Nat.le_of_ble_eq_true rfl, Nat.le_of_ble_eq_true rfl⟩) hK hX hS rfl rfl rfl hl.1 rfl (Nat.le_of_ble_eq_true rfl) d_Mo_run_50 ⟨Nat.le_of_ble_eq_true rfl, Nat.le_of_ble_eq_true rfl⟩ (fun u H locs hp hX hS => ?_)
                rw [hp] at hX
                refine z_iinc (lv' := [(2, .int (zI ((k : Int) + 1))), (0, .ref (ad 0)), (1, .int (zI (n)))]) hx hb d_Mo_run_53 hl (k := 0) rfl (by decide) rfl (fun ls hl => ?_)
                refine lv_goto (tgt := 44) hx hb d_Mo_run_56 (by decide) ?_
                exact ih44 (k + 1) _ _ _ (by omega) (by omega) hX hS (lv_sub hl [0, 1, 2] rfl)
          exact loop44 _ 0 _ _ _ (by omega) (Nat.lt_succ_self _) hX hS (lv_sub hl [0, 1, 2] rfl)
        · skip
          exfalso
          omega
      · skip
        rw [if_neg hA_18]
        refine z_callVi hF (m_may l D ad cI sd M 0 1 (by omega) (by omega)) (hK.cV 2 tw_583 tw_580 tw_7 tw_582 ts_28 (by decide +kernel) rfl rfl ⟨Nat.le_of_ble_eq_true rfl, Nat.le_of_ble_eq_true rfl⟩) hK hX hS rfl rfl rfl hl.1 rfl (Nat.le_of_ble_eq_true rfl) d_Mo_run_34 ⟨Nat.le_of_ble_eq_true rfl, Nat.le_of_ble_eq_true rfl⟩ (fun z u H locs rgz hp hX hS => ?_)
        obtain ⟨hz, hu⟩ := hp
        replace hz : z = 0 := hz.trans (by decide)
        subst hz
        replace hu : u = zU M 0 1 1 := hu.trans (by congr 1)
        rw [hu] at hX
        refine z_if_ne (a := 0) (tgt := 42) hx hb d_Mo_run_37 (by decide) (by omega) (fun hb_27 => ?_) (fun hb_28 => ?_)
        · skip
          exfalso
          omega
        · skip
          refine z_const hx hb d_Mo_run_40 ?_
          exact z_iret (z := 0) (post := (fun z u => ((1 ≤ n ∧ n ≤ 500) ∧ (0 < M 0 3 ∧ M 0 2 + n ≤ 2000) ∧ z = (nSum (nRun sd (zU M 0 1 0) n.toNat) (M 0 3).toNat) ∧ u = nRun sd (zU M 0 1 0) n.toNat) ∨ ((1 ≤ n ∧ n ≤ 500) ∧ ¬ (0 < M 0 3 ∧ M 0 2 + n ≤ 2000) ∧ u = zU M 0 1 2) ∨ (¬ (1 ≤ n ∧ n ≤ 500) ∧ u = zU M 0 1 1))) hx hb hr hlk hK hX hS (by omega) (by first | (exfalso; omega) | exact Or.inr (Or.inr ⟨by omega, rfl⟩) | exact Or.inr (Or.inl ⟨by omega, by omega, rfl⟩)) d_Mo_run_41
set_option maxHeartbeats 4000000 in
set_option maxRecDepth 100000 in
theorem m_inThen (l : Launch) (D : va_G) (ad : Nat → Nat) (cI : Nat → ClassId) (sd : Int64) (M : zM) (r t : Int) (g0 : -2147483648 ≤ r ∧ r ≤ 2147483647) (g1 : -2147483648 ≤ t ∧ t ≤ 2147483647) (hO : nOK M) : zMi l y_Mo_inThen (.code y_Mo_inThen c_Mo_inThen 5 (some .int)) { frames := 1, cells := 0, slots := 0, locals := 22 } D (nL sd) ad cI M [.ref (ad 0), .int (zI (r)), .int (zI (t))] (fun z u => (((0 ≤ r ∧ r < M 0 3) ∧ (0 ≤ t ∧ t < M 0 2)) ∧ z = (nCnt (zU M 0 1 0) r t (M 0 16).toNat) ∧ u = zU M 0 1 0) ∨ (¬ ((0 ≤ r ∧ r < M 0 3) ∧ (0 ≤ t ∧ t < M 0 2)) ∧ u = zU M 0 1 1)) := by
  refine z_of (cc := c_Mo_inThen) (maxL := 5) (ret := some .int) (own := "PersonSeedsModel") (by decide) rfl rfl (Nat.le_of_ble_eq_true rfl) ?_
  intro p e s m below meth c ls hF hr hX hK hl
  obtain ⟨hx, hb, hml, hown, hlk⟩ := id hF
  have hS : va_S (zA ad (nL sd)) s.heap s.heap [] := va_S.rf
  have hl : lv_has ls 5 [(0, .ref (ad 0)), (1, .int (zI (r))), (2, .int (zI (t)))] := hl
  have o1 := hO.1
  have o3 := hO.2.2.1
  have o4 := hO.2.2.2.1
  refine lv_aload_n hx hb d_Mo_inThen_0 rfl (lv_at hl 0 rfl) ?_
  refine lv_aload_n hx hb d_Mo_inThen_1 rfl (lv_at hl 0 rfl) ?_
  refine lv_iload_n hx hb d_Mo_inThen_2 rfl (lv_at hl 1 rfl) ?_
  refine z_callVi hF (m_isRoom l D ad cI sd M r (by omega)) (hK.cV 1 tw_591 tw_588 tw_7 tw_590 ts_29 (by decide +kernel) rfl rfl ⟨Nat.le_of_ble_eq_true rfl, Nat.le_of_ble_eq_true rfl⟩) hK hX hS rfl rfl rfl hl.1 rfl (Nat.le_of_ble_eq_true rfl) d_Mo_inThen_3 ⟨Nat.le_of_ble_eq_true rfl, Nat.le_of_ble_eq_true rfl⟩ (fun z u H locs rg_1 hp hX hS => ?_)
  obtain ⟨hz, hu⟩ := hp
  rw [hu] at hX
  have hz : z = (if 0 ≤ r ∧ r < (M 0 3) then 1 else 0) := hz
  subst hz
  refine z_if_eq (a := if 0 ≤ r ∧ r < (M 0 3) then 1 else 0) (tgt := 21) hx hb d_Mo_inThen_6 (by decide) (by omega) (fun hb_2 => ?_) (fun hb_3 => ?_)
  · skip
    refine z_const hx hb d_Mo_inThen_21 ?_
    refine z_const hx hb d_Mo_inThen_22 ?_
    refine z_callVi hF (m_may l D ad cI sd M 0 1 (by omega) (by omega)) (hK.cV 2 tw_583 tw_580 tw_7 tw_582 ts_28 (by decide +kernel) rfl rfl ⟨Nat.le_of_ble_eq_true rfl, Nat.le_of_ble_eq_true rfl⟩) hK hX hS rfl rfl rfl hl.1 rfl (Nat.le_of_ble_eq_true rfl) d_Mo_inThen_23 ⟨Nat.le_of_ble_eq_true rfl, Nat.le_of_ble_eq_true rfl⟩ (fun z u H locs rgz hp hX hS => ?_)
    obtain ⟨hz, hu⟩ := hp
    replace hz : z = 0 := hz.trans (by decide)
    subst hz
    replace hu : u = zU M 0 1 1 := hu.trans (by congr 1)
    rw [hu] at hX
    refine z_if_ne (a := 0) (tgt := 31) hx hb d_Mo_inThen_26 (by decide) (by omega) (fun hb_4 => ?_) (fun hb_5 => ?_)
    · skip
      exfalso
      omega
    · skip
      refine z_const hx hb d_Mo_inThen_29 ?_
      exact z_iret (z := 0) (post := (fun z u => (((0 ≤ r ∧ r < M 0 3) ∧ (0 ≤ t ∧ t < M 0 2)) ∧ z = (nCnt (zU M 0 1 0) r t (M 0 16).toNat) ∧ u = zU M 0 1 0) ∨ (¬ ((0 ≤ r ∧ r < M 0 3) ∧ (0 ≤ t ∧ t < M 0 2)) ∧ u = zU M 0 1 1))) hx hb hr hlk hK hX hS (by omega) (by first | (exfalso; omega) | exact Or.inr ⟨by omega, rfl⟩) d_Mo_inThen_30
  · skip
    refine lv_aload_n hx hb d_Mo_inThen_9 rfl (lv_at hl 0 rfl) ?_
    refine lv_iload_n hx hb d_Mo_inThen_10 rfl (lv_at hl 2 rfl) ?_
    refine z_callVi hF (m_isOver l D ad cI sd M t (by omega)) (hK.cV 1 tw_670 tw_667 tw_7 tw_669 ts_40 (by decide +kernel) rfl rfl ⟨Nat.le_of_ble_eq_true rfl, Nat.le_of_ble_eq_true rfl⟩) hK hX hS rfl rfl rfl hl.1 rfl (Nat.le_of_ble_eq_true rfl) d_Mo_inThen_11 ⟨Nat.le_of_ble_eq_true rfl, Nat.le_of_ble_eq_true rfl⟩ (fun z u H locs rg_6 hp hX hS => ?_)
    obtain ⟨hz, hu⟩ := hp
    rw [hu] at hX
    have hz : z = (if 0 ≤ t ∧ t < (M 0 2) then 1 else 0) := hz
    subst hz
    refine z_if_eq (a := if 0 ≤ t ∧ t < (M 0 2) then 1 else 0) (tgt := 21) hx hb d_Mo_inThen_14 (by decide) (by omega) (fun hb_7 => ?_) (fun hb_8 => ?_)
    · skip
      refine z_const hx hb d_Mo_inThen_21 ?_
      refine z_const hx hb d_Mo_inThen_22 ?_
      refine z_callVi hF (m_may l D ad cI sd M 0 1 (by omega) (by omega)) (hK.cV 2 tw_583 tw_580 tw_7 tw_582 ts_28 (by decide +kernel) rfl rfl ⟨Nat.le_of_ble_eq_true rfl, Nat.le_of_ble_eq_true rfl⟩) hK hX hS rfl rfl rfl hl.1 rfl (Nat.le_of_ble_eq_true rfl) d_Mo_inThen_23 ⟨Nat.le_of_ble_eq_true rfl, Nat.le_of_ble_eq_true rfl⟩ (fun z u H locs rgz hp hX hS => ?_)
      obtain ⟨hz, hu⟩ := hp
      replace hz : z = 0 := hz.trans (by decide)
      subst hz
      replace hu : u = zU M 0 1 1 := hu.trans (by congr 1)
      rw [hu] at hX
      refine z_if_ne (a := 0) (tgt := 31) hx hb d_Mo_inThen_26 (by decide) (by omega) (fun hb_9 => ?_) (fun hb_10 => ?_)
      · skip
        exfalso
        omega
      · skip
        refine z_const hx hb d_Mo_inThen_29 ?_
        exact z_iret (z := 0) (post := (fun z u => (((0 ≤ r ∧ r < M 0 3) ∧ (0 ≤ t ∧ t < M 0 2)) ∧ z = (nCnt (zU M 0 1 0) r t (M 0 16).toNat) ∧ u = zU M 0 1 0) ∨ (¬ ((0 ≤ r ∧ r < M 0 3) ∧ (0 ≤ t ∧ t < M 0 2)) ∧ u = zU M 0 1 1))) hx hb hr hlk hK hX hS (by omega) (by first | (exfalso; omega) | exact Or.inr ⟨by omega, rfl⟩) d_Mo_inThen_30
    · skip
      refine z_const hx hb d_Mo_inThen_17 ?_
      refine lv_goto (tgt := 22) hx hb d_Mo_inThen_18 (by decide) ?_
      refine z_const hx hb d_Mo_inThen_22 ?_
      refine z_callVi hF (m_may l D ad cI sd M 1 1 (by omega) (by omega)) (hK.cV 2 tw_583 tw_580 tw_7 tw_582 ts_28 (by decide +kernel) rfl rfl ⟨Nat.le_of_ble_eq_true rfl, Nat.le_of_ble_eq_true rfl⟩) hK hX hS rfl rfl rfl hl.1 rfl (Nat.le_of_ble_eq_true rfl) d_Mo_inThen_23 ⟨Nat.le_of_ble_eq_true rfl, Nat.le_of_ble_eq_true rfl⟩ (fun z u H locs rgz hp hX hS => ?_)
      obtain ⟨hz, hu⟩ := hp
      replace hz : z = 1 := hz.trans (by decide)
      subst hz
      replace hu : u = zU M 0 1 0 := hu.trans (by congr 1)
      rw [hu] at hX
      refine z_if_ne (a := 1) (tgt := 31) hx hb d_Mo_inThen_26 (by decide) (by omega) (fun hb_11 => ?_) (fun hb_12 => ?_)
      · skip
        have f2 : zU M 0 1 0 0 2 = M 0 2 := zU_n (by decide)
        have f3 : zU M 0 1 0 0 3 = M 0 3 := zU_n (by decide)
        have f16 : zU M 0 1 0 0 16 = M 0 16 := zU_n (by decide)
        have fO : nOK (zU M 0 1 0) := hO.f 0
        obtain ⟨M0, hM0⟩ : ∃ M9 : zM, zU M 0 1 0 = M9 := ⟨_, rfl⟩
        rw [hM0] at hX fO f2 f3 f16
        refine z_const hx hb d_Mo_inThen_31 ?_
        refine lv_istore_n (lv' := [(3, .int (zI (0))), (0, .ref (ad 0)), (1, .int (zI (r))), (2, .int (zI (t)))]) hx hb d_Mo_inThen_32 rfl hl (by decide) rfl (fun ls hl => ?_)
        refine z_const hx hb d_Mo_inThen_33 ?_
        refine lv_istore (lv' := [(4, .int (zI (0))), (3, .int (zI (0))), (0, .ref (ad 0)), (1, .int (zI (r))), (2, .int (zI (t)))]) hx hb d_Mo_inThen_34 hl (by decide) rfl (fun ls hl => ?_)
        have loop36 : ∀ (n36 : Nat) (k : Nat) (H : Heap) (locs : List Loc) (ls : Array Slot), (k : Int) ≤ M 0 16 → (M 0 16).toNat - k < n36 → zX D (nL sd) ad cI M0 H → va_S (zA ad (nL sd)) s.heap H locs → lv_has ls 5 [(4, .int (zI ((k : Int)))), (3, .int (zI (nCnt M0 r t k))), (0, .ref (ad 0)), (1, .int (zI (r))), (2, .int (zI (t)))] → W p l e { frames := 1, cells := 0, slots := 0, locals := 22 } s m ([.ref (ad 0), .int (zI (r)), .int (zI (t))] : List Value).toArray below meth c H locs 0 0 (MQ below (zQi D (nL sd) ad cI (fun z u => (((0 ≤ r ∧ r < M 0 3) ∧ (0 ≤ t ∧ t < M 0 2)) ∧ z = (nCnt (zU M 0 1 0) r t (M 0 16).toNat) ∧ u = zU M 0 1 0) ∨ (¬ ((0 ≤ r ∧ r < M 0 3) ∧ (0 ≤ t ∧ t < M 0 2)) ∧ u = zU M 0 1 1))) ([.ref (ad 0), .int (zI (r)), .int (zI (t))] : List Value).toArray s 0 0 (zA ad (nL sd))) (F0 m 36 ls []) := by
          intro n36
          induction n36 with
          | zero => intro k H locs ls hI hn; exact absurd hn (Nat.not_lt_zero _)
          | succ n36 ih36 =>
            intro k H locs ls hI36 hn36 hX hS hl
            have cb := nCnt_b M0 r t k
            refine lv_iload hx hb d_Mo_inThen_36 (lv_at hl 0 rfl) ?_
            refine lv_aload_n hx hb d_Mo_inThen_38 rfl (lv_at hl 2 rfl) ?_
            refine z_geti (i := 16) (v := M0 0 16) hx hb iw_Mo hown hK hX 0 rfl rfl 16 (by decide) tw_514 (fun _ h => h) rfl rfl rfl d_Mo_inThen_39 (fun rg_13 => ?_)
            refine z_icmp_ge (a := (k : Int)) (b := M0 0 16) (tgt := 76) hx hb d_Mo_inThen_42 (by decide) (by omega) (fun hb_14 => ?_) (fun hb_15 => ?_)
            · skip
              refine lv_iload_n hx hb d_Mo_inThen_76 rfl (lv_at hl 1 rfl) ?_
              exact z_iret (z := nCnt M0 r t k) (post := (fun z u => (((0 ≤ r ∧ r < M 0 3) ∧ (0 ≤ t ∧ t < M 0 2)) ∧ z = (nCnt (zU M 0 1 0) r t (M 0 16).toNat) ∧ u = zU M 0 1 0) ∨ (¬ ((0 ≤ r ∧ r < M 0 3) ∧ (0 ≤ t ∧ t < M 0 2)) ∧ u = zU M 0 1 1))) hx hb hr hlk hK hX hS (by omega) (Or.inl ⟨by omega, by rw [hM0, show k = (M 0 16).toNat by omega], hM0.symm⟩) d_Mo_inThen_77
            · skip
              refine lv_aload_n hx hb d_Mo_inThen_45 rfl (lv_at hl 2 rfl) ?_
              refine z_getr hx hb iw_Mo hown hK hX 0 rfl rfl 20 (by decide) tw_518 (fun _ h => h) 15 rfl d_Mo_inThen_46 ?_
              refine z_sipush hx hb d_Mo_inThen_49 (by decide) ?_
              refine lv_iload hx hb d_Mo_inThen_52 (lv_at hl 0 rfl) ?_
              refine z_imul hx hb d_Mo_inThen_54 ?_
              refine lv_iload_n hx hb d_Mo_inThen_55 rfl (lv_at hl 4 rfl) ?_
              refine z_iadd hx hb d_Mo_inThen_56 ?_
              refine z_bald (i := (2000 * (k : Int)) + t) (v := M0 15 ((2000 * (k : Int)) + t)) hx hb hK hX 15 rfl (by omega) (by decide) rfl d_Mo_inThen_57 (fun rg_16 => ?_)
              refine lv_iload_n hx hb d_Mo_inThen_58 rfl (lv_at hl 3 rfl) ?_
              refine z_icmp_ne (a := M0 15 ((2000 * (k : Int)) + t)) (b := r) (tgt := 68) hx hb d_Mo_inThen_59 (by decide) (by omega) (fun hb_17 => ?_) (fun hb_18 => ?_)
              · skip
                refine lv_iload_n hx hb d_Mo_inThen_68 rfl (lv_at hl 1 rfl) ?_
                refine lv_istore_n (lv' := [(3, .int (zI (nCnt M0 r t k))), (4, .int (zI ((k : Int)))), (0, .ref (ad 0)), (1, .int (zI (r))), (2, .int (zI (t)))]) hx hb d_Mo_inThen_69 rfl hl (by decide) rfl (fun ls hl => ?_)
                refine z_iinc (lv' := [(4, .int (zI ((k : Int) + 1))), (3, .int (zI (nCnt M0 r t k))), (0, .ref (ad 0)), (1, .int (zI (r))), (2, .int (zI (t)))]) hx hb d_Mo_inThen_70 hl (k := 1) rfl (by decide) rfl (fun ls hl => ?_)
                refine lv_goto (tgt := 36) hx hb d_Mo_inThen_73 (by decide) ?_
                exact ih36 (k + 1) _ _ _ (by omega) (by omega) hX hS (by have e9 : nCnt M0 r t (k + 1) = nCnt M0 r t k := (by show nCnt M0 r t k + _ = _; first | rw [if_pos (by omega)] | (rw [if_neg (by omega)]; omega)); rw [e9]; exact lv_sub hl [0, 1, 2, 3, 4] rfl)
              · skip
                refine lv_iload_n hx hb d_Mo_inThen_62 rfl (lv_at hl 1 rfl) ?_
                refine z_const hx hb d_Mo_inThen_63 ?_
                refine z_iadd hx hb d_Mo_inThen_64 ?_
                refine lv_goto (tgt := 69) hx hb d_Mo_inThen_65 (by decide) ?_
                refine lv_istore_n (lv' := [(3, .int (zI ((nCnt M0 r t k) + 1))), (4, .int (zI ((k : Int)))), (0, .ref (ad 0)), (1, .int (zI (r))), (2, .int (zI (t)))]) hx hb d_Mo_inThen_69 rfl hl (by decide) rfl (fun ls hl => ?_)
                refine z_iinc (lv' := [(4, .int (zI ((k : Int) + 1))), (3, .int (zI ((nCnt M0 r t k) + 1))), (0, .ref (ad 0)), (1, .int (zI (r))), (2, .int (zI (t)))]) hx hb d_Mo_inThen_70 hl (k := 1) rfl (by decide) rfl (fun ls hl => ?_)
                refine lv_goto (tgt := 36) hx hb d_Mo_inThen_73 (by decide) ?_
                exact ih36 (k + 1) _ _ _ (by omega) (by omega) hX hS (by have e9 : nCnt M0 r t (k + 1) = (nCnt M0 r t k) + 1 := (by show nCnt M0 r t k + _ = _; first | rw [if_pos (by omega)] | (rw [if_neg (by omega)]; omega)); rw [e9]; exact lv_sub hl [0, 1, 2, 3, 4] rfl)
        exact loop36 _ 0 _ _ _ (by omega) (Nat.lt_succ_self _) hX hS (lv_sub hl [0, 1, 2, 3, 4] rfl)
      · skip
        exfalso
        omega
set_option maxHeartbeats 4000000 in
set_option maxRecDepth 100000 in
theorem m_met (l : Launch) (D : va_G) (ad : Nat → Nat) (cI : Nat → ClassId) (sd : Int64) (M : zM) (p1 o : Int) (g0 : -2147483648 ≤ p1 ∧ p1 ≤ 2147483647) (g1 : -2147483648 ≤ o ∧ o ≤ 2147483647) (hO : nOK M) : zMi l y_Mo_met (.code y_Mo_met c_Mo_met 5 (some .int)) { frames := 1, cells := 0, slots := 0, locals := 22 } D (nL sd) ad cI M [.ref (ad 0), .int (zI (p1)), .int (zI (o))] (fun z u => (((0 ≤ p1 ∧ p1 < M 0 16) ∧ (0 ≤ o ∧ o < M 0 16) ∧ ¬ p1 = o) ∧ z = (nMetN (zU M 0 1 0) p1 o (M 0 2).toNat 0) ∧ u = zU M 0 1 0) ∨ (¬ ((0 ≤ p1 ∧ p1 < M 0 16) ∧ (0 ≤ o ∧ o < M 0 16) ∧ ¬ p1 = o) ∧ u = zU M 0 1 1)) := by
  refine z_of (cc := c_Mo_met) (maxL := 5) (ret := some .int) (own := "PersonSeedsModel") (by decide) rfl rfl (Nat.le_of_ble_eq_true rfl) ?_
  intro p e s m below meth c ls hF hr hX hK hl
  obtain ⟨hx, hb, hml, hown, hlk⟩ := id hF
  have hS : va_S (zA ad (nL sd)) s.heap s.heap [] := va_S.rf
  have hl : lv_has ls 5 [(0, .ref (ad 0)), (1, .int (zI (p1))), (2, .int (zI (o)))] := hl
  have o3 := hO.2.2.1
  have o4 := hO.2.2.2.1
  refine lv_aload_n hx hb d_Mo_met_0 rfl (lv_at hl 0 rfl) ?_
  refine lv_aload_n hx hb d_Mo_met_1 rfl (lv_at hl 0 rfl) ?_
  refine lv_iload_n hx hb d_Mo_met_2 rfl (lv_at hl 1 rfl) ?_
  refine z_callVi hF (m_isPerson l D ad cI sd M p1 (by omega)) (hK.cV 1 tw_657 tw_654 tw_7 tw_656 ts_39 (by decide +kernel) rfl rfl ⟨Nat.le_of_ble_eq_true rfl, Nat.le_of_ble_eq_true rfl⟩) hK hX hS rfl rfl rfl hl.1 rfl (Nat.le_of_ble_eq_true rfl) d_Mo_met_3 ⟨Nat.le_of_ble_eq_true rfl, Nat.le_of_ble_eq_true rfl⟩ (fun z u H locs rg_1 hp hX hS => ?_)
  obtain ⟨hz, hu⟩ := hp
  rw [hu] at hX
  have hz : z = (if 0 ≤ p1 ∧ p1 < (M 0 16) then 1 else 0) := hz
  subst hz
  refine z_if_eq (a := if 0 ≤ p1 ∧ p1 < (M 0 16) then 1 else 0) (tgt := 26) hx hb d_Mo_met_6 (by decide) (by omega) (fun hb_2 => ?_) (fun hb_3 => ?_)
  · skip
    refine z_const hx hb d_Mo_met_26 ?_
    refine z_const hx hb d_Mo_met_27 ?_
    refine z_callVi hF (m_may l D ad cI sd M 0 1 (by omega) (by omega)) (hK.cV 2 tw_583 tw_580 tw_7 tw_582 ts_28 (by decide +kernel) rfl rfl ⟨Nat.le_of_ble_eq_true rfl, Nat.le_of_ble_eq_true rfl⟩) hK hX hS rfl rfl rfl hl.1 rfl (Nat.le_of_ble_eq_true rfl) d_Mo_met_28 ⟨Nat.le_of_ble_eq_true rfl, Nat.le_of_ble_eq_true rfl⟩ (fun z u H locs rgz hp hX hS => ?_)
    obtain ⟨hz, hu⟩ := hp
    replace hz : z = 0 := hz.trans (by decide)
    subst hz
    replace hu : u = zU M 0 1 1 := hu.trans (by congr 1)
    rw [hu] at hX
    refine z_if_ne (a := 0) (tgt := 36) hx hb d_Mo_met_31 (by decide) (by omega) (fun hb_4 => ?_) (fun hb_5 => ?_)
    · skip
      exfalso
      omega
    · skip
      refine z_const hx hb d_Mo_met_34 ?_
      exact z_iret (z := 0) (post := (fun z u => (((0 ≤ p1 ∧ p1 < M 0 16) ∧ (0 ≤ o ∧ o < M 0 16) ∧ ¬ p1 = o) ∧ z = (nMetN (zU M 0 1 0) p1 o (M 0 2).toNat 0) ∧ u = zU M 0 1 0) ∨ (¬ ((0 ≤ p1 ∧ p1 < M 0 16) ∧ (0 ≤ o ∧ o < M 0 16) ∧ ¬ p1 = o) ∧ u = zU M 0 1 1))) hx hb hr hlk hK hX hS (by omega) (by first | (exfalso; omega) | exact Or.inr ⟨by omega, rfl⟩) d_Mo_met_35
  · skip
    refine lv_aload_n hx hb d_Mo_met_9 rfl (lv_at hl 0 rfl) ?_
    refine lv_iload_n hx hb d_Mo_met_10 rfl (lv_at hl 2 rfl) ?_
    refine z_callVi hF (m_isPerson l D ad cI sd M o (by omega)) (hK.cV 1 tw_657 tw_654 tw_7 tw_656 ts_39 (by decide +kernel) rfl rfl ⟨Nat.le_of_ble_eq_true rfl, Nat.le_of_ble_eq_true rfl⟩) hK hX hS rfl rfl rfl hl.1 rfl (Nat.le_of_ble_eq_true rfl) d_Mo_met_11 ⟨Nat.le_of_ble_eq_true rfl, Nat.le_of_ble_eq_true rfl⟩ (fun z u H locs rg_6 hp hX hS => ?_)
    obtain ⟨hz, hu⟩ := hp
    rw [hu] at hX
    have hz : z = (if 0 ≤ o ∧ o < (M 0 16) then 1 else 0) := hz
    subst hz
    refine z_if_eq (a := if 0 ≤ o ∧ o < (M 0 16) then 1 else 0) (tgt := 26) hx hb d_Mo_met_14 (by decide) (by omega) (fun hb_7 => ?_) (fun hb_8 => ?_)
    · skip
      refine z_const hx hb d_Mo_met_26 ?_
      refine z_const hx hb d_Mo_met_27 ?_
      refine z_callVi hF (m_may l D ad cI sd M 0 1 (by omega) (by omega)) (hK.cV 2 tw_583 tw_580 tw_7 tw_582 ts_28 (by decide +kernel) rfl rfl ⟨Nat.le_of_ble_eq_true rfl, Nat.le_of_ble_eq_true rfl⟩) hK hX hS rfl rfl rfl hl.1 rfl (Nat.le_of_ble_eq_true rfl) d_Mo_met_28 ⟨Nat.le_of_ble_eq_true rfl, Nat.le_of_ble_eq_true rfl⟩ (fun z u H locs rgz hp hX hS => ?_)
      obtain ⟨hz, hu⟩ := hp
      replace hz : z = 0 := hz.trans (by decide)
      subst hz
      replace hu : u = zU M 0 1 1 := hu.trans (by congr 1)
      rw [hu] at hX
      refine z_if_ne (a := 0) (tgt := 36) hx hb d_Mo_met_31 (by decide) (by omega) (fun hb_9 => ?_) (fun hb_10 => ?_)
      · skip
        exfalso
        omega
      · skip
        refine z_const hx hb d_Mo_met_34 ?_
        exact z_iret (z := 0) (post := (fun z u => (((0 ≤ p1 ∧ p1 < M 0 16) ∧ (0 ≤ o ∧ o < M 0 16) ∧ ¬ p1 = o) ∧ z = (nMetN (zU M 0 1 0) p1 o (M 0 2).toNat 0) ∧ u = zU M 0 1 0) ∨ (¬ ((0 ≤ p1 ∧ p1 < M 0 16) ∧ (0 ≤ o ∧ o < M 0 16) ∧ ¬ p1 = o) ∧ u = zU M 0 1 1))) hx hb hr hlk hK hX hS (by omega) (by first | (exfalso; omega) | exact Or.inr ⟨by omega, rfl⟩) d_Mo_met_35
    · skip
      refine lv_iload_n hx hb d_Mo_met_17 rfl (lv_at hl 1 rfl) ?_
      refine lv_iload_n hx hb d_Mo_met_18 rfl (lv_at hl 2 rfl) ?_
      refine z_icmp_eq (a := p1) (b := o) (tgt := 26) hx hb d_Mo_met_19 (by decide) (by omega) (fun hb_11 => ?_) (fun hb_12 => ?_)
      · skip
        refine z_const hx hb d_Mo_met_26 ?_
        refine z_const hx hb d_Mo_met_27 ?_
        refine z_callVi hF (m_may l D ad cI sd M 0 1 (by omega) (by omega)) (hK.cV 2 tw_583 tw_580 tw_7 tw_582 ts_28 (by decide +kernel) rfl rfl ⟨Nat.le_of_ble_eq_true rfl, Nat.le_of_ble_eq_true rfl⟩) hK hX hS rfl rfl rfl hl.1 rfl (Nat.le_of_ble_eq_true rfl) d_Mo_met_28 ⟨Nat.le_of_ble_eq_true rfl, Nat.le_of_ble_eq_true rfl⟩ (fun z u H locs rgz hp hX hS => ?_)
        obtain ⟨hz, hu⟩ := hp
        replace hz : z = 0 := hz.trans (by decide)
        subst hz
        replace hu : u = zU M 0 1 1 := hu.trans (by congr 1)
        rw [hu] at hX
        refine z_if_ne (a := 0) (tgt := 36) hx hb d_Mo_met_31 (by decide) (by omega) (fun hb_13 => ?_) (fun hb_14 => ?_)
        · skip
          exfalso
          omega
        · skip
          refine z_const hx hb d_Mo_met_34 ?_
          exact z_iret (z := 0) (post := (fun z u => (((0 ≤ p1 ∧ p1 < M 0 16) ∧ (0 ≤ o ∧ o < M 0 16) ∧ ¬ p1 = o) ∧ z = (nMetN (zU M 0 1 0) p1 o (M 0 2).toNat 0) ∧ u = zU M 0 1 0) ∨ (¬ ((0 ≤ p1 ∧ p1 < M 0 16) ∧ (0 ≤ o ∧ o < M 0 16) ∧ ¬ p1 = o) ∧ u = zU M 0 1 1))) hx hb hr hlk hK hX hS (by omega) (by first | (exfalso; omega) | exact Or.inr ⟨by omega, rfl⟩) d_Mo_met_35
      · skip
        refine z_const hx hb d_Mo_met_22 ?_
        refine lv_goto (tgt := 27) hx hb d_Mo_met_23 (by decide) ?_
        refine z_const hx hb d_Mo_met_27 ?_
        refine z_callVi hF (m_may l D ad cI sd M 1 1 (by omega) (by omega)) (hK.cV 2 tw_583 tw_580 tw_7 tw_582 ts_28 (by decide +kernel) rfl rfl ⟨Nat.le_of_ble_eq_true rfl, Nat.le_of_ble_eq_true rfl⟩) hK hX hS rfl rfl rfl hl.1 rfl (Nat.le_of_ble_eq_true rfl) d_Mo_met_28 ⟨Nat.le_of_ble_eq_true rfl, Nat.le_of_ble_eq_true rfl⟩ (fun z u H locs rgz hp hX hS => ?_)
        obtain ⟨hz, hu⟩ := hp
        replace hz : z = 1 := hz.trans (by decide)
        subst hz
        replace hu : u = zU M 0 1 0 := hu.trans (by congr 1)
        rw [hu] at hX
        refine z_if_ne (a := 1) (tgt := 36) hx hb d_Mo_met_31 (by decide) (by omega) (fun hb_15 => ?_) (fun hb_16 => ?_)
        · skip
          have f2 : zU M 0 1 0 0 2 = M 0 2 := zU_n (by decide)
          have f16 : zU M 0 1 0 0 16 = M 0 16 := zU_n (by decide)
          have fO : nOK (zU M 0 1 0) := hO.f 0
          obtain ⟨M0, hM0⟩ : ∃ M9 : zM, zU M 0 1 0 = M9 := ⟨_, rfl⟩
          rw [hM0] at hX fO f2 f16
          refine z_const hx hb d_Mo_met_36 ?_
          refine lv_istore_n (lv' := [(3, .int (zI (0))), (0, .ref (ad 0)), (1, .int (zI (p1))), (2, .int (zI (o)))]) hx hb d_Mo_met_37 rfl hl (by decide) rfl (fun ls hl => ?_)
          have loop38 : ∀ (n38 : Nat) (k : Nat) (H : Heap) (locs : List Loc) (ls : Array Slot), ((k : Int) ≤ M 0 2 ∧ nMetN M0 p1 o (M 0 2).toNat 0 = nMetN M0 p1 o ((M 0 2).toNat - k) k) → (M 0 2).toNat - k < n38 → zX D (nL sd) ad cI M0 H → va_S (zA ad (nL sd)) s.heap H locs → lv_has ls 5 [(3, .int (zI ((k : Int)))), (0, .ref (ad 0)), (1, .int (zI (p1))), (2, .int (zI (o)))] → W p l e { frames := 1, cells := 0, slots := 0, locals := 22 } s m ([.ref (ad 0), .int (zI (p1)), .int (zI (o))] : List Value).toArray below meth c H locs 0 0 (MQ below (zQi D (nL sd) ad cI (fun z u => (((0 ≤ p1 ∧ p1 < M 0 16) ∧ (0 ≤ o ∧ o < M 0 16) ∧ ¬ p1 = o) ∧ z = (nMetN (zU M 0 1 0) p1 o (M 0 2).toNat 0) ∧ u = zU M 0 1 0) ∨ (¬ ((0 ≤ p1 ∧ p1 < M 0 16) ∧ (0 ≤ o ∧ o < M 0 16) ∧ ¬ p1 = o) ∧ u = zU M 0 1 1))) ([.ref (ad 0), .int (zI (p1)), .int (zI (o))] : List Value).toArray s 0 0 (zA ad (nL sd))) (F0 m 38 ls []) := by
            intro n38
            induction n38 with
            | zero => intro k H locs ls hI hn; exact absurd hn (Nat.not_lt_zero _)
            | succ n38 ih38 =>
              intro k H locs ls hI38 hn38 hX hS hl
              refine lv_iload_n hx hb d_Mo_met_38 rfl (lv_at hl 0 rfl) ?_
              refine lv_aload_n hx hb d_Mo_met_39 rfl (lv_at hl 1 rfl) ?_
              refine z_geti (i := 2) (v := M0 0 2) hx hb iw_Mo hown hK hX 0 rfl rfl 2 (by decide) tw_500 (fun _ h => h) rfl rfl rfl d_Mo_met_40 (fun rg_17 => ?_)
              refine z_icmp_ge (a := (k : Int)) (b := M0 0 2) (tgt := 91) hx hb d_Mo_met_43 (by decide) (by omega) (fun hb_18 => ?_) (fun hb_19 => ?_)
              · skip
                refine z_const hx hb d_Mo_met_91 ?_
                exact z_iret (z := -1) (post := (fun z u => (((0 ≤ p1 ∧ p1 < M 0 16) ∧ (0 ≤ o ∧ o < M 0 16) ∧ ¬ p1 = o) ∧ z = (nMetN (zU M 0 1 0) p1 o (M 0 2).toNat 0) ∧ u = zU M 0 1 0) ∨ (¬ ((0 ≤ p1 ∧ p1 < M 0 16) ∧ (0 ≤ o ∧ o < M 0 16) ∧ ¬ p1 = o) ∧ u = zU M 0 1 1))) hx hb hr hlk hK hX hS (by omega) (Or.inl ⟨by omega, by rw [hM0]; first | (rw [hI38.2, show (M 0 2).toNat - k = 0 by omega]; rfl) | (rw [hI38.2, show (M 0 2).toNat - k = ((M 0 2).toNat - (k + 1)) + 1 by omega, nMetN, if_pos (by omega)]), hM0.symm⟩) d_Mo_met_92
              · skip
                refine lv_aload_n hx hb d_Mo_met_46 rfl (lv_at hl 1 rfl) ?_
                refine z_getr hx hb iw_Mo hown hK hX 0 rfl rfl 20 (by decide) tw_518 (fun _ h => h) 15 rfl d_Mo_met_47 ?_
                refine z_sipush hx hb d_Mo_met_50 (by decide) ?_
                refine lv_iload_n hx hb d_Mo_met_53 rfl (lv_at hl 2 rfl) ?_
                refine z_imul hx hb d_Mo_met_54 ?_
                refine lv_iload_n hx hb d_Mo_met_55 rfl (lv_at hl 0 rfl) ?_
                refine z_iadd hx hb d_Mo_met_56 ?_
                refine z_bald (i := (2000 * p1) + (k : Int)) (v := M0 15 ((2000 * p1) + (k : Int))) hx hb hK hX 15 rfl (by omega) (by decide) rfl d_Mo_met_57 (fun rg_20 => ?_)
                refine lv_istore (lv' := [(4, .int (zI (M0 15 ((2000 * p1) + (k : Int))))), (3, .int (zI ((k : Int)))), (0, .ref (ad 0)), (1, .int (zI (p1))), (2, .int (zI (o)))]) hx hb d_Mo_met_58 hl (by decide) rfl (fun ls hl => ?_)
                refine lv_iload hx hb d_Mo_met_60 (lv_at hl 0 rfl) ?_
                refine z_const hx hb d_Mo_met_62 ?_
                refine z_icmp_eq (a := M0 15 ((2000 * p1) + (k : Int))) (b := -1) (tgt := 85) hx hb d_Mo_met_63 (by decide) (by omega) (fun hb_21 => ?_) (fun hb_22 => ?_)
                · skip
                  refine z_iinc (lv' := [(3, .int (zI ((k : Int) + 1))), (4, .int (zI (M0 15 ((2000 * p1) + (k : Int))))), (0, .ref (ad 0)), (1, .int (zI (p1))), (2, .int (zI (o)))]) hx hb d_Mo_met_85 hl (k := 1) rfl (by decide) rfl (fun ls hl => ?_)
                  refine lv_goto (tgt := 38) hx hb d_Mo_met_88 (by decide) ?_
                  exact ih38 (k + 1) _ _ _ ⟨by omega, by rw [hI38.2, show (M 0 2).toNat - k = ((M 0 2).toNat - (k + 1)) + 1 by omega, nMetN, if_neg (by omega)]; rfl⟩ (by omega) hX hS (lv_sub hl [0, 2, 3, 4] rfl)
                · skip
                  refine lv_iload hx hb d_Mo_met_66 (lv_at hl 0 rfl) ?_
                  refine lv_aload_n hx hb d_Mo_met_68 rfl (lv_at hl 2 rfl) ?_
                  refine z_getr hx hb iw_Mo hown hK hX 0 rfl rfl 20 (by decide) tw_518 (fun _ h => h) 15 rfl d_Mo_met_69 ?_
                  refine z_sipush hx hb d_Mo_met_72 (by decide) ?_
                  refine lv_iload_n hx hb d_Mo_met_75 rfl (lv_at hl 4 rfl) ?_
                  refine z_imul hx hb d_Mo_met_76 ?_
                  refine lv_iload_n hx hb d_Mo_met_77 rfl (lv_at hl 1 rfl) ?_
                  refine z_iadd hx hb d_Mo_met_78 ?_
                  refine z_bald (i := (2000 * o) + (k : Int)) (v := M0 15 ((2000 * o) + (k : Int))) hx hb hK hX 15 rfl (by omega) (by decide) rfl d_Mo_met_79 (fun rg_23 => ?_)
                  refine z_icmp_ne (a := M0 15 ((2000 * p1) + (k : Int))) (b := M0 15 ((2000 * o) + (k : Int))) (tgt := 85) hx hb d_Mo_met_80 (by decide) (by omega) (fun hb_24 => ?_) (fun hb_25 => ?_)
                  · skip
                    refine z_iinc (lv' := [(3, .int (zI ((k : Int) + 1))), (4, .int (zI (M0 15 ((2000 * p1) + (k : Int))))), (0, .ref (ad 0)), (1, .int (zI (p1))), (2, .int (zI (o)))]) hx hb d_Mo_met_85 hl (k := 1) rfl (by decide) rfl (fun ls hl => ?_)
                    refine lv_goto (tgt := 38) hx hb d_Mo_met_88 (by decide) ?_
                    exact ih38 (k + 1) _ _ _ ⟨by omega, by rw [hI38.2, show (M 0 2).toNat - k = ((M 0 2).toNat - (k + 1)) + 1 by omega, nMetN, if_neg (by omega)]; rfl⟩ (by omega) hX hS (lv_sub hl [0, 2, 3, 4] rfl)
                  · skip
                    refine lv_iload_n hx hb d_Mo_met_83 rfl (lv_at hl 1 rfl) ?_
                    exact z_iret (z := (k : Int)) (post := (fun z u => (((0 ≤ p1 ∧ p1 < M 0 16) ∧ (0 ≤ o ∧ o < M 0 16) ∧ ¬ p1 = o) ∧ z = (nMetN (zU M 0 1 0) p1 o (M 0 2).toNat 0) ∧ u = zU M 0 1 0) ∨ (¬ ((0 ≤ p1 ∧ p1 < M 0 16) ∧ (0 ≤ o ∧ o < M 0 16) ∧ ¬ p1 = o) ∧ u = zU M 0 1 1))) hx hb hr hlk hK hX hS (by omega) (Or.inl ⟨by omega, by rw [hM0]; first | (rw [hI38.2, show (M 0 2).toNat - k = 0 by omega]; rfl) | (rw [hI38.2, show (M 0 2).toNat - k = ((M 0 2).toNat - (k + 1)) + 1 by omega, nMetN, if_pos (by omega)]), hM0.symm⟩) d_Mo_met_84
          exact loop38 _ 0 _ _ _ ⟨by omega, rfl⟩ (Nat.lt_succ_self _) hX hS (lv_sub hl [0, 1, 2, 3] rfl)
        · skip
          exfalso
          omega

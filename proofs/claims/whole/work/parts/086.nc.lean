set_option maxHeartbeats 4000000 in
set_option maxRecDepth 100000 in
theorem m_thr (l : Launch) (D : va_G) (ad : Nat → Nat) (cI : Nat → ClassId) (sd : Int64) (M : zM) (p1 g : Int) (h1 : 0 ≤ p1 ∧ p1 < 60) (h2 : 0 ≤ g ∧ g < 12) (h3 : 0 ≤ M 0 9 ∧ M 0 9 ≤ 16) (h4 : ∀ d, 0 ≤ d → d < M 0 9 → (0 ≤ M 6 d ∧ M 6 d < 12) ∧ 0 ≤ M 7 d ∧ M 7 d < 12) (h5 : 0 ≤ M 13 p1 ∧ M 13 p1 < 12) : zMv l y_Mo_throughDoor (.code y_Mo_throughDoor c_Mo_throughDoor 5 (none)) { frames := 1, cells := 0, slots := 0, locals := 25 } D (nL sd) ad cI M [.ref (ad 0), .int (zI (p1)), .int (zI (g))] (fun u => u = nThr M p1 g) := by
  refine z_of (cc := c_Mo_throughDoor) (maxL := 5) (ret := none) (own := "PersonSeedsModel") (by decide) rfl rfl (Nat.le_of_ble_eq_true rfl) ?_
  intro p e s m below meth c ls hF hr hX hK hl
  obtain ⟨hx, hb, hml, hown, hlk⟩ := id hF
  have hS : va_S (zA ad (nL sd)) s.heap s.heap [] := va_S.rf
  have hl : lv_has ls 5 [(0, .ref (ad 0)), (1, .int (zI (p1))), (2, .int (zI (g)))] := hl
  have e8 := nDoor_rg M (M 13 p1) g h3.1
  refine lv_aload_n hx hb d_Mo_throughDoor_0 rfl (lv_at hl 0 rfl) ?_
  refine lv_aload_n hx hb d_Mo_throughDoor_1 rfl (lv_at hl 0 rfl) ?_
  refine z_getr hx hb iw_Mo hown hK hX 0 rfl rfl 18 (by decide) tw_516 (fun _ h => h) 13 rfl d_Mo_throughDoor_2 ?_
  refine lv_iload_n hx hb d_Mo_throughDoor_5 rfl (lv_at hl 1 rfl) ?_
  refine z_iald (i := p1) (v := M 13 p1) hx hb hK hX 13 rfl (by omega) (by decide) rfl d_Mo_throughDoor_6 (fun rg_1 => ?_)
  refine lv_iload_n hx hb d_Mo_throughDoor_7 rfl (lv_at hl 2 rfl) ?_
  refine z_callVi hF (m_doorOf l D ad cI sd M (M 13 p1) g h5 h2 h3 h4) (hK.cV 2 tw_649 tw_646 tw_7 tw_648 ts_38 (by decide +kernel) rfl rfl ⟨Nat.le_of_ble_eq_true rfl, Nat.le_of_ble_eq_true rfl⟩) hK hX hS rfl rfl rfl hl.1 rfl (Nat.le_of_ble_eq_true rfl) d_Mo_throughDoor_8 ⟨Nat.le_of_ble_eq_true rfl, Nat.le_of_ble_eq_true rfl⟩ (fun z u H locs rg_2 hp hX hS => ?_)
  obtain ⟨hz, hu⟩ := hp
  rw [hu] at hX
  have hz : z = (nDoor M (M 13 p1) g) := hz
  subst hz
  refine lv_istore_n (lv' := [(3, .int (zI (nDoor M (M 13 p1) g))), (0, .ref (ad 0)), (1, .int (zI (p1))), (2, .int (zI (g)))]) hx hb d_Mo_throughDoor_11 rfl hl (by decide) rfl (fun ls hl => ?_)
  refine lv_iload_n hx hb d_Mo_throughDoor_12 rfl (lv_at hl 0 rfl) ?_
  refine z_const hx hb d_Mo_throughDoor_13 ?_
  refine z_icmp_ne (a := nDoor M (M 13 p1) g) (b := -1) (tgt := 18) hx hb d_Mo_throughDoor_14 (by decide) (by omega) (fun hb_3 => ?_) (fun hb_4 => ?_)
  · skip
    have h9 := h4 (nDoor M (M 13 p1) g) (by omega) (by omega)
    refine lv_aload_n hx hb d_Mo_throughDoor_18 rfl (lv_at hl 1 rfl) ?_
    refine z_getr hx hb iw_Mo hown hK hX 0 rfl rfl 10 (by decide) tw_508 (fun _ h => h) 6 rfl d_Mo_throughDoor_19 ?_
    refine lv_iload_n hx hb d_Mo_throughDoor_22 rfl (lv_at hl 0 rfl) ?_
    refine z_iald (i := nDoor M (M 13 p1) g) (v := M 6 (nDoor M (M 13 p1) g)) hx hb hK hX 6 rfl (by omega) (by decide) rfl d_Mo_throughDoor_23 (fun rg_5 => ?_)
    refine lv_aload_n hx hb d_Mo_throughDoor_24 rfl (lv_at hl 1 rfl) ?_
    refine z_getr hx hb iw_Mo hown hK hX 0 rfl rfl 18 (by decide) tw_516 (fun _ h => h) 13 rfl d_Mo_throughDoor_25 ?_
    refine lv_iload_n hx hb d_Mo_throughDoor_28 rfl (lv_at hl 2 rfl) ?_
    refine z_iald (i := p1) (v := M 13 p1) hx hb hK hX 13 rfl (by omega) (by decide) rfl d_Mo_throughDoor_29 (fun rg_6 => ?_)
    refine z_icmp_ne (a := M 6 (nDoor M (M 13 p1) g)) (b := M 13 p1) (tgt := 37) hx hb d_Mo_throughDoor_30 (by decide) (by omega) (fun hb_7 => ?_) (fun hb_8 => ?_)
    · skip
      refine z_const hx hb d_Mo_throughDoor_37 ?_
      refine lv_istore (lv' := [(4, .int (zI (0))), (3, .int (zI (nDoor M (M 13 p1) g))), (0, .ref (ad 0)), (1, .int (zI (p1))), (2, .int (zI (g)))]) hx hb d_Mo_throughDoor_38 hl (by decide) rfl (fun ls hl => ?_)
      refine lv_aload_n hx hb d_Mo_throughDoor_40 rfl (lv_at hl 2 rfl) ?_
      refine z_getr hx hb iw_Mo hown hK hX 0 rfl rfl 13 (by decide) tw_511 (fun _ h => h) 9 rfl d_Mo_throughDoor_41 ?_
      refine lv_iload_n hx hb d_Mo_throughDoor_44 rfl (lv_at hl 1 rfl) ?_
      refine z_iald (i := nDoor M (M 13 p1) g) (v := M 9 (nDoor M (M 13 p1) g)) hx hb hK hX 9 rfl (by omega) (by decide) rfl d_Mo_throughDoor_45 (fun rg_9 => ?_)
      refine lv_aload_n hx hb d_Mo_throughDoor_46 rfl (lv_at hl 2 rfl) ?_
      refine z_getr hx hb iw_Mo hown hK hX 0 rfl rfl 12 (by decide) tw_510 (fun _ h => h) 8 rfl d_Mo_throughDoor_47 ?_
      refine lv_iload_n hx hb d_Mo_throughDoor_50 rfl (lv_at hl 1 rfl) ?_
      refine z_iald (i := nDoor M (M 13 p1) g) (v := M 8 (nDoor M (M 13 p1) g)) hx hb hK hX 8 rfl (by omega) (by decide) rfl d_Mo_throughDoor_51 (fun rg_10 => ?_)
      refine z_icmp_ge (a := M 9 (nDoor M (M 13 p1) g)) (b := M 8 (nDoor M (M 13 p1) g)) (tgt := 83) hx hb d_Mo_throughDoor_52 (by decide) (by omega) (fun hb_11 => ?_) (fun hb_12 => ?_)
      · skip
        refine lv_aload_n hx hb d_Mo_throughDoor_83 rfl (lv_at hl 2 rfl) ?_
        refine z_getr hx hb iw_Mo hown hK hX 0 rfl rfl 19 (by decide) tw_517 (fun _ h => h) 14 rfl d_Mo_throughDoor_84 ?_
        refine lv_iload_n hx hb d_Mo_throughDoor_87 rfl (lv_at hl 3 rfl) ?_
        refine lv_dup2_11 hx hb d_Mo_throughDoor_88 rfl rfl ?_
        refine z_iald (i := p1) (v := M 14 p1) hx hb hK hX 14 rfl (by omega) (by decide) rfl d_Mo_throughDoor_89 (fun rg_13 => ?_)
        refine z_const hx hb d_Mo_throughDoor_90 ?_
        refine z_iadd hx hb d_Mo_throughDoor_91 ?_
        refine z_iastw (i := p1) (v := (M 14 p1) + 1) hx hb hK hX hS 14 rfl (by omega) (by decide) d_Mo_throughDoor_92 (fun H locs hX hS => ?_)
        exact z_vret (post := fun u => u = nThr M p1 g) hx hb hr hlk hK hX hS (by unfold nThr; have hC := (by omega : ¬ M 6 (nDoor M (M 13 p1) g) = M 13 p1); rw [if_neg (by omega)]; simp only [if_neg hC]; first | (rw [if_neg (by omega)]; rfl) | (rw [if_pos (by omega)]; rfl)) d_Mo_throughDoor_93
      · skip
        refine lv_aload_n hx hb d_Mo_throughDoor_55 rfl (lv_at hl 2 rfl) ?_
        refine lv_iload_n hx hb d_Mo_throughDoor_56 rfl (lv_at hl 3 rfl) ?_
        refine lv_iload hx hb d_Mo_throughDoor_57 (lv_at hl 0 rfl) ?_
        refine z_if_eq (a := 0) (tgt := 71) hx hb d_Mo_throughDoor_59 (by decide) (by omega) (fun hb_14 => ?_) (fun hb_15 => ?_)
        · skip
          refine lv_aload_n hx hb d_Mo_throughDoor_71 rfl (lv_at hl 2 rfl) ?_
          refine z_getr hx hb iw_Mo hown hK hX 0 rfl rfl 10 (by decide) tw_508 (fun _ h => h) 6 rfl d_Mo_throughDoor_72 ?_
          refine lv_iload_n hx hb d_Mo_throughDoor_75 rfl (lv_at hl 1 rfl) ?_
          refine z_iald (i := nDoor M (M 13 p1) g) (v := M 6 (nDoor M (M 13 p1) g)) hx hb hK hX 6 rfl (by omega) (by decide) rfl d_Mo_throughDoor_76 (fun rg_16 => ?_)
          refine z_callVi hF (m_goes l D ad cI sd M p1 (M 6 (nDoor M (M 13 p1) g)) h1 (by have h9 := h4 (nDoor M (M 13 p1) g) (by omega) (by omega); omega) (by omega)) (hK.cV 2 tw_641 tw_638 tw_7 tw_640 ts_36 (by decide +kernel) rfl rfl ⟨Nat.le_of_ble_eq_true rfl, Nat.le_of_ble_eq_true rfl⟩) hK hX hS rfl rfl rfl hl.1 rfl (Nat.le_of_ble_eq_true rfl) d_Mo_throughDoor_77 ⟨Nat.le_of_ble_eq_true rfl, Nat.le_of_ble_eq_true rfl⟩ (fun z u H locs rgz hp hX hS => ?_)
          rcases hp with ⟨hg_17, hz, hu⟩ | ⟨hg_17, hz, hu⟩
          · subst hz
            rw [hu] at hX
            refine z_if_ne (a := 0) (tgt := 94) hx hb d_Mo_throughDoor_80 (by decide) (by omega) (fun hb_18 => ?_) (fun hb_19 => ?_)
            · skip
              exfalso
              omega
            · skip
              refine lv_aload_n hx hb d_Mo_throughDoor_83 rfl (lv_at hl 2 rfl) ?_
              refine z_getr hx hb iw_Mo hown hK hX 0 rfl rfl 19 (by decide) tw_517 (fun _ h => h) 14 rfl d_Mo_throughDoor_84 ?_
              refine lv_iload_n hx hb d_Mo_throughDoor_87 rfl (lv_at hl 3 rfl) ?_
              refine lv_dup2_11 hx hb d_Mo_throughDoor_88 rfl rfl ?_
              refine z_iald (i := p1) (v := M 14 p1) hx hb hK hX 14 rfl (by omega) (by decide) rfl d_Mo_throughDoor_89 (fun rg_20 => ?_)
              refine z_const hx hb d_Mo_throughDoor_90 ?_
              refine z_iadd hx hb d_Mo_throughDoor_91 ?_
              refine z_iastw (i := p1) (v := (M 14 p1) + 1) hx hb hK hX hS 14 rfl (by omega) (by decide) d_Mo_throughDoor_92 (fun H locs hX hS => ?_)
              exact z_vret (post := fun u => u = nThr M p1 g) hx hb hr hlk hK hX hS (by unfold nThr; have hC := (by omega : ¬ M 6 (nDoor M (M 13 p1) g) = M 13 p1); rw [if_neg (by omega)]; simp only [if_neg hC]; first | (rw [if_neg (by omega)]; rfl) | (rw [if_pos (by omega)]; rfl)) d_Mo_throughDoor_93
          · subst hz
            rw [hu] at hX
            refine z_if_ne (a := 1) (tgt := 94) hx hb d_Mo_throughDoor_80 (by decide) (by omega) (fun hb_21 => ?_) (fun hb_22 => ?_)
            · skip
              refine lv_aload_n hx hb d_Mo_throughDoor_94 rfl (lv_at hl 2 rfl) ?_
              refine z_getr hx hb iw_Mo hown hK hX 0 rfl rfl 13 (by decide) tw_511 (fun _ h => h) 9 rfl d_Mo_throughDoor_95 ?_
              refine lv_iload_n hx hb d_Mo_throughDoor_98 rfl (lv_at hl 1 rfl) ?_
              refine lv_dup2_11 hx hb d_Mo_throughDoor_99 rfl rfl ?_
              refine z_iald (i := nDoor M (M 13 p1) g) (v := (nMove M p1 (M 6 (nDoor M (M 13 p1) g))) 9 (nDoor M (M 13 p1) g)) hx hb hK hX 9 rfl (by omega) (by decide) rfl d_Mo_throughDoor_100 (fun rg_23 => ?_)
              refine z_const hx hb d_Mo_throughDoor_101 ?_
              refine z_iadd hx hb d_Mo_throughDoor_102 ?_
              refine z_iastw (i := nDoor M (M 13 p1) g) (v := ((nMove M p1 (M 6 (nDoor M (M 13 p1) g))) 9 (nDoor M (M 13 p1) g)) + 1) hx hb hK hX hS 9 rfl (by omega) (by decide) d_Mo_throughDoor_103 (fun H locs hX hS => ?_)
              refine lv_aload_n hx hb d_Mo_throughDoor_104 rfl (lv_at hl 2 rfl) ?_
              refine z_getr hx hb iw_Mo hown hK hX 0 rfl rfl 14 (by decide) tw_512 (fun _ h => h) 10 rfl d_Mo_throughDoor_105 ?_
              refine lv_iload_n hx hb d_Mo_throughDoor_108 rfl (lv_at hl 1 rfl) ?_
              refine lv_dup2_11 hx hb d_Mo_throughDoor_109 rfl rfl ?_
              refine z_iald (i := nDoor M (M 13 p1) g) (v := (nMove M p1 (M 6 (nDoor M (M 13 p1) g))) 10 (nDoor M (M 13 p1) g)) hx hb hK hX 10 rfl (by omega) (by decide) rfl d_Mo_throughDoor_110 (fun rg_24 => ?_)
              refine lv_iload hx hb d_Mo_throughDoor_111 (lv_at hl 0 rfl) ?_
              refine z_if_eq (a := 0) (tgt := 120) hx hb d_Mo_throughDoor_113 (by decide) (by omega) (fun hb_25 => ?_) (fun hb_26 => ?_)
              · skip
                refine z_const hx hb d_Mo_throughDoor_120 ?_
                refine z_iadd hx hb d_Mo_throughDoor_121 ?_
                refine z_iastw (i := nDoor M (M 13 p1) g) (v := ((nMove M p1 (M 6 (nDoor M (M 13 p1) g))) 10 (nDoor M (M 13 p1) g)) + 0) hx hb hK hX hS 10 rfl (by omega) (by decide) d_Mo_throughDoor_122 (fun H locs hX hS => ?_)
                refine lv_aload_n hx hb d_Mo_throughDoor_123 rfl (lv_at hl 2 rfl) ?_
                refine z_getr hx hb iw_Mo hown hK hX 0 rfl rfl 15 (by decide) tw_513 (fun _ h => h) 11 rfl d_Mo_throughDoor_124 ?_
                refine lv_iload_n hx hb d_Mo_throughDoor_127 rfl (lv_at hl 1 rfl) ?_
                refine lv_dup2_11 hx hb d_Mo_throughDoor_128 rfl rfl ?_
                refine z_iald (i := nDoor M (M 13 p1) g) (v := (nMove M p1 (M 6 (nDoor M (M 13 p1) g))) 11 (nDoor M (M 13 p1) g)) hx hb hK hX 11 rfl (by omega) (by decide) rfl d_Mo_throughDoor_129 (fun rg_27 => ?_)
                refine lv_iload hx hb d_Mo_throughDoor_130 (lv_at hl 0 rfl) ?_
                refine z_if_eq (a := 0) (tgt := 139) hx hb d_Mo_throughDoor_132 (by decide) (by omega) (fun hb_28 => ?_) (fun hb_29 => ?_)
                · skip
                  refine z_const hx hb d_Mo_throughDoor_139 ?_
                  refine z_iadd hx hb d_Mo_throughDoor_140 ?_
                  refine z_iastw (i := nDoor M (M 13 p1) g) (v := ((nMove M p1 (M 6 (nDoor M (M 13 p1) g))) 11 (nDoor M (M 13 p1) g)) + 1) hx hb hK hX hS 11 rfl (by omega) (by decide) d_Mo_throughDoor_141 (fun H locs hX hS => ?_)
                  exact z_vret (post := fun u => u = nThr M p1 g) hx hb hr hlk hK hX hS (by unfold nThr; have hC := (by omega : ¬ M 6 (nDoor M (M 13 p1) g) = M 13 p1); rw [if_neg (by omega)]; simp only [if_neg hC]; first | (rw [if_neg (by omega)]; rfl) | (rw [if_pos (by omega)]; rfl)) d_Mo_throughDoor_142
                · skip
                  exfalso
                  omega
              · skip
                exfalso
                omega
            · skip
              exfalso
              omega
        · skip
          exfalso
          omega
    · skip
      refine z_const hx hb d_Mo_throughDoor_33 ?_
      refine lv_goto (tgt := 38) hx hb d_Mo_throughDoor_34 (by decide) ?_
      refine lv_istore (lv' := [(4, .int (zI (1))), (3, .int (zI (nDoor M (M 13 p1) g))), (0, .ref (ad 0)), (1, .int (zI (p1))), (2, .int (zI (g)))]) hx hb d_Mo_throughDoor_38 hl (by decide) rfl (fun ls hl => ?_)
      refine lv_aload_n hx hb d_Mo_throughDoor_40 rfl (lv_at hl 2 rfl) ?_
      refine z_getr hx hb iw_Mo hown hK hX 0 rfl rfl 13 (by decide) tw_511 (fun _ h => h) 9 rfl d_Mo_throughDoor_41 ?_
      refine lv_iload_n hx hb d_Mo_throughDoor_44 rfl (lv_at hl 1 rfl) ?_
      refine z_iald (i := nDoor M (M 13 p1) g) (v := M 9 (nDoor M (M 13 p1) g)) hx hb hK hX 9 rfl (by omega) (by decide) rfl d_Mo_throughDoor_45 (fun rg_30 => ?_)
      refine lv_aload_n hx hb d_Mo_throughDoor_46 rfl (lv_at hl 2 rfl) ?_
      refine z_getr hx hb iw_Mo hown hK hX 0 rfl rfl 12 (by decide) tw_510 (fun _ h => h) 8 rfl d_Mo_throughDoor_47 ?_
      refine lv_iload_n hx hb d_Mo_throughDoor_50 rfl (lv_at hl 1 rfl) ?_
      refine z_iald (i := nDoor M (M 13 p1) g) (v := M 8 (nDoor M (M 13 p1) g)) hx hb hK hX 8 rfl (by omega) (by decide) rfl d_Mo_throughDoor_51 (fun rg_31 => ?_)
      refine z_icmp_ge (a := M 9 (nDoor M (M 13 p1) g)) (b := M 8 (nDoor M (M 13 p1) g)) (tgt := 83) hx hb d_Mo_throughDoor_52 (by decide) (by omega) (fun hb_32 => ?_) (fun hb_33 => ?_)
      · skip
        refine lv_aload_n hx hb d_Mo_throughDoor_83 rfl (lv_at hl 2 rfl) ?_
        refine z_getr hx hb iw_Mo hown hK hX 0 rfl rfl 19 (by decide) tw_517 (fun _ h => h) 14 rfl d_Mo_throughDoor_84 ?_
        refine lv_iload_n hx hb d_Mo_throughDoor_87 rfl (lv_at hl 3 rfl) ?_
        refine lv_dup2_11 hx hb d_Mo_throughDoor_88 rfl rfl ?_
        refine z_iald (i := p1) (v := M 14 p1) hx hb hK hX 14 rfl (by omega) (by decide) rfl d_Mo_throughDoor_89 (fun rg_34 => ?_)
        refine z_const hx hb d_Mo_throughDoor_90 ?_
        refine z_iadd hx hb d_Mo_throughDoor_91 ?_
        refine z_iastw (i := p1) (v := (M 14 p1) + 1) hx hb hK hX hS 14 rfl (by omega) (by decide) d_Mo_throughDoor_92 (fun H locs hX hS => ?_)
        exact z_vret (post := fun u => u = nThr M p1 g) hx hb hr hlk hK hX hS (by unfold nThr; have hC := (by omega : M 6 (nDoor M (M 13 p1) g) = M 13 p1); rw [if_neg (by omega)]; simp only [if_pos hC]; first | (rw [if_neg (by omega)]; rfl) | (rw [if_pos (by omega)]; rfl)) d_Mo_throughDoor_93
      · skip
        refine lv_aload_n hx hb d_Mo_throughDoor_55 rfl (lv_at hl 2 rfl) ?_
        refine lv_iload_n hx hb d_Mo_throughDoor_56 rfl (lv_at hl 3 rfl) ?_
        refine lv_iload hx hb d_Mo_throughDoor_57 (lv_at hl 0 rfl) ?_
        refine z_if_eq (a := 1) (tgt := 71) hx hb d_Mo_throughDoor_59 (by decide) (by omega) (fun hb_35 => ?_) (fun hb_36 => ?_)
        · skip
          exfalso
          omega
        · skip
          refine lv_aload_n hx hb d_Mo_throughDoor_62 rfl (lv_at hl 2 rfl) ?_
          refine z_getr hx hb iw_Mo hown hK hX 0 rfl rfl 11 (by decide) tw_509 (fun _ h => h) 7 rfl d_Mo_throughDoor_63 ?_
          refine lv_iload_n hx hb d_Mo_throughDoor_66 rfl (lv_at hl 1 rfl) ?_
          refine z_iald (i := nDoor M (M 13 p1) g) (v := M 7 (nDoor M (M 13 p1) g)) hx hb hK hX 7 rfl (by omega) (by decide) rfl d_Mo_throughDoor_67 (fun rg_37 => ?_)
          refine lv_goto (tgt := 77) hx hb d_Mo_throughDoor_68 (by decide) ?_
          refine z_callVi hF (m_goes l D ad cI sd M p1 (M 7 (nDoor M (M 13 p1) g)) h1 (by have h9 := h4 (nDoor M (M 13 p1) g) (by omega) (by omega); omega) (by omega)) (hK.cV 2 tw_641 tw_638 tw_7 tw_640 ts_36 (by decide +kernel) rfl rfl ⟨Nat.le_of_ble_eq_true rfl, Nat.le_of_ble_eq_true rfl⟩) hK hX hS rfl rfl rfl hl.1 rfl (Nat.le_of_ble_eq_true rfl) d_Mo_throughDoor_77 ⟨Nat.le_of_ble_eq_true rfl, Nat.le_of_ble_eq_true rfl⟩ (fun z u H locs rgz hp hX hS => ?_)
          rcases hp with ⟨hg_38, hz, hu⟩ | ⟨hg_38, hz, hu⟩
          · subst hz
            rw [hu] at hX
            refine z_if_ne (a := 0) (tgt := 94) hx hb d_Mo_throughDoor_80 (by decide) (by omega) (fun hb_39 => ?_) (fun hb_40 => ?_)
            · skip
              exfalso
              omega
            · skip
              refine lv_aload_n hx hb d_Mo_throughDoor_83 rfl (lv_at hl 2 rfl) ?_
              refine z_getr hx hb iw_Mo hown hK hX 0 rfl rfl 19 (by decide) tw_517 (fun _ h => h) 14 rfl d_Mo_throughDoor_84 ?_
              refine lv_iload_n hx hb d_Mo_throughDoor_87 rfl (lv_at hl 3 rfl) ?_
              refine lv_dup2_11 hx hb d_Mo_throughDoor_88 rfl rfl ?_
              refine z_iald (i := p1) (v := M 14 p1) hx hb hK hX 14 rfl (by omega) (by decide) rfl d_Mo_throughDoor_89 (fun rg_41 => ?_)
              refine z_const hx hb d_Mo_throughDoor_90 ?_
              refine z_iadd hx hb d_Mo_throughDoor_91 ?_
              refine z_iastw (i := p1) (v := (M 14 p1) + 1) hx hb hK hX hS 14 rfl (by omega) (by decide) d_Mo_throughDoor_92 (fun H locs hX hS => ?_)
              exact z_vret (post := fun u => u = nThr M p1 g) hx hb hr hlk hK hX hS (by unfold nThr; have hC := (by omega : M 6 (nDoor M (M 13 p1) g) = M 13 p1); rw [if_neg (by omega)]; simp only [if_pos hC]; first | (rw [if_neg (by omega)]; rfl) | (rw [if_pos (by omega)]; rfl)) d_Mo_throughDoor_93
          · subst hz
            rw [hu] at hX
            refine z_if_ne (a := 1) (tgt := 94) hx hb d_Mo_throughDoor_80 (by decide) (by omega) (fun hb_42 => ?_) (fun hb_43 => ?_)
            · skip
              refine lv_aload_n hx hb d_Mo_throughDoor_94 rfl (lv_at hl 2 rfl) ?_
              refine z_getr hx hb iw_Mo hown hK hX 0 rfl rfl 13 (by decide) tw_511 (fun _ h => h) 9 rfl d_Mo_throughDoor_95 ?_
              refine lv_iload_n hx hb d_Mo_throughDoor_98 rfl (lv_at hl 1 rfl) ?_
              refine lv_dup2_11 hx hb d_Mo_throughDoor_99 rfl rfl ?_
              refine z_iald (i := nDoor M (M 13 p1) g) (v := (nMove M p1 (M 7 (nDoor M (M 13 p1) g))) 9 (nDoor M (M 13 p1) g)) hx hb hK hX 9 rfl (by omega) (by decide) rfl d_Mo_throughDoor_100 (fun rg_44 => ?_)
              refine z_const hx hb d_Mo_throughDoor_101 ?_
              refine z_iadd hx hb d_Mo_throughDoor_102 ?_
              refine z_iastw (i := nDoor M (M 13 p1) g) (v := ((nMove M p1 (M 7 (nDoor M (M 13 p1) g))) 9 (nDoor M (M 13 p1) g)) + 1) hx hb hK hX hS 9 rfl (by omega) (by decide) d_Mo_throughDoor_103 (fun H locs hX hS => ?_)
              refine lv_aload_n hx hb d_Mo_throughDoor_104 rfl (lv_at hl 2 rfl) ?_
              refine z_getr hx hb iw_Mo hown hK hX 0 rfl rfl 14 (by decide) tw_512 (fun _ h => h) 10 rfl d_Mo_throughDoor_105 ?_
              refine lv_iload_n hx hb d_Mo_throughDoor_108 rfl (lv_at hl 1 rfl) ?_
              refine lv_dup2_11 hx hb d_Mo_throughDoor_109 rfl rfl ?_
              refine z_iald (i := nDoor M (M 13 p1) g) (v := (nMove M p1 (M 7 (nDoor M (M 13 p1) g))) 10 (nDoor M (M 13 p1) g)) hx hb hK hX 10 rfl (by omega) (by decide) rfl d_Mo_throughDoor_110 (fun rg_45 => ?_)
              refine lv_iload hx hb d_Mo_throughDoor_111 (lv_at hl 0 rfl) ?_
              refine z_if_eq (a := 1) (tgt := 120) hx hb d_Mo_throughDoor_113 (by decide) (by omega) (fun hb_46 => ?_) (fun hb_47 => ?_)
              · skip
                exfalso
                omega
              · skip
                refine z_const hx hb d_Mo_throughDoor_116 ?_
                refine lv_goto (tgt := 121) hx hb d_Mo_throughDoor_117 (by decide) ?_
                refine z_iadd hx hb d_Mo_throughDoor_121 ?_
                refine z_iastw (i := nDoor M (M 13 p1) g) (v := ((nMove M p1 (M 7 (nDoor M (M 13 p1) g))) 10 (nDoor M (M 13 p1) g)) + 1) hx hb hK hX hS 10 rfl (by omega) (by decide) d_Mo_throughDoor_122 (fun H locs hX hS => ?_)
                refine lv_aload_n hx hb d_Mo_throughDoor_123 rfl (lv_at hl 2 rfl) ?_
                refine z_getr hx hb iw_Mo hown hK hX 0 rfl rfl 15 (by decide) tw_513 (fun _ h => h) 11 rfl d_Mo_throughDoor_124 ?_
                refine lv_iload_n hx hb d_Mo_throughDoor_127 rfl (lv_at hl 1 rfl) ?_
                refine lv_dup2_11 hx hb d_Mo_throughDoor_128 rfl rfl ?_
                refine z_iald (i := nDoor M (M 13 p1) g) (v := (nMove M p1 (M 7 (nDoor M (M 13 p1) g))) 11 (nDoor M (M 13 p1) g)) hx hb hK hX 11 rfl (by omega) (by decide) rfl d_Mo_throughDoor_129 (fun rg_48 => ?_)
                refine lv_iload hx hb d_Mo_throughDoor_130 (lv_at hl 0 rfl) ?_
                refine z_if_eq (a := 1) (tgt := 139) hx hb d_Mo_throughDoor_132 (by decide) (by omega) (fun hb_49 => ?_) (fun hb_50 => ?_)
                · skip
                  exfalso
                  omega
                · skip
                  refine z_const hx hb d_Mo_throughDoor_135 ?_
                  refine lv_goto (tgt := 140) hx hb d_Mo_throughDoor_136 (by decide) ?_
                  refine z_iadd hx hb d_Mo_throughDoor_140 ?_
                  refine z_iastw (i := nDoor M (M 13 p1) g) (v := ((nMove M p1 (M 7 (nDoor M (M 13 p1) g))) 11 (nDoor M (M 13 p1) g)) + 0) hx hb hK hX hS 11 rfl (by omega) (by decide) d_Mo_throughDoor_141 (fun H locs hX hS => ?_)
                  exact z_vret (post := fun u => u = nThr M p1 g) hx hb hr hlk hK hX hS (by unfold nThr; have hC := (by omega : M 6 (nDoor M (M 13 p1) g) = M 13 p1); rw [if_neg (by omega)]; simp only [if_pos hC]; first | (rw [if_neg (by omega)]; rfl) | (rw [if_pos (by omega)]; rfl)) d_Mo_throughDoor_142
            · skip
              exfalso
              omega
  · skip
    exact z_vret (post := fun u => u = nThr M p1 g) hx hb hr hlk hK hX hS (by unfold nThr; rw [if_pos (by omega)]) d_Mo_throughDoor_17
set_option maxHeartbeats 4000000 in
set_option maxRecDepth 100000 in
theorem m_step (l : Launch) (D : va_G) (ad : Nat → Nat) (cI : Nat → ClassId) (sd : Int64) (M : zM) (p1 : Int) (h1 : 0 ≤ p1 ∧ p1 < 60) (h3 : 1 ≤ M 0 3 ∧ M 0 3 ≤ 12) (h4 : 0 ≤ M 12 p1 ∧ M 12 p1 ≤ 1439) (h5 : 0 ≤ M 0 9 ∧ M 0 9 ≤ 16) (h6 : ∀ d, 0 ≤ d → d < M 0 9 → (0 ≤ M 6 d ∧ M 6 d < 12) ∧ 0 ≤ M 7 d ∧ M 7 d < 12) (h7 : -1 ≤ M 13 p1 ∧ M 13 p1 < 12) : zMv l y_Mo_step (.code y_Mo_step c_Mo_step 3 (none)) { frames := 3, cells := 0, slots := 0, locals := 69 } D (nL sd) ad cI M [.ref (ad 0), .int (zI (p1))] (fun u => u = nStep sd M p1) := by
  refine z_of (cc := c_Mo_step) (maxL := 3) (ret := none) (own := "PersonSeedsModel") (by decide) rfl rfl (Nat.le_of_ble_eq_true rfl) ?_
  intro p e s m below meth c ls hF hr hX hK hl
  obtain ⟨hx, hb, hml, hown, hlk⟩ := id hF
  have hS : va_S (zA ad (nL sd)) s.heap s.heap [] := va_S.rf
  have hl : lv_has ls 3 [(0, .ref (ad 0)), (1, .int (zI (p1)))] := hl
  refine lv_aload_n hx hb d_Mo_step_0 rfl (lv_at hl 0 rfl) ?_
  refine lv_iload_n hx hb d_Mo_step_1 rfl (lv_at hl 1 rfl) ?_
  refine z_callVi hF (m_wants l D ad cI sd M p1 h1 h3 h4) (hK.cV 1 tw_633 tw_630 tw_7 tw_632 ts_34 (by decide +kernel) rfl rfl ⟨Nat.le_of_ble_eq_true rfl, Nat.le_of_ble_eq_true rfl⟩) hK hX hS rfl rfl rfl hl.1 rfl (Nat.le_of_ble_eq_true rfl) d_Mo_step_2 ⟨Nat.le_of_ble_eq_true rfl, Nat.le_of_ble_eq_true rfl⟩ (fun zo_2 u H locs rg_1 hp hX hS => ?_)
  obtain ⟨ezo_2, hu⟩ := hp
  rw [hu] at hX
  replace ezo_2 : zSame zo_2 (nWants sd M p1) := ezo_2
  have w9 := nWants_rg sd (M := M) (p := p1) h3
  rw [← show zo_2 = nWants sd M p1 from ezo_2] at w9
  refine lv_istore_n (lv' := [(2, .int (zI (zo_2))), (0, .ref (ad 0)), (1, .int (zI (p1)))]) hx hb d_Mo_step_5 rfl hl (by decide) rfl (fun ls hl => ?_)
  refine lv_iload_n hx hb d_Mo_step_6 rfl (lv_at hl 0 rfl) ?_
  refine lv_aload_n hx hb d_Mo_step_7 rfl (lv_at hl 1 rfl) ?_
  refine z_getr hx hb iw_Mo hown hK hX 0 rfl rfl 18 (by decide) tw_516 (fun _ h => h) 13 rfl d_Mo_step_8 ?_
  refine lv_iload_n hx hb d_Mo_step_11 rfl (lv_at hl 2 rfl) ?_
  refine z_iald (i := p1) (v := M 13 p1) hx hb hK hX 13 rfl (by omega) (by decide) rfl d_Mo_step_12 (fun rg_3 => ?_)
  refine z_icmp_ne (a := zo_2) (b := M 13 p1) (tgt := 17) hx hb d_Mo_step_13 (by decide) (by omega) (fun hb_4 => ?_) (fun hb_5 => ?_)
  · skip
    refine lv_aload_n hx hb d_Mo_step_17 rfl (lv_at hl 1 rfl) ?_
    refine z_getr hx hb iw_Mo hown hK hX 0 rfl rfl 18 (by decide) tw_516 (fun _ h => h) 13 rfl d_Mo_step_18 ?_
    refine lv_iload_n hx hb d_Mo_step_21 rfl (lv_at hl 2 rfl) ?_
    refine z_iald (i := p1) (v := M 13 p1) hx hb hK hX 13 rfl (by omega) (by decide) rfl d_Mo_step_22 (fun rg_6 => ?_)
    refine z_const hx hb d_Mo_step_23 ?_
    refine z_icmp_ne (a := M 13 p1) (b := -1) (tgt := 62) hx hb d_Mo_step_24 (by decide) (by omega) (fun hb_7 => ?_) (fun hb_8 => ?_)
    · skip
      refine lv_aload_n hx hb d_Mo_step_62 rfl (lv_at hl 1 rfl) ?_
      refine z_getr hx hb iw_Mo hown hK hX 0 rfl rfl 18 (by decide) tw_516 (fun _ h => h) 13 rfl d_Mo_step_63 ?_
      refine lv_iload_n hx hb d_Mo_step_66 rfl (lv_at hl 2 rfl) ?_
      refine z_iald (i := p1) (v := M 13 p1) hx hb hK hX 13 rfl (by omega) (by decide) rfl d_Mo_step_67 (fun rg_9 => ?_)
      refine z_if_ne (a := M 13 p1) (tgt := 96) hx hb d_Mo_step_68 (by decide) (by omega) (fun hb_10 => ?_) (fun hb_11 => ?_)
      · skip
        refine lv_aload_n hx hb d_Mo_step_96 rfl (lv_at hl 1 rfl) ?_
        refine lv_iload_n hx hb d_Mo_step_97 rfl (lv_at hl 2 rfl) ?_
        refine lv_iload_n hx hb d_Mo_step_98 rfl (lv_at hl 0 rfl) ?_
        refine z_const hx hb d_Mo_step_99 ?_
        refine z_icmp_ne (a := zo_2) (b := -1) (tgt := 107) hx hb d_Mo_step_100 (by decide) (by omega) (fun hb_12 => ?_) (fun hb_13 => ?_)
        · skip
          refine lv_iload_n hx hb d_Mo_step_107 rfl (lv_at hl 0 rfl) ?_
          refine z_callVv hF (m_thr l D ad cI sd M p1 zo_2 h1 (by omega) h5 h6 (by omega)) (hK.cV 2 tw_645 tw_642 tw_7 tw_644 ts_37 (by decide +kernel) rfl rfl ⟨Nat.le_of_ble_eq_true rfl, Nat.le_of_ble_eq_true rfl⟩) hK hX hS rfl rfl rfl hl.1 rfl (Nat.le_of_ble_eq_true rfl) d_Mo_step_108 ⟨Nat.le_of_ble_eq_true rfl, Nat.le_of_ble_eq_true rfl⟩ (fun u H locs hp hX hS => ?_)
          rw [hp] at hX
          exact z_vret (post := fun u => u = nStep sd M p1) hx hb hr hlk hK hX hS (by unfold nStep; rw [← show zo_2 = nWants sd M p1 from ezo_2]; first | (exfalso; omega) | (rw [if_pos (by omega)]; done) | (rw [if_neg (by omega), if_pos (by omega), if_pos (by omega)]; done) | (rw [if_neg (by omega), if_pos (by omega), if_neg (by omega)]; rfl) | (rw [if_neg (by omega), if_neg (by omega), if_pos (by omega)]; done) | (rw [if_neg (by omega), if_neg (by omega), if_neg (by omega), if_pos (by omega)]; done) | (rw [if_neg (by omega), if_neg (by omega), if_neg (by omega), if_neg (by omega)]; done)) d_Mo_step_111
        · skip
          refine z_const hx hb d_Mo_step_103 ?_
          refine lv_goto (tgt := 108) hx hb d_Mo_step_104 (by decide) ?_
          refine z_callVv hF (m_thr l D ad cI sd M p1 0 h1 (by omega) h5 h6 (by omega)) (hK.cV 2 tw_645 tw_642 tw_7 tw_644 ts_37 (by decide +kernel) rfl rfl ⟨Nat.le_of_ble_eq_true rfl, Nat.le_of_ble_eq_true rfl⟩) hK hX hS rfl rfl rfl hl.1 rfl (Nat.le_of_ble_eq_true rfl) d_Mo_step_108 ⟨Nat.le_of_ble_eq_true rfl, Nat.le_of_ble_eq_true rfl⟩ (fun u H locs hp hX hS => ?_)
          rw [hp] at hX
          exact z_vret (post := fun u => u = nStep sd M p1) hx hb hr hlk hK hX hS (by unfold nStep; rw [← show zo_2 = nWants sd M p1 from ezo_2]; first | (exfalso; omega) | (rw [if_pos (by omega)]; done) | (rw [if_neg (by omega), if_pos (by omega), if_pos (by omega)]; done) | (rw [if_neg (by omega), if_pos (by omega), if_neg (by omega)]; rfl) | (rw [if_neg (by omega), if_neg (by omega), if_pos (by omega)]; done) | (rw [if_neg (by omega), if_neg (by omega), if_neg (by omega), if_pos (by omega)]; done) | (rw [if_neg (by omega), if_neg (by omega), if_neg (by omega), if_neg (by omega)]; done)) d_Mo_step_111
      · skip
        refine lv_iload_n hx hb d_Mo_step_71 rfl (lv_at hl 0 rfl) ?_
        refine z_const hx hb d_Mo_step_72 ?_
        refine z_icmp_ne (a := zo_2) (b := -1) (tgt := 96) hx hb d_Mo_step_73 (by decide) (by omega) (fun hb_14 => ?_) (fun hb_15 => ?_)
        · skip
          refine lv_aload_n hx hb d_Mo_step_96 rfl (lv_at hl 1 rfl) ?_
          refine lv_iload_n hx hb d_Mo_step_97 rfl (lv_at hl 2 rfl) ?_
          refine lv_iload_n hx hb d_Mo_step_98 rfl (lv_at hl 0 rfl) ?_
          refine z_const hx hb d_Mo_step_99 ?_
          refine z_icmp_ne (a := zo_2) (b := -1) (tgt := 107) hx hb d_Mo_step_100 (by decide) (by omega) (fun hb_16 => ?_) (fun hb_17 => ?_)
          · skip
            refine lv_iload_n hx hb d_Mo_step_107 rfl (lv_at hl 0 rfl) ?_
            refine z_callVv hF (m_thr l D ad cI sd M p1 zo_2 h1 (by omega) h5 h6 (by omega)) (hK.cV 2 tw_645 tw_642 tw_7 tw_644 ts_37 (by decide +kernel) rfl rfl ⟨Nat.le_of_ble_eq_true rfl, Nat.le_of_ble_eq_true rfl⟩) hK hX hS rfl rfl rfl hl.1 rfl (Nat.le_of_ble_eq_true rfl) d_Mo_step_108 ⟨Nat.le_of_ble_eq_true rfl, Nat.le_of_ble_eq_true rfl⟩ (fun u H locs hp hX hS => ?_)
            rw [hp] at hX
            exact z_vret (post := fun u => u = nStep sd M p1) hx hb hr hlk hK hX hS (by unfold nStep; rw [← show zo_2 = nWants sd M p1 from ezo_2]; first | (exfalso; omega) | (rw [if_pos (by omega)]; done) | (rw [if_neg (by omega), if_pos (by omega), if_pos (by omega)]; done) | (rw [if_neg (by omega), if_pos (by omega), if_neg (by omega)]; rfl) | (rw [if_neg (by omega), if_neg (by omega), if_pos (by omega)]; done) | (rw [if_neg (by omega), if_neg (by omega), if_neg (by omega), if_pos (by omega)]; done) | (rw [if_neg (by omega), if_neg (by omega), if_neg (by omega), if_neg (by omega)]; done)) d_Mo_step_111
          · skip
            refine z_const hx hb d_Mo_step_103 ?_
            refine lv_goto (tgt := 108) hx hb d_Mo_step_104 (by decide) ?_
            refine z_callVv hF (m_thr l D ad cI sd M p1 0 h1 (by omega) h5 h6 (by omega)) (hK.cV 2 tw_645 tw_642 tw_7 tw_644 ts_37 (by decide +kernel) rfl rfl ⟨Nat.le_of_ble_eq_true rfl, Nat.le_of_ble_eq_true rfl⟩) hK hX hS rfl rfl rfl hl.1 rfl (Nat.le_of_ble_eq_true rfl) d_Mo_step_108 ⟨Nat.le_of_ble_eq_true rfl, Nat.le_of_ble_eq_true rfl⟩ (fun u H locs hp hX hS => ?_)
            rw [hp] at hX
            exact z_vret (post := fun u => u = nStep sd M p1) hx hb hr hlk hK hX hS (by unfold nStep; rw [← show zo_2 = nWants sd M p1 from ezo_2]; first | (exfalso; omega) | (rw [if_pos (by omega)]; done) | (rw [if_neg (by omega), if_pos (by omega), if_pos (by omega)]; done) | (rw [if_neg (by omega), if_pos (by omega), if_neg (by omega)]; rfl) | (rw [if_neg (by omega), if_neg (by omega), if_pos (by omega)]; done) | (rw [if_neg (by omega), if_neg (by omega), if_neg (by omega), if_pos (by omega)]; done) | (rw [if_neg (by omega), if_neg (by omega), if_neg (by omega), if_neg (by omega)]; done)) d_Mo_step_111
        · skip
          refine lv_aload_n hx hb d_Mo_step_76 rfl (lv_at hl 1 rfl) ?_
          refine lv_iload_n hx hb d_Mo_step_77 rfl (lv_at hl 2 rfl) ?_
          refine z_const hx hb d_Mo_step_78 ?_
          refine z_callVi hF (m_goes l D ad cI sd M p1 (-1) h1 (by omega) h7) (hK.cV 2 tw_641 tw_638 tw_7 tw_640 ts_36 (by decide +kernel) rfl rfl ⟨Nat.le_of_ble_eq_true rfl, Nat.le_of_ble_eq_true rfl⟩) hK hX hS rfl rfl rfl hl.1 rfl (Nat.le_of_ble_eq_true rfl) d_Mo_step_79 ⟨Nat.le_of_ble_eq_true rfl, Nat.le_of_ble_eq_true rfl⟩ (fun z u H locs rgz hp hX hS => ?_)
          rcases hp with ⟨hg_18, hz, hu⟩ | ⟨hg_18, hz, hu⟩
          · subst hz
            rw [hu] at hX
            refine lv_pop hx hb d_Mo_step_82 rfl ?_
            refine lv_aload_n hx hb d_Mo_step_83 rfl (lv_at hl 1 rfl) ?_
            refine lv_dup hx hb d_Mo_step_84 rfl ?_
            refine z_geti (i := 22) (v := M 0 22) hx hb iw_Mo hown hK hX 0 rfl rfl 22 (by decide) tw_520 (fun _ h => h) rfl rfl rfl d_Mo_step_85 (fun rg_19 => ?_)
            refine z_const hx hb d_Mo_step_88 ?_
            refine z_iadd hx hb d_Mo_step_89 ?_
            refine z_putiw (i := 22) (v := (M 0 22) + 1) hx hb iw_Mo ty_Mo tyo_Mo n_Mo hown hK hX hS 0 rfl rfl 22 (by decide) tw_520 (fun _ h => h) rfl (by decide +kernel) rfl rfl d_Mo_step_90 (fun H locs hX hS => ?_)
            refine lv_goto (tgt := 111) hx hb d_Mo_step_93 (by decide) ?_
            exact z_vret (post := fun u => u = nStep sd M p1) hx hb hr hlk hK hX hS (by unfold nStep; rw [← show zo_2 = nWants sd M p1 from ezo_2]; first | (exfalso; omega) | (rw [if_pos (by omega)]; done) | (rw [if_neg (by omega), if_pos (by omega), if_pos (by omega)]; done) | (rw [if_neg (by omega), if_pos (by omega), if_neg (by omega)]; rfl) | (rw [if_neg (by omega), if_neg (by omega), if_pos (by omega)]; done) | (rw [if_neg (by omega), if_neg (by omega), if_neg (by omega), if_pos (by omega)]; done) | (rw [if_neg (by omega), if_neg (by omega), if_neg (by omega), if_neg (by omega)]; done)) d_Mo_step_111
          · subst hz
            rw [hu] at hX
            refine lv_pop hx hb d_Mo_step_82 rfl ?_
            refine lv_aload_n hx hb d_Mo_step_83 rfl (lv_at hl 1 rfl) ?_
            refine lv_dup hx hb d_Mo_step_84 rfl ?_
            refine z_geti (i := 22) (v := (nMove M p1 (-1)) 0 22) hx hb iw_Mo hown hK hX 0 rfl rfl 22 (by decide) tw_520 (fun _ h => h) rfl rfl rfl d_Mo_step_85 (fun rg_20 => ?_)
            refine z_const hx hb d_Mo_step_88 ?_
            refine z_iadd hx hb d_Mo_step_89 ?_
            refine z_putiw (i := 22) (v := ((nMove M p1 (-1)) 0 22) + 1) hx hb iw_Mo ty_Mo tyo_Mo n_Mo hown hK hX hS 0 rfl rfl 22 (by decide) tw_520 (fun _ h => h) rfl (by decide +kernel) rfl rfl d_Mo_step_90 (fun H locs hX hS => ?_)
            refine lv_goto (tgt := 111) hx hb d_Mo_step_93 (by decide) ?_
            exact z_vret (post := fun u => u = nStep sd M p1) hx hb hr hlk hK hX hS (by unfold nStep; rw [← show zo_2 = nWants sd M p1 from ezo_2]; first | (exfalso; omega) | (rw [if_pos (by omega)]; done) | (rw [if_neg (by omega), if_pos (by omega), if_pos (by omega)]; done) | (rw [if_neg (by omega), if_pos (by omega), if_neg (by omega)]; rfl) | (rw [if_neg (by omega), if_neg (by omega), if_pos (by omega)]; done) | (rw [if_neg (by omega), if_neg (by omega), if_neg (by omega), if_pos (by omega)]; done) | (rw [if_neg (by omega), if_neg (by omega), if_neg (by omega), if_neg (by omega)]; done)) d_Mo_step_111
    · skip
      refine lv_aload_n hx hb d_Mo_step_27 rfl (lv_at hl 1 rfl) ?_
      refine lv_iload_n hx hb d_Mo_step_28 rfl (lv_at hl 2 rfl) ?_
      refine z_const hx hb d_Mo_step_29 ?_
      refine z_callVi hF (m_goes l D ad cI sd M p1 0 h1 (by omega) h7) (hK.cV 2 tw_641 tw_638 tw_7 tw_640 ts_36 (by decide +kernel) rfl rfl ⟨Nat.le_of_ble_eq_true rfl, Nat.le_of_ble_eq_true rfl⟩) hK hX hS rfl rfl rfl hl.1 rfl (Nat.le_of_ble_eq_true rfl) d_Mo_step_30 ⟨Nat.le_of_ble_eq_true rfl, Nat.le_of_ble_eq_true rfl⟩ (fun z u H locs rgz hp hX hS => ?_)
      rcases hp with ⟨hg_21, hz, hu⟩ | ⟨hg_21, hz, hu⟩
      · subst hz
        rw [hu] at hX
        refine z_if_eq (a := 0) (tgt := 49) hx hb d_Mo_step_33 (by decide) (by omega) (fun hb_22 => ?_) (fun hb_23 => ?_)
        · skip
          refine lv_aload_n hx hb d_Mo_step_49 rfl (lv_at hl 1 rfl) ?_
          refine z_getr hx hb iw_Mo hown hK hX 0 rfl rfl 19 (by decide) tw_517 (fun _ h => h) 14 rfl d_Mo_step_50 ?_
          refine lv_iload_n hx hb d_Mo_step_53 rfl (lv_at hl 2 rfl) ?_
          refine lv_dup2_11 hx hb d_Mo_step_54 rfl rfl ?_
          refine z_iald (i := p1) (v := M 14 p1) hx hb hK hX 14 rfl (by omega) (by decide) rfl d_Mo_step_55 (fun rg_24 => ?_)
          refine z_const hx hb d_Mo_step_56 ?_
          refine z_iadd hx hb d_Mo_step_57 ?_
          refine z_iastw (i := p1) (v := (M 14 p1) + 1) hx hb hK hX hS 14 rfl (by omega) (by decide) d_Mo_step_58 (fun H locs hX hS => ?_)
          refine lv_goto (tgt := 111) hx hb d_Mo_step_59 (by decide) ?_
          exact z_vret (post := fun u => u = nStep sd M p1) hx hb hr hlk hK hX hS (by unfold nStep; rw [← show zo_2 = nWants sd M p1 from ezo_2]; first | (exfalso; omega) | (rw [if_pos (by omega)]; done) | (rw [if_neg (by omega), if_pos (by omega), if_pos (by omega)]; done) | (rw [if_neg (by omega), if_pos (by omega), if_neg (by omega)]; rfl) | (rw [if_neg (by omega), if_neg (by omega), if_pos (by omega)]; done) | (rw [if_neg (by omega), if_neg (by omega), if_neg (by omega), if_pos (by omega)]; done) | (rw [if_neg (by omega), if_neg (by omega), if_neg (by omega), if_neg (by omega)]; done)) d_Mo_step_111
        · skip
          exfalso
          omega
      · subst hz
        rw [hu] at hX
        refine z_if_eq (a := 1) (tgt := 49) hx hb d_Mo_step_33 (by decide) (by omega) (fun hb_25 => ?_) (fun hb_26 => ?_)
        · skip
          exfalso
          omega
        · skip
          refine lv_aload_n hx hb d_Mo_step_36 rfl (lv_at hl 1 rfl) ?_
          refine lv_dup hx hb d_Mo_step_37 rfl ?_
          refine z_geti (i := 21) (v := (nMove M p1 0) 0 21) hx hb iw_Mo hown hK hX 0 rfl rfl 21 (by decide) tw_519 (fun _ h => h) rfl rfl rfl d_Mo_step_38 (fun rg_27 => ?_)
          refine z_const hx hb d_Mo_step_41 ?_
          refine z_iadd hx hb d_Mo_step_42 ?_
          refine z_putiw (i := 21) (v := ((nMove M p1 0) 0 21) + 1) hx hb iw_Mo ty_Mo tyo_Mo n_Mo hown hK hX hS 0 rfl rfl 21 (by decide) tw_519 (fun _ h => h) rfl (by decide +kernel) rfl rfl d_Mo_step_43 (fun H locs hX hS => ?_)
          refine lv_goto (tgt := 111) hx hb d_Mo_step_46 (by decide) ?_
          exact z_vret (post := fun u => u = nStep sd M p1) hx hb hr hlk hK hX hS (by unfold nStep; rw [← show zo_2 = nWants sd M p1 from ezo_2]; first | (exfalso; omega) | (rw [if_pos (by omega)]; done) | (rw [if_neg (by omega), if_pos (by omega), if_pos (by omega)]; done) | (rw [if_neg (by omega), if_pos (by omega), if_neg (by omega)]; rfl) | (rw [if_neg (by omega), if_neg (by omega), if_pos (by omega)]; done) | (rw [if_neg (by omega), if_neg (by omega), if_neg (by omega), if_pos (by omega)]; done) | (rw [if_neg (by omega), if_neg (by omega), if_neg (by omega), if_neg (by omega)]; done)) d_Mo_step_111
  · skip
    exact z_vret (post := fun u => u = nStep sd M p1) hx hb hr hlk hK hX hS (by unfold nStep; rw [← show zo_2 = nWants sd M p1 from ezo_2]; first | (exfalso; omega) | (rw [if_pos (by omega)]; done) | (rw [if_neg (by omega), if_pos (by omega), if_pos (by omega)]; done) | (rw [if_neg (by omega), if_pos (by omega), if_neg (by omega)]; rfl) | (rw [if_neg (by omega), if_neg (by omega), if_pos (by omega)]; done) | (rw [if_neg (by omega), if_neg (by omega), if_neg (by omega), if_pos (by omega)]; done) | (rw [if_neg (by omega), if_neg (by omega), if_neg (by omega), if_neg (by omega)]; done)) d_Mo_step_16

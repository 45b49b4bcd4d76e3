set_option maxHeartbeats 4000000 in
set_option maxRecDepth 100000 in
theorem m_minute (l : Launch) (D : va_G) (ad : Nat → Nat) (cI : Nat → ClassId) (sd : Int64) (M : zM) (hO : nOK M) (h2 : M 0 2 < 2000) : zMv l y_Mo_oneMinute (.code y_Mo_oneMinute c_Mo_oneMinute 2 (none)) { frames := 4, cells := 0, slots := 0, locals := 91 } D (nL sd) ad cI M [.ref (ad 0)] (fun u => u = nMin sd M) := by
  refine z_of (cc := c_Mo_oneMinute) (maxL := 2) (ret := none) (own := "PersonSeedsModel") (by decide) rfl rfl (Nat.le_of_ble_eq_true rfl) ?_
  intro p e s m below meth c ls hF hr hX hK hl
  obtain ⟨hx, hb, hml, hown, hlk⟩ := id hF
  have hS : va_S (zA ad (nL sd)) s.heap s.heap [] := va_S.rf
  have hl : lv_has ls 2 [(0, .ref (ad 0))] := hl
  have o1 := hO.1
  have o2 := hO.2.1
  have o3 := hO.2.2.1
  have o4 := hO.2.2.2.1
  refine z_const hx hb d_Mo_oneMinute_0 ?_
  refine lv_istore_n (lv' := [(1, .int (zI (0))), (0, .ref (ad 0))]) hx hb d_Mo_oneMinute_1 rfl hl (by decide) rfl (fun ls hl => ?_)
  have loop2 : ∀ (n2 : Nat) (k : Nat) (H : Heap) (locs : List Loc) (ls : Array Slot), (k : Int) ≤ M 0 9 → (M 0 9).toNat - k < n2 → zX D (nL sd) ad cI (nGoneN M k) H → va_S (zA ad (nL sd)) s.heap H locs → lv_has ls 2 [(1, .int (zI ((k : Int)))), (0, .ref (ad 0))] → W p l e { frames := 4, cells := 0, slots := 0, locals := 91 } s m ([.ref (ad 0)] : List Value).toArray below meth c H locs 0 0 (MQ below (zQv D (nL sd) ad cI (fun u => u = nMin sd M)) ([.ref (ad 0)] : List Value).toArray s 0 0 (zA ad (nL sd))) (F0 m 2 ls []) := by
    intro n2
    induction n2 with
    | zero => intro k H locs ls hI hn; exact absurd hn (Nat.not_lt_zero _)
    | succ n2 ih2 =>
      intro k H locs ls hI2 hn2 hX hS hl
      have e1 : nGoneN M k 0 9 = M 0 9 := by rw [nGoneN_c (by decide)]
      refine lv_iload_n hx hb d_Mo_oneMinute_2 rfl (lv_at hl 0 rfl) ?_
      refine lv_aload_n hx hb d_Mo_oneMinute_3 rfl (lv_at hl 1 rfl) ?_
      refine z_geti (i := 9) (v := (nGoneN M k) 0 9) hx hb iw_Mo hown hK hX 0 rfl rfl 9 (by decide) tw_507 (fun _ h => h) rfl rfl rfl d_Mo_oneMinute_4 (fun rg_1 => ?_)
      refine z_icmp_ge (a := (k : Int)) (b := (nGoneN M k) 0 9) (tgt := 23) hx hb d_Mo_oneMinute_7 (by decide) (by omega) (fun hb_2 => ?_) (fun hb_3 => ?_)
      · skip
        refine z_const hx hb d_Mo_oneMinute_23 ?_
        refine lv_istore_n (lv' := [(1, .int (zI (0))), (0, .ref (ad 0))]) hx hb d_Mo_oneMinute_24 rfl hl (by decide) rfl (fun ls hl => ?_)
        have loop25 : ∀ (n25 : Nat) (i : Nat) (H : Heap) (locs : List Loc) (ls : Array Slot), (i : Int) ≤ M 0 16 → (M 0 16).toNat - i < n25 → zX D (nL sd) ad cI (nPersN sd (nGoneN M (M 0 9).toNat) i) H → va_S (zA ad (nL sd)) s.heap H locs → lv_has ls 2 [(1, .int (zI ((i : Int)))), (0, .ref (ad 0))] → W p l e { frames := 4, cells := 0, slots := 0, locals := 91 } s m ([.ref (ad 0)] : List Value).toArray below meth c H locs 0 0 (MQ below (zQv D (nL sd) ad cI (fun u => u = nMin sd M)) ([.ref (ad 0)] : List Value).toArray s 0 0 (zA ad (nL sd))) (F0 m 25 ls []) := by
          intro n25
          induction n25 with
          | zero => intro i H locs ls hI hn; exact absurd hn (Nat.not_lt_zero _)
          | succ n25 ih25 =>
            intro i H locs ls hI25 hn25 hX hS hl
            have p9 := nPersN_ok (sd := sd) (nGoneN_ok hO (M 0 9).toNat) i
            have f2 : nPersN sd (nGoneN M (M 0 9).toNat) i 0 2 = M 0 2 := by rw [nPersN_0 (by decide) (by decide), nGoneN_c (by decide)]
            have f3 : nPersN sd (nGoneN M (M 0 9).toNat) i 0 3 = M 0 3 := by rw [nPersN_0 (by decide) (by decide), nGoneN_c (by decide)]
            have f16 : nPersN sd (nGoneN M (M 0 9).toNat) i 0 16 = M 0 16 := by rw [nPersN_0 (by decide) (by decide), nGoneN_c (by decide)]
            generalize hMq : nPersN sd (nGoneN M (M 0 9).toNat) i = Mq at hX p9 f2 f3 f16
            have s2 : nStep sd Mq (i : Int) 0 2 = Mq 0 2 := nStep_0 (by decide) (by decide)
            have s13 : (i : Int) < 60 → -1 ≤ nStep sd Mq (i : Int) 13 (i : Int) ∧ nStep sd Mq (i : Int) 13 (i : Int) < 12 := fun h9 => (nOK.step (sd := sd) p9 (i : Int)).2.2.2.2.2.2.2.1 _ (by omega) h9
            have q13 : (i : Int) < 60 → -1 ≤ Mq 13 (i : Int) ∧ Mq 13 (i : Int) < 12 := fun h9 => p9.2.2.2.2.2.2.2.1 _ (by omega) h9
            refine lv_iload_n hx hb d_Mo_oneMinute_25 rfl (lv_at hl 0 rfl) ?_
            refine lv_aload_n hx hb d_Mo_oneMinute_26 rfl (lv_at hl 1 rfl) ?_
            refine z_geti (i := 16) (v := Mq 0 16) hx hb iw_Mo hown hK hX 0 rfl rfl 16 (by decide) tw_514 (fun _ h => h) rfl rfl rfl d_Mo_oneMinute_27 (fun rg_4 => ?_)
            refine z_icmp_ge (a := (i : Int)) (b := Mq 0 16) (tgt := 79) hx hb d_Mo_oneMinute_30 (by decide) (by omega) (fun hb_5 => ?_) (fun hb_6 => ?_)
            · skip
              refine z_const hx hb d_Mo_oneMinute_79 ?_
              refine lv_istore_n (lv' := [(1, .int (zI (0))), (0, .ref (ad 0))]) hx hb d_Mo_oneMinute_80 rfl hl (by decide) rfl (fun ls hl => ?_)
              have loop81 : ∀ (n81 : Nat) (r0 : Nat) (H : Heap) (locs : List Loc) (ls : Array Slot), (r0 : Int) ≤ M 0 3 → (M 0 3).toNat - r0 < n81 → zX D (nL sd) ad cI (nEndN (nMinP sd M) r0) H → va_S (zA ad (nL sd)) s.heap H locs → lv_has ls 2 [(1, .int (zI ((r0 : Int)))), (0, .ref (ad 0))] → W p l e { frames := 4, cells := 0, slots := 0, locals := 91 } s m ([.ref (ad 0)] : List Value).toArray below meth c H locs 0 0 (MQ below (zQv D (nL sd) ad cI (fun u => u = nMin sd M)) ([.ref (ad 0)] : List Value).toArray s 0 0 (zA ad (nL sd))) (F0 m 81 ls []) := by
                intro n81
                induction n81 with
                | zero => intro r0 H locs ls hI hn; exact absurd hn (Nat.not_lt_zero _)
                | succ n81 ih81 =>
                  intro r0 H locs ls hI81 hn81 hX hS hl
                  have g2 : nEndN (nMinP sd M) r0 0 2 = M 0 2 := by rw [nEndN_c (by decide) (by decide)]; unfold nMinP; rw [nPersN_0 (by decide) (by decide), nGoneN_c (by decide)]
                  have g3 : nEndN (nMinP sd M) r0 0 3 = M 0 3 := by rw [nEndN_c (by decide) (by decide)]; unfold nMinP; rw [nPersN_0 (by decide) (by decide), nGoneN_c (by decide)]
                  generalize hMe : nEndN (nMinP sd M) r0 = Me at hX g2 g3
                  refine lv_iload_n hx hb d_Mo_oneMinute_81 rfl (lv_at hl 0 rfl) ?_
                  refine lv_aload_n hx hb d_Mo_oneMinute_82 rfl (lv_at hl 1 rfl) ?_
                  refine z_geti (i := 3) (v := Me 0 3) hx hb iw_Mo hown hK hX 0 rfl rfl 3 (by decide) tw_501 (fun _ h => h) rfl rfl rfl d_Mo_oneMinute_83 (fun rg_7 => ?_)
                  refine z_icmp_ge (a := (r0 : Int)) (b := Me 0 3) (tgt := 169) hx hb d_Mo_oneMinute_86 (by decide) (by omega) (fun hb_8 => ?_) (fun hb_9 => ?_)
                  · skip
                    refine lv_aload_n hx hb d_Mo_oneMinute_169 rfl (lv_at hl 1 rfl) ?_
                    refine lv_dup hx hb d_Mo_oneMinute_170 rfl ?_
                    refine z_geti (i := 2) (v := Me 0 2) hx hb iw_Mo hown hK hX 0 rfl rfl 2 (by decide) tw_500 (fun _ h => h) rfl rfl rfl d_Mo_oneMinute_171 (fun rg_10 => ?_)
                    refine z_const hx hb d_Mo_oneMinute_174 ?_
                    refine z_iadd hx hb d_Mo_oneMinute_175 ?_
                    refine z_puti (i := 2) (v := (Me 0 2) + 1) hx hb iw_Mo ty_Mo tyo_Mo n_Mo hown hK hX hS 0 rfl rfl 2 (by decide) tw_500 (fun _ h => h) rfl (by decide +kernel) rfl rfl (by omega) d_Mo_oneMinute_176 (fun H locs hX hS => ?_)
                    exact z_vret (post := fun u => u = nMin sd M) hx hb hr hlk hK hX hS (by have e9 : nMinA sd M = Me := (by unfold nMinA; rw [← hMe, show r0 = (M 0 3).toNat by omega]); unfold nMin; rw [e9]) d_Mo_oneMinute_179
                  · skip
                    refine lv_aload_n hx hb d_Mo_oneMinute_89 rfl (lv_at hl 1 rfl) ?_
                    refine z_getr hx hb iw_Mo hown hK hX 0 rfl rfl 6 (by decide) tw_504 (fun _ h => h) 3 rfl d_Mo_oneMinute_90 ?_
                    refine lv_iload_n hx hb d_Mo_oneMinute_93 rfl (lv_at hl 0 rfl) ?_
                    refine lv_aload_n hx hb d_Mo_oneMinute_94 rfl (lv_at hl 1 rfl) ?_
                    refine z_getr hx hb iw_Mo hown hK hX 0 rfl rfl 5 (by decide) tw_503 (fun _ h => h) 2 rfl d_Mo_oneMinute_95 ?_
                    refine lv_iload_n hx hb d_Mo_oneMinute_98 rfl (lv_at hl 0 rfl) ?_
                    refine z_iald (i := (r0 : Int)) (v := Me 2 (r0 : Int)) hx hb hK hX 2 rfl (by omega) (by decide) rfl d_Mo_oneMinute_99 (fun rg_11 => ?_)
                    refine lv_aload_n hx hb d_Mo_oneMinute_100 rfl (lv_at hl 1 rfl) ?_
                    refine z_getr hx hb iw_Mo hown hK hX 0 rfl rfl 6 (by decide) tw_504 (fun _ h => h) 3 rfl d_Mo_oneMinute_101 ?_
                    refine lv_iload_n hx hb d_Mo_oneMinute_104 rfl (lv_at hl 0 rfl) ?_
                    refine z_iald (i := (r0 : Int)) (v := Me 3 (r0 : Int)) hx hb hK hX 3 rfl (by omega) (by decide) rfl d_Mo_oneMinute_105 (fun rg_12 => ?_)
                    refine z_icmp_le (a := Me 2 (r0 : Int)) (b := Me 3 (r0 : Int)) (tgt := 118) hx hb d_Mo_oneMinute_106 (by decide) (by omega) (fun hb_13 => ?_) (fun hb_14 => ?_)
                    · skip
                      refine lv_aload_n hx hb d_Mo_oneMinute_118 rfl (lv_at hl 1 rfl) ?_
                      refine z_getr hx hb iw_Mo hown hK hX 0 rfl rfl 6 (by decide) tw_504 (fun _ h => h) 3 rfl d_Mo_oneMinute_119 ?_
                      refine lv_iload_n hx hb d_Mo_oneMinute_122 rfl (lv_at hl 0 rfl) ?_
                      refine z_iald (i := (r0 : Int)) (v := Me 3 (r0 : Int)) hx hb hK hX 3 rfl (by omega) (by decide) rfl d_Mo_oneMinute_123 (fun rg_15 => ?_)
                      refine z_iast (i := (r0 : Int)) (v := Me 3 (r0 : Int)) hx hb hK hX hS 3 rfl (by omega) (by decide) (by omega) d_Mo_oneMinute_124 (fun H locs hX hS => ?_)
                      refine lv_aload_n hx hb d_Mo_oneMinute_125 rfl (lv_at hl 1 rfl) ?_
                      refine z_getr hx hb iw_Mo hown hK hX 0 rfl rfl 7 (by decide) tw_505 (fun _ h => h) 4 rfl d_Mo_oneMinute_126 ?_
                      refine lv_iload_n hx hb d_Mo_oneMinute_129 rfl (lv_at hl 0 rfl) ?_
                      refine lv_aload_n hx hb d_Mo_oneMinute_130 rfl (lv_at hl 1 rfl) ?_
                      refine z_getr hx hb iw_Mo hown hK hX 0 rfl rfl 5 (by decide) tw_503 (fun _ h => h) 2 rfl d_Mo_oneMinute_131 ?_
                      refine lv_iload_n hx hb d_Mo_oneMinute_134 rfl (lv_at hl 0 rfl) ?_
                      refine z_iald (i := (r0 : Int)) (v := Me 2 (r0 : Int)) hx hb hK hX 2 rfl (by omega) (by decide) rfl d_Mo_oneMinute_135 (fun rg_16 => ?_)
                      refine lv_aload_n hx hb d_Mo_oneMinute_136 rfl (lv_at hl 1 rfl) ?_
                      refine z_getr hx hb iw_Mo hown hK hX 0 rfl rfl 4 (by decide) tw_502 (fun _ h => h) 1 rfl d_Mo_oneMinute_137 ?_
                      refine lv_iload_n hx hb d_Mo_oneMinute_140 rfl (lv_at hl 0 rfl) ?_
                      refine z_iald (i := (r0 : Int)) (v := Me 1 (r0 : Int)) hx hb hK hX 1 rfl (by omega) (by decide) rfl d_Mo_oneMinute_141 (fun rg_17 => ?_)
                      refine z_icmp_ne (a := Me 2 (r0 : Int)) (b := Me 1 (r0 : Int)) (tgt := 156) hx hb d_Mo_oneMinute_142 (by decide) (by omega) (fun hb_18 => ?_) (fun hb_19 => ?_)
                      · skip
                        refine lv_aload_n hx hb d_Mo_oneMinute_156 rfl (lv_at hl 1 rfl) ?_
                        refine z_getr hx hb iw_Mo hown hK hX 0 rfl rfl 7 (by decide) tw_505 (fun _ h => h) 4 rfl d_Mo_oneMinute_157 ?_
                        refine lv_iload_n hx hb d_Mo_oneMinute_160 rfl (lv_at hl 0 rfl) ?_
                        refine z_iald (i := (r0 : Int)) (v := Me 4 (r0 : Int)) hx hb hK hX 4 rfl (by omega) (by decide) rfl d_Mo_oneMinute_161 (fun rg_20 => ?_)
                        refine z_iast (i := (r0 : Int)) (v := Me 4 (r0 : Int)) hx hb hK hX hS 4 rfl (by omega) (by decide) (by omega) d_Mo_oneMinute_162 (fun H locs hX hS => ?_)
                        refine z_iinc (lv' := [(1, .int (zI ((r0 : Int) + 1))), (0, .ref (ad 0))]) hx hb d_Mo_oneMinute_163 hl (k := 0) rfl (by decide) rfl (fun ls hl => ?_)
                        refine lv_goto (tgt := 81) hx hb d_Mo_oneMinute_166 (by decide) ?_
                        exact ih81 (r0 + 1) _ _ _ (by omega) (by omega) (by have e9 : nEndN (nMinP sd M) (r0 + 1) = zU (zU Me 3 (r0 : Int) (Me 3 (r0 : Int))) 4 (r0 : Int) (Me 4 (r0 : Int)) := (by show nEndI (nEndN (nMinP sd M) r0) r0 = _; rw [hMe]; unfold nEndI; first | rw [if_pos (by omega), if_pos (by omega)] | rw [if_pos (by omega), if_neg (by omega)] | rw [if_neg (by omega), if_pos (by omega)] | rw [if_neg (by omega), if_neg (by omega)]); rw [e9]; exact hX) hS (lv_sub hl [0, 1] rfl)
                      · skip
                        refine lv_aload_n hx hb d_Mo_oneMinute_145 rfl (lv_at hl 1 rfl) ?_
                        refine z_getr hx hb iw_Mo hown hK hX 0 rfl rfl 7 (by decide) tw_505 (fun _ h => h) 4 rfl d_Mo_oneMinute_146 ?_
                        refine lv_iload_n hx hb d_Mo_oneMinute_149 rfl (lv_at hl 0 rfl) ?_
                        refine z_iald (i := (r0 : Int)) (v := Me 4 (r0 : Int)) hx hb hK hX 4 rfl (by omega) (by decide) rfl d_Mo_oneMinute_150 (fun rg_21 => ?_)
                        refine z_const hx hb d_Mo_oneMinute_151 ?_
                        refine z_iadd hx hb d_Mo_oneMinute_152 ?_
                        refine lv_goto (tgt := 162) hx hb d_Mo_oneMinute_153 (by decide) ?_
                        refine z_iastw (i := (r0 : Int)) (v := (Me 4 (r0 : Int)) + 1) hx hb hK hX hS 4 rfl (by omega) (by decide) d_Mo_oneMinute_162 (fun H locs hX hS => ?_)
                        refine z_iinc (lv' := [(1, .int (zI ((r0 : Int) + 1))), (0, .ref (ad 0))]) hx hb d_Mo_oneMinute_163 hl (k := 0) rfl (by decide) rfl (fun ls hl => ?_)
                        refine lv_goto (tgt := 81) hx hb d_Mo_oneMinute_166 (by decide) ?_
                        exact ih81 (r0 + 1) _ _ _ (by omega) (by omega) (by have e9 : nEndN (nMinP sd M) (r0 + 1) = zU (zU Me 3 (r0 : Int) (Me 3 (r0 : Int))) 4 (r0 : Int) (bm ((Me 4 (r0 : Int)) + 1)) := (by show nEndI (nEndN (nMinP sd M) r0) r0 = _; rw [hMe]; unfold nEndI; first | rw [if_pos (by omega), if_pos (by omega)] | rw [if_pos (by omega), if_neg (by omega)] | rw [if_neg (by omega), if_pos (by omega)] | rw [if_neg (by omega), if_neg (by omega)]); rw [e9]; exact hX) hS (lv_sub hl [0, 1] rfl)
                    · skip
                      refine lv_aload_n hx hb d_Mo_oneMinute_109 rfl (lv_at hl 1 rfl) ?_
                      refine z_getr hx hb iw_Mo hown hK hX 0 rfl rfl 5 (by decide) tw_503 (fun _ h => h) 2 rfl d_Mo_oneMinute_110 ?_
                      refine lv_iload_n hx hb d_Mo_oneMinute_113 rfl (lv_at hl 0 rfl) ?_
                      refine z_iald (i := (r0 : Int)) (v := Me 2 (r0 : Int)) hx hb hK hX 2 rfl (by omega) (by decide) rfl d_Mo_oneMinute_114 (fun rg_22 => ?_)
                      refine lv_goto (tgt := 124) hx hb d_Mo_oneMinute_115 (by decide) ?_
                      refine z_iast (i := (r0 : Int)) (v := Me 2 (r0 : Int)) hx hb hK hX hS 3 rfl (by omega) (by decide) (by omega) d_Mo_oneMinute_124 (fun H locs hX hS => ?_)
                      refine lv_aload_n hx hb d_Mo_oneMinute_125 rfl (lv_at hl 1 rfl) ?_
                      refine z_getr hx hb iw_Mo hown hK hX 0 rfl rfl 7 (by decide) tw_505 (fun _ h => h) 4 rfl d_Mo_oneMinute_126 ?_
                      refine lv_iload_n hx hb d_Mo_oneMinute_129 rfl (lv_at hl 0 rfl) ?_
                      refine lv_aload_n hx hb d_Mo_oneMinute_130 rfl (lv_at hl 1 rfl) ?_
                      refine z_getr hx hb iw_Mo hown hK hX 0 rfl rfl 5 (by decide) tw_503 (fun _ h => h) 2 rfl d_Mo_oneMinute_131 ?_
                      refine lv_iload_n hx hb d_Mo_oneMinute_134 rfl (lv_at hl 0 rfl) ?_
                      refine z_iald (i := (r0 : Int)) (v := Me 2 (r0 : Int)) hx hb hK hX 2 rfl (by omega) (by decide) rfl d_Mo_oneMinute_135 (fun rg_23 => ?_)
                      refine lv_aload_n hx hb d_Mo_oneMinute_136 rfl (lv_at hl 1 rfl) ?_
                      refine z_getr hx hb iw_Mo hown hK hX 0 rfl rfl 4 (by decide) tw_502 (fun _ h => h) 1 rfl d_Mo_oneMinute_137 ?_
                      refine lv_iload_n hx hb d_Mo_oneMinute_140 rfl (lv_at hl 0 rfl) ?_
                      refine z_iald (i := (r0 : Int)) (v := Me 1 (r0 : Int)) hx hb hK hX 1 rfl (by omega) (by decide) rfl d_Mo_oneMinute_141 (fun rg_24 => ?_)
                      refine z_icmp_ne (a := Me 2 (r0 : Int)) (b := Me 1 (r0 : Int)) (tgt := 156) hx hb d_Mo_oneMinute_142 (by decide) (by omega) (fun hb_25 => ?_) (fun hb_26 => ?_)
                      · skip
                        refine lv_aload_n hx hb d_Mo_oneMinute_156 rfl (lv_at hl 1 rfl) ?_
                        refine z_getr hx hb iw_Mo hown hK hX 0 rfl rfl 7 (by decide) tw_505 (fun _ h => h) 4 rfl d_Mo_oneMinute_157 ?_
                        refine lv_iload_n hx hb d_Mo_oneMinute_160 rfl (lv_at hl 0 rfl) ?_
                        refine z_iald (i := (r0 : Int)) (v := Me 4 (r0 : Int)) hx hb hK hX 4 rfl (by omega) (by decide) rfl d_Mo_oneMinute_161 (fun rg_27 => ?_)
                        refine z_iast (i := (r0 : Int)) (v := Me 4 (r0 : Int)) hx hb hK hX hS 4 rfl (by omega) (by decide) (by omega) d_Mo_oneMinute_162 (fun H locs hX hS => ?_)
                        refine z_iinc (lv' := [(1, .int (zI ((r0 : Int) + 1))), (0, .ref (ad 0))]) hx hb d_Mo_oneMinute_163 hl (k := 0) rfl (by decide) rfl (fun ls hl => ?_)
                        refine lv_goto (tgt := 81) hx hb d_Mo_oneMinute_166 (by decide) ?_
                        exact ih81 (r0 + 1) _ _ _ (by omega) (by omega) (by have e9 : nEndN (nMinP sd M) (r0 + 1) = zU (zU Me 3 (r0 : Int) (Me 2 (r0 : Int))) 4 (r0 : Int) (Me 4 (r0 : Int)) := (by show nEndI (nEndN (nMinP sd M) r0) r0 = _; rw [hMe]; unfold nEndI; first | rw [if_pos (by omega), if_pos (by omega)] | rw [if_pos (by omega), if_neg (by omega)] | rw [if_neg (by omega), if_pos (by omega)] | rw [if_neg (by omega), if_neg (by omega)]); rw [e9]; exact hX) hS (lv_sub hl [0, 1] rfl)
                      · skip
                        refine lv_aload_n hx hb d_Mo_oneMinute_145 rfl (lv_at hl 1 rfl) ?_
                        refine z_getr hx hb iw_Mo hown hK hX 0 rfl rfl 7 (by decide) tw_505 (fun _ h => h) 4 rfl d_Mo_oneMinute_146 ?_
                        refine lv_iload_n hx hb d_Mo_oneMinute_149 rfl (lv_at hl 0 rfl) ?_
                        refine z_iald (i := (r0 : Int)) (v := Me 4 (r0 : Int)) hx hb hK hX 4 rfl (by omega) (by decide) rfl d_Mo_oneMinute_150 (fun rg_28 => ?_)
                        refine z_const hx hb d_Mo_oneMinute_151 ?_
                        refine z_iadd hx hb d_Mo_oneMinute_152 ?_
                        refine lv_goto (tgt := 162) hx hb d_Mo_oneMinute_153 (by decide) ?_
                        refine z_iastw (i := (r0 : Int)) (v := (Me 4 (r0 : Int)) + 1) hx hb hK hX hS 4 rfl (by omega) (by decide) d_Mo_oneMinute_162 (fun H locs hX hS => ?_)
                        refine z_iinc (lv' := [(1, .int (zI ((r0 : Int) + 1))), (0, .ref (ad 0))]) hx hb d_Mo_oneMinute_163 hl (k := 0) rfl (by decide) rfl (fun ls hl => ?_)
                        refine lv_goto (tgt := 81) hx hb d_Mo_oneMinute_166 (by decide) ?_
                        exact ih81 (r0 + 1) _ _ _ (by omega) (by omega) (by have e9 : nEndN (nMinP sd M) (r0 + 1) = zU (zU Me 3 (r0 : Int) (Me 2 (r0 : Int))) 4 (r0 : Int) (bm ((Me 4 (r0 : Int)) + 1)) := (by show nEndI (nEndN (nMinP sd M) r0) r0 = _; rw [hMe]; unfold nEndI; first | rw [if_pos (by omega), if_pos (by omega)] | rw [if_pos (by omega), if_neg (by omega)] | rw [if_neg (by omega), if_pos (by omega)] | rw [if_neg (by omega), if_neg (by omega)]); rw [e9]; exact hX) hS (lv_sub hl [0, 1] rfl)
              exact loop81 _ 0 _ _ _ (by omega) (Nat.lt_succ_self _) (by have e9 : nMinP sd M = Mq := (by unfold nMinP; rw [← hMq, show i = (M 0 16).toNat by omega]); show zX D (nL sd) ad cI (nMinP sd M) H; rw [e9]; exact hX) hS (lv_sub hl [0, 1] rfl)
            · skip
              refine lv_aload_n hx hb d_Mo_oneMinute_33 rfl (lv_at hl 1 rfl) ?_
              refine z_getr hx hb iw_Mo hown hK hX 0 rfl rfl 17 (by decide) tw_515 (fun _ h => h) 12 rfl d_Mo_oneMinute_34 ?_
              refine lv_iload_n hx hb d_Mo_oneMinute_37 rfl (lv_at hl 0 rfl) ?_
              refine z_iald (i := (i : Int)) (v := Mq 12 (i : Int)) hx hb hK hX 12 rfl (by omega) (by decide) rfl d_Mo_oneMinute_38 (fun rg_29 => ?_)
              refine lv_aload_n hx hb d_Mo_oneMinute_39 rfl (lv_at hl 1 rfl) ?_
              refine z_geti (i := 2) (v := Mq 0 2) hx hb iw_Mo hown hK hX 0 rfl rfl 2 (by decide) tw_500 (fun _ h => h) rfl rfl rfl d_Mo_oneMinute_40 (fun rg_30 => ?_)
              refine z_icmp_gt (a := Mq 12 (i : Int)) (b := Mq 0 2) (tgt := 51) hx hb d_Mo_oneMinute_43 (by decide) (by omega) (fun hb_31 => ?_) (fun hb_32 => ?_)
              · skip
                refine lv_aload_n hx hb d_Mo_oneMinute_51 rfl (lv_at hl 1 rfl) ?_
                refine z_getr hx hb iw_Mo hown hK hX 0 rfl rfl 20 (by decide) tw_518 (fun _ h => h) 15 rfl d_Mo_oneMinute_52 ?_
                refine z_sipush hx hb d_Mo_oneMinute_55 (by decide) ?_
                refine lv_iload_n hx hb d_Mo_oneMinute_58 rfl (lv_at hl 0 rfl) ?_
                refine z_imul hx hb d_Mo_oneMinute_59 ?_
                refine lv_aload_n hx hb d_Mo_oneMinute_60 rfl (lv_at hl 1 rfl) ?_
                refine z_geti (i := 2) (v := Mq 0 2) hx hb iw_Mo hown hK hX 0 rfl rfl 2 (by decide) tw_500 (fun _ h => h) rfl rfl rfl d_Mo_oneMinute_61 (fun rg_33 => ?_)
                refine z_iadd hx hb d_Mo_oneMinute_64 ?_
                refine lv_aload_n hx hb d_Mo_oneMinute_65 rfl (lv_at hl 1 rfl) ?_
                refine z_getr hx hb iw_Mo hown hK hX 0 rfl rfl 18 (by decide) tw_516 (fun _ h => h) 13 rfl d_Mo_oneMinute_66 ?_
                refine lv_iload_n hx hb d_Mo_oneMinute_69 rfl (lv_at hl 0 rfl) ?_
                refine z_iald (i := (i : Int)) (v := Mq 13 (i : Int)) hx hb hK hX 13 rfl (by omega) (by decide) rfl d_Mo_oneMinute_70 (fun rg_34 => ?_)
                refine z_i2b (v := Mq 13 (i : Int)) hx hb (by omega) d_Mo_oneMinute_71 ?_
                refine z_bast (i := (2000 * (i : Int)) + (Mq 0 2)) (v := Mq 13 (i : Int)) hx hb hK hX hS 15 rfl (by omega) (by decide) (by omega) d_Mo_oneMinute_72 (fun H locs hX hS => ?_)
                refine z_iinc (lv' := [(1, .int (zI ((i : Int) + 1))), (0, .ref (ad 0))]) hx hb d_Mo_oneMinute_73 hl (k := 0) rfl (by decide) rfl (fun ls hl => ?_)
                refine lv_goto (tgt := 25) hx hb d_Mo_oneMinute_76 (by decide) ?_
                exact ih25 (i + 1) _ _ _ (by omega) (by omega) (by have e9 : nPersN sd (nGoneN M (M 0 9).toNat) (i + 1) = zU Mq 15 ((2000 * (i : Int)) + (Mq 0 2)) (Mq 13 (i : Int)) := (by show nPast (nPersI sd (nPersN sd (nGoneN M (M 0 9).toNat) i) i) i = _; rw [hMq]; unfold nPersI nPast; first | rw [if_pos (by omega)] | rw [if_neg (by omega)]); rw [e9]; exact hX) hS (lv_sub hl [0, 1] rfl)
              · skip
                refine lv_aload_n hx hb d_Mo_oneMinute_46 rfl (lv_at hl 1 rfl) ?_
                refine lv_iload_n hx hb d_Mo_oneMinute_47 rfl (lv_at hl 0 rfl) ?_
                refine z_callVv hF (m_step l D ad cI sd Mq (i : Int) (by omega) (by have a1 := p9.2.2.2.2.1; have a2 := p9.1; omega) (p9.2.2.2.2.2.2.2.2 _ (by omega) (by omega)) p9.2.1 p9.2.2.2.2.2.1 (p9.2.2.2.2.2.2.2.1 _ (by omega) (by omega))) (hK.cV 1 tw_629 tw_626 tw_7 tw_628 ts_33 (by decide +kernel) rfl rfl ⟨Nat.le_of_ble_eq_true rfl, Nat.le_of_ble_eq_true rfl⟩) hK hX hS rfl rfl rfl hl.1 rfl (Nat.le_of_ble_eq_true rfl) d_Mo_oneMinute_48 ⟨Nat.le_of_ble_eq_true rfl, Nat.le_of_ble_eq_true rfl⟩ (fun u H locs hp hX hS => ?_)
                rw [hp] at hX
                refine lv_aload_n hx hb d_Mo_oneMinute_51 rfl (lv_at hl 1 rfl) ?_
                refine z_getr hx hb iw_Mo hown hK hX 0 rfl rfl 20 (by decide) tw_518 (fun _ h => h) 15 rfl d_Mo_oneMinute_52 ?_
                refine z_sipush hx hb d_Mo_oneMinute_55 (by decide) ?_
                refine lv_iload_n hx hb d_Mo_oneMinute_58 rfl (lv_at hl 0 rfl) ?_
                refine z_imul hx hb d_Mo_oneMinute_59 ?_
                refine lv_aload_n hx hb d_Mo_oneMinute_60 rfl (lv_at hl 1 rfl) ?_
                refine z_geti (i := 2) (v := (nStep sd Mq (i : Int)) 0 2) hx hb iw_Mo hown hK hX 0 rfl rfl 2 (by decide) tw_500 (fun _ h => h) rfl rfl rfl d_Mo_oneMinute_61 (fun rg_35 => ?_)
                refine z_iadd hx hb d_Mo_oneMinute_64 ?_
                refine lv_aload_n hx hb d_Mo_oneMinute_65 rfl (lv_at hl 1 rfl) ?_
                refine z_getr hx hb iw_Mo hown hK hX 0 rfl rfl 18 (by decide) tw_516 (fun _ h => h) 13 rfl d_Mo_oneMinute_66 ?_
                refine lv_iload_n hx hb d_Mo_oneMinute_69 rfl (lv_at hl 0 rfl) ?_
                refine z_iald (i := (i : Int)) (v := (nStep sd Mq (i : Int)) 13 (i : Int)) hx hb hK hX 13 rfl (by omega) (by decide) rfl d_Mo_oneMinute_70 (fun rg_36 => ?_)
                refine z_i2b (v := (nStep sd Mq (i : Int)) 13 (i : Int)) hx hb (by omega) d_Mo_oneMinute_71 ?_
                refine z_bast (i := (2000 * (i : Int)) + ((nStep sd Mq (i : Int)) 0 2)) (v := (nStep sd Mq (i : Int)) 13 (i : Int)) hx hb hK hX hS 15 rfl (by omega) (by decide) (by omega) d_Mo_oneMinute_72 (fun H locs hX hS => ?_)
                refine z_iinc (lv' := [(1, .int (zI ((i : Int) + 1))), (0, .ref (ad 0))]) hx hb d_Mo_oneMinute_73 hl (k := 0) rfl (by decide) rfl (fun ls hl => ?_)
                refine lv_goto (tgt := 25) hx hb d_Mo_oneMinute_76 (by decide) ?_
                exact ih25 (i + 1) _ _ _ (by omega) (by omega) (by have e9 : nPersN sd (nGoneN M (M 0 9).toNat) (i + 1) = zU (nStep sd Mq (i : Int)) 15 ((2000 * (i : Int)) + ((nStep sd Mq (i : Int)) 0 2)) ((nStep sd Mq (i : Int)) 13 (i : Int)) := (by show nPast (nPersI sd (nPersN sd (nGoneN M (M 0 9).toNat) i) i) i = _; rw [hMq]; unfold nPersI nPast; first | rw [if_pos (by omega)] | rw [if_neg (by omega)]); rw [e9]; exact hX) hS (lv_sub hl [0, 1] rfl)
        exact loop25 _ 0 _ _ _ (by omega) (Nat.lt_succ_self _) (by show zX D (nL sd) ad cI (nGoneN M (M 0 9).toNat) H; rw [show (M 0 9).toNat = k by omega]; exact hX) hS (lv_sub hl [0, 1] rfl)
      · skip
        refine lv_aload_n hx hb d_Mo_oneMinute_10 rfl (lv_at hl 1 rfl) ?_
        refine z_getr hx hb iw_Mo hown hK hX 0 rfl rfl 13 (by decide) tw_511 (fun _ h => h) 9 rfl d_Mo_oneMinute_11 ?_
        refine lv_iload_n hx hb d_Mo_oneMinute_14 rfl (lv_at hl 0 rfl) ?_
        refine z_const hx hb d_Mo_oneMinute_15 ?_
        refine z_iastw (i := (k : Int)) (v := 0) hx hb hK hX hS 9 rfl (by omega) (by decide) d_Mo_oneMinute_16 (fun H locs hX hS => ?_)
        refine z_iinc (lv' := [(1, .int (zI ((k : Int) + 1))), (0, .ref (ad 0))]) hx hb d_Mo_oneMinute_17 hl (k := 0) rfl (by decide) rfl (fun ls hl => ?_)
        refine lv_goto (tgt := 2) hx hb d_Mo_oneMinute_20 (by decide) ?_
        exact ih2 (k + 1) _ _ _ (by omega) (by omega) hX hS (lv_sub hl [0, 1] rfl)
  exact loop2 _ 0 _ _ _ (by omega) (Nat.lt_succ_self _) hX hS (lv_sub hl [0, 1] rfl)

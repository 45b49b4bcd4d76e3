/-! The law's cases -/
set_option maxHeartbeats 800000 in
set_option maxRecDepth 100000 in
theorem lw_c_room {p : Program} {l : Launch} {e : Env} {s : State} {m : MethodId} {args : Array Value} {below : List Frame} {meth : Method} {c : Code} {H : Heap} {locs : List Loc} {cells slots : Nat} {Q : State → Prop} {ls : Array Slot} {D : va_G} {cI : Nat → ClassId} {sd : Int64} {b L : Nat} {xs : Nat → Int32} {adC adN : Nat → Nat} {qo : Nat} {M N : zM} {f : Nat → Int64} (hlt : l.stackTraces = false) (Z : lwZ D cI sd b L xs adC adN qo p s m meth c) (I : lwI D cI sd adC adN qo s M N f H locs) (hs : sSim sd M N) {i : Int} (hi : 1 ≤ i ∧ i + 3 < L) (hl : lv_has ls 7 [(0, .ref b), (1, .ref (adC 0)), (2, .ref (adN 0)), (3, .ref qo), (4, .int (zI i))]) (hc : cells + 5 ≤ room_1.cells) (hsl : slots + 30 ≤ room_1.slots)
    (kk : ∀ (M : zM) (N : zM) (f : Nat → Int64) (H : Heap) (locs : List Loc) (ls : Array Slot), sSim sd M N → lwI D cI sd adC adN qo s M N f H locs → lv_has ls 7 [(0, .ref b), (1, .ref (adC 0)), (2, .ref (adN 0)), (3, .ref qo), (4, .int (zI i))] → W p l e room_1 s m args below meth c H locs (cells + 5) (slots + 30) Q (F0 m 1109 ls [])) : W p l e room_1 s m args below meth c H locs cells slots Q (F0 m 124 ls []) := by
  obtain ⟨hx, hb, hml, hown, hlk⟩ := id Z.1
  have hK := Z.2.1
  have hL := Z.2.2.1.2.2
  have hq := Z.2.2.2.1.2.2.2.2.1
  refine lv_aload_n hx hb d_La_law_124 rfl (lv_at hl 1 rfl) ?_
  refine lv_aload_n hx hb d_La_law_125 rfl (lv_at hl 0 rfl) ?_
  refine lv_iload hx hb d_La_law_126 (lv_at hl 4 rfl) ?_
  refine z_const hx hb d_La_law_128 ?_
  refine z_iadd hx hb d_La_law_129 ?_
  refine lw_sld (a := i + 1) Z I.2.2.2 (by omega) d_La_law_130 ?_
  refine lv_aload_n hx hb d_La_law_131 rfl (lv_at hl 3 rfl) ?_
  refine lw_help (rest := []) Z I (h_room l hlt D adC cI sd M qo f (sc xs (i + 1)) (sc_rg xs (i + 1)) hs.1.1 hq) (hK.cSW 3 tw_175 tw_173 tw_0 tw_174 (by decide +kernel) rfl rfl ⟨Nat.le_of_ble_eq_true rfl, Nat.le_of_ble_eq_true rfl⟩) rfl hl.1 rfl (Nat.le_of_ble_eq_true rfl) d_La_law_132 ⟨by omega, by omega⟩ (fun k w u f1 H locs hk hp hw h0 I => ?_)
  refine lv_istore (lv' := [(5, .int (zI k)), (0, .ref b), (1, .ref (adC 0)), (2, .ref (adN 0)), (3, .ref qo), (4, .int (zI i))]) hx hb d_La_law_135 hl (by decide) rfl (fun ls hl => ?_)
  refine W.widen (k := cells + 5) (n := slots + 30) (by omega) (by omega) ?_
  refine lv_aload_n hx hb d_La_law_137 rfl (lv_at hl 3 rfl) ?_
  refine lv_aload_n hx hb d_La_law_138 rfl (lv_at hl 1 rfl) ?_
  refine lv_iload hx hb d_La_law_139 (lv_at hl 5 rfl) ?_
  refine z_const hx hb d_La_law_141 ?_
  refine z_iadd hx hb d_La_law_142 ?_
  refine lw_sld (a := i + 1) Z I.2.2.2 (by omega) d_La_law_143 ?_
  refine lw_ref (rest := []) Z I (m_room l D adN cI sd N (sc xs (i + 1)) (sc_rg xs (i + 1)) hs.1.2.1) (hK.cV 1 tw_575 tw_572 tw_7 tw_573 tw_574 (by decide +kernel) rfl rfl ⟨Nat.le_of_ble_eq_true rfl, Nat.le_of_ble_eq_true rfl⟩) rfl hl.1 rfl (Nat.le_of_ble_eq_true rfl) d_La_law_144 ⟨hc, hsl⟩ (fun z u2 H locs hz hr I => ?_)
  have ho := op_room hs hp hr
  exact lw_tail Z I ho hk hw hz h0 hl ⟨hc, hsl⟩ d_La_law_147 d_La_law_149 d_La_law_150 d_La_law_153 d_La_law_155 d_La_law_160 d_La_law_162 d_La_law_165 d_La_law_166 d_La_law_167 d_La_law_168 d_La_law_170 d_La_law_171 d_La_law_172 d_La_law_177 (by decide) (fun H locs ls I hl => kk _ _ _ _ _ _ ho.1 I hl)
set_option maxHeartbeats 800000 in
set_option maxRecDepth 100000 in
theorem lw_c_door {p : Program} {l : Launch} {e : Env} {s : State} {m : MethodId} {args : Array Value} {below : List Frame} {meth : Method} {c : Code} {H : Heap} {locs : List Loc} {cells slots : Nat} {Q : State → Prop} {ls : Array Slot} {D : va_G} {cI : Nat → ClassId} {sd : Int64} {b L : Nat} {xs : Nat → Int32} {adC adN : Nat → Nat} {qo : Nat} {M N : zM} {f : Nat → Int64} (hlt : l.stackTraces = false) (Z : lwZ D cI sd b L xs adC adN qo p s m meth c) (I : lwI D cI sd adC adN qo s M N f H locs) (hs : sSim sd M N) {i : Int} (hi : 1 ≤ i ∧ i + 3 < L) (hl : lv_has ls 7 [(0, .ref b), (1, .ref (adC 0)), (2, .ref (adN 0)), (3, .ref qo), (4, .int (zI i))]) (hc : cells + 5 ≤ room_1.cells) (hsl : slots + 30 ≤ room_1.slots)
    (kk : ∀ (M : zM) (N : zM) (f : Nat → Int64) (H : Heap) (locs : List Loc) (ls : Array Slot), sSim sd M N → lwI D cI sd adC adN qo s M N f H locs → lv_has ls 7 [(0, .ref b), (1, .ref (adC 0)), (2, .ref (adN 0)), (3, .ref qo), (4, .int (zI i))] → W p l e room_1 s m args below meth c H locs (cells + 5) (slots + 30) Q (F0 m 1109 ls [])) : W p l e room_1 s m args below meth c H locs cells slots Q (F0 m 180 ls []) := by
  obtain ⟨hx, hb, hml, hown, hlk⟩ := id Z.1
  have hK := Z.2.1
  have hL := Z.2.2.1.2.2
  have hq := Z.2.2.2.1.2.2.2.2.1
  refine lv_aload_n hx hb d_La_law_180 rfl (lv_at hl 1 rfl) ?_
  refine lv_aload_n hx hb d_La_law_181 rfl (lv_at hl 0 rfl) ?_
  refine lv_iload hx hb d_La_law_182 (lv_at hl 4 rfl) ?_
  refine z_const hx hb d_La_law_184 ?_
  refine z_iadd hx hb d_La_law_185 ?_
  refine lw_sld (a := i + 1) Z I.2.2.2 (by omega) d_La_law_186 ?_
  refine lv_aload_n hx hb d_La_law_187 rfl (lv_at hl 0 rfl) ?_
  refine lv_iload hx hb d_La_law_188 (lv_at hl 4 rfl) ?_
  refine z_const hx hb d_La_law_190 ?_
  refine z_iadd hx hb d_La_law_191 ?_
  refine lw_sld (a := i + 2) Z I.2.2.2 (by omega) d_La_law_192 ?_
  refine lv_aload_n hx hb d_La_law_193 rfl (lv_at hl 0 rfl) ?_
  refine lv_iload hx hb d_La_law_194 (lv_at hl 4 rfl) ?_
  refine z_const hx hb d_La_law_196 ?_
  refine z_iadd hx hb d_La_law_197 ?_
  refine lw_sld (a := i + 3) Z I.2.2.2 (by omega) d_La_law_198 ?_
  refine lv_aload_n hx hb d_La_law_199 rfl (lv_at hl 3 rfl) ?_
  refine lw_help (rest := []) Z I (h_door l hlt D adC cI sd M qo f (sc xs (i + 1)) (sc xs (i + 2)) (sc xs (i + 3)) (sc_rg xs (i + 1)) (sc_rg xs (i + 2)) (sc_rg xs (i + 3)) hs.1.1 hq) (hK.cSW 5 tw_288 tw_286 tw_0 tw_287 (by decide +kernel) rfl rfl ⟨Nat.le_of_ble_eq_true rfl, Nat.le_of_ble_eq_true rfl⟩) rfl hl.1 rfl (Nat.le_of_ble_eq_true rfl) d_La_law_200 ⟨by omega, by omega⟩ (fun k w u f1 H locs hk hp hw h0 I => ?_)
  refine lv_istore (lv' := [(5, .int (zI k)), (0, .ref b), (1, .ref (adC 0)), (2, .ref (adN 0)), (3, .ref qo), (4, .int (zI i))]) hx hb d_La_law_203 hl (by decide) rfl (fun ls hl => ?_)
  refine W.widen (k := cells + 5) (n := slots + 30) (by omega) (by omega) ?_
  refine lv_aload_n hx hb d_La_law_205 rfl (lv_at hl 3 rfl) ?_
  refine lv_aload_n hx hb d_La_law_206 rfl (lv_at hl 1 rfl) ?_
  refine lv_iload hx hb d_La_law_207 (lv_at hl 5 rfl) ?_
  refine z_const hx hb d_La_law_209 ?_
  refine z_iadd hx hb d_La_law_210 ?_
  refine lw_sld (a := i + 1) Z I.2.2.2 (by omega) d_La_law_211 ?_
  refine lv_aload_n hx hb d_La_law_212 rfl (lv_at hl 1 rfl) ?_
  refine lv_iload hx hb d_La_law_213 (lv_at hl 5 rfl) ?_
  refine z_const hx hb d_La_law_215 ?_
  refine z_iadd hx hb d_La_law_216 ?_
  refine lw_sld (a := i + 2) Z I.2.2.2 (by omega) d_La_law_217 ?_
  refine lv_aload_n hx hb d_La_law_218 rfl (lv_at hl 1 rfl) ?_
  refine lv_iload hx hb d_La_law_219 (lv_at hl 5 rfl) ?_
  refine z_const hx hb d_La_law_221 ?_
  refine z_iadd hx hb d_La_law_222 ?_
  refine lw_sld (a := i + 3) Z I.2.2.2 (by omega) d_La_law_223 ?_
  refine lw_ref (rest := []) Z I (m_door l D adN cI sd N (sc xs (i + 1)) (sc xs (i + 2)) (sc xs (i + 3)) (sc_rg xs (i + 1)) (sc_rg xs (i + 2)) (sc_rg xs (i + 3)) hs.1.2.1) (hK.cV 3 tw_587 tw_584 tw_7 tw_585 tw_586 (by decide +kernel) rfl rfl ⟨Nat.le_of_ble_eq_true rfl, Nat.le_of_ble_eq_true rfl⟩) rfl hl.1 rfl (Nat.le_of_ble_eq_true rfl) d_La_law_224 ⟨hc, hsl⟩ (fun z u2 H locs hz hr I => ?_)
  have ho := op_door hs hp hr
  exact lw_tail Z I ho hk hw hz h0 hl ⟨hc, hsl⟩ d_La_law_227 d_La_law_229 d_La_law_230 d_La_law_233 d_La_law_235 d_La_law_240 d_La_law_242 d_La_law_245 d_La_law_246 d_La_law_247 d_La_law_248 d_La_law_250 d_La_law_251 d_La_law_252 d_La_law_257 (by decide) (fun H locs ls I hl => kk _ _ _ _ _ _ ho.1 I hl)
set_option maxHeartbeats 800000 in
set_option maxRecDepth 100000 in
theorem lw_c_arrives {p : Program} {l : Launch} {e : Env} {s : State} {m : MethodId} {args : Array Value} {below : List Frame} {meth : Method} {c : Code} {H : Heap} {locs : List Loc} {cells slots : Nat} {Q : State → Prop} {ls : Array Slot} {D : va_G} {cI : Nat → ClassId} {sd : Int64} {b L : Nat} {xs : Nat → Int32} {adC adN : Nat → Nat} {qo : Nat} {M N : zM} {f : Nat → Int64} (hlt : l.stackTraces = false) (Z : lwZ D cI sd b L xs adC adN qo p s m meth c) (I : lwI D cI sd adC adN qo s M N f H locs) (hs : sSim sd M N) {i : Int} (hi : 1 ≤ i ∧ i + 3 < L) (hl : lv_has ls 7 [(0, .ref b), (1, .ref (adC 0)), (2, .ref (adN 0)), (3, .ref qo), (4, .int (zI i))]) (hc : cells + 5 ≤ room_1.cells) (hsl : slots + 30 ≤ room_1.slots)
    (kk : ∀ (M : zM) (N : zM) (f : Nat → Int64) (H : Heap) (locs : List Loc) (ls : Array Slot), sSim sd M N → lwI D cI sd adC adN qo s M N f H locs → lv_has ls 7 [(0, .ref b), (1, .ref (adC 0)), (2, .ref (adN 0)), (3, .ref qo), (4, .int (zI i))] → W p l e room_1 s m args below meth c H locs (cells + 5) (slots + 30) Q (F0 m 1109 ls [])) : W p l e room_1 s m args below meth c H locs cells slots Q (F0 m 260 ls []) := by
  obtain ⟨hx, hb, hml, hown, hlk⟩ := id Z.1
  have hK := Z.2.1
  have hL := Z.2.2.1.2.2
  have hq := Z.2.2.2.1.2.2.2.2.1
  refine lv_aload_n hx hb d_La_law_260 rfl (lv_at hl 1 rfl) ?_
  refine lv_aload_n hx hb d_La_law_261 rfl (lv_at hl 0 rfl) ?_
  refine lv_iload hx hb d_La_law_262 (lv_at hl 4 rfl) ?_
  refine z_const hx hb d_La_law_264 ?_
  refine z_iadd hx hb d_La_law_265 ?_
  refine lw_sld (a := i + 1) Z I.2.2.2 (by omega) d_La_law_266 ?_
  refine lv_aload_n hx hb d_La_law_267 rfl (lv_at hl 0 rfl) ?_
  refine lv_iload hx hb d_La_law_268 (lv_at hl 4 rfl) ?_
  refine z_const hx hb d_La_law_270 ?_
  refine z_iadd hx hb d_La_law_271 ?_
  refine lw_sld (a := i + 2) Z I.2.2.2 (by omega) d_La_law_272 ?_
  refine lv_aload_n hx hb d_La_law_273 rfl (lv_at hl 3 rfl) ?_
  refine lw_help (rest := []) Z I (h_arrives l hlt D adC cI sd M qo f (sc xs (i + 1)) (sc xs (i + 2)) (sc_rg xs (i + 1)) (sc_rg xs (i + 2)) hs.1.1 hq) (hK.cSW 4 tw_318 tw_316 tw_0 tw_317 (by decide +kernel) rfl rfl ⟨Nat.le_of_ble_eq_true rfl, Nat.le_of_ble_eq_true rfl⟩) rfl hl.1 rfl (Nat.le_of_ble_eq_true rfl) d_La_law_274 ⟨by omega, by omega⟩ (fun k w u f1 H locs hk hp hw h0 I => ?_)
  refine lv_istore (lv' := [(5, .int (zI k)), (0, .ref b), (1, .ref (adC 0)), (2, .ref (adN 0)), (3, .ref qo), (4, .int (zI i))]) hx hb d_La_law_277 hl (by decide) rfl (fun ls hl => ?_)
  refine W.widen (k := cells + 5) (n := slots + 30) (by omega) (by omega) ?_
  refine lv_aload_n hx hb d_La_law_279 rfl (lv_at hl 3 rfl) ?_
  refine lv_aload_n hx hb d_La_law_280 rfl (lv_at hl 1 rfl) ?_
  refine lv_iload hx hb d_La_law_281 (lv_at hl 5 rfl) ?_
  refine z_const hx hb d_La_law_283 ?_
  refine z_iadd hx hb d_La_law_284 ?_
  refine lw_sld (a := i + 1) Z I.2.2.2 (by omega) d_La_law_285 ?_
  refine lv_aload_n hx hb d_La_law_286 rfl (lv_at hl 1 rfl) ?_
  refine lv_iload hx hb d_La_law_287 (lv_at hl 5 rfl) ?_
  refine z_const hx hb d_La_law_289 ?_
  refine z_iadd hx hb d_La_law_290 ?_
  refine lw_sld (a := i + 2) Z I.2.2.2 (by omega) d_La_law_291 ?_
  refine lw_ref (rest := []) Z I (m_arrives l D adN cI sd N (sc xs (i + 1)) (sc xs (i + 2)) (sc_rg xs (i + 1)) (sc_rg xs (i + 2)) hs.1.2.1) (hK.cV 2 tw_600 tw_597 tw_7 tw_598 tw_599 (by decide +kernel) rfl rfl ⟨Nat.le_of_ble_eq_true rfl, Nat.le_of_ble_eq_true rfl⟩) rfl hl.1 rfl (Nat.le_of_ble_eq_true rfl) d_La_law_292 ⟨hc, hsl⟩ (fun z u2 H locs hz hr I => ?_)
  have ho := op_arrives hs hp hr
  exact lw_tail Z I ho hk hw hz h0 hl ⟨hc, hsl⟩ d_La_law_295 d_La_law_297 d_La_law_298 d_La_law_301 d_La_law_303 d_La_law_308 d_La_law_310 d_La_law_313 d_La_law_314 d_La_law_315 d_La_law_316 d_La_law_318 d_La_law_319 d_La_law_320 d_La_law_325 (by decide) (fun H locs ls I hl => kk _ _ _ _ _ _ ho.1 I hl)
set_option maxHeartbeats 800000 in
set_option maxRecDepth 100000 in
theorem lw_c_draw {p : Program} {l : Launch} {e : Env} {s : State} {m : MethodId} {args : Array Value} {below : List Frame} {meth : Method} {c : Code} {H : Heap} {locs : List Loc} {cells slots : Nat} {Q : State → Prop} {ls : Array Slot} {D : va_G} {cI : Nat → ClassId} {sd : Int64} {b L : Nat} {xs : Nat → Int32} {adC adN : Nat → Nat} {qo : Nat} {M N : zM} {f : Nat → Int64} (hlt : l.stackTraces = false) (Z : lwZ D cI sd b L xs adC adN qo p s m meth c) (I : lwI D cI sd adC adN qo s M N f H locs) (hs : sSim sd M N) {i : Int} (hi : 1 ≤ i ∧ i + 3 < L) (hl : lv_has ls 7 [(0, .ref b), (1, .ref (adC 0)), (2, .ref (adN 0)), (3, .ref qo), (4, .int (zI i))]) (hc : cells + 5 ≤ room_1.cells) (hsl : slots + 30 ≤ room_1.slots)
    (kk : ∀ (M : zM) (N : zM) (f : Nat → Int64) (H : Heap) (locs : List Loc) (ls : Array Slot), sSim sd M N → lwI D cI sd adC adN qo s M N f H locs → lv_has ls 7 [(0, .ref b), (1, .ref (adC 0)), (2, .ref (adN 0)), (3, .ref qo), (4, .int (zI i))] → W p l e room_1 s m args below meth c H locs (cells + 5) (slots + 30) Q (F0 m 1109 ls [])) : W p l e room_1 s m args below meth c H locs cells slots Q (F0 m 328 ls []) := by
  obtain ⟨hx, hb, hml, hown, hlk⟩ := id Z.1
  have hK := Z.2.1
  have hL := Z.2.2.1.2.2
  have hq := Z.2.2.2.1.2.2.2.2.1
  refine lv_aload_n hx hb d_La_law_328 rfl (lv_at hl 1 rfl) ?_
  refine lv_aload_n hx hb d_La_law_329 rfl (lv_at hl 0 rfl) ?_
  refine lv_iload hx hb d_La_law_330 (lv_at hl 4 rfl) ?_
  refine z_const hx hb d_La_law_332 ?_
  refine z_iadd hx hb d_La_law_333 ?_
  refine lw_sld (a := i + 1) Z I.2.2.2 (by omega) d_La_law_334 ?_
  refine lv_aload_n hx hb d_La_law_335 rfl (lv_at hl 0 rfl) ?_
  refine lv_iload hx hb d_La_law_336 (lv_at hl 4 rfl) ?_
  refine z_const hx hb d_La_law_338 ?_
  refine z_iadd hx hb d_La_law_339 ?_
  refine lw_sld (a := i + 2) Z I.2.2.2 (by omega) d_La_law_340 ?_
  refine lv_aload_n hx hb d_La_law_341 rfl (lv_at hl 0 rfl) ?_
  refine lv_iload hx hb d_La_law_342 (lv_at hl 4 rfl) ?_
  refine z_const hx hb d_La_law_344 ?_
  refine z_iadd hx hb d_La_law_345 ?_
  refine lw_sld (a := i + 3) Z I.2.2.2 (by omega) d_La_law_346 ?_
  refine lv_aload_n hx hb d_La_law_347 rfl (lv_at hl 3 rfl) ?_
  refine lw_help (rest := []) Z I (h_draw l hlt D adC cI sd M qo f (sc xs (i + 1)) (sc xs (i + 2)) (sc xs (i + 3)) (sc_rg xs (i + 1)) (sc_rg xs (i + 2)) (sc_rg xs (i + 3)) hs.1.1 hq) (hK.cSW 5 tw_329 tw_327 tw_0 tw_328 (by decide +kernel) rfl rfl ⟨Nat.le_of_ble_eq_true rfl, Nat.le_of_ble_eq_true rfl⟩) rfl hl.1 rfl (Nat.le_of_ble_eq_true rfl) d_La_law_348 ⟨by omega, by omega⟩ (fun k w u f1 H locs hk hp hw h0 I => ?_)
  refine lv_istore (lv' := [(5, .int (zI k)), (0, .ref b), (1, .ref (adC 0)), (2, .ref (adN 0)), (3, .ref qo), (4, .int (zI i))]) hx hb d_La_law_351 hl (by decide) rfl (fun ls hl => ?_)
  refine W.widen (k := cells + 5) (n := slots + 30) (by omega) (by omega) ?_
  refine lv_aload_n hx hb d_La_law_353 rfl (lv_at hl 3 rfl) ?_
  refine lv_aload_n hx hb d_La_law_354 rfl (lv_at hl 1 rfl) ?_
  refine lv_iload hx hb d_La_law_355 (lv_at hl 5 rfl) ?_
  refine z_const hx hb d_La_law_357 ?_
  refine z_iadd hx hb d_La_law_358 ?_
  refine lw_sld (a := i + 1) Z I.2.2.2 (by omega) d_La_law_359 ?_
  refine lv_aload_n hx hb d_La_law_360 rfl (lv_at hl 1 rfl) ?_
  refine lv_iload hx hb d_La_law_361 (lv_at hl 5 rfl) ?_
  refine z_const hx hb d_La_law_363 ?_
  refine z_iadd hx hb d_La_law_364 ?_
  refine lw_sld (a := i + 2) Z I.2.2.2 (by omega) d_La_law_365 ?_
  refine lv_aload_n hx hb d_La_law_366 rfl (lv_at hl 1 rfl) ?_
  refine lv_iload hx hb d_La_law_367 (lv_at hl 5 rfl) ?_
  refine z_const hx hb d_La_law_369 ?_
  refine z_iadd hx hb d_La_law_370 ?_
  refine lw_sld (a := i + 3) Z I.2.2.2 (by omega) d_La_law_371 ?_
  refine lw_ref (rest := []) Z I (m_draw l D adN cI sd N (sc xs (i + 1)) (sc xs (i + 2)) (sc xs (i + 3)) (sc_rg xs (i + 1)) (sc_rg xs (i + 2)) (sc_rg xs (i + 3))) (hK.cV 3 tw_605 tw_602 tw_7 tw_603 tw_604 (by decide +kernel) rfl rfl ⟨Nat.le_of_ble_eq_true rfl, Nat.le_of_ble_eq_true rfl⟩) rfl hl.1 rfl (Nat.le_of_ble_eq_true rfl) d_La_law_372 ⟨hc, hsl⟩ (fun z u2 H locs hz hr I => ?_)
  have ho := op_draw hs hp hr
  exact lw_tail Z I ho hk hw hz h0 hl ⟨hc, hsl⟩ d_La_law_375 d_La_law_377 d_La_law_378 d_La_law_381 d_La_law_383 d_La_law_388 d_La_law_390 d_La_law_393 d_La_law_394 d_La_law_395 d_La_law_396 d_La_law_398 d_La_law_399 d_La_law_400 d_La_law_405 (by decide) (fun H locs ls I hl => kk _ _ _ _ _ _ ho.1 I hl)
set_option maxHeartbeats 800000 in
set_option maxRecDepth 100000 in
theorem lw_c_run {p : Program} {l : Launch} {e : Env} {s : State} {m : MethodId} {args : Array Value} {below : List Frame} {meth : Method} {c : Code} {H : Heap} {locs : List Loc} {cells slots : Nat} {Q : State → Prop} {ls : Array Slot} {D : va_G} {cI : Nat → ClassId} {sd : Int64} {b L : Nat} {xs : Nat → Int32} {adC adN : Nat → Nat} {qo : Nat} {M N : zM} {f : Nat → Int64} (hlt : l.stackTraces = false) (Z : lwZ D cI sd b L xs adC adN qo p s m meth c) (I : lwI D cI sd adC adN qo s M N f H locs) (hs : sSim sd M N) {i : Int} (hi : 1 ≤ i ∧ i + 3 < L) (hl : lv_has ls 7 [(0, .ref b), (1, .ref (adC 0)), (2, .ref (adN 0)), (3, .ref qo), (4, .int (zI i))]) (hc : cells + 5 ≤ room_1.cells) (hsl : slots + 30 ≤ room_1.slots)
    (kk : ∀ (M : zM) (N : zM) (f : Nat → Int64) (H : Heap) (locs : List Loc) (ls : Array Slot), sSim sd M N → lwI D cI sd adC adN qo s M N f H locs → lv_has ls 7 [(0, .ref b), (1, .ref (adC 0)), (2, .ref (adN 0)), (3, .ref qo), (4, .int (zI i))] → W p l e room_1 s m args below meth c H locs (cells + 5) (slots + 30) Q (F0 m 1109 ls [])) : W p l e room_1 s m args below meth c H locs cells slots Q (F0 m 408 ls []) := by
  obtain ⟨hx, hb, hml, hown, hlk⟩ := id Z.1
  have hK := Z.2.1
  have hL := Z.2.2.1.2.2
  have hq := Z.2.2.2.1.2.2.2.2.1
  refine lv_aload_n hx hb d_La_law_408 rfl (lv_at hl 1 rfl) ?_
  refine lv_aload_n hx hb d_La_law_409 rfl (lv_at hl 0 rfl) ?_
  refine lv_iload hx hb d_La_law_410 (lv_at hl 4 rfl) ?_
  refine z_const hx hb d_La_law_412 ?_
  refine z_iadd hx hb d_La_law_413 ?_
  refine lw_sld (a := i + 1) Z I.2.2.2 (by omega) d_La_law_414 ?_
  refine lv_aload_n hx hb d_La_law_415 rfl (lv_at hl 3 rfl) ?_
  refine lw_help (rest := []) Z I (h_run l hlt D adC cI sd M qo f (sc xs (i + 1)) (sc_rg xs (i + 1)) hs.1.1 hq) (hK.cSW 3 tw_338 tw_336 tw_0 tw_337 (by decide +kernel) rfl rfl ⟨Nat.le_of_ble_eq_true rfl, Nat.le_of_ble_eq_true rfl⟩) rfl hl.1 rfl (Nat.le_of_ble_eq_true rfl) d_La_law_416 ⟨by omega, by omega⟩ (fun k w u f1 H locs hk hp hw h0 I => ?_)
  refine lv_istore (lv' := [(5, .int (zI k)), (0, .ref b), (1, .ref (adC 0)), (2, .ref (adN 0)), (3, .ref qo), (4, .int (zI i))]) hx hb d_La_law_419 hl (by decide) rfl (fun ls hl => ?_)
  refine W.widen (k := cells + 5) (n := slots + 30) (by omega) (by omega) ?_
  refine lv_aload_n hx hb d_La_law_421 rfl (lv_at hl 3 rfl) ?_
  refine lv_aload_n hx hb d_La_law_422 rfl (lv_at hl 1 rfl) ?_
  refine lv_iload hx hb d_La_law_423 (lv_at hl 5 rfl) ?_
  refine z_const hx hb d_La_law_425 ?_
  refine z_iadd hx hb d_La_law_426 ?_
  refine lw_sld (a := i + 1) Z I.2.2.2 (by omega) d_La_law_427 ?_
  refine lw_ref (rest := []) Z I (m_run l D adN cI sd N (sc xs (i + 1)) (sc_rg xs (i + 1)) hs.1.2.1) (hK.cV 1 tw_620 tw_617 tw_7 tw_618 tw_619 (by decide +kernel) rfl rfl ⟨Nat.le_of_ble_eq_true rfl, Nat.le_of_ble_eq_true rfl⟩) rfl hl.1 rfl (Nat.le_of_ble_eq_true rfl) d_La_law_428 ⟨hc, hsl⟩ (fun z u2 H locs hz hr I => ?_)
  have ho := op_run hs hp hr
  exact lw_tail Z I ho hk hw hz h0 hl ⟨hc, hsl⟩ d_La_law_431 d_La_law_433 d_La_law_434 d_La_law_437 d_La_law_439 d_La_law_444 d_La_law_446 d_La_law_449 d_La_law_450 d_La_law_451 d_La_law_452 d_La_law_454 d_La_law_455 d_La_law_456 d_La_law_461 (by decide) (fun H locs ls I hl => kk _ _ _ _ _ _ ho.1 I hl)
set_option maxHeartbeats 800000 in
set_option maxRecDepth 100000 in
theorem lw_c_person {p : Program} {l : Launch} {e : Env} {s : State} {m : MethodId} {args : Array Value} {below : List Frame} {meth : Method} {c : Code} {H : Heap} {locs : List Loc} {cells slots : Nat} {Q : State → Prop} {ls : Array Slot} {D : va_G} {cI : Nat → ClassId} {sd : Int64} {b L : Nat} {xs : Nat → Int32} {adC adN : Nat → Nat} {qo : Nat} {M N : zM} {f : Nat → Int64} (hlt : l.stackTraces = false) (Z : lwZ D cI sd b L xs adC adN qo p s m meth c) (I : lwI D cI sd adC adN qo s M N f H locs) (hs : sSim sd M N) {i : Int} (hi : 1 ≤ i ∧ i + 3 < L) (hl : lv_has ls 7 [(0, .ref b), (1, .ref (adC 0)), (2, .ref (adN 0)), (3, .ref qo), (4, .int (zI i))]) (hc : cells + 5 ≤ room_1.cells) (hsl : slots + 30 ≤ room_1.slots)
    (kk : ∀ (M : zM) (N : zM) (f : Nat → Int64) (H : Heap) (locs : List Loc) (ls : Array Slot), sSim sd M N → lwI D cI sd adC adN qo s M N f H locs → lv_has ls 7 [(0, .ref b), (1, .ref (adC 0)), (2, .ref (adN 0)), (3, .ref qo), (4, .int (zI i))] → W p l e room_1 s m args below meth c H locs (cells + 5) (slots + 30) Q (F0 m 1109 ls [])) : W p l e room_1 s m args below meth c H locs cells slots Q (F0 m 464 ls []) := by
  obtain ⟨hx, hb, hml, hown, hlk⟩ := id Z.1
  have hK := Z.2.1
  have hL := Z.2.2.1.2.2
  have hq := Z.2.2.2.1.2.2.2.2.1
  refine lv_aload_n hx hb d_La_law_464 rfl (lv_at hl 1 rfl) ?_
  refine lv_aload_n hx hb d_La_law_465 rfl (lv_at hl 0 rfl) ?_
  refine lv_iload hx hb d_La_law_466 (lv_at hl 4 rfl) ?_
  refine z_const hx hb d_La_law_468 ?_
  refine z_iadd hx hb d_La_law_469 ?_
  refine lw_sld (a := i + 1) Z I.2.2.2 (by omega) d_La_law_470 ?_
  refine lv_aload_n hx hb d_La_law_471 rfl (lv_at hl 0 rfl) ?_
  refine lv_iload hx hb d_La_law_472 (lv_at hl 4 rfl) ?_
  refine z_const hx hb d_La_law_474 ?_
  refine z_iadd hx hb d_La_law_475 ?_
  refine lw_sld (a := i + 2) Z I.2.2.2 (by omega) d_La_law_476 ?_
  refine lv_aload_n hx hb d_La_law_477 rfl (lv_at hl 3 rfl) ?_
  refine lw_help (rest := []) Z I (h_person l hlt D adC cI sd M qo f (sc xs (i + 1)) (sc xs (i + 2)) (sc_rg xs (i + 1)) (sc_rg xs (i + 2)) hs.1.1 hq) (hK.cSW 4 tw_410 tw_408 tw_0 tw_409 (by decide +kernel) rfl rfl ⟨Nat.le_of_ble_eq_true rfl, Nat.le_of_ble_eq_true rfl⟩) rfl hl.1 rfl (Nat.le_of_ble_eq_true rfl) d_La_law_478 ⟨by omega, by omega⟩ (fun k w u f1 H locs hk hp hw h0 I => ?_)
  refine lv_istore (lv' := [(5, .int (zI k)), (0, .ref b), (1, .ref (adC 0)), (2, .ref (adN 0)), (3, .ref qo), (4, .int (zI i))]) hx hb d_La_law_481 hl (by decide) rfl (fun ls hl => ?_)
  refine W.widen (k := cells + 5) (n := slots + 30) (by omega) (by omega) ?_
  refine lv_aload_n hx hb d_La_law_483 rfl (lv_at hl 3 rfl) ?_
  refine lv_aload_n hx hb d_La_law_484 rfl (lv_at hl 1 rfl) ?_
  refine lv_iload hx hb d_La_law_485 (lv_at hl 5 rfl) ?_
  refine z_const hx hb d_La_law_487 ?_
  refine z_iadd hx hb d_La_law_488 ?_
  refine lw_sld (a := i + 1) Z I.2.2.2 (by omega) d_La_law_489 ?_
  refine lv_aload_n hx hb d_La_law_490 rfl (lv_at hl 1 rfl) ?_
  refine lv_iload hx hb d_La_law_491 (lv_at hl 5 rfl) ?_
  refine z_const hx hb d_La_law_493 ?_
  refine z_iadd hx hb d_La_law_494 ?_
  refine lw_sld (a := i + 2) Z I.2.2.2 (by omega) d_La_law_495 ?_
  refine lw_ref (rest := []) Z I (m_person l D adN cI sd N (sc xs (i + 1)) (sc xs (i + 2)) (sc_rg xs (i + 1)) (sc_rg xs (i + 2)) hs.1.2.1) (hK.cV 2 tw_653 tw_650 tw_7 tw_651 tw_652 (by decide +kernel) rfl rfl ⟨Nat.le_of_ble_eq_true rfl, Nat.le_of_ble_eq_true rfl⟩) rfl hl.1 rfl (Nat.le_of_ble_eq_true rfl) d_La_law_496 ⟨hc, hsl⟩ (fun z u2 H locs hz hr I => ?_)
  have ho := op_person hs hp hr
  exact lw_tail Z I ho hk hw hz h0 hl ⟨hc, hsl⟩ d_La_law_499 d_La_law_501 d_La_law_502 d_La_law_505 d_La_law_507 d_La_law_512 d_La_law_514 d_La_law_517 d_La_law_518 d_La_law_519 d_La_law_520 d_La_law_522 d_La_law_523 d_La_law_524 d_La_law_529 (by decide) (fun H locs ls I hl => kk _ _ _ _ _ _ ho.1 I hl)
set_option maxHeartbeats 800000 in
set_option maxRecDepth 100000 in
theorem lw_c_at {p : Program} {l : Launch} {e : Env} {s : State} {m : MethodId} {args : Array Value} {below : List Frame} {meth : Method} {c : Code} {H : Heap} {locs : List Loc} {cells slots : Nat} {Q : State → Prop} {ls : Array Slot} {D : va_G} {cI : Nat → ClassId} {sd : Int64} {b L : Nat} {xs : Nat → Int32} {adC adN : Nat → Nat} {qo : Nat} {M N : zM} {f : Nat → Int64} (hlt : l.stackTraces = false) (Z : lwZ D cI sd b L xs adC adN qo p s m meth c) (I : lwI D cI sd adC adN qo s M N f H locs) (hs : sSim sd M N) {i : Int} (hi : 1 ≤ i ∧ i + 3 < L) (hl : lv_has ls 7 [(0, .ref b), (1, .ref (adC 0)), (2, .ref (adN 0)), (3, .ref qo), (4, .int (zI i))]) (hc : cells + 5 ≤ room_1.cells) (hsl : slots + 30 ≤ room_1.slots)
    (kk : ∀ (M : zM) (N : zM) (f : Nat → Int64) (H : Heap) (locs : List Loc) (ls : Array Slot), sSim sd M N → lwI D cI sd adC adN qo s M N f H locs → lv_has ls 7 [(0, .ref b), (1, .ref (adC 0)), (2, .ref (adN 0)), (3, .ref qo), (4, .int (zI i))] → W p l e room_1 s m args below meth c H locs (cells + 5) (slots + 30) Q (F0 m 1109 ls [])) : W p l e room_1 s m args below meth c H locs cells slots Q (F0 m 532 ls []) := by
  obtain ⟨hx, hb, hml, hown, hlk⟩ := id Z.1
  have hK := Z.2.1
  have hL := Z.2.2.1.2.2
  have hq := Z.2.2.2.1.2.2.2.2.1
  refine lv_aload_n hx hb d_La_law_532 rfl (lv_at hl 1 rfl) ?_
  refine lv_aload_n hx hb d_La_law_533 rfl (lv_at hl 0 rfl) ?_
  refine lv_iload hx hb d_La_law_534 (lv_at hl 4 rfl) ?_
  refine z_const hx hb d_La_law_536 ?_
  refine z_iadd hx hb d_La_law_537 ?_
  refine lw_sld (a := i + 1) Z I.2.2.2 (by omega) d_La_law_538 ?_
  refine lv_aload_n hx hb d_La_law_539 rfl (lv_at hl 3 rfl) ?_
  refine lw_help (rest := []) Z I (h_at l hlt D adC cI sd M qo f (sc xs (i + 1)) (sc_rg xs (i + 1)) hs.1.1 hq) (hK.cSW 3 tw_421 tw_419 tw_0 tw_420 (by decide +kernel) rfl rfl ⟨Nat.le_of_ble_eq_true rfl, Nat.le_of_ble_eq_true rfl⟩) rfl hl.1 rfl (Nat.le_of_ble_eq_true rfl) d_La_law_540 ⟨by omega, by omega⟩ (fun k w u f1 H locs hk hp hw h0 I => ?_)
  refine lv_istore (lv' := [(5, .int (zI k)), (0, .ref b), (1, .ref (adC 0)), (2, .ref (adN 0)), (3, .ref qo), (4, .int (zI i))]) hx hb d_La_law_543 hl (by decide) rfl (fun ls hl => ?_)
  refine W.widen (k := cells + 5) (n := slots + 30) (by omega) (by omega) ?_
  refine lv_aload_n hx hb d_La_law_545 rfl (lv_at hl 3 rfl) ?_
  refine lv_aload_n hx hb d_La_law_546 rfl (lv_at hl 1 rfl) ?_
  refine lv_iload hx hb d_La_law_547 (lv_at hl 5 rfl) ?_
  refine z_const hx hb d_La_law_549 ?_
  refine z_iadd hx hb d_La_law_550 ?_
  refine lw_sld (a := i + 1) Z I.2.2.2 (by omega) d_La_law_551 ?_
  refine lw_ref (rest := []) Z I (m_at l D adN cI sd N (sc xs (i + 1)) (sc_rg xs (i + 1)) hs.1.2.1) (hK.cV 1 tw_662 tw_659 tw_7 tw_660 tw_661 (by decide +kernel) rfl rfl ⟨Nat.le_of_ble_eq_true rfl, Nat.le_of_ble_eq_true rfl⟩) rfl hl.1 rfl (Nat.le_of_ble_eq_true rfl) d_La_law_552 ⟨hc, hsl⟩ (fun z u2 H locs hz hr I => ?_)
  have ho := op_at hs hp hr
  exact lw_tail Z I ho hk hw hz h0 hl ⟨hc, hsl⟩ d_La_law_555 d_La_law_557 d_La_law_558 d_La_law_561 d_La_law_563 d_La_law_568 d_La_law_570 d_La_law_573 d_La_law_574 d_La_law_575 d_La_law_576 d_La_law_578 d_La_law_579 d_La_law_580 d_La_law_585 (by decide) (fun H locs ls I hl => kk _ _ _ _ _ _ ho.1 I hl)
set_option maxHeartbeats 800000 in
set_option maxRecDepth 100000 in
theorem lw_c_was {p : Program} {l : Launch} {e : Env} {s : State} {m : MethodId} {args : Array Value} {below : List Frame} {meth : Method} {c : Code} {H : Heap} {locs : List Loc} {cells slots : Nat} {Q : State → Prop} {ls : Array Slot} {D : va_G} {cI : Nat → ClassId} {sd : Int64} {b L : Nat} {xs : Nat → Int32} {adC adN : Nat → Nat} {qo : Nat} {M N : zM} {f : Nat → Int64} (hlt : l.stackTraces = false) (Z : lwZ D cI sd b L xs adC adN qo p s m meth c) (I : lwI D cI sd adC adN qo s M N f H locs) (hs : sSim sd M N) {i : Int} (hi : 1 ≤ i ∧ i + 3 < L) (hl : lv_has ls 7 [(0, .ref b), (1, .ref (adC 0)), (2, .ref (adN 0)), (3, .ref qo), (4, .int (zI i))]) (hc : cells + 5 ≤ room_1.cells) (hsl : slots + 30 ≤ room_1.slots)
    (kk : ∀ (M : zM) (N : zM) (f : Nat → Int64) (H : Heap) (locs : List Loc) (ls : Array Slot), sSim sd M N → lwI D cI sd adC adN qo s M N f H locs → lv_has ls 7 [(0, .ref b), (1, .ref (adC 0)), (2, .ref (adN 0)), (3, .ref qo), (4, .int (zI i))] → W p l e room_1 s m args below meth c H locs (cells + 5) (slots + 30) Q (F0 m 1109 ls [])) : W p l e room_1 s m args below meth c H locs cells slots Q (F0 m 588 ls []) := by
  obtain ⟨hx, hb, hml, hown, hlk⟩ := id Z.1
  have hK := Z.2.1
  have hL := Z.2.2.1.2.2
  have hq := Z.2.2.2.1.2.2.2.2.1
  refine lv_aload_n hx hb d_La_law_588 rfl (lv_at hl 1 rfl) ?_
  refine lv_aload_n hx hb d_La_law_589 rfl (lv_at hl 0 rfl) ?_
  refine lv_iload hx hb d_La_law_590 (lv_at hl 4 rfl) ?_
  refine z_const hx hb d_La_law_592 ?_
  refine z_iadd hx hb d_La_law_593 ?_
  refine lw_sld (a := i + 1) Z I.2.2.2 (by omega) d_La_law_594 ?_
  refine lv_aload_n hx hb d_La_law_595 rfl (lv_at hl 0 rfl) ?_
  refine lv_iload hx hb d_La_law_596 (lv_at hl 4 rfl) ?_
  refine z_const hx hb d_La_law_598 ?_
  refine z_iadd hx hb d_La_law_599 ?_
  refine lw_sld (a := i + 2) Z I.2.2.2 (by omega) d_La_law_600 ?_
  refine lv_aload_n hx hb d_La_law_601 rfl (lv_at hl 3 rfl) ?_
  refine lw_help (rest := []) Z I (h_was l hlt D adC cI sd M qo f (sc xs (i + 1)) (sc xs (i + 2)) (sc_rg xs (i + 1)) (sc_rg xs (i + 2)) hs.1.1 hq) (hK.cSW 4 tw_428 tw_426 tw_0 tw_427 (by decide +kernel) rfl rfl ⟨Nat.le_of_ble_eq_true rfl, Nat.le_of_ble_eq_true rfl⟩) rfl hl.1 rfl (Nat.le_of_ble_eq_true rfl) d_La_law_602 ⟨by omega, by omega⟩ (fun k w u f1 H locs hk hp hw h0 I => ?_)
  refine lv_istore (lv' := [(5, .int (zI k)), (0, .ref b), (1, .ref (adC 0)), (2, .ref (adN 0)), (3, .ref qo), (4, .int (zI i))]) hx hb d_La_law_605 hl (by decide) rfl (fun ls hl => ?_)
  refine W.widen (k := cells + 5) (n := slots + 30) (by omega) (by omega) ?_
  refine lv_aload_n hx hb d_La_law_607 rfl (lv_at hl 3 rfl) ?_
  refine lv_aload_n hx hb d_La_law_608 rfl (lv_at hl 1 rfl) ?_
  refine lv_iload hx hb d_La_law_609 (lv_at hl 5 rfl) ?_
  refine z_const hx hb d_La_law_611 ?_
  refine z_iadd hx hb d_La_law_612 ?_
  refine lw_sld (a := i + 1) Z I.2.2.2 (by omega) d_La_law_613 ?_
  refine lv_aload_n hx hb d_La_law_614 rfl (lv_at hl 1 rfl) ?_
  refine lv_iload hx hb d_La_law_615 (lv_at hl 5 rfl) ?_
  refine z_const hx hb d_La_law_617 ?_
  refine z_iadd hx hb d_La_law_618 ?_
  refine lw_sld (a := i + 2) Z I.2.2.2 (by omega) d_La_law_619 ?_
  refine lw_ref (rest := []) Z I (m_was l D adN cI sd N (sc xs (i + 1)) (sc xs (i + 2)) (sc_rg xs (i + 1)) (sc_rg xs (i + 2)) hs.1.2.1) (hK.cV 2 tw_666 tw_663 tw_7 tw_664 tw_665 (by decide +kernel) rfl rfl ⟨Nat.le_of_ble_eq_true rfl, Nat.le_of_ble_eq_true rfl⟩) rfl hl.1 rfl (Nat.le_of_ble_eq_true rfl) d_La_law_620 ⟨hc, hsl⟩ (fun z u2 H locs hz hr I => ?_)
  have ho := op_was hs hp hr
  exact lw_tail Z I ho hk hw hz h0 hl ⟨hc, hsl⟩ d_La_law_623 d_La_law_625 d_La_law_626 d_La_law_629 d_La_law_631 d_La_law_636 d_La_law_638 d_La_law_641 d_La_law_642 d_La_law_643 d_La_law_644 d_La_law_646 d_La_law_647 d_La_law_648 d_La_law_653 (by decide) (fun H locs ls I hl => kk _ _ _ _ _ _ ho.1 I hl)
set_option maxHeartbeats 800000 in
set_option maxRecDepth 100000 in
theorem lw_c_waited {p : Program} {l : Launch} {e : Env} {s : State} {m : MethodId} {args : Array Value} {below : List Frame} {meth : Method} {c : Code} {H : Heap} {locs : List Loc} {cells slots : Nat} {Q : State → Prop} {ls : Array Slot} {D : va_G} {cI : Nat → ClassId} {sd : Int64} {b L : Nat} {xs : Nat → Int32} {adC adN : Nat → Nat} {qo : Nat} {M N : zM} {f : Nat → Int64} (hlt : l.stackTraces = false) (Z : lwZ D cI sd b L xs adC adN qo p s m meth c) (I : lwI D cI sd adC adN qo s M N f H locs) (hs : sSim sd M N) {i : Int} (hi : 1 ≤ i ∧ i + 3 < L) (hl : lv_has ls 7 [(0, .ref b), (1, .ref (adC 0)), (2, .ref (adN 0)), (3, .ref qo), (4, .int (zI i))]) (hc : cells + 5 ≤ room_1.cells) (hsl : slots + 30 ≤ room_1.slots)
    (kk : ∀ (M : zM) (N : zM) (f : Nat → Int64) (H : Heap) (locs : List Loc) (ls : Array Slot), sSim sd M N → lwI D cI sd adC adN qo s M N f H locs → lv_has ls 7 [(0, .ref b), (1, .ref (adC 0)), (2, .ref (adN 0)), (3, .ref qo), (4, .int (zI i))] → W p l e room_1 s m args below meth c H locs (cells + 5) (slots + 30) Q (F0 m 1109 ls [])) : W p l e room_1 s m args below meth c H locs cells slots Q (F0 m 656 ls []) := by
  obtain ⟨hx, hb, hml, hown, hlk⟩ := id Z.1
  have hK := Z.2.1
  have hL := Z.2.2.1.2.2
  have hq := Z.2.2.2.1.2.2.2.2.1
  refine lv_aload_n hx hb d_La_law_656 rfl (lv_at hl 1 rfl) ?_
  refine lv_aload_n hx hb d_La_law_657 rfl (lv_at hl 0 rfl) ?_
  refine lv_iload hx hb d_La_law_658 (lv_at hl 4 rfl) ?_
  refine z_const hx hb d_La_law_660 ?_
  refine z_iadd hx hb d_La_law_661 ?_
  refine lw_sld (a := i + 1) Z I.2.2.2 (by omega) d_La_law_662 ?_
  refine lv_aload_n hx hb d_La_law_663 rfl (lv_at hl 3 rfl) ?_
  refine lw_help (rest := []) Z I (h_waited l hlt D adC cI sd M qo f (sc xs (i + 1)) (sc_rg xs (i + 1)) hs.1.1 hq) (hK.cSW 3 tw_443 tw_441 tw_0 tw_442 (by decide +kernel) rfl rfl ⟨Nat.le_of_ble_eq_true rfl, Nat.le_of_ble_eq_true rfl⟩) rfl hl.1 rfl (Nat.le_of_ble_eq_true rfl) d_La_law_664 ⟨by omega, by omega⟩ (fun k w u f1 H locs hk hp hw h0 I => ?_)
  refine lv_istore (lv' := [(5, .int (zI k)), (0, .ref b), (1, .ref (adC 0)), (2, .ref (adN 0)), (3, .ref qo), (4, .int (zI i))]) hx hb d_La_law_667 hl (by decide) rfl (fun ls hl => ?_)
  refine W.widen (k := cells + 5) (n := slots + 30) (by omega) (by omega) ?_
  refine lv_aload_n hx hb d_La_law_669 rfl (lv_at hl 3 rfl) ?_
  refine lv_aload_n hx hb d_La_law_670 rfl (lv_at hl 1 rfl) ?_
  refine lv_iload hx hb d_La_law_671 (lv_at hl 5 rfl) ?_
  refine z_const hx hb d_La_law_673 ?_
  refine z_iadd hx hb d_La_law_674 ?_
  refine lw_sld (a := i + 1) Z I.2.2.2 (by omega) d_La_law_675 ?_
  refine lw_ref (rest := []) Z I (m_waited l D adN cI sd N (sc xs (i + 1)) (sc_rg xs (i + 1)) hs.1.2.1) (hK.cV 1 tw_674 tw_671 tw_7 tw_672 tw_673 (by decide +kernel) rfl rfl ⟨Nat.le_of_ble_eq_true rfl, Nat.le_of_ble_eq_true rfl⟩) rfl hl.1 rfl (Nat.le_of_ble_eq_true rfl) d_La_law_676 ⟨hc, hsl⟩ (fun z u2 H locs hz hr I => ?_)
  have ho := op_waited hs hp hr
  exact lw_tail Z I ho hk hw hz h0 hl ⟨hc, hsl⟩ d_La_law_679 d_La_law_681 d_La_law_682 d_La_law_685 d_La_law_687 d_La_law_692 d_La_law_694 d_La_law_697 d_La_law_698 d_La_law_699 d_La_law_700 d_La_law_702 d_La_law_703 d_La_law_704 d_La_law_709 (by decide) (fun H locs ls I hl => kk _ _ _ _ _ _ ho.1 I hl)
set_option maxHeartbeats 800000 in
set_option maxRecDepth 100000 in
theorem lw_c_in {p : Program} {l : Launch} {e : Env} {s : State} {m : MethodId} {args : Array Value} {below : List Frame} {meth : Method} {c : Code} {H : Heap} {locs : List Loc} {cells slots : Nat} {Q : State → Prop} {ls : Array Slot} {D : va_G} {cI : Nat → ClassId} {sd : Int64} {b L : Nat} {xs : Nat → Int32} {adC adN : Nat → Nat} {qo : Nat} {M N : zM} {f : Nat → Int64} (hlt : l.stackTraces = false) (Z : lwZ D cI sd b L xs adC adN qo p s m meth c) (I : lwI D cI sd adC adN qo s M N f H locs) (hs : sSim sd M N) {i : Int} (hi : 1 ≤ i ∧ i + 3 < L) (hl : lv_has ls 7 [(0, .ref b), (1, .ref (adC 0)), (2, .ref (adN 0)), (3, .ref qo), (4, .int (zI i))]) (hc : cells + 5 ≤ room_1.cells) (hsl : slots + 30 ≤ room_1.slots)
    (kk : ∀ (M : zM) (N : zM) (f : Nat → Int64) (H : Heap) (locs : List Loc) (ls : Array Slot), sSim sd M N → lwI D cI sd adC adN qo s M N f H locs → lv_has ls 7 [(0, .ref b), (1, .ref (adC 0)), (2, .ref (adN 0)), (3, .ref qo), (4, .int (zI i))] → W p l e room_1 s m args below meth c H locs (cells + 5) (slots + 30) Q (F0 m 1109 ls [])) : W p l e room_1 s m args below meth c H locs cells slots Q (F0 m 712 ls []) := by
  obtain ⟨hx, hb, hml, hown, hlk⟩ := id Z.1
  have hK := Z.2.1
  have hL := Z.2.2.1.2.2
  have hq := Z.2.2.2.1.2.2.2.2.1
  refine lv_aload_n hx hb d_La_law_712 rfl (lv_at hl 1 rfl) ?_
  refine lv_aload_n hx hb d_La_law_713 rfl (lv_at hl 0 rfl) ?_
  refine lv_iload hx hb d_La_law_714 (lv_at hl 4 rfl) ?_
  refine z_const hx hb d_La_law_716 ?_
  refine z_iadd hx hb d_La_law_717 ?_
  refine lw_sld (a := i + 1) Z I.2.2.2 (by omega) d_La_law_718 ?_
  refine lv_aload_n hx hb d_La_law_719 rfl (lv_at hl 0 rfl) ?_
  refine lv_iload hx hb d_La_law_720 (lv_at hl 4 rfl) ?_
  refine z_const hx hb d_La_law_722 ?_
  refine z_iadd hx hb d_La_law_723 ?_
  refine lw_sld (a := i + 2) Z I.2.2.2 (by omega) d_La_law_724 ?_
  refine lv_aload_n hx hb d_La_law_725 rfl (lv_at hl 3 rfl) ?_
  refine lw_help (rest := []) Z I (h_in l hlt D adC cI sd M qo f (sc xs (i + 1)) (sc xs (i + 2)) (sc_rg xs (i + 1)) (sc_rg xs (i + 2)) hs.1.1 hq) (hK.cSW 4 tw_450 tw_448 tw_0 tw_449 (by decide +kernel) rfl rfl ⟨Nat.le_of_ble_eq_true rfl, Nat.le_of_ble_eq_true rfl⟩) rfl hl.1 rfl (Nat.le_of_ble_eq_true rfl) d_La_law_726 ⟨by omega, by omega⟩ (fun k w u f1 H locs hk hp hw h0 I => ?_)
  refine lv_istore (lv' := [(5, .int (zI k)), (0, .ref b), (1, .ref (adC 0)), (2, .ref (adN 0)), (3, .ref qo), (4, .int (zI i))]) hx hb d_La_law_729 hl (by decide) rfl (fun ls hl => ?_)
  refine W.widen (k := cells + 5) (n := slots + 30) (by omega) (by omega) ?_
  refine lv_aload_n hx hb d_La_law_731 rfl (lv_at hl 3 rfl) ?_
  refine lv_aload_n hx hb d_La_law_732 rfl (lv_at hl 1 rfl) ?_
  refine lv_iload hx hb d_La_law_733 (lv_at hl 5 rfl) ?_
  refine z_const hx hb d_La_law_735 ?_
  refine z_iadd hx hb d_La_law_736 ?_
  refine lw_sld (a := i + 1) Z I.2.2.2 (by omega) d_La_law_737 ?_
  refine lv_aload_n hx hb d_La_law_738 rfl (lv_at hl 1 rfl) ?_
  refine lv_iload hx hb d_La_law_739 (lv_at hl 5 rfl) ?_
  refine z_const hx hb d_La_law_741 ?_
  refine z_iadd hx hb d_La_law_742 ?_
  refine lw_sld (a := i + 2) Z I.2.2.2 (by omega) d_La_law_743 ?_
  refine lw_ref (rest := []) Z I (m_in l D adN cI sd N (sc xs (i + 1)) (sc xs (i + 2)) (sc_rg xs (i + 1)) (sc_rg xs (i + 2)) hs.1.2.1) (hK.cV 2 tw_678 tw_675 tw_7 tw_676 tw_677 (by decide +kernel) rfl rfl ⟨Nat.le_of_ble_eq_true rfl, Nat.le_of_ble_eq_true rfl⟩) rfl hl.1 rfl (Nat.le_of_ble_eq_true rfl) d_La_law_744 ⟨hc, hsl⟩ (fun z u2 H locs hz hr I => ?_)
  have ho := op_in hs hp hr
  exact lw_tail Z I ho hk hw hz h0 hl ⟨hc, hsl⟩ d_La_law_747 d_La_law_749 d_La_law_750 d_La_law_753 d_La_law_755 d_La_law_760 d_La_law_762 d_La_law_765 d_La_law_766 d_La_law_767 d_La_law_768 d_La_law_770 d_La_law_771 d_La_law_772 d_La_law_777 (by decide) (fun H locs ls I hl => kk _ _ _ _ _ _ ho.1 I hl)
set_option maxHeartbeats 800000 in
set_option maxRecDepth 100000 in
theorem lw_c_inThen {p : Program} {l : Launch} {e : Env} {s : State} {m : MethodId} {args : Array Value} {below : List Frame} {meth : Method} {c : Code} {H : Heap} {locs : List Loc} {cells slots : Nat} {Q : State → Prop} {ls : Array Slot} {D : va_G} {cI : Nat → ClassId} {sd : Int64} {b L : Nat} {xs : Nat → Int32} {adC adN : Nat → Nat} {qo : Nat} {M N : zM} {f : Nat → Int64} (hlt : l.stackTraces = false) (Z : lwZ D cI sd b L xs adC adN qo p s m meth c) (I : lwI D cI sd adC adN qo s M N f H locs) (hs : sSim sd M N) {i : Int} (hi : 1 ≤ i ∧ i + 3 < L) (hl : lv_has ls 7 [(0, .ref b), (1, .ref (adC 0)), (2, .ref (adN 0)), (3, .ref qo), (4, .int (zI i))]) (hc : cells + 5 ≤ room_1.cells) (hsl : slots + 30 ≤ room_1.slots)
    (kk : ∀ (M : zM) (N : zM) (f : Nat → Int64) (H : Heap) (locs : List Loc) (ls : Array Slot), sSim sd M N → lwI D cI sd adC adN qo s M N f H locs → lv_has ls 7 [(0, .ref b), (1, .ref (adC 0)), (2, .ref (adN 0)), (3, .ref qo), (4, .int (zI i))] → W p l e room_1 s m args below meth c H locs (cells + 5) (slots + 30) Q (F0 m 1109 ls [])) : W p l e room_1 s m args below meth c H locs cells slots Q (F0 m 780 ls []) := by
  obtain ⟨hx, hb, hml, hown, hlk⟩ := id Z.1
  have hK := Z.2.1
  have hL := Z.2.2.1.2.2
  have hq := Z.2.2.2.1.2.2.2.2.1
  refine lv_aload_n hx hb d_La_law_780 rfl (lv_at hl 1 rfl) ?_
  refine lv_aload_n hx hb d_La_law_781 rfl (lv_at hl 0 rfl) ?_
  refine lv_iload hx hb d_La_law_782 (lv_at hl 4 rfl) ?_
  refine z_const hx hb d_La_law_784 ?_
  refine z_iadd hx hb d_La_law_785 ?_
  refine lw_sld (a := i + 1) Z I.2.2.2 (by omega) d_La_law_786 ?_
  refine lv_aload_n hx hb d_La_law_787 rfl (lv_at hl 0 rfl) ?_
  refine lv_iload hx hb d_La_law_788 (lv_at hl 4 rfl) ?_
  refine z_const hx hb d_La_law_790 ?_
  refine z_iadd hx hb d_La_law_791 ?_
  refine lw_sld (a := i + 2) Z I.2.2.2 (by omega) d_La_law_792 ?_
  refine lv_aload_n hx hb d_La_law_793 rfl (lv_at hl 3 rfl) ?_
  refine lw_help (rest := []) Z I (h_inThen l hlt D adC cI sd M qo f (sc xs (i + 1)) (sc xs (i + 2)) (sc_rg xs (i + 1)) (sc_rg xs (i + 2)) hs.1.1 hq) (hK.cSW 4 tw_457 tw_455 tw_0 tw_456 (by decide +kernel) rfl rfl ⟨Nat.le_of_ble_eq_true rfl, Nat.le_of_ble_eq_true rfl⟩) rfl hl.1 rfl (Nat.le_of_ble_eq_true rfl) d_La_law_794 ⟨by omega, by omega⟩ (fun k w u f1 H locs hk hp hw h0 I => ?_)
  refine lv_istore (lv' := [(5, .int (zI k)), (0, .ref b), (1, .ref (adC 0)), (2, .ref (adN 0)), (3, .ref qo), (4, .int (zI i))]) hx hb d_La_law_797 hl (by decide) rfl (fun ls hl => ?_)
  refine W.widen (k := cells + 5) (n := slots + 30) (by omega) (by omega) ?_
  refine lv_aload_n hx hb d_La_law_799 rfl (lv_at hl 3 rfl) ?_
  refine lv_aload_n hx hb d_La_law_800 rfl (lv_at hl 1 rfl) ?_
  refine lv_iload hx hb d_La_law_801 (lv_at hl 5 rfl) ?_
  refine z_const hx hb d_La_law_803 ?_
  refine z_iadd hx hb d_La_law_804 ?_
  refine lw_sld (a := i + 1) Z I.2.2.2 (by omega) d_La_law_805 ?_
  refine lv_aload_n hx hb d_La_law_806 rfl (lv_at hl 1 rfl) ?_
  refine lv_iload hx hb d_La_law_807 (lv_at hl 5 rfl) ?_
  refine z_const hx hb d_La_law_809 ?_
  refine z_iadd hx hb d_La_law_810 ?_
  refine lw_sld (a := i + 2) Z I.2.2.2 (by omega) d_La_law_811 ?_
  refine lw_ref (rest := []) Z I (m_inThen l D adN cI sd N (sc xs (i + 1)) (sc xs (i + 2)) (sc_rg xs (i + 1)) (sc_rg xs (i + 2)) hs.1.2.1) (hK.cV 2 tw_683 tw_680 tw_7 tw_681 tw_682 (by decide +kernel) rfl rfl ⟨Nat.le_of_ble_eq_true rfl, Nat.le_of_ble_eq_true rfl⟩) rfl hl.1 rfl (Nat.le_of_ble_eq_true rfl) d_La_law_812 ⟨hc, hsl⟩ (fun z u2 H locs hz hr I => ?_)
  have ho := op_inThen hs hp hr
  exact lw_tail Z I ho hk hw hz h0 hl ⟨hc, hsl⟩ d_La_law_815 d_La_law_817 d_La_law_818 d_La_law_821 d_La_law_823 d_La_law_828 d_La_law_830 d_La_law_833 d_La_law_834 d_La_law_835 d_La_law_836 d_La_law_838 d_La_law_839 d_La_law_840 d_La_law_845 (by decide) (fun H locs ls I hl => kk _ _ _ _ _ _ ho.1 I hl)
set_option maxHeartbeats 800000 in
set_option maxRecDepth 100000 in
theorem lw_c_through {p : Program} {l : Launch} {e : Env} {s : State} {m : MethodId} {args : Array Value} {below : List Frame} {meth : Method} {c : Code} {H : Heap} {locs : List Loc} {cells slots : Nat} {Q : State → Prop} {ls : Array Slot} {D : va_G} {cI : Nat → ClassId} {sd : Int64} {b L : Nat} {xs : Nat → Int32} {adC adN : Nat → Nat} {qo : Nat} {M N : zM} {f : Nat → Int64} (hlt : l.stackTraces = false) (Z : lwZ D cI sd b L xs adC adN qo p s m meth c) (I : lwI D cI sd adC adN qo s M N f H locs) (hs : sSim sd M N) {i : Int} (hi : 1 ≤ i ∧ i + 3 < L) (hl : lv_has ls 7 [(0, .ref b), (1, .ref (adC 0)), (2, .ref (adN 0)), (3, .ref qo), (4, .int (zI i))]) (hc : cells + 5 ≤ room_1.cells) (hsl : slots + 30 ≤ room_1.slots)
    (kk : ∀ (M : zM) (N : zM) (f : Nat → Int64) (H : Heap) (locs : List Loc) (ls : Array Slot), sSim sd M N → lwI D cI sd adC adN qo s M N f H locs → lv_has ls 7 [(0, .ref b), (1, .ref (adC 0)), (2, .ref (adN 0)), (3, .ref qo), (4, .int (zI i))] → W p l e room_1 s m args below meth c H locs (cells + 5) (slots + 30) Q (F0 m 1109 ls [])) : W p l e room_1 s m args below meth c H locs cells slots Q (F0 m 848 ls []) := by
  obtain ⟨hx, hb, hml, hown, hlk⟩ := id Z.1
  have hK := Z.2.1
  have hL := Z.2.2.1.2.2
  have hq := Z.2.2.2.1.2.2.2.2.1
  refine lv_aload_n hx hb d_La_law_848 rfl (lv_at hl 1 rfl) ?_
  refine lv_aload_n hx hb d_La_law_849 rfl (lv_at hl 0 rfl) ?_
  refine lv_iload hx hb d_La_law_850 (lv_at hl 4 rfl) ?_
  refine z_const hx hb d_La_law_852 ?_
  refine z_iadd hx hb d_La_law_853 ?_
  refine lw_sld (a := i + 1) Z I.2.2.2 (by omega) d_La_law_854 ?_
  refine lv_aload_n hx hb d_La_law_855 rfl (lv_at hl 0 rfl) ?_
  refine lv_iload hx hb d_La_law_856 (lv_at hl 4 rfl) ?_
  refine z_const hx hb d_La_law_858 ?_
  refine z_iadd hx hb d_La_law_859 ?_
  refine lw_sld (a := i + 2) Z I.2.2.2 (by omega) d_La_law_860 ?_
  refine z_if_eq (a := sc xs (i + 2)) (tgt := 868) hx hb d_La_law_861 (by decide) (sc_rg xs _) (fun hq0 => ?_) (fun hq0 => ?_)
  · skip
    refine z_const hx hb d_La_law_868 ?_
    refine lv_aload_n hx hb d_La_law_869 rfl (lv_at hl 3 rfl) ?_
    refine lw_help (rest := []) Z I (h_through l hlt D adC cI sd M qo f (sc xs (i + 1)) (0) (sc_rg xs (i + 1)) (by omega) hs.1.1 hq) (hK.cSW 4 tw_464 tw_462 tw_0 tw_463 (by decide +kernel) rfl rfl ⟨Nat.le_of_ble_eq_true rfl, Nat.le_of_ble_eq_true rfl⟩) rfl hl.1 rfl (Nat.le_of_ble_eq_true rfl) d_La_law_870 ⟨by omega, by omega⟩ (fun k w u f1 H locs hk hp hw h0 I => ?_)
    refine lv_istore (lv' := [(5, .int (zI k)), (0, .ref b), (1, .ref (adC 0)), (2, .ref (adN 0)), (3, .ref qo), (4, .int (zI i))]) hx hb d_La_law_873 hl (by decide) rfl (fun ls hl => ?_)
    refine W.widen (k := cells + 5) (n := slots + 30) (by omega) (by omega) ?_
    refine lv_aload_n hx hb d_La_law_875 rfl (lv_at hl 3 rfl) ?_
    refine lv_aload_n hx hb d_La_law_876 rfl (lv_at hl 1 rfl) ?_
    refine lv_iload hx hb d_La_law_877 (lv_at hl 5 rfl) ?_
    refine z_const hx hb d_La_law_879 ?_
    refine z_iadd hx hb d_La_law_880 ?_
    refine lw_sld (a := i + 1) Z I.2.2.2 (by omega) d_La_law_881 ?_
    refine lv_aload_n hx hb d_La_law_882 rfl (lv_at hl 1 rfl) ?_
    refine lv_iload hx hb d_La_law_883 (lv_at hl 5 rfl) ?_
    refine z_const hx hb d_La_law_885 ?_
    refine z_iadd hx hb d_La_law_886 ?_
    refine lw_sld (a := i + 2) Z I.2.2.2 (by omega) d_La_law_887 ?_
    refine z_if_eq (a := sc xs (i + 2)) (tgt := 895) hx hb d_La_law_888 (by decide) (sc_rg xs _) (fun _ => ?_) (fun q => absurd hq0 q)
    refine z_const hx hb d_La_law_895 ?_
    refine lw_ref (rest := []) Z I (m_through l D adN cI sd N (sc xs (i + 1)) (0) (sc_rg xs (i + 1)) (by omega) hs.1.2.1) (hK.cV 2 tw_687 tw_684 tw_7 tw_685 tw_686 (by decide +kernel) rfl rfl ⟨Nat.le_of_ble_eq_true rfl, Nat.le_of_ble_eq_true rfl⟩) rfl hl.1 rfl (Nat.le_of_ble_eq_true rfl) d_La_law_896 ⟨hc, hsl⟩ (fun z u2 H locs hz hr I => ?_)
    have ho := op_through hs hp hr
    exact lw_tail Z I ho hk hw hz h0 hl ⟨hc, hsl⟩ d_La_law_899 d_La_law_901 d_La_law_902 d_La_law_905 d_La_law_907 d_La_law_912 d_La_law_914 d_La_law_917 d_La_law_918 d_La_law_919 d_La_law_920 d_La_law_922 d_La_law_923 d_La_law_924 d_La_law_929 (by decide) (fun H locs ls I hl => kk _ _ _ _ _ _ ho.1 I hl)
  · skip
    refine z_const hx hb d_La_law_864 ?_
    refine lv_goto (tgt := 869) hx hb d_La_law_865 (by decide) ?_
    refine lv_aload_n hx hb d_La_law_869 rfl (lv_at hl 3 rfl) ?_
    refine lw_help (rest := []) Z I (h_through l hlt D adC cI sd M qo f (sc xs (i + 1)) (1) (sc_rg xs (i + 1)) (by omega) hs.1.1 hq) (hK.cSW 4 tw_464 tw_462 tw_0 tw_463 (by decide +kernel) rfl rfl ⟨Nat.le_of_ble_eq_true rfl, Nat.le_of_ble_eq_true rfl⟩) rfl hl.1 rfl (Nat.le_of_ble_eq_true rfl) d_La_law_870 ⟨by omega, by omega⟩ (fun k w u f1 H locs hk hp hw h0 I => ?_)
    refine lv_istore (lv' := [(5, .int (zI k)), (0, .ref b), (1, .ref (adC 0)), (2, .ref (adN 0)), (3, .ref qo), (4, .int (zI i))]) hx hb d_La_law_873 hl (by decide) rfl (fun ls hl => ?_)
    refine W.widen (k := cells + 5) (n := slots + 30) (by omega) (by omega) ?_
    refine lv_aload_n hx hb d_La_law_875 rfl (lv_at hl 3 rfl) ?_
    refine lv_aload_n hx hb d_La_law_876 rfl (lv_at hl 1 rfl) ?_
    refine lv_iload hx hb d_La_law_877 (lv_at hl 5 rfl) ?_
    refine z_const hx hb d_La_law_879 ?_
    refine z_iadd hx hb d_La_law_880 ?_
    refine lw_sld (a := i + 1) Z I.2.2.2 (by omega) d_La_law_881 ?_
    refine lv_aload_n hx hb d_La_law_882 rfl (lv_at hl 1 rfl) ?_
    refine lv_iload hx hb d_La_law_883 (lv_at hl 5 rfl) ?_
    refine z_const hx hb d_La_law_885 ?_
    refine z_iadd hx hb d_La_law_886 ?_
    refine lw_sld (a := i + 2) Z I.2.2.2 (by omega) d_La_law_887 ?_
    refine z_if_eq (a := sc xs (i + 2)) (tgt := 895) hx hb d_La_law_888 (by decide) (sc_rg xs _) (fun q => absurd q hq0) (fun _ => ?_)
    refine z_const hx hb d_La_law_891 ?_
    refine lv_goto (tgt := 896) hx hb d_La_law_892 (by decide) ?_
    refine lw_ref (rest := []) Z I (m_through l D adN cI sd N (sc xs (i + 1)) (1) (sc_rg xs (i + 1)) (by omega) hs.1.2.1) (hK.cV 2 tw_687 tw_684 tw_7 tw_685 tw_686 (by decide +kernel) rfl rfl ⟨Nat.le_of_ble_eq_true rfl, Nat.le_of_ble_eq_true rfl⟩) rfl hl.1 rfl (Nat.le_of_ble_eq_true rfl) d_La_law_896 ⟨hc, hsl⟩ (fun z u2 H locs hz hr I => ?_)
    have ho := op_through hs hp hr
    exact lw_tail Z I ho hk hw hz h0 hl ⟨hc, hsl⟩ d_La_law_899 d_La_law_901 d_La_law_902 d_La_law_905 d_La_law_907 d_La_law_912 d_La_law_914 d_La_law_917 d_La_law_918 d_La_law_919 d_La_law_920 d_La_law_922 d_La_law_923 d_La_law_924 d_La_law_929 (by decide) (fun H locs ls I hl => kk _ _ _ _ _ _ ho.1 I hl)
set_option maxHeartbeats 800000 in
set_option maxRecDepth 100000 in
theorem lw_c_distance {p : Program} {l : Launch} {e : Env} {s : State} {m : MethodId} {args : Array Value} {below : List Frame} {meth : Method} {c : Code} {H : Heap} {locs : List Loc} {cells slots : Nat} {Q : State → Prop} {ls : Array Slot} {D : va_G} {cI : Nat → ClassId} {sd : Int64} {b L : Nat} {xs : Nat → Int32} {adC adN : Nat → Nat} {qo : Nat} {M N : zM} {f : Nat → Int64} (hlt : l.stackTraces = false) (Z : lwZ D cI sd b L xs adC adN qo p s m meth c) (I : lwI D cI sd adC adN qo s M N f H locs) (hs : sSim sd M N) {i : Int} (hi : 1 ≤ i ∧ i + 3 < L) (hl : lv_has ls 7 [(0, .ref b), (1, .ref (adC 0)), (2, .ref (adN 0)), (3, .ref qo), (4, .int (zI i))]) (hc : cells + 5 ≤ room_1.cells) (hsl : slots + 30 ≤ room_1.slots)
    (kk : ∀ (M : zM) (N : zM) (f : Nat → Int64) (H : Heap) (locs : List Loc) (ls : Array Slot), sSim sd M N → lwI D cI sd adC adN qo s M N f H locs → lv_has ls 7 [(0, .ref b), (1, .ref (adC 0)), (2, .ref (adN 0)), (3, .ref qo), (4, .int (zI i))] → W p l e room_1 s m args below meth c H locs (cells + 5) (slots + 30) Q (F0 m 1109 ls [])) : W p l e room_1 s m args below meth c H locs cells slots Q (F0 m 932 ls []) := by
  obtain ⟨hx, hb, hml, hown, hlk⟩ := id Z.1
  have hK := Z.2.1
  have hL := Z.2.2.1.2.2
  have hq := Z.2.2.2.1.2.2.2.2.1
  refine lv_aload_n hx hb d_La_law_932 rfl (lv_at hl 1 rfl) ?_
  refine lv_aload_n hx hb d_La_law_933 rfl (lv_at hl 0 rfl) ?_
  refine lv_iload hx hb d_La_law_934 (lv_at hl 4 rfl) ?_
  refine z_const hx hb d_La_law_936 ?_
  refine z_iadd hx hb d_La_law_937 ?_
  refine lw_sld (a := i + 1) Z I.2.2.2 (by omega) d_La_law_938 ?_
  refine lv_aload_n hx hb d_La_law_939 rfl (lv_at hl 0 rfl) ?_
  refine lv_iload hx hb d_La_law_940 (lv_at hl 4 rfl) ?_
  refine z_const hx hb d_La_law_942 ?_
  refine z_iadd hx hb d_La_law_943 ?_
  refine lw_sld (a := i + 2) Z I.2.2.2 (by omega) d_La_law_944 ?_
  refine lv_aload_n hx hb d_La_law_945 rfl (lv_at hl 3 rfl) ?_
  refine lw_help (rest := []) Z I (h_distance l hlt D adC cI sd M qo f (sc xs (i + 1)) (sc xs (i + 2)) (sc_rg xs (i + 1)) (sc_rg xs (i + 2)) hs.1.1 hq) (hK.cSW 4 tw_471 tw_469 tw_0 tw_470 (by decide +kernel) rfl rfl ⟨Nat.le_of_ble_eq_true rfl, Nat.le_of_ble_eq_true rfl⟩) rfl hl.1 rfl (Nat.le_of_ble_eq_true rfl) d_La_law_946 ⟨by omega, by omega⟩ (fun k w u f1 H locs hk hp hw h0 I => ?_)
  refine lv_istore (lv' := [(5, .int (zI k)), (0, .ref b), (1, .ref (adC 0)), (2, .ref (adN 0)), (3, .ref qo), (4, .int (zI i))]) hx hb d_La_law_949 hl (by decide) rfl (fun ls hl => ?_)
  refine W.widen (k := cells + 5) (n := slots + 30) (by omega) (by omega) ?_
  refine lv_aload_n hx hb d_La_law_951 rfl (lv_at hl 3 rfl) ?_
  refine lv_aload_n hx hb d_La_law_952 rfl (lv_at hl 1 rfl) ?_
  refine lv_iload hx hb d_La_law_953 (lv_at hl 5 rfl) ?_
  refine z_const hx hb d_La_law_955 ?_
  refine z_iadd hx hb d_La_law_956 ?_
  refine lw_sld (a := i + 1) Z I.2.2.2 (by omega) d_La_law_957 ?_
  refine lv_aload_n hx hb d_La_law_958 rfl (lv_at hl 1 rfl) ?_
  refine lv_iload hx hb d_La_law_959 (lv_at hl 5 rfl) ?_
  refine z_const hx hb d_La_law_961 ?_
  refine z_iadd hx hb d_La_law_962 ?_
  refine lw_sld (a := i + 2) Z I.2.2.2 (by omega) d_La_law_963 ?_
  refine lw_ref (rest := []) Z I (m_distance l D adN cI sd N (sc xs (i + 1)) (sc xs (i + 2)) (sc_rg xs (i + 1)) (sc_rg xs (i + 2)) hs.1.2.1) (hK.cV 2 tw_691 tw_688 tw_7 tw_689 tw_690 (by decide +kernel) rfl rfl ⟨Nat.le_of_ble_eq_true rfl, Nat.le_of_ble_eq_true rfl⟩) rfl hl.1 rfl (Nat.le_of_ble_eq_true rfl) d_La_law_964 ⟨hc, hsl⟩ (fun z u2 H locs hz hr I => ?_)
  have ho := op_distance hs hp hr
  exact lw_tail Z I ho hk hw hz h0 hl ⟨hc, hsl⟩ d_La_law_967 d_La_law_969 d_La_law_970 d_La_law_973 d_La_law_975 d_La_law_980 d_La_law_982 d_La_law_985 d_La_law_986 d_La_law_987 d_La_law_988 d_La_law_990 d_La_law_991 d_La_law_992 d_La_law_997 (by decide) (fun H locs ls I hl => kk _ _ _ _ _ _ ho.1 I hl)
set_option maxHeartbeats 800000 in
set_option maxRecDepth 100000 in
theorem lw_c_met {p : Program} {l : Launch} {e : Env} {s : State} {m : MethodId} {args : Array Value} {below : List Frame} {meth : Method} {c : Code} {H : Heap} {locs : List Loc} {cells slots : Nat} {Q : State → Prop} {ls : Array Slot} {D : va_G} {cI : Nat → ClassId} {sd : Int64} {b L : Nat} {xs : Nat → Int32} {adC adN : Nat → Nat} {qo : Nat} {M N : zM} {f : Nat → Int64} (hlt : l.stackTraces = false) (Z : lwZ D cI sd b L xs adC adN qo p s m meth c) (I : lwI D cI sd adC adN qo s M N f H locs) (hs : sSim sd M N) {i : Int} (hi : 1 ≤ i ∧ i + 3 < L) (hl : lv_has ls 7 [(0, .ref b), (1, .ref (adC 0)), (2, .ref (adN 0)), (3, .ref qo), (4, .int (zI i))]) (hc : cells + 5 ≤ room_1.cells) (hsl : slots + 30 ≤ room_1.slots)
    (kk : ∀ (M : zM) (N : zM) (f : Nat → Int64) (H : Heap) (locs : List Loc) (ls : Array Slot), sSim sd M N → lwI D cI sd adC adN qo s M N f H locs → lv_has ls 7 [(0, .ref b), (1, .ref (adC 0)), (2, .ref (adN 0)), (3, .ref qo), (4, .int (zI i))] → W p l e room_1 s m args below meth c H locs (cells + 5) (slots + 30) Q (F0 m 1109 ls [])) : W p l e room_1 s m args below meth c H locs cells slots Q (F0 m 1000 ls []) := by
  obtain ⟨hx, hb, hml, hown, hlk⟩ := id Z.1
  have hK := Z.2.1
  have hL := Z.2.2.1.2.2
  have hq := Z.2.2.2.1.2.2.2.2.1
  refine lv_aload_n hx hb d_La_law_1000 rfl (lv_at hl 1 rfl) ?_
  refine lv_aload_n hx hb d_La_law_1001 rfl (lv_at hl 0 rfl) ?_
  refine lv_iload hx hb d_La_law_1002 (lv_at hl 4 rfl) ?_
  refine z_const hx hb d_La_law_1004 ?_
  refine z_iadd hx hb d_La_law_1005 ?_
  refine lw_sld (a := i + 1) Z I.2.2.2 (by omega) d_La_law_1006 ?_
  refine lv_aload_n hx hb d_La_law_1007 rfl (lv_at hl 0 rfl) ?_
  refine lv_iload hx hb d_La_law_1008 (lv_at hl 4 rfl) ?_
  refine z_const hx hb d_La_law_1010 ?_
  refine z_iadd hx hb d_La_law_1011 ?_
  refine lw_sld (a := i + 2) Z I.2.2.2 (by omega) d_La_law_1012 ?_
  refine lv_aload_n hx hb d_La_law_1013 rfl (lv_at hl 3 rfl) ?_
  refine lw_help (rest := []) Z I (h_met l hlt D adC cI sd M qo f (sc xs (i + 1)) (sc xs (i + 2)) (sc_rg xs (i + 1)) (sc_rg xs (i + 2)) hs.1.1 hq) (hK.cSW 4 tw_479 tw_477 tw_0 tw_478 (by decide +kernel) rfl rfl ⟨Nat.le_of_ble_eq_true rfl, Nat.le_of_ble_eq_true rfl⟩) rfl hl.1 rfl (Nat.le_of_ble_eq_true rfl) d_La_law_1014 ⟨by omega, by omega⟩ (fun k w u f1 H locs hk hp hw h0 I => ?_)
  refine lv_istore (lv' := [(5, .int (zI k)), (0, .ref b), (1, .ref (adC 0)), (2, .ref (adN 0)), (3, .ref qo), (4, .int (zI i))]) hx hb d_La_law_1017 hl (by decide) rfl (fun ls hl => ?_)
  refine W.widen (k := cells + 5) (n := slots + 30) (by omega) (by omega) ?_
  refine lv_aload_n hx hb d_La_law_1019 rfl (lv_at hl 3 rfl) ?_
  refine lv_aload_n hx hb d_La_law_1020 rfl (lv_at hl 1 rfl) ?_
  refine lv_iload hx hb d_La_law_1021 (lv_at hl 5 rfl) ?_
  refine z_const hx hb d_La_law_1023 ?_
  refine z_iadd hx hb d_La_law_1024 ?_
  refine lw_sld (a := i + 1) Z I.2.2.2 (by omega) d_La_law_1025 ?_
  refine lv_aload_n hx hb d_La_law_1026 rfl (lv_at hl 1 rfl) ?_
  refine lv_iload hx hb d_La_law_1027 (lv_at hl 5 rfl) ?_
  refine z_const hx hb d_La_law_1029 ?_
  refine z_iadd hx hb d_La_law_1030 ?_
  refine lw_sld (a := i + 2) Z I.2.2.2 (by omega) d_La_law_1031 ?_
  refine lw_ref (rest := []) Z I (m_met l D adN cI sd N (sc xs (i + 1)) (sc xs (i + 2)) (sc_rg xs (i + 1)) (sc_rg xs (i + 2)) hs.1.2.1) (hK.cV 2 tw_695 tw_692 tw_7 tw_693 tw_694 (by decide +kernel) rfl rfl ⟨Nat.le_of_ble_eq_true rfl, Nat.le_of_ble_eq_true rfl⟩) rfl hl.1 rfl (Nat.le_of_ble_eq_true rfl) d_La_law_1032 ⟨hc, hsl⟩ (fun z u2 H locs hz hr I => ?_)
  have ho := op_met hs hp hr
  exact lw_tail Z I ho hk hw hz h0 hl ⟨hc, hsl⟩ d_La_law_1035 d_La_law_1037 d_La_law_1038 d_La_law_1041 d_La_law_1043 d_La_law_1048 d_La_law_1050 d_La_law_1053 d_La_law_1054 d_La_law_1055 d_La_law_1056 d_La_law_1058 d_La_law_1059 d_La_law_1060 d_La_law_1065 (by decide) (fun H locs ls I hl => kk _ _ _ _ _ _ ho.1 I hl)
set_option maxHeartbeats 800000 in
set_option maxRecDepth 100000 in
theorem lw_c_entered {p : Program} {l : Launch} {e : Env} {s : State} {m : MethodId} {args : Array Value} {below : List Frame} {meth : Method} {c : Code} {H : Heap} {locs : List Loc} {cells slots : Nat} {Q : State → Prop} {ls : Array Slot} {D : va_G} {cI : Nat → ClassId} {sd : Int64} {b L : Nat} {xs : Nat → Int32} {adC adN : Nat → Nat} {qo : Nat} {M N : zM} {f : Nat → Int64} (hlt : l.stackTraces = false) (Z : lwZ D cI sd b L xs adC adN qo p s m meth c) (I : lwI D cI sd adC adN qo s M N f H locs) (hs : sSim sd M N) {i : Int} (hi : 1 ≤ i ∧ i + 3 < L) (hl : lv_has ls 7 [(0, .ref b), (1, .ref (adC 0)), (2, .ref (adN 0)), (3, .ref qo), (4, .int (zI i))]) (hc : cells + 5 ≤ room_1.cells) (hsl : slots + 30 ≤ room_1.slots)
    (kk : ∀ (M : zM) (N : zM) (f : Nat → Int64) (H : Heap) (locs : List Loc) (ls : Array Slot), sSim sd M N → lwI D cI sd adC adN qo s M N f H locs → lv_has ls 7 [(0, .ref b), (1, .ref (adC 0)), (2, .ref (adN 0)), (3, .ref qo), (4, .int (zI i))] → W p l e room_1 s m args below meth c H locs (cells + 5) (slots + 30) Q (F0 m 1109 ls [])) : W p l e room_1 s m args below meth c H locs cells slots Q (F0 m 1068 ls []) := by
  obtain ⟨hx, hb, hml, hown, hlk⟩ := id Z.1
  have hK := Z.2.1
  have hL := Z.2.2.1.2.2
  refine lv_aload_n hx hb d_La_law_1068 rfl (lv_at hl 1 rfl) ?_
  refine lv_aload_n hx hb d_La_law_1069 rfl (lv_at hl 0 rfl) ?_
  refine lv_iload hx hb d_La_law_1070 (lv_at hl 4 rfl) ?_
  refine z_const hx hb d_La_law_1072 ?_
  refine z_iadd hx hb d_La_law_1073 ?_
  refine lw_sld (a := i + 1) Z I.2.2.2 (by omega) d_La_law_1074 ?_
  refine z_if_eq (a := sc xs (i + 1)) (tgt := 1082) hx hb d_La_law_1075 (by decide) (sc_rg xs _) (fun hq0 => ?_) (fun hq0 => ?_)
  · skip
    refine z_const hx hb d_La_law_1082 ?_
    refine lw_cls (rest := []) Z I (k_entered l D adC cI sd M 0 (by omega)) (hK.cV 1 tw_169 tw_166 tw_1 tw_167 tw_168 (by decide +kernel) rfl rfl ⟨Nat.le_of_ble_eq_true rfl, Nat.le_of_ble_eq_true rfl⟩) rfl hl.1 rfl (Nat.le_of_ble_eq_true rfl) d_La_law_1083 ⟨by omega, by omega⟩ (fun z u H locs hz hp I => ?_)
    obtain ⟨hzF, hu⟩ := hp
    rw [hu] at I
    refine lv_aload_n hx hb d_La_law_1086 rfl (lv_at hl 2 rfl) ?_
    refine lv_aload_n hx hb d_La_law_1087 rfl (lv_at hl 0 rfl) ?_
    refine lv_iload hx hb d_La_law_1088 (lv_at hl 4 rfl) ?_
    refine z_const hx hb d_La_law_1090 ?_
    refine z_iadd hx hb d_La_law_1091 ?_
    refine lw_sld (a := i + 1) Z I.2.2.2 (by omega) d_La_law_1092 ?_
    refine z_if_eq (a := sc xs (i + 1)) (tgt := 1100) hx hb d_La_law_1093 (by decide) (sc_rg xs _) (fun _ => ?_) (fun q => absurd hq0 q)
    refine z_const hx hb d_La_law_1100 ?_
    refine lw_ref (rest := [.int (zI z)]) Z I (m_entered l D adN cI sd N 0 (by omega)) (hK.cV 1 tw_699 tw_696 tw_7 tw_697 tw_698 (by decide +kernel) rfl rfl ⟨Nat.le_of_ble_eq_true rfl, Nat.le_of_ble_eq_true rfl⟩) rfl hl.1 rfl (Nat.le_of_ble_eq_true rfl) d_La_law_1101 ⟨by omega, by omega⟩ (fun z2 u2 H locs hz2 hr I => ?_)
    obtain ⟨hzF2, hu2⟩ := hr
    rw [hu2] at I
    have he : z = z2 := by rw [hzF, hzF2]; exact (hs.entered 0).symm
    refine z_icmp_eq (a := z) (b := z2) (tgt := 1109) hx hb d_La_law_1104 (by decide) ⟨hz, hz2⟩ (fun _ => ?_) (fun q => absurd he q)
    refine W.widen (k := cells + 5) (n := slots + 30) (by omega) (by omega) ?_
    exact kk _ _ _ _ _ _ (hs.fault 0) I hl
  · skip
    refine z_const hx hb d_La_law_1078 ?_
    refine lv_goto (tgt := 1083) hx hb d_La_law_1079 (by decide) ?_
    refine lw_cls (rest := []) Z I (k_entered l D adC cI sd M 1 (by omega)) (hK.cV 1 tw_169 tw_166 tw_1 tw_167 tw_168 (by decide +kernel) rfl rfl ⟨Nat.le_of_ble_eq_true rfl, Nat.le_of_ble_eq_true rfl⟩) rfl hl.1 rfl (Nat.le_of_ble_eq_true rfl) d_La_law_1083 ⟨by omega, by omega⟩ (fun z u H locs hz hp I => ?_)
    obtain ⟨hzF, hu⟩ := hp
    rw [hu] at I
    refine lv_aload_n hx hb d_La_law_1086 rfl (lv_at hl 2 rfl) ?_
    refine lv_aload_n hx hb d_La_law_1087 rfl (lv_at hl 0 rfl) ?_
    refine lv_iload hx hb d_La_law_1088 (lv_at hl 4 rfl) ?_
    refine z_const hx hb d_La_law_1090 ?_
    refine z_iadd hx hb d_La_law_1091 ?_
    refine lw_sld (a := i + 1) Z I.2.2.2 (by omega) d_La_law_1092 ?_
    refine z_if_eq (a := sc xs (i + 1)) (tgt := 1100) hx hb d_La_law_1093 (by decide) (sc_rg xs _) (fun q => absurd q hq0) (fun _ => ?_)
    refine z_const hx hb d_La_law_1096 ?_
    refine lv_goto (tgt := 1101) hx hb d_La_law_1097 (by decide) ?_
    refine lw_ref (rest := [.int (zI z)]) Z I (m_entered l D adN cI sd N 1 (by omega)) (hK.cV 1 tw_699 tw_696 tw_7 tw_697 tw_698 (by decide +kernel) rfl rfl ⟨Nat.le_of_ble_eq_true rfl, Nat.le_of_ble_eq_true rfl⟩) rfl hl.1 rfl (Nat.le_of_ble_eq_true rfl) d_La_law_1101 ⟨by omega, by omega⟩ (fun z2 u2 H locs hz2 hr I => ?_)
    obtain ⟨hzF2, hu2⟩ := hr
    rw [hu2] at I
    have he : z = z2 := by rw [hzF, hzF2]; exact (hs.entered 1).symm
    refine z_icmp_eq (a := z) (b := z2) (tgt := 1109) hx hb d_La_law_1104 (by decide) ⟨hz, hz2⟩ (fun _ => ?_) (fun q => absurd he q)
    refine W.widen (k := cells + 5) (n := slots + 30) (by omega) (by omega) ?_
    exact kk _ _ _ _ _ _ (hs.fault 0) I hl

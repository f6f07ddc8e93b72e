set_option maxHeartbeats 4000000 in
set_option maxRecDepth 100000 in
theorem lc_208 {p : Program} {l : Launch} {e : Env} {s : State} {m : MethodId} {below : List Frame} {meth : Method} {c : Code} {b L : Nat} {g : tf_G} {sx : Int → Int} {Q : State → Prop} (E : lw_E p s m c b L g sx) (ax am im kp jj : Nat) (ii : Int) (hii : ii = 6 * (jj : Int)) (hij : ii + 6 ≤ (L : Int)) (hnx : lw_nx p l e s m below meth c b g ax am im kp jj ii Q) (T : tf_T) (H : Heap) (locs : List Loc) (hW : tf_n tf_kt g M_law (fun _ => none) s.heap T H locs) (hax : T ax = some (26, 0)) (ham : T am = some (50, 0)) (tt uu : Int) (htt : 0 ≤ tt ∧ tt ≤ 400) (huu : tf_r uu) (hf0 : tf_s H ax (g.1.2 9 7) = some (.int (Int32.ofInt tt))) (hf1 : tf_s H ax (g.1.2 9 8) = some (.int (Int32.ofInt uu))) (hf2 : tf_s H am (g.1.2 10 8) = some (.int (Int32.ofInt tt))) (hf3 : tf_s H am (g.1.2 10 6) = some (.int (Int32.ofInt uu))) (him : T im = some (14, 2)) (hkp : T kp = some (30, 2)) (rn rk : Int → Int) (hr0 : rn 0 = rk 0) (hr1 : rn 1 = rk 1) (hf4 : tf_s H ax (g.1.2 9 1) = some (.ref im)) (hf5 : tf_s H am (g.1.2 10 5) = some (.ref kp)) (hf6 : tf_nl H im = rn) (hf7 : tf_rw H kp = rk) (ls : Array Slot) (hl : lv_has ls 4 [(3, .int (Int32.ofInt ii)), (2, .ref am), (1, .ref ax), (0, .ref b)]) : W p l e room_1 s m #[Value.ref b] below meth c H locs (100 + 30 * jj) (30000 + 1200 * jj) Q (F0 m 208 ls []) := by
  obtain ⟨hx, hb, hml, hown, hts, hbl, hk, hBs, hsx, hX, hL⟩ := id E
  have hR1 := lw_R1
  have hR2 := lw_R2
  have hR3 := lw_R3
  have hR4 := lw_R4
  have hK := hk.1
  have hE : tf_E g T := trivial
  refine lv_aload_n hx hb dL_law_208 rfl (lv_at hl 2 rfl) ?_
  refine lv_aload_n hx hb dL_law_209 rfl (lv_at hl 3 rfl) ?_
  refine lv_iload_n hx hb dL_law_210 rfl (lv_at hl 0 rfl) ?_
  refine tf_iconst hx hb dL_law_211 ?_
  refine tf_iadd hx hb dL_law_212 ?_
  refine lw_sld (sx := sx) hx hb hX hbl hBs hL hW (by omega) (by omega) dL_law_213 ?_
  have hsx1 := hsx (ii + 1)
  refine lv_aload_n hx hb dL_law_214 rfl (lv_at hl 3 rfl) ?_
  refine lv_iload_n hx hb dL_law_215 rfl (lv_at hl 0 rfl) ?_
  refine tf_iconst hx hb dL_law_216 ?_
  refine tf_iadd hx hb dL_law_217 ?_
  refine lw_sld (sx := sx) hx hb hX hbl hBs hL hW (by omega) (by omega) dL_law_218 ?_
  have hsx2 := hsx (ii + 2)
  refine lv_aload_n hx hb dL_law_219 rfl (lv_at hl 3 rfl) ?_
  refine lv_iload_n hx hb dL_law_220 rfl (lv_at hl 0 rfl) ?_
  refine tf_iconst hx hb dL_law_221 ?_
  refine tf_iadd hx hb dL_law_222 ?_
  refine lw_sld (sx := sx) hx hb hX hbl hBs hL hW (by omega) (by omega) dL_law_223 ?_
  have hsx3 := hsx (ii + 3)
  refine lv_aload_n hx hb dL_law_224 rfl (lv_at hl 3 rfl) ?_
  refine lv_iload_n hx hb dL_law_225 rfl (lv_at hl 0 rfl) ?_
  refine tf_iconst hx hb dL_law_226 ?_
  refine tf_iadd hx hb dL_law_227 ?_
  refine lw_sld (sx := sx) hx hb hX hbl hBs hL hW (by omega) (by omega) dL_law_228 ?_
  have hsx4 := hsx (ii + 4)
  refine lv_aload_n hx hb dL_law_229 rfl (lv_at hl 3 rfl) ?_
  refine lv_iload_n hx hb dL_law_230 rfl (lv_at hl 0 rfl) ?_
  refine tf_iconst hx hb dL_law_231 ?_
  refine tf_iadd hx hb dL_law_232 ?_
  refine lw_sld (sx := sx) hx hb hX hbl hBs hL hW (by omega) (by omega) dL_law_233 ?_
  have hsx5 := hsx (ii + 5)
  refine tf_calli (va_runV (As := [.int (Int32.ofInt ((sx (ii + 1)))), .int (Int32.ofInt ((sx (ii + 2)))), .int (Int32.ofInt ((sx (ii + 3)))), .int (Int32.ofInt ((sx (ii + 4)))), .int (Int32.ofInt ((sx (ii + 5))))]) (rest := []) ⟨hx, hb, hml, hown, hts⟩ (c_X9_tower l g T ax hax ((sx (ii + 1))) ⟨by omega, by omega⟩ ((sx (ii + 2))) ⟨by omega, by omega⟩ ((sx (ii + 3))) ⟨by omega, by omega⟩ ((sx (ii + 4))) ⟨by omega, by omega⟩ ((sx (ii + 5))) ⟨by omega, by omega⟩) (cwV 5 hts gv_L_13 rfl rfl rfl hd_X9_tower ⟨Nat.le_trans (by decide) hR1, Nat.le_trans (by decide) hR2⟩) (tf_preV hk hW hax (ci := 9) rfl rfl trivial) rfl rfl hl.1 rfl (lv_room (Nat.le_of_ble_eq_true rfl)) dL_law_234 ⟨Nat.le_trans (by omega) hR3, Nat.le_trans (by omega) hR4⟩) hW (by decide) (fun z6 H6 locs6 hW hF6 hp6 => ?_)
  have hs7 := tf_keepF hF6 hax rfl rfl (by decide) hf0
  have hs8 := tf_keepF hF6 hax rfl rfl (by decide) hf1
  have hs9 := tf_keepF hF6 ham rfl rfl (by decide) hf2
  have hs10 := tf_keepF hF6 ham rfl rfl (by decide) hf3
  have hs11 := tf_keepF hF6 hax rfl rfl (by decide) hf4
  have hs12 := tf_keepF hF6 ham rfl rfl (by decide) hf5
  have hs13 := tf_keepN hF6 him rfl (by decide) hf6
  have hs14 := tf_keepC hF6 hkp rfl (by decide) hf7
  obtain ⟨hp6_0, hp6_1⟩ := hp6
  refine lv_pop hx hb dL_law_237 rfl ?_
  refine lv_aload_n hx hb dL_law_238 rfl (lv_at hl 1 rfl) ?_
  refine lv_aload_n hx hb dL_law_239 rfl (lv_at hl 3 rfl) ?_
  refine lv_iload_n hx hb dL_law_240 rfl (lv_at hl 0 rfl) ?_
  refine tf_iconst hx hb dL_law_241 ?_
  refine tf_iadd hx hb dL_law_242 ?_
  refine lw_sld (sx := sx) hx hb hX hbl hBs hL hW (by omega) (by omega) dL_law_243 ?_
  have hsx15 := hsx (ii + 1)
  refine lv_aload_n hx hb dL_law_244 rfl (lv_at hl 3 rfl) ?_
  refine lv_iload_n hx hb dL_law_245 rfl (lv_at hl 0 rfl) ?_
  refine tf_iconst hx hb dL_law_246 ?_
  refine tf_iadd hx hb dL_law_247 ?_
  refine lw_sld (sx := sx) hx hb hX hbl hBs hL hW (by omega) (by omega) dL_law_248 ?_
  have hsx16 := hsx (ii + 2)
  refine lv_aload_n hx hb dL_law_249 rfl (lv_at hl 3 rfl) ?_
  refine lv_iload_n hx hb dL_law_250 rfl (lv_at hl 0 rfl) ?_
  refine tf_iconst hx hb dL_law_251 ?_
  refine tf_iadd hx hb dL_law_252 ?_
  refine lw_sld (sx := sx) hx hb hX hbl hBs hL hW (by omega) (by omega) dL_law_253 ?_
  have hsx17 := hsx (ii + 3)
  refine lv_aload_n hx hb dL_law_254 rfl (lv_at hl 3 rfl) ?_
  refine lv_iload_n hx hb dL_law_255 rfl (lv_at hl 0 rfl) ?_
  refine tf_iconst hx hb dL_law_256 ?_
  refine tf_iadd hx hb dL_law_257 ?_
  refine lw_sld (sx := sx) hx hb hX hbl hBs hL hW (by omega) (by omega) dL_law_258 ?_
  have hsx18 := hsx (ii + 4)
  refine lv_aload_n hx hb dL_law_259 rfl (lv_at hl 3 rfl) ?_
  refine lv_iload_n hx hb dL_law_260 rfl (lv_at hl 0 rfl) ?_
  refine tf_iconst hx hb dL_law_261 ?_
  refine tf_iadd hx hb dL_law_262 ?_
  refine lw_sld (sx := sx) hx hb hX hbl hBs hL hW (by omega) (by omega) dL_law_263 ?_
  have hsx19 := hsx (ii + 5)
  refine tf_calli (va_runV (As := [.int (Int32.ofInt ((sx (ii + 1)))), .int (Int32.ofInt ((sx (ii + 2)))), .int (Int32.ofInt ((sx (ii + 3)))), .int (Int32.ofInt ((sx (ii + 4)))), .int (Int32.ofInt ((sx (ii + 5))))]) (rest := []) ⟨hx, hb, hml, hown, hts⟩ (c_X10_tower l g T am ham ((sx (ii + 1))) ⟨by omega, by omega⟩ ((sx (ii + 2))) ⟨by omega, by omega⟩ ((sx (ii + 3))) ⟨by omega, by omega⟩ ((sx (ii + 4))) ⟨by omega, by omega⟩ ((sx (ii + 5))) ⟨by omega, by omega⟩) (cwV 5 hts gv_L_17 rfl rfl rfl hd_X10_tower ⟨Nat.le_trans (by decide) hR1, Nat.le_trans (by decide) hR2⟩) (tf_preV hk hW ham (ci := 10) rfl rfl trivial) rfl rfl hl.1 rfl (lv_room (Nat.le_of_ble_eq_true rfl)) dL_law_264 ⟨Nat.le_trans (by omega) hR3, Nat.le_trans (by omega) hR4⟩) hW (by decide) (fun z20 H20 locs20 hW hF20 hp20 => ?_)
  have hs21 := tf_keepF hF20 hax rfl rfl (by decide) hs7
  have hs22 := tf_keepF hF20 hax rfl rfl (by decide) hs8
  have hs23 := tf_keepF hF20 ham rfl rfl (by decide) hs9
  have hs24 := tf_keepF hF20 ham rfl rfl (by decide) hs10
  have hs25 := tf_keepF hF20 hax rfl rfl (by decide) hs11
  have hs26 := tf_keepF hF20 ham rfl rfl (by decide) hs12
  have hs27 := tf_keepN hF20 him rfl (by decide) hs13
  have hs28 := tf_keepC hF20 hkp rfl (by decide) hs14
  obtain ⟨hp20_0, hp20_1⟩ := hp20
  refine lv_pop hx hb dL_law_267 rfl ?_
  refine lv_goto (tgt := 1498) hx hb dL_law_268 (by decide) ?_
  refine W.widen (k := 130 + 30 * jj) (n := 31200 + 1200 * jj) (by omega) (by omega) ?_
  exact hnx _ _ _ hW hax ham (tt) (uu) ⟨by omega, by omega⟩ ⟨by omega, by omega⟩ hs21 hs22 (tf_eqv hs23 (by omega)) (tf_eqv hs24 (by omega)) him hkp rn rk (by omega) (by omega) hs25 hs26 hs27 hs28 _ (lv_sub hl [0, 1, 2, 3] rfl)

set_option maxHeartbeats 4000000 in
set_option maxRecDepth 100000 in
theorem lc_271 {p : Program} {l : Launch} {e : Env} {s : State} {m : MethodId} {below : List Frame} {meth : Method} {c : Code} {b L : Nat} {g : tf_G} {sx : Int → Int} {Q : State → Prop} (E : lw_E p s m c b L g sx) (ax am im kp jj : Nat) (ii : Int) (hii : ii = 6 * (jj : Int)) (hij : ii + 6 ≤ (L : Int)) (hnx : lw_nx p l e s m below meth c b g ax am im kp jj ii Q) (T : tf_T) (H : Heap) (locs : List Loc) (hW : tf_n tf_kt g M_law (fun _ => none) s.heap T H locs) (hax : T ax = some (26, 0)) (ham : T am = some (50, 0)) (tt uu : Int) (htt : 0 ≤ tt ∧ tt ≤ 400) (huu : tf_r uu) (hf0 : tf_s H ax (g.1.2 9 7) = some (.int (Int32.ofInt tt))) (hf1 : tf_s H ax (g.1.2 9 8) = some (.int (Int32.ofInt uu))) (hf2 : tf_s H am (g.1.2 10 8) = some (.int (Int32.ofInt tt))) (hf3 : tf_s H am (g.1.2 10 6) = some (.int (Int32.ofInt uu))) (him : T im = some (14, 2)) (hkp : T kp = some (30, 2)) (rn rk : Int → Int) (hr0 : rn 0 = rk 0) (hr1 : rn 1 = rk 1) (hf4 : tf_s H ax (g.1.2 9 1) = some (.ref im)) (hf5 : tf_s H am (g.1.2 10 5) = some (.ref kp)) (hf6 : tf_nl H im = rn) (hf7 : tf_rw H kp = rk) (ls : Array Slot) (hl : lv_has ls 4 [(3, .int (Int32.ofInt ii)), (2, .ref am), (1, .ref ax), (0, .ref b)]) : W p l e room_1 s m #[Value.ref b] below meth c H locs (100 + 30 * jj) (30000 + 1200 * jj) Q (F0 m 271 ls []) := by
  obtain ⟨hx, hb, hml, hown, hts, hbl, hk, hBs, hsx, hX, hL⟩ := id E
  have hR1 := lw_R1
  have hR2 := lw_R2
  have hR3 := lw_R3
  have hR4 := lw_R4
  have hK := hk.1
  have hE : tf_E g T := trivial
  refine lv_aload_n hx hb dL_law_271 rfl (lv_at hl 2 rfl) ?_
  refine lv_aload_n hx hb dL_law_272 rfl (lv_at hl 3 rfl) ?_
  refine lv_iload_n hx hb dL_law_273 rfl (lv_at hl 0 rfl) ?_
  refine tf_iconst hx hb dL_law_274 ?_
  refine tf_iadd hx hb dL_law_275 ?_
  refine lw_sld (sx := sx) hx hb hX hbl hBs hL hW (by omega) (by omega) dL_law_276 ?_
  have hsx1 := hsx (ii + 1)
  refine lv_aload_n hx hb dL_law_277 rfl (lv_at hl 3 rfl) ?_
  refine lv_iload_n hx hb dL_law_278 rfl (lv_at hl 0 rfl) ?_
  refine tf_iconst hx hb dL_law_279 ?_
  refine tf_iadd hx hb dL_law_280 ?_
  refine lw_sld (sx := sx) hx hb hX hbl hBs hL hW (by omega) (by omega) dL_law_281 ?_
  have hsx2 := hsx (ii + 2)
  refine tf_calli (va_runV (As := [.int (Int32.ofInt ((sx (ii + 1)))), .int (Int32.ofInt ((sx (ii + 2))))]) (rest := []) ⟨hx, hb, hml, hown, hts⟩ (c_X9_high l g T ax hax ((sx (ii + 1))) ⟨by omega, by omega⟩ ((sx (ii + 2))) ⟨by omega, by omega⟩) (cwV 2 hts gv_L_18 rfl rfl rfl hd_X9_high ⟨Nat.le_trans (by decide) hR1, Nat.le_trans (by decide) hR2⟩) (tf_preV hk hW hax (ci := 9) rfl rfl trivial) rfl rfl hl.1 rfl (lv_room (Nat.le_of_ble_eq_true rfl)) dL_law_282 ⟨Nat.le_trans (by omega) hR3, Nat.le_trans (by omega) hR4⟩) hW (by decide) (fun z3 H3 locs3 hW hF3 hp3 => ?_)
  have hs4 := tf_keepF hF3 hax rfl rfl (by decide) hf0
  have hs5 := tf_keepF hF3 hax rfl rfl (by decide) hf1
  have hs6 := tf_keepF hF3 ham rfl rfl (by decide) hf2
  have hs7 := tf_keepF hF3 ham rfl rfl (by decide) hf3
  have hs8 := tf_keepF hF3 hax rfl rfl (by decide) hf4
  have hs9 := tf_keepF hF3 ham rfl rfl (by decide) hf5
  have hs10 := tf_keepN hF3 him rfl (by decide) hf6
  have hs11 := tf_keepC hF3 hkp rfl (by decide) hf7
  obtain ⟨hp3_0, hp3_1⟩ := hp3
  refine lv_pop hx hb dL_law_285 rfl ?_
  refine lv_aload_n hx hb dL_law_286 rfl (lv_at hl 1 rfl) ?_
  refine lv_aload_n hx hb dL_law_287 rfl (lv_at hl 3 rfl) ?_
  refine lv_iload_n hx hb dL_law_288 rfl (lv_at hl 0 rfl) ?_
  refine tf_iconst hx hb dL_law_289 ?_
  refine tf_iadd hx hb dL_law_290 ?_
  refine lw_sld (sx := sx) hx hb hX hbl hBs hL hW (by omega) (by omega) dL_law_291 ?_
  have hsx12 := hsx (ii + 1)
  refine lv_aload_n hx hb dL_law_292 rfl (lv_at hl 3 rfl) ?_
  refine lv_iload_n hx hb dL_law_293 rfl (lv_at hl 0 rfl) ?_
  refine tf_iconst hx hb dL_law_294 ?_
  refine tf_iadd hx hb dL_law_295 ?_
  refine lw_sld (sx := sx) hx hb hX hbl hBs hL hW (by omega) (by omega) dL_law_296 ?_
  have hsx13 := hsx (ii + 2)
  refine tf_calli (va_runV (As := [.int (Int32.ofInt ((sx (ii + 1)))), .int (Int32.ofInt ((sx (ii + 2))))]) (rest := []) ⟨hx, hb, hml, hown, hts⟩ (c_X10_high l g T am ham ((sx (ii + 1))) ⟨by omega, by omega⟩ ((sx (ii + 2))) ⟨by omega, by omega⟩) (cwV 2 hts gv_L_22 rfl rfl rfl hd_X10_high ⟨Nat.le_trans (by decide) hR1, Nat.le_trans (by decide) hR2⟩) (tf_preV hk hW ham (ci := 10) rfl rfl trivial) rfl rfl hl.1 rfl (lv_room (Nat.le_of_ble_eq_true rfl)) dL_law_297 ⟨Nat.le_trans (by omega) hR3, Nat.le_trans (by omega) hR4⟩) hW (by decide) (fun z14 H14 locs14 hW hF14 hp14 => ?_)
  have hs15 := tf_keepF hF14 hax rfl rfl (by decide) hs4
  have hs16 := tf_keepF hF14 hax rfl rfl (by decide) hs5
  have hs17 := tf_keepF hF14 ham rfl rfl (by decide) hs6
  have hs18 := tf_keepF hF14 ham rfl rfl (by decide) hs7
  have hs19 := tf_keepF hF14 hax rfl rfl (by decide) hs8
  have hs20 := tf_keepF hF14 ham rfl rfl (by decide) hs9
  have hs21 := tf_keepN hF14 him rfl (by decide) hs10
  have hs22 := tf_keepC hF14 hkp rfl (by decide) hs11
  obtain ⟨hp14_0, hp14_1⟩ := hp14
  refine lv_pop hx hb dL_law_300 rfl ?_
  refine lv_goto (tgt := 1498) hx hb dL_law_301 (by decide) ?_
  refine W.widen (k := 130 + 30 * jj) (n := 31200 + 1200 * jj) (by omega) (by omega) ?_
  exact hnx _ _ _ hW hax ham (tt) (uu) ⟨by omega, by omega⟩ ⟨by omega, by omega⟩ hs15 hs16 (tf_eqv hs17 (by omega)) (tf_eqv hs18 (by omega)) him hkp rn rk (by omega) (by omega) hs19 hs20 hs21 hs22 _ (lv_sub hl [0, 1, 2, 3] rfl)

set_option maxHeartbeats 4000000 in
set_option maxRecDepth 100000 in
theorem lc_304 {p : Program} {l : Launch} {e : Env} {s : State} {m : MethodId} {below : List Frame} {meth : Method} {c : Code} {b L : Nat} {g : tf_G} {sx : Int → Int} {Q : State → Prop} (E : lw_E p s m c b L g sx) (ax am im kp jj : Nat) (ii : Int) (hii : ii = 6 * (jj : Int)) (hij : ii + 6 ≤ (L : Int)) (hnx : lw_nx p l e s m below meth c b g ax am im kp jj ii Q) (T : tf_T) (H : Heap) (locs : List Loc) (hW : tf_n tf_kt g M_law (fun _ => none) s.heap T H locs) (hax : T ax = some (26, 0)) (ham : T am = some (50, 0)) (tt uu : Int) (htt : 0 ≤ tt ∧ tt ≤ 400) (huu : tf_r uu) (hf0 : tf_s H ax (g.1.2 9 7) = some (.int (Int32.ofInt tt))) (hf1 : tf_s H ax (g.1.2 9 8) = some (.int (Int32.ofInt uu))) (hf2 : tf_s H am (g.1.2 10 8) = some (.int (Int32.ofInt tt))) (hf3 : tf_s H am (g.1.2 10 6) = some (.int (Int32.ofInt uu))) (him : T im = some (14, 2)) (hkp : T kp = some (30, 2)) (rn rk : Int → Int) (hr0 : rn 0 = rk 0) (hr1 : rn 1 = rk 1) (hf4 : tf_s H ax (g.1.2 9 1) = some (.ref im)) (hf5 : tf_s H am (g.1.2 10 5) = some (.ref kp)) (hf6 : tf_nl H im = rn) (hf7 : tf_rw H kp = rk) (ls : Array Slot) (hl : lv_has ls 4 [(3, .int (Int32.ofInt ii)), (2, .ref am), (1, .ref ax), (0, .ref b)]) : W p l e room_1 s m #[Value.ref b] below meth c H locs (100 + 30 * jj) (30000 + 1200 * jj) Q (F0 m 304 ls []) := by
  obtain ⟨hx, hb, hml, hown, hts, hbl, hk, hBs, hsx, hX, hL⟩ := id E
  have hR1 := lw_R1
  have hR2 := lw_R2
  have hR3 := lw_R3
  have hR4 := lw_R4
  have hK := hk.1
  have hE : tf_E g T := trivial
  refine lv_aload_n hx hb dL_law_304 rfl (lv_at hl 2 rfl) ?_
  refine lv_aload_n hx hb dL_law_305 rfl (lv_at hl 3 rfl) ?_
  refine lv_iload_n hx hb dL_law_306 rfl (lv_at hl 0 rfl) ?_
  refine tf_iconst hx hb dL_law_307 ?_
  refine tf_iadd hx hb dL_law_308 ?_
  refine lw_sld (sx := sx) hx hb hX hbl hBs hL hW (by omega) (by omega) dL_law_309 ?_
  have hsx1 := hsx (ii + 1)
  refine tf_calli (va_runV (As := [.int (Int32.ofInt ((sx (ii + 1))))]) (rest := []) ⟨hx, hb, hml, hown, hts⟩ (c_X9_at l g T ax hax ((sx (ii + 1))) ⟨by omega, by omega⟩) (cwV 1 hts gv_L_23 rfl rfl rfl hd_X9_at ⟨Nat.le_trans (by decide) hR1, Nat.le_trans (by decide) hR2⟩) (tf_preV hk hW hax (ci := 9) rfl rfl trivial) rfl rfl hl.1 rfl (lv_room (Nat.le_of_ble_eq_true rfl)) dL_law_310 ⟨Nat.le_trans (by omega) hR3, Nat.le_trans (by omega) hR4⟩) hW (by decide) (fun z2 H2 locs2 hW hF2 hp2 => ?_)
  have hs3 := tf_keepF hF2 hax rfl rfl (by decide) hf0
  have hs4 := tf_keepF hF2 hax rfl rfl (by decide) hf1
  have hs5 := tf_keepF hF2 ham rfl rfl (by decide) hf2
  have hs6 := tf_keepF hF2 ham rfl rfl (by decide) hf3
  have hs7 := tf_keepF hF2 hax rfl rfl (by decide) hf4
  have hs8 := tf_keepF hF2 ham rfl rfl (by decide) hf5
  have hs9 := tf_keepN hF2 him rfl (by decide) hf6
  have hs10 := tf_keepC hF2 hkp rfl (by decide) hf7
  obtain ⟨hp2_0, hp2_1⟩ := hp2
  refine lv_pop hx hb dL_law_313 rfl ?_
  refine lv_aload_n hx hb dL_law_314 rfl (lv_at hl 1 rfl) ?_
  refine lv_aload_n hx hb dL_law_315 rfl (lv_at hl 3 rfl) ?_
  refine lv_iload_n hx hb dL_law_316 rfl (lv_at hl 0 rfl) ?_
  refine tf_iconst hx hb dL_law_317 ?_
  refine tf_iadd hx hb dL_law_318 ?_
  refine lw_sld (sx := sx) hx hb hX hbl hBs hL hW (by omega) (by omega) dL_law_319 ?_
  have hsx11 := hsx (ii + 1)
  refine tf_calli (va_runV (As := [.int (Int32.ofInt ((sx (ii + 1))))]) (rest := []) ⟨hx, hb, hml, hown, hts⟩ (c_X10_at l g T am ham ((sx (ii + 1))) ⟨by omega, by omega⟩) (cwV 1 hts gv_L_27 rfl rfl rfl hd_X10_at ⟨Nat.le_trans (by decide) hR1, Nat.le_trans (by decide) hR2⟩) (tf_preV hk hW ham (ci := 10) rfl rfl trivial) rfl rfl hl.1 rfl (lv_room (Nat.le_of_ble_eq_true rfl)) dL_law_320 ⟨Nat.le_trans (by omega) hR3, Nat.le_trans (by omega) hR4⟩) hW (by decide) (fun z12 H12 locs12 hW hF12 hp12 => ?_)
  have hs13 := tf_keepF hF12 hax rfl rfl (by decide) hs3
  have hs14 := tf_keepF hF12 hax rfl rfl (by decide) hs4
  have hs15 := tf_keepF hF12 ham rfl rfl (by decide) hs5
  have hs16 := tf_keepF hF12 ham rfl rfl (by decide) hs6
  have hs17 := tf_keepF hF12 hax rfl rfl (by decide) hs7
  have hs18 := tf_keepF hF12 ham rfl rfl (by decide) hs8
  have hs19 := tf_keepN hF12 him rfl (by decide) hs9
  have hs20 := tf_keepC hF12 hkp rfl (by decide) hs10
  obtain ⟨hp12_0, hp12_1⟩ := hp12
  refine lv_pop hx hb dL_law_323 rfl ?_
  refine lv_goto (tgt := 1498) hx hb dL_law_324 (by decide) ?_
  refine W.widen (k := 130 + 30 * jj) (n := 31200 + 1200 * jj) (by omega) (by omega) ?_
  exact hnx _ _ _ hW hax ham (tt) (uu) ⟨by omega, by omega⟩ ⟨by omega, by omega⟩ hs13 hs14 (tf_eqv hs15 (by omega)) (tf_eqv hs16 (by omega)) him hkp rn rk (by omega) (by omega) hs17 hs18 hs19 hs20 _ (lv_sub hl [0, 1, 2, 3] rfl)

set_option maxHeartbeats 4000000 in
set_option maxRecDepth 100000 in
theorem lc_327 {p : Program} {l : Launch} {e : Env} {s : State} {m : MethodId} {below : List Frame} {meth : Method} {c : Code} {b L : Nat} {g : tf_G} {sx : Int → Int} {Q : State → Prop} (E : lw_E p s m c b L g sx) (ax am im kp jj : Nat) (ii : Int) (hii : ii = 6 * (jj : Int)) (hij : ii + 6 ≤ (L : Int)) (hnx : lw_nx p l e s m below meth c b g ax am im kp jj ii Q) (T : tf_T) (H : Heap) (locs : List Loc) (hW : tf_n tf_kt g M_law (fun _ => none) s.heap T H locs) (hax : T ax = some (26, 0)) (ham : T am = some (50, 0)) (tt uu : Int) (htt : 0 ≤ tt ∧ tt ≤ 400) (huu : tf_r uu) (hf0 : tf_s H ax (g.1.2 9 7) = some (.int (Int32.ofInt tt))) (hf1 : tf_s H ax (g.1.2 9 8) = some (.int (Int32.ofInt uu))) (hf2 : tf_s H am (g.1.2 10 8) = some (.int (Int32.ofInt tt))) (hf3 : tf_s H am (g.1.2 10 6) = some (.int (Int32.ofInt uu))) (him : T im = some (14, 2)) (hkp : T kp = some (30, 2)) (rn rk : Int → Int) (hr0 : rn 0 = rk 0) (hr1 : rn 1 = rk 1) (hf4 : tf_s H ax (g.1.2 9 1) = some (.ref im)) (hf5 : tf_s H am (g.1.2 10 5) = some (.ref kp)) (hf6 : tf_nl H im = rn) (hf7 : tf_rw H kp = rk) (ls : Array Slot) (hl : lv_has ls 4 [(3, .int (Int32.ofInt ii)), (2, .ref am), (1, .ref ax), (0, .ref b)]) : W p l e room_1 s m #[Value.ref b] below meth c H locs (100 + 30 * jj) (30000 + 1200 * jj) Q (F0 m 327 ls []) := by
  obtain ⟨hx, hb, hml, hown, hts, hbl, hk, hBs, hsx, hX, hL⟩ := id E
  have hR1 := lw_R1
  have hR2 := lw_R2
  have hR3 := lw_R3
  have hR4 := lw_R4
  have hK := hk.1
  have hE : tf_E g T := trivial
  refine lv_aload_n hx hb dL_law_327 rfl (lv_at hl 2 rfl) ?_
  refine lv_aload_n hx hb dL_law_328 rfl (lv_at hl 3 rfl) ?_
  refine lv_iload_n hx hb dL_law_329 rfl (lv_at hl 0 rfl) ?_
  refine tf_iconst hx hb dL_law_330 ?_
  refine tf_iadd hx hb dL_law_331 ?_
  refine lw_sld (sx := sx) hx hb hX hbl hBs hL hW (by omega) (by omega) dL_law_332 ?_
  have hsx1 := hsx (ii + 1)
  refine lv_aload_n hx hb dL_law_333 rfl (lv_at hl 3 rfl) ?_
  refine lv_iload_n hx hb dL_law_334 rfl (lv_at hl 0 rfl) ?_
  refine tf_iconst hx hb dL_law_335 ?_
  refine tf_iadd hx hb dL_law_336 ?_
  refine lw_sld (sx := sx) hx hb hX hbl hBs hL hW (by omega) (by omega) dL_law_337 ?_
  have hsx2 := hsx (ii + 2)
  refine lv_aload_n hx hb dL_law_338 rfl (lv_at hl 3 rfl) ?_
  refine lv_iload_n hx hb dL_law_339 rfl (lv_at hl 0 rfl) ?_
  refine tf_iconst hx hb dL_law_340 ?_
  refine tf_iadd hx hb dL_law_341 ?_
  refine lw_sld (sx := sx) hx hb hX hbl hBs hL hW (by omega) (by omega) dL_law_342 ?_
  have hsx3 := hsx (ii + 3)
  refine tf_calli (va_runV (As := [.int (Int32.ofInt ((sx (ii + 1)))), .int (Int32.ofInt ((sx (ii + 2)))), .int (Int32.ofInt ((sx (ii + 3))))]) (rest := []) ⟨hx, hb, hml, hown, hts⟩ (c_X9_put l g T ax hax ((sx (ii + 1))) ⟨by omega, by omega⟩ ((sx (ii + 2))) ⟨by omega, by omega⟩ ((sx (ii + 3))) ⟨by omega, by omega⟩) (cwV 3 hts gv_L_28 rfl rfl rfl hd_X9_put ⟨Nat.le_trans (by decide) hR1, Nat.le_trans (by decide) hR2⟩) (tf_preV hk hW hax (ci := 9) rfl rfl trivial) rfl rfl hl.1 rfl (lv_room (Nat.le_of_ble_eq_true rfl)) dL_law_343 ⟨Nat.le_trans (by omega) hR3, Nat.le_trans (by omega) hR4⟩) hW (by decide) (fun z4 H4 locs4 hW hF4 hp4 => ?_)
  have hs5 := tf_keepF hF4 hax rfl rfl (by decide) hf0
  have hs6 := tf_keepF hF4 hax rfl rfl (by decide) hf1
  have hs7 := tf_keepF hF4 ham rfl rfl (by decide) hf2
  have hs8 := tf_keepF hF4 ham rfl rfl (by decide) hf3
  have hs9 := tf_keepF hF4 hax rfl rfl (by decide) hf4
  have hs10 := tf_keepF hF4 ham rfl rfl (by decide) hf5
  have hs11 := tf_keepN hF4 him rfl (by decide) hf6
  have hs12 := tf_keepC hF4 hkp rfl (by decide) hf7
  obtain ⟨hp4_0, hp4_1⟩ := hp4
  refine lv_pop hx hb dL_law_346 rfl ?_
  refine lv_aload_n hx hb dL_law_347 rfl (lv_at hl 1 rfl) ?_
  refine lv_aload_n hx hb dL_law_348 rfl (lv_at hl 3 rfl) ?_
  refine lv_iload_n hx hb dL_law_349 rfl (lv_at hl 0 rfl) ?_
  refine tf_iconst hx hb dL_law_350 ?_
  refine tf_iadd hx hb dL_law_351 ?_
  refine lw_sld (sx := sx) hx hb hX hbl hBs hL hW (by omega) (by omega) dL_law_352 ?_
  have hsx13 := hsx (ii + 1)
  refine lv_aload_n hx hb dL_law_353 rfl (lv_at hl 3 rfl) ?_
  refine lv_iload_n hx hb dL_law_354 rfl (lv_at hl 0 rfl) ?_
  refine tf_iconst hx hb dL_law_355 ?_
  refine tf_iadd hx hb dL_law_356 ?_
  refine lw_sld (sx := sx) hx hb hX hbl hBs hL hW (by omega) (by omega) dL_law_357 ?_
  have hsx14 := hsx (ii + 2)
  refine lv_aload_n hx hb dL_law_358 rfl (lv_at hl 3 rfl) ?_
  refine lv_iload_n hx hb dL_law_359 rfl (lv_at hl 0 rfl) ?_
  refine tf_iconst hx hb dL_law_360 ?_
  refine tf_iadd hx hb dL_law_361 ?_
  refine lw_sld (sx := sx) hx hb hX hbl hBs hL hW (by omega) (by omega) dL_law_362 ?_
  have hsx15 := hsx (ii + 3)
  refine tf_calli (va_runV (As := [.int (Int32.ofInt ((sx (ii + 1)))), .int (Int32.ofInt ((sx (ii + 2)))), .int (Int32.ofInt ((sx (ii + 3))))]) (rest := []) ⟨hx, hb, hml, hown, hts⟩ (c_X10_put l g T am ham ((sx (ii + 1))) ⟨by omega, by omega⟩ ((sx (ii + 2))) ⟨by omega, by omega⟩ ((sx (ii + 3))) ⟨by omega, by omega⟩) (cwV 3 hts gv_L_32 rfl rfl rfl hd_X10_put ⟨Nat.le_trans (by decide) hR1, Nat.le_trans (by decide) hR2⟩) (tf_preV hk hW ham (ci := 10) rfl rfl trivial) rfl rfl hl.1 rfl (lv_room (Nat.le_of_ble_eq_true rfl)) dL_law_363 ⟨Nat.le_trans (by omega) hR3, Nat.le_trans (by omega) hR4⟩) hW (by decide) (fun z16 H16 locs16 hW hF16 hp16 => ?_)
  have hs17 := tf_keepF hF16 hax rfl rfl (by decide) hs5
  have hs18 := tf_keepF hF16 hax rfl rfl (by decide) hs6
  have hs19 := tf_keepF hF16 ham rfl rfl (by decide) hs7
  have hs20 := tf_keepF hF16 ham rfl rfl (by decide) hs8
  have hs21 := tf_keepF hF16 hax rfl rfl (by decide) hs9
  have hs22 := tf_keepF hF16 ham rfl rfl (by decide) hs10
  have hs23 := tf_keepN hF16 him rfl (by decide) hs11
  have hs24 := tf_keepC hF16 hkp rfl (by decide) hs12
  obtain ⟨hp16_0, hp16_1⟩ := hp16
  refine lv_pop hx hb dL_law_366 rfl ?_
  refine lv_goto (tgt := 1498) hx hb dL_law_367 (by decide) ?_
  refine W.widen (k := 130 + 30 * jj) (n := 31200 + 1200 * jj) (by omega) (by omega) ?_
  exact hnx _ _ _ hW hax ham (tt) (uu) ⟨by omega, by omega⟩ ⟨by omega, by omega⟩ hs17 hs18 (tf_eqv hs19 (by omega)) (tf_eqv hs20 (by omega)) him hkp rn rk (by omega) (by omega) hs21 hs22 hs23 hs24 _ (lv_sub hl [0, 1, 2, 3] rfl)

set_option maxHeartbeats 4000000 in
set_option maxRecDepth 100000 in
theorem lc_370 {p : Program} {l : Launch} {e : Env} {s : State} {m : MethodId} {below : List Frame} {meth : Method} {c : Code} {b L : Nat} {g : tf_G} {sx : Int → Int} {Q : State → Prop} (E : lw_E p s m c b L g sx) (ax am im kp jj : Nat) (ii : Int) (hii : ii = 6 * (jj : Int)) (hij : ii + 6 ≤ (L : Int)) (hnx : lw_nx p l e s m below meth c b g ax am im kp jj ii Q) (T : tf_T) (H : Heap) (locs : List Loc) (hW : tf_n tf_kt g M_law (fun _ => none) s.heap T H locs) (hax : T ax = some (26, 0)) (ham : T am = some (50, 0)) (tt uu : Int) (htt : 0 ≤ tt ∧ tt ≤ 400) (huu : tf_r uu) (hf0 : tf_s H ax (g.1.2 9 7) = some (.int (Int32.ofInt tt))) (hf1 : tf_s H ax (g.1.2 9 8) = some (.int (Int32.ofInt uu))) (hf2 : tf_s H am (g.1.2 10 8) = some (.int (Int32.ofInt tt))) (hf3 : tf_s H am (g.1.2 10 6) = some (.int (Int32.ofInt uu))) (him : T im = some (14, 2)) (hkp : T kp = some (30, 2)) (rn rk : Int → Int) (hr0 : rn 0 = rk 0) (hr1 : rn 1 = rk 1) (hf4 : tf_s H ax (g.1.2 9 1) = some (.ref im)) (hf5 : tf_s H am (g.1.2 10 5) = some (.ref kp)) (hf6 : tf_nl H im = rn) (hf7 : tf_rw H kp = rk) (ls : Array Slot) (hl : lv_has ls 4 [(3, .int (Int32.ofInt ii)), (2, .ref am), (1, .ref ax), (0, .ref b)]) : W p l e room_1 s m #[Value.ref b] below meth c H locs (100 + 30 * jj) (30000 + 1200 * jj) Q (F0 m 370 ls []) := by
  obtain ⟨hx, hb, hml, hown, hts, hbl, hk, hBs, hsx, hX, hL⟩ := id E
  have hR1 := lw_R1
  have hR2 := lw_R2
  have hR3 := lw_R3
  have hR4 := lw_R4
  have hK := hk.1
  have hE : tf_E g T := trivial
  refine lv_aload_n hx hb dL_law_370 rfl (lv_at hl 2 rfl) ?_
  refine lv_aload_n hx hb dL_law_371 rfl (lv_at hl 3 rfl) ?_
  refine lv_iload_n hx hb dL_law_372 rfl (lv_at hl 0 rfl) ?_
  refine tf_iconst hx hb dL_law_373 ?_
  refine tf_iadd hx hb dL_law_374 ?_
  refine lw_sld (sx := sx) hx hb hX hbl hBs hL hW (by omega) (by omega) dL_law_375 ?_
  have hsx1 := hsx (ii + 1)
  refine lv_aload_n hx hb dL_law_376 rfl (lv_at hl 3 rfl) ?_
  refine lv_iload_n hx hb dL_law_377 rfl (lv_at hl 0 rfl) ?_
  refine tf_iconst hx hb dL_law_378 ?_
  refine tf_iadd hx hb dL_law_379 ?_
  refine lw_sld (sx := sx) hx hb hX hbl hBs hL hW (by omega) (by omega) dL_law_380 ?_
  have hsx2 := hsx (ii + 2)
  refine tf_calli (va_runV (As := [.int (Int32.ofInt ((sx (ii + 1)))), .int (Int32.ofInt ((sx (ii + 2))))]) (rest := []) ⟨hx, hb, hml, hown, hts⟩ (c_X9_of l g T ax hax ((sx (ii + 1))) ⟨by omega, by omega⟩ ((sx (ii + 2))) ⟨by omega, by omega⟩) (cwV 2 hts gv_L_33 rfl rfl rfl hd_X9_of ⟨Nat.le_trans (by decide) hR1, Nat.le_trans (by decide) hR2⟩) (tf_preV hk hW hax (ci := 9) rfl rfl trivial) rfl rfl hl.1 rfl (lv_room (Nat.le_of_ble_eq_true rfl)) dL_law_381 ⟨Nat.le_trans (by omega) hR3, Nat.le_trans (by omega) hR4⟩) hW (by decide) (fun z3 H3 locs3 hW hF3 hp3 => ?_)
  have hs4 := tf_keepF hF3 hax rfl rfl (by decide) hf0
  have hs5 := tf_keepF hF3 hax rfl rfl (by decide) hf1
  have hs6 := tf_keepF hF3 ham rfl rfl (by decide) hf2
  have hs7 := tf_keepF hF3 ham rfl rfl (by decide) hf3
  have hs8 := tf_keepF hF3 hax rfl rfl (by decide) hf4
  have hs9 := tf_keepF hF3 ham rfl rfl (by decide) hf5
  have hs10 := tf_keepN hF3 him rfl (by decide) hf6
  have hs11 := tf_keepC hF3 hkp rfl (by decide) hf7
  obtain ⟨hp3_0, hp3_1⟩ := hp3
  refine lv_pop hx hb dL_law_384 rfl ?_
  refine lv_aload_n hx hb dL_law_385 rfl (lv_at hl 1 rfl) ?_
  refine lv_aload_n hx hb dL_law_386 rfl (lv_at hl 3 rfl) ?_
  refine lv_iload_n hx hb dL_law_387 rfl (lv_at hl 0 rfl) ?_
  refine tf_iconst hx hb dL_law_388 ?_
  refine tf_iadd hx hb dL_law_389 ?_
  refine lw_sld (sx := sx) hx hb hX hbl hBs hL hW (by omega) (by omega) dL_law_390 ?_
  have hsx12 := hsx (ii + 1)
  refine lv_aload_n hx hb dL_law_391 rfl (lv_at hl 3 rfl) ?_
  refine lv_iload_n hx hb dL_law_392 rfl (lv_at hl 0 rfl) ?_
  refine tf_iconst hx hb dL_law_393 ?_
  refine tf_iadd hx hb dL_law_394 ?_
  refine lw_sld (sx := sx) hx hb hX hbl hBs hL hW (by omega) (by omega) dL_law_395 ?_
  have hsx13 := hsx (ii + 2)
  refine tf_calli (va_runV (As := [.int (Int32.ofInt ((sx (ii + 1)))), .int (Int32.ofInt ((sx (ii + 2))))]) (rest := []) ⟨hx, hb, hml, hown, hts⟩ (c_X10_of l g T am ham ((sx (ii + 1))) ⟨by omega, by omega⟩ ((sx (ii + 2))) ⟨by omega, by omega⟩) (cwV 2 hts gv_L_36 rfl rfl rfl hd_X10_of ⟨Nat.le_trans (by decide) hR1, Nat.le_trans (by decide) hR2⟩) (tf_preV hk hW ham (ci := 10) rfl rfl trivial) rfl rfl hl.1 rfl (lv_room (Nat.le_of_ble_eq_true rfl)) dL_law_396 ⟨Nat.le_trans (by omega) hR3, Nat.le_trans (by omega) hR4⟩) hW (by decide) (fun z14 H14 locs14 hW hF14 hp14 => ?_)
  have hs15 := tf_keepF hF14 hax rfl rfl (by decide) hs4
  have hs16 := tf_keepF hF14 hax rfl rfl (by decide) hs5
  have hs17 := tf_keepF hF14 ham rfl rfl (by decide) hs6
  have hs18 := tf_keepF hF14 ham rfl rfl (by decide) hs7
  have hs19 := tf_keepF hF14 hax rfl rfl (by decide) hs8
  have hs20 := tf_keepF hF14 ham rfl rfl (by decide) hs9
  have hs21 := tf_keepN hF14 him rfl (by decide) hs10
  have hs22 := tf_keepC hF14 hkp rfl (by decide) hs11
  obtain ⟨hp14_0, hp14_1⟩ := hp14
  refine lv_pop hx hb dL_law_399 rfl ?_
  refine lv_goto (tgt := 1498) hx hb dL_law_400 (by decide) ?_
  refine W.widen (k := 130 + 30 * jj) (n := 31200 + 1200 * jj) (by omega) (by omega) ?_
  exact hnx _ _ _ hW hax ham (tt) (uu) ⟨by omega, by omega⟩ ⟨by omega, by omega⟩ hs15 hs16 (tf_eqv hs17 (by omega)) (tf_eqv hs18 (by omega)) him hkp rn rk (by omega) (by omega) hs19 hs20 hs21 hs22 _ (lv_sub hl [0, 1, 2, 3] rfl)

set_option maxHeartbeats 4000000 in
set_option maxRecDepth 100000 in
theorem lc_403 {p : Program} {l : Launch} {e : Env} {s : State} {m : MethodId} {below : List Frame} {meth : Method} {c : Code} {b L : Nat} {g : tf_G} {sx : Int → Int} {Q : State → Prop} (E : lw_E p s m c b L g sx) (ax am im kp jj : Nat) (ii : Int) (hii : ii = 6 * (jj : Int)) (hij : ii + 6 ≤ (L : Int)) (hnx : lw_nx p l e s m below meth c b g ax am im kp jj ii Q) (T : tf_T) (H : Heap) (locs : List Loc) (hW : tf_n tf_kt g M_law (fun _ => none) s.heap T H locs) (hax : T ax = some (26, 0)) (ham : T am = some (50, 0)) (tt uu : Int) (htt : 0 ≤ tt ∧ tt ≤ 400) (huu : tf_r uu) (hf0 : tf_s H ax (g.1.2 9 7) = some (.int (Int32.ofInt tt))) (hf1 : tf_s H ax (g.1.2 9 8) = some (.int (Int32.ofInt uu))) (hf2 : tf_s H am (g.1.2 10 8) = some (.int (Int32.ofInt tt))) (hf3 : tf_s H am (g.1.2 10 6) = some (.int (Int32.ofInt uu))) (him : T im = some (14, 2)) (hkp : T kp = some (30, 2)) (rn rk : Int → Int) (hr0 : rn 0 = rk 0) (hr1 : rn 1 = rk 1) (hf4 : tf_s H ax (g.1.2 9 1) = some (.ref im)) (hf5 : tf_s H am (g.1.2 10 5) = some (.ref kp)) (hf6 : tf_nl H im = rn) (hf7 : tf_rw H kp = rk) (ls : Array Slot) (hl : lv_has ls 4 [(3, .int (Int32.ofInt ii)), (2, .ref am), (1, .ref ax), (0, .ref b)]) : W p l e room_1 s m #[Value.ref b] below meth c H locs (100 + 30 * jj) (30000 + 1200 * jj) Q (F0 m 403 ls []) := by
  obtain ⟨hx, hb, hml, hown, hts, hbl, hk, hBs, hsx, hX, hL⟩ := id E
  have hR1 := lw_R1
  have hR2 := lw_R2
  have hR3 := lw_R3
  have hR4 := lw_R4
  have hK := hk.1
  have hE : tf_E g T := trivial
  refine lv_aload_n hx hb dL_law_403 rfl (lv_at hl 2 rfl) ?_
  refine lv_aload_n hx hb dL_law_404 rfl (lv_at hl 3 rfl) ?_
  refine lv_iload_n hx hb dL_law_405 rfl (lv_at hl 0 rfl) ?_
  refine tf_iconst hx hb dL_law_406 ?_
  refine tf_iadd hx hb dL_law_407 ?_
  refine lw_sld (sx := sx) hx hb hX hbl hBs hL hW (by omega) (by omega) dL_law_408 ?_
  have hsx1 := hsx (ii + 1)
  refine lv_aload_n hx hb dL_law_409 rfl (lv_at hl 3 rfl) ?_
  refine lv_iload_n hx hb dL_law_410 rfl (lv_at hl 0 rfl) ?_
  refine tf_iconst hx hb dL_law_411 ?_
  refine tf_iadd hx hb dL_law_412 ?_
  refine lw_sld (sx := sx) hx hb hX hbl hBs hL hW (by omega) (by omega) dL_law_413 ?_
  have hsx2 := hsx (ii + 2)
  refine lv_aload_n hx hb dL_law_414 rfl (lv_at hl 3 rfl) ?_
  refine lv_iload_n hx hb dL_law_415 rfl (lv_at hl 0 rfl) ?_
  refine tf_iconst hx hb dL_law_416 ?_
  refine tf_iadd hx hb dL_law_417 ?_
  refine lw_sld (sx := sx) hx hb hX hbl hBs hL hW (by omega) (by omega) dL_law_418 ?_
  have hsx3 := hsx (ii + 3)
  refine tf_calli (va_runV (As := [.int (Int32.ofInt ((sx (ii + 1)))), .int (Int32.ofInt ((sx (ii + 2)))), .int (Int32.ofInt ((sx (ii + 3))))]) (rest := []) ⟨hx, hb, hml, hown, hts⟩ (c_X9_line l g T ax hax ((sx (ii + 1))) ⟨by omega, by omega⟩ ((sx (ii + 2))) ⟨by omega, by omega⟩ ((sx (ii + 3))) ⟨by omega, by omega⟩) (cwV 3 hts gv_L_37 rfl rfl rfl hd_X9_line ⟨Nat.le_trans (by decide) hR1, Nat.le_trans (by decide) hR2⟩) (tf_preV hk hW hax (ci := 9) rfl rfl trivial) rfl rfl hl.1 rfl (lv_room (Nat.le_of_ble_eq_true rfl)) dL_law_419 ⟨Nat.le_trans (by omega) hR3, Nat.le_trans (by omega) hR4⟩) hW (by decide) (fun z4 H4 locs4 hW hF4 hp4 => ?_)
  have hs5 := tf_keepF hF4 hax rfl rfl (by decide) hf0
  have hs6 := tf_keepF hF4 hax rfl rfl (by decide) hf1
  have hs7 := tf_keepF hF4 ham rfl rfl (by decide) hf2
  have hs8 := tf_keepF hF4 ham rfl rfl (by decide) hf3
  have hs9 := tf_keepF hF4 hax rfl rfl (by decide) hf4
  have hs10 := tf_keepF hF4 ham rfl rfl (by decide) hf5
  have hs11 := tf_keepN hF4 him rfl (by decide) hf6
  have hs12 := tf_keepC hF4 hkp rfl (by decide) hf7
  obtain ⟨hp4_0, hp4_1⟩ := hp4
  refine lv_pop hx hb dL_law_422 rfl ?_
  refine lv_aload_n hx hb dL_law_423 rfl (lv_at hl 1 rfl) ?_
  refine lv_aload_n hx hb dL_law_424 rfl (lv_at hl 3 rfl) ?_
  refine lv_iload_n hx hb dL_law_425 rfl (lv_at hl 0 rfl) ?_
  refine tf_iconst hx hb dL_law_426 ?_
  refine tf_iadd hx hb dL_law_427 ?_
  refine lw_sld (sx := sx) hx hb hX hbl hBs hL hW (by omega) (by omega) dL_law_428 ?_
  have hsx13 := hsx (ii + 1)
  refine lv_aload_n hx hb dL_law_429 rfl (lv_at hl 3 rfl) ?_
  refine lv_iload_n hx hb dL_law_430 rfl (lv_at hl 0 rfl) ?_
  refine tf_iconst hx hb dL_law_431 ?_
  refine tf_iadd hx hb dL_law_432 ?_
  refine lw_sld (sx := sx) hx hb hX hbl hBs hL hW (by omega) (by omega) dL_law_433 ?_
  have hsx14 := hsx (ii + 2)
  refine lv_aload_n hx hb dL_law_434 rfl (lv_at hl 3 rfl) ?_
  refine lv_iload_n hx hb dL_law_435 rfl (lv_at hl 0 rfl) ?_
  refine tf_iconst hx hb dL_law_436 ?_
  refine tf_iadd hx hb dL_law_437 ?_
  refine lw_sld (sx := sx) hx hb hX hbl hBs hL hW (by omega) (by omega) dL_law_438 ?_
  have hsx15 := hsx (ii + 3)
  refine tf_calli (va_runV (As := [.int (Int32.ofInt ((sx (ii + 1)))), .int (Int32.ofInt ((sx (ii + 2)))), .int (Int32.ofInt ((sx (ii + 3))))]) (rest := []) ⟨hx, hb, hml, hown, hts⟩ (c_X10_line l g T am ham ((sx (ii + 1))) ⟨by omega, by omega⟩ ((sx (ii + 2))) ⟨by omega, by omega⟩ ((sx (ii + 3))) ⟨by omega, by omega⟩) (cwV 3 hts gv_L_40 rfl rfl rfl hd_X10_line ⟨Nat.le_trans (by decide) hR1, Nat.le_trans (by decide) hR2⟩) (tf_preV hk hW ham (ci := 10) rfl rfl trivial) rfl rfl hl.1 rfl (lv_room (Nat.le_of_ble_eq_true rfl)) dL_law_439 ⟨Nat.le_trans (by omega) hR3, Nat.le_trans (by omega) hR4⟩) hW (by decide) (fun z16 H16 locs16 hW hF16 hp16 => ?_)
  have hs17 := tf_keepF hF16 hax rfl rfl (by decide) hs5
  have hs18 := tf_keepF hF16 hax rfl rfl (by decide) hs6
  have hs19 := tf_keepF hF16 ham rfl rfl (by decide) hs7
  have hs20 := tf_keepF hF16 ham rfl rfl (by decide) hs8
  have hs21 := tf_keepF hF16 hax rfl rfl (by decide) hs9
  have hs22 := tf_keepF hF16 ham rfl rfl (by decide) hs10
  have hs23 := tf_keepN hF16 him rfl (by decide) hs11
  have hs24 := tf_keepC hF16 hkp rfl (by decide) hs12
  obtain ⟨hp16_0, hp16_1⟩ := hp16
  refine lv_pop hx hb dL_law_442 rfl ?_
  refine lv_goto (tgt := 1498) hx hb dL_law_443 (by decide) ?_
  refine W.widen (k := 130 + 30 * jj) (n := 31200 + 1200 * jj) (by omega) (by omega) ?_
  exact hnx _ _ _ hW hax ham (tt) (uu) ⟨by omega, by omega⟩ ⟨by omega, by omega⟩ hs17 hs18 (tf_eqv hs19 (by omega)) (tf_eqv hs20 (by omega)) him hkp rn rk (by omega) (by omega) hs21 hs22 hs23 hs24 _ (lv_sub hl [0, 1, 2, 3] rfl)

set_option maxHeartbeats 4000000 in
set_option maxRecDepth 100000 in
theorem lc_446 {p : Program} {l : Launch} {e : Env} {s : State} {m : MethodId} {below : List Frame} {meth : Method} {c : Code} {b L : Nat} {g : tf_G} {sx : Int → Int} {Q : State → Prop} (E : lw_E p s m c b L g sx) (ax am im kp jj : Nat) (ii : Int) (hii : ii = 6 * (jj : Int)) (hij : ii + 6 ≤ (L : Int)) (hnx : lw_nx p l e s m below meth c b g ax am im kp jj ii Q) (T : tf_T) (H : Heap) (locs : List Loc) (hW : tf_n tf_kt g M_law (fun _ => none) s.heap T H locs) (hax : T ax = some (26, 0)) (ham : T am = some (50, 0)) (tt uu : Int) (htt : 0 ≤ tt ∧ tt ≤ 400) (huu : tf_r uu) (hf0 : tf_s H ax (g.1.2 9 7) = some (.int (Int32.ofInt tt))) (hf1 : tf_s H ax (g.1.2 9 8) = some (.int (Int32.ofInt uu))) (hf2 : tf_s H am (g.1.2 10 8) = some (.int (Int32.ofInt tt))) (hf3 : tf_s H am (g.1.2 10 6) = some (.int (Int32.ofInt uu))) (him : T im = some (14, 2)) (hkp : T kp = some (30, 2)) (rn rk : Int → Int) (hr0 : rn 0 = rk 0) (hr1 : rn 1 = rk 1) (hf4 : tf_s H ax (g.1.2 9 1) = some (.ref im)) (hf5 : tf_s H am (g.1.2 10 5) = some (.ref kp)) (hf6 : tf_nl H im = rn) (hf7 : tf_rw H kp = rk) (ls : Array Slot) (hl : lv_has ls 4 [(3, .int (Int32.ofInt ii)), (2, .ref am), (1, .ref ax), (0, .ref b)]) : W p l e room_1 s m #[Value.ref b] below meth c H locs (100 + 30 * jj) (30000 + 1200 * jj) Q (F0 m 446 ls []) := by
  obtain ⟨hx, hb, hml, hown, hts, hbl, hk, hBs, hsx, hX, hL⟩ := id E
  have hR1 := lw_R1
  have hR2 := lw_R2
  have hR3 := lw_R3
  have hR4 := lw_R4
  have hK := hk.1
  have hE : tf_E g T := trivial
  refine lv_aload_n hx hb dL_law_446 rfl (lv_at hl 2 rfl) ?_
  refine lv_aload_n hx hb dL_law_447 rfl (lv_at hl 3 rfl) ?_
  refine lv_iload_n hx hb dL_law_448 rfl (lv_at hl 0 rfl) ?_
  refine tf_iconst hx hb dL_law_449 ?_
  refine tf_iadd hx hb dL_law_450 ?_
  refine lw_sld (sx := sx) hx hb hX hbl hBs hL hW (by omega) (by omega) dL_law_451 ?_
  have hsx1 := hsx (ii + 1)
  refine lv_aload_n hx hb dL_law_452 rfl (lv_at hl 3 rfl) ?_
  refine lv_iload_n hx hb dL_law_453 rfl (lv_at hl 0 rfl) ?_
  refine tf_iconst hx hb dL_law_454 ?_
  refine tf_iadd hx hb dL_law_455 ?_
  refine lw_sld (sx := sx) hx hb hX hbl hBs hL hW (by omega) (by omega) dL_law_456 ?_
  have hsx2 := hsx (ii + 2)
  refine lv_aload_n hx hb dL_law_457 rfl (lv_at hl 3 rfl) ?_
  refine lv_iload_n hx hb dL_law_458 rfl (lv_at hl 0 rfl) ?_
  refine tf_iconst hx hb dL_law_459 ?_
  refine tf_iadd hx hb dL_law_460 ?_
  refine lw_sld (sx := sx) hx hb hX hbl hBs hL hW (by omega) (by omega) dL_law_461 ?_
  have hsx3 := hsx (ii + 3)
  refine tf_calli (va_runV (As := [.int (Int32.ofInt ((sx (ii + 1)))), .int (Int32.ofInt ((sx (ii + 2)))), .int (Int32.ofInt ((sx (ii + 3))))]) (rest := []) ⟨hx, hb, hml, hown, hts⟩ (c_X9_hours l g T ax hax ((sx (ii + 1))) ⟨by omega, by omega⟩ ((sx (ii + 2))) ⟨by omega, by omega⟩ ((sx (ii + 3))) ⟨by omega, by omega⟩) (cwV 3 hts gv_L_41 rfl rfl rfl hd_X9_hours ⟨Nat.le_trans (by decide) hR1, Nat.le_trans (by decide) hR2⟩) (tf_preV hk hW hax (ci := 9) rfl rfl trivial) rfl rfl hl.1 rfl (lv_room (Nat.le_of_ble_eq_true rfl)) dL_law_462 ⟨Nat.le_trans (by omega) hR3, Nat.le_trans (by omega) hR4⟩) hW (by decide) (fun z4 H4 locs4 hW hF4 hp4 => ?_)
  have hs5 := tf_keepF hF4 hax rfl rfl (by decide) hf0
  have hs6 := tf_keepF hF4 hax rfl rfl (by decide) hf1
  have hs7 := tf_keepF hF4 ham rfl rfl (by decide) hf2
  have hs8 := tf_keepF hF4 ham rfl rfl (by decide) hf3
  have hs9 := tf_keepF hF4 hax rfl rfl (by decide) hf4
  have hs10 := tf_keepF hF4 ham rfl rfl (by decide) hf5
  have hs11 := tf_keepN hF4 him rfl (by decide) hf6
  have hs12 := tf_keepC hF4 hkp rfl (by decide) hf7
  obtain ⟨hp4_0, hp4_1⟩ := hp4
  refine lv_pop hx hb dL_law_465 rfl ?_
  refine lv_aload_n hx hb dL_law_466 rfl (lv_at hl 1 rfl) ?_
  refine lv_aload_n hx hb dL_law_467 rfl (lv_at hl 3 rfl) ?_
  refine lv_iload_n hx hb dL_law_468 rfl (lv_at hl 0 rfl) ?_
  refine tf_iconst hx hb dL_law_469 ?_
  refine tf_iadd hx hb dL_law_470 ?_
  refine lw_sld (sx := sx) hx hb hX hbl hBs hL hW (by omega) (by omega) dL_law_471 ?_
  have hsx13 := hsx (ii + 1)
  refine lv_aload_n hx hb dL_law_472 rfl (lv_at hl 3 rfl) ?_
  refine lv_iload_n hx hb dL_law_473 rfl (lv_at hl 0 rfl) ?_
  refine tf_iconst hx hb dL_law_474 ?_
  refine tf_iadd hx hb dL_law_475 ?_
  refine lw_sld (sx := sx) hx hb hX hbl hBs hL hW (by omega) (by omega) dL_law_476 ?_
  have hsx14 := hsx (ii + 2)
  refine lv_aload_n hx hb dL_law_477 rfl (lv_at hl 3 rfl) ?_
  refine lv_iload_n hx hb dL_law_478 rfl (lv_at hl 0 rfl) ?_
  refine tf_iconst hx hb dL_law_479 ?_
  refine tf_iadd hx hb dL_law_480 ?_
  refine lw_sld (sx := sx) hx hb hX hbl hBs hL hW (by omega) (by omega) dL_law_481 ?_
  have hsx15 := hsx (ii + 3)
  refine tf_calli (va_runV (As := [.int (Int32.ofInt ((sx (ii + 1)))), .int (Int32.ofInt ((sx (ii + 2)))), .int (Int32.ofInt ((sx (ii + 3))))]) (rest := []) ⟨hx, hb, hml, hown, hts⟩ (c_X10_hours l g T am ham ((sx (ii + 1))) ⟨by omega, by omega⟩ ((sx (ii + 2))) ⟨by omega, by omega⟩ ((sx (ii + 3))) ⟨by omega, by omega⟩) (cwV 3 hts gv_L_44 rfl rfl rfl hd_X10_hours ⟨Nat.le_trans (by decide) hR1, Nat.le_trans (by decide) hR2⟩) (tf_preV hk hW ham (ci := 10) rfl rfl trivial) rfl rfl hl.1 rfl (lv_room (Nat.le_of_ble_eq_true rfl)) dL_law_482 ⟨Nat.le_trans (by omega) hR3, Nat.le_trans (by omega) hR4⟩) hW (by decide) (fun z16 H16 locs16 hW hF16 hp16 => ?_)
  have hs17 := tf_keepF hF16 hax rfl rfl (by decide) hs5
  have hs18 := tf_keepF hF16 hax rfl rfl (by decide) hs6
  have hs19 := tf_keepF hF16 ham rfl rfl (by decide) hs7
  have hs20 := tf_keepF hF16 ham rfl rfl (by decide) hs8
  have hs21 := tf_keepF hF16 hax rfl rfl (by decide) hs9
  have hs22 := tf_keepF hF16 ham rfl rfl (by decide) hs10
  have hs23 := tf_keepN hF16 him rfl (by decide) hs11
  have hs24 := tf_keepC hF16 hkp rfl (by decide) hs12
  obtain ⟨hp16_0, hp16_1⟩ := hp16
  refine lv_pop hx hb dL_law_485 rfl ?_
  refine lv_goto (tgt := 1498) hx hb dL_law_486 (by decide) ?_
  refine W.widen (k := 130 + 30 * jj) (n := 31200 + 1200 * jj) (by omega) (by omega) ?_
  exact hnx _ _ _ hW hax ham (tt) (uu) ⟨by omega, by omega⟩ ⟨by omega, by omega⟩ hs17 hs18 (tf_eqv hs19 (by omega)) (tf_eqv hs20 (by omega)) him hkp rn rk (by omega) (by omega) hs21 hs22 hs23 hs24 _ (lv_sub hl [0, 1, 2, 3] rfl)

set_option maxHeartbeats 4000000 in
set_option maxRecDepth 100000 in
theorem lc_489 {p : Program} {l : Launch} {e : Env} {s : State} {m : MethodId} {below : List Frame} {meth : Method} {c : Code} {b L : Nat} {g : tf_G} {sx : Int → Int} {Q : State → Prop} (E : lw_E p s m c b L g sx) (ax am im kp jj : Nat) (ii : Int) (hii : ii = 6 * (jj : Int)) (hij : ii + 6 ≤ (L : Int)) (hnx : lw_nx p l e s m below meth c b g ax am im kp jj ii Q) (T : tf_T) (H : Heap) (locs : List Loc) (hW : tf_n tf_kt g M_law (fun _ => none) s.heap T H locs) (hax : T ax = some (26, 0)) (ham : T am = some (50, 0)) (tt uu : Int) (htt : 0 ≤ tt ∧ tt ≤ 400) (huu : tf_r uu) (hf0 : tf_s H ax (g.1.2 9 7) = some (.int (Int32.ofInt tt))) (hf1 : tf_s H ax (g.1.2 9 8) = some (.int (Int32.ofInt uu))) (hf2 : tf_s H am (g.1.2 10 8) = some (.int (Int32.ofInt tt))) (hf3 : tf_s H am (g.1.2 10 6) = some (.int (Int32.ofInt uu))) (him : T im = some (14, 2)) (hkp : T kp = some (30, 2)) (rn rk : Int → Int) (hr0 : rn 0 = rk 0) (hr1 : rn 1 = rk 1) (hf4 : tf_s H ax (g.1.2 9 1) = some (.ref im)) (hf5 : tf_s H am (g.1.2 10 5) = some (.ref kp)) (hf6 : tf_nl H im = rn) (hf7 : tf_rw H kp = rk) (ls : Array Slot) (hl : lv_has ls 4 [(3, .int (Int32.ofInt ii)), (2, .ref am), (1, .ref ax), (0, .ref b)]) : W p l e room_1 s m #[Value.ref b] below meth c H locs (100 + 30 * jj) (30000 + 1200 * jj) Q (F0 m 489 ls []) := by
  obtain ⟨hx, hb, hml, hown, hts, hbl, hk, hBs, hsx, hX, hL⟩ := id E
  have hR1 := lw_R1
  have hR2 := lw_R2
  have hR3 := lw_R3
  have hR4 := lw_R4
  have hK := hk.1
  have hE : tf_E g T := trivial
  refine lv_aload_n hx hb dL_law_489 rfl (lv_at hl 2 rfl) ?_
  refine lv_aload_n hx hb dL_law_490 rfl (lv_at hl 3 rfl) ?_
  refine lv_iload_n hx hb dL_law_491 rfl (lv_at hl 0 rfl) ?_
  refine tf_iconst hx hb dL_law_492 ?_
  refine tf_iadd hx hb dL_law_493 ?_
  refine lw_sld (sx := sx) hx hb hX hbl hBs hL hW (by omega) (by omega) dL_law_494 ?_
  have hsx1 := hsx (ii + 1)
  refine lv_aload_n hx hb dL_law_495 rfl (lv_at hl 3 rfl) ?_
  refine lv_iload_n hx hb dL_law_496 rfl (lv_at hl 0 rfl) ?_
  refine tf_iconst hx hb dL_law_497 ?_
  refine tf_iadd hx hb dL_law_498 ?_
  refine lw_sld (sx := sx) hx hb hX hbl hBs hL hW (by omega) (by omega) dL_law_499 ?_
  have hsx2 := hsx (ii + 2)
  refine lv_aload_n hx hb dL_law_500 rfl (lv_at hl 3 rfl) ?_
  refine lv_iload_n hx hb dL_law_501 rfl (lv_at hl 0 rfl) ?_
  refine tf_iconst hx hb dL_law_502 ?_
  refine tf_iadd hx hb dL_law_503 ?_
  refine lw_sld (sx := sx) hx hb hX hbl hBs hL hW (by omega) (by omega) dL_law_504 ?_
  have hsx3 := hsx (ii + 3)
  refine lv_aload_n hx hb dL_law_505 rfl (lv_at hl 3 rfl) ?_
  refine lv_iload_n hx hb dL_law_506 rfl (lv_at hl 0 rfl) ?_
  refine tf_iconst hx hb dL_law_507 ?_
  refine tf_iadd hx hb dL_law_508 ?_
  refine lw_sld (sx := sx) hx hb hX hbl hBs hL hW (by omega) (by omega) dL_law_509 ?_
  have hsx4 := hsx (ii + 4)
  refine lv_aload_n hx hb dL_law_510 rfl (lv_at hl 3 rfl) ?_
  refine lv_iload_n hx hb dL_law_511 rfl (lv_at hl 0 rfl) ?_
  refine tf_iconst hx hb dL_law_512 ?_
  refine tf_iadd hx hb dL_law_513 ?_
  refine lw_sld (sx := sx) hx hb hX hbl hBs hL hW (by omega) (by omega) dL_law_514 ?_
  have hsx5 := hsx (ii + 5)
  refine tf_calli (va_runV (As := [.int (Int32.ofInt ((sx (ii + 1)))), .int (Int32.ofInt ((sx (ii + 2)))), .int (Int32.ofInt ((sx (ii + 3)))), .int (Int32.ofInt ((sx (ii + 4)))), .int (Int32.ofInt ((sx (ii + 5))))]) (rest := []) ⟨hx, hb, hml, hown, hts⟩ (f_X9_feed l g T ax hax ((sx (ii + 1))) ⟨by omega, by omega⟩ ((sx (ii + 2))) ⟨by omega, by omega⟩ ((sx (ii + 3))) ⟨by omega, by omega⟩ ((sx (ii + 4))) ⟨by omega, by omega⟩ ((sx (ii + 5))) ⟨by omega, by omega⟩ (tt) ⟨by omega, by omega⟩) (cwV 5 hts gv_L_45 rfl rfl rfl hd_X9_feed ⟨Nat.le_trans (by decide) hR1, Nat.le_trans (by decide) hR2⟩) (tf_preV hk hW hax (ci := 9) rfl rfl hf0) rfl rfl hl.1 rfl (lv_room (Nat.le_of_ble_eq_true rfl)) dL_law_515 ⟨Nat.le_trans (by omega) hR3, Nat.le_trans (by omega) hR4⟩) hW (by decide) (fun z6 H6 locs6 hW hF6 hp6 => ?_)
  have hs7 := tf_keepF hF6 hax rfl rfl (by decide) hf1
  have hs8 := tf_keepF hF6 ham rfl rfl (by decide) hf2
  have hs9 := tf_keepF hF6 ham rfl rfl (by decide) hf3
  have hs10 := tf_keepF hF6 hax rfl rfl (by decide) hf4
  have hs11 := tf_keepF hF6 ham rfl rfl (by decide) hf5
  have hs12 := tf_keepN hF6 him rfl (by decide) hf6
  have hs13 := tf_keepC hF6 hkp rfl (by decide) hf7
  obtain ⟨hp6_0, hp6_1, hp6_2⟩ := hp6
  obtain ⟨t1_6, hX6_0, hB6_0, hR6_0⟩ := hp6_2
  refine lv_pop hx hb dL_law_518 rfl ?_
  refine lv_aload_n hx hb dL_law_519 rfl (lv_at hl 1 rfl) ?_
  refine lv_aload_n hx hb dL_law_520 rfl (lv_at hl 3 rfl) ?_
  refine lv_iload_n hx hb dL_law_521 rfl (lv_at hl 0 rfl) ?_
  refine tf_iconst hx hb dL_law_522 ?_
  refine tf_iadd hx hb dL_law_523 ?_
  refine lw_sld (sx := sx) hx hb hX hbl hBs hL hW (by omega) (by omega) dL_law_524 ?_
  have hsx14 := hsx (ii + 1)
  refine lv_aload_n hx hb dL_law_525 rfl (lv_at hl 3 rfl) ?_
  refine lv_iload_n hx hb dL_law_526 rfl (lv_at hl 0 rfl) ?_
  refine tf_iconst hx hb dL_law_527 ?_
  refine tf_iadd hx hb dL_law_528 ?_
  refine lw_sld (sx := sx) hx hb hX hbl hBs hL hW (by omega) (by omega) dL_law_529 ?_
  have hsx15 := hsx (ii + 2)
  refine lv_aload_n hx hb dL_law_530 rfl (lv_at hl 3 rfl) ?_
  refine lv_iload_n hx hb dL_law_531 rfl (lv_at hl 0 rfl) ?_
  refine tf_iconst hx hb dL_law_532 ?_
  refine tf_iadd hx hb dL_law_533 ?_
  refine lw_sld (sx := sx) hx hb hX hbl hBs hL hW (by omega) (by omega) dL_law_534 ?_
  have hsx16 := hsx (ii + 3)
  refine lv_aload_n hx hb dL_law_535 rfl (lv_at hl 3 rfl) ?_
  refine lv_iload_n hx hb dL_law_536 rfl (lv_at hl 0 rfl) ?_
  refine tf_iconst hx hb dL_law_537 ?_
  refine tf_iadd hx hb dL_law_538 ?_
  refine lw_sld (sx := sx) hx hb hX hbl hBs hL hW (by omega) (by omega) dL_law_539 ?_
  have hsx17 := hsx (ii + 4)
  refine lv_aload_n hx hb dL_law_540 rfl (lv_at hl 3 rfl) ?_
  refine lv_iload_n hx hb dL_law_541 rfl (lv_at hl 0 rfl) ?_
  refine tf_iconst hx hb dL_law_542 ?_
  refine tf_iadd hx hb dL_law_543 ?_
  refine lw_sld (sx := sx) hx hb hX hbl hBs hL hW (by omega) (by omega) dL_law_544 ?_
  have hsx18 := hsx (ii + 5)
  refine tf_calli (va_runV (As := [.int (Int32.ofInt ((sx (ii + 1)))), .int (Int32.ofInt ((sx (ii + 2)))), .int (Int32.ofInt ((sx (ii + 3)))), .int (Int32.ofInt ((sx (ii + 4)))), .int (Int32.ofInt ((sx (ii + 5))))]) (rest := []) ⟨hx, hb, hml, hown, hts⟩ (f_X10_feed l g T am ham ((sx (ii + 1))) ⟨by omega, by omega⟩ ((sx (ii + 2))) ⟨by omega, by omega⟩ ((sx (ii + 3))) ⟨by omega, by omega⟩ ((sx (ii + 4))) ⟨by omega, by omega⟩ ((sx (ii + 5))) ⟨by omega, by omega⟩ (tt) ⟨by omega, by omega⟩) (cwV 5 hts gv_L_48 rfl rfl rfl hd_X10_feed ⟨Nat.le_trans (by decide) hR1, Nat.le_trans (by decide) hR2⟩) (tf_preV hk hW ham (ci := 10) rfl rfl hs8) rfl rfl hl.1 rfl (lv_room (Nat.le_of_ble_eq_true rfl)) dL_law_545 ⟨Nat.le_trans (by omega) hR3, Nat.le_trans (by omega) hR4⟩) hW (by decide) (fun z19 H19 locs19 hW hF19 hp19 => ?_)
  have hs20 := tf_keepF hF19 hax rfl rfl (by decide) hs7
  have hs21 := tf_keepF hF19 ham rfl rfl (by decide) hs9
  have hs22 := tf_keepF hF19 hax rfl rfl (by decide) hs10
  have hs23 := tf_keepF hF19 ham rfl rfl (by decide) hs11
  have hs24 := tf_keepN hF19 him rfl (by decide) hs12
  have hs25 := tf_keepC hF19 hkp rfl (by decide) hs13
  have hs26 := tf_keepF hF19 hax rfl rfl (by decide) hX6_0
  obtain ⟨hp19_0, hp19_1, hp19_2⟩ := hp19
  obtain ⟨t1_19, hX19_0, hB19_0, hR19_0⟩ := hp19_2
  refine lv_pop hx hb dL_law_548 rfl ?_
  refine lv_goto (tgt := 1498) hx hb dL_law_549 (by decide) ?_
  refine W.widen (k := 130 + 30 * jj) (n := 31200 + 1200 * jj) (by omega) (by omega) ?_
  exact hnx _ _ _ hW hax ham (t1_6) (uu) ⟨by omega, by omega⟩ ⟨by omega, by omega⟩ hs26 hs20 (tf_eqv hX19_0 (by omega)) (tf_eqv hs21 (by omega)) him hkp rn rk (by omega) (by omega) hs22 hs23 hs24 hs25 _ (lv_sub hl [0, 1, 2, 3] rfl)

set_option maxHeartbeats 4000000 in
set_option maxRecDepth 100000 in
theorem lc_552 {p : Program} {l : Launch} {e : Env} {s : State} {m : MethodId} {below : List Frame} {meth : Method} {c : Code} {b L : Nat} {g : tf_G} {sx : Int → Int} {Q : State → Prop} (E : lw_E p s m c b L g sx) (ax am im kp jj : Nat) (ii : Int) (hii : ii = 6 * (jj : Int)) (hij : ii + 6 ≤ (L : Int)) (hnx : lw_nx p l e s m below meth c b g ax am im kp jj ii Q) (T : tf_T) (H : Heap) (locs : List Loc) (hW : tf_n tf_kt g M_law (fun _ => none) s.heap T H locs) (hax : T ax = some (26, 0)) (ham : T am = some (50, 0)) (tt uu : Int) (htt : 0 ≤ tt ∧ tt ≤ 400) (huu : tf_r uu) (hf0 : tf_s H ax (g.1.2 9 7) = some (.int (Int32.ofInt tt))) (hf1 : tf_s H ax (g.1.2 9 8) = some (.int (Int32.ofInt uu))) (hf2 : tf_s H am (g.1.2 10 8) = some (.int (Int32.ofInt tt))) (hf3 : tf_s H am (g.1.2 10 6) = some (.int (Int32.ofInt uu))) (him : T im = some (14, 2)) (hkp : T kp = some (30, 2)) (rn rk : Int → Int) (hr0 : rn 0 = rk 0) (hr1 : rn 1 = rk 1) (hf4 : tf_s H ax (g.1.2 9 1) = some (.ref im)) (hf5 : tf_s H am (g.1.2 10 5) = some (.ref kp)) (hf6 : tf_nl H im = rn) (hf7 : tf_rw H kp = rk) (ls : Array Slot) (hl : lv_has ls 4 [(3, .int (Int32.ofInt ii)), (2, .ref am), (1, .ref ax), (0, .ref b)]) : W p l e room_1 s m #[Value.ref b] below meth c H locs (100 + 30 * jj) (30000 + 1200 * jj) Q (F0 m 552 ls []) := by
  obtain ⟨hx, hb, hml, hown, hts, hbl, hk, hBs, hsx, hX, hL⟩ := id E
  have hR1 := lw_R1
  have hR2 := lw_R2
  have hR3 := lw_R3
  have hR4 := lw_R4
  have hK := hk.1
  have hE : tf_E g T := trivial
  refine lv_aload_n hx hb dL_law_552 rfl (lv_at hl 2 rfl) ?_
  refine lv_aload_n hx hb dL_law_553 rfl (lv_at hl 3 rfl) ?_
  refine lv_iload_n hx hb dL_law_554 rfl (lv_at hl 0 rfl) ?_
  refine tf_iconst hx hb dL_law_555 ?_
  refine tf_iadd hx hb dL_law_556 ?_
  refine lw_sld (sx := sx) hx hb hX hbl hBs hL hW (by omega) (by omega) dL_law_557 ?_
  have hsx1 := hsx (ii + 1)
  refine tf_calli (va_runV (As := [.int (Int32.ofInt ((sx (ii + 1))))]) (rest := []) ⟨hx, hb, hml, hown, hts⟩ (f_X9_end l g T ax hax ((sx (ii + 1))) ⟨by omega, by omega⟩ (tt) ⟨by omega, by omega⟩) (cwV 1 hts gv_L_49 rfl rfl rfl hd_X9_end ⟨Nat.le_trans (by decide) hR1, Nat.le_trans (by decide) hR2⟩) (tf_preV hk hW hax (ci := 9) rfl rfl hf0) rfl rfl hl.1 rfl (lv_room (Nat.le_of_ble_eq_true rfl)) dL_law_558 ⟨Nat.le_trans (by omega) hR3, Nat.le_trans (by omega) hR4⟩) hW (by decide) (fun z2 H2 locs2 hW hF2 hp2 => ?_)
  have hs3 := tf_keepF hF2 hax rfl rfl (by decide) hf1
  have hs4 := tf_keepF hF2 ham rfl rfl (by decide) hf2
  have hs5 := tf_keepF hF2 ham rfl rfl (by decide) hf3
  have hs6 := tf_keepF hF2 hax rfl rfl (by decide) hf4
  have hs7 := tf_keepF hF2 ham rfl rfl (by decide) hf5
  have hs8 := tf_keepN hF2 him rfl (by decide) hf6
  have hs9 := tf_keepC hF2 hkp rfl (by decide) hf7
  obtain ⟨hp2_0, hp2_1, hp2_2⟩ := hp2
  obtain ⟨t1_2, hX2_0, hB2_0, hR2_0⟩ := hp2_2
  refine lv_pop hx hb dL_law_561 rfl ?_
  refine lv_aload_n hx hb dL_law_562 rfl (lv_at hl 1 rfl) ?_
  refine lv_aload_n hx hb dL_law_563 rfl (lv_at hl 3 rfl) ?_
  refine lv_iload_n hx hb dL_law_564 rfl (lv_at hl 0 rfl) ?_
  refine tf_iconst hx hb dL_law_565 ?_
  refine tf_iadd hx hb dL_law_566 ?_
  refine lw_sld (sx := sx) hx hb hX hbl hBs hL hW (by omega) (by omega) dL_law_567 ?_
  have hsx10 := hsx (ii + 1)
  refine tf_calli (va_runV (As := [.int (Int32.ofInt ((sx (ii + 1))))]) (rest := []) ⟨hx, hb, hml, hown, hts⟩ (f_X10_end l g T am ham ((sx (ii + 1))) ⟨by omega, by omega⟩ (tt) ⟨by omega, by omega⟩) (cwV 1 hts gv_L_52 rfl rfl rfl hd_X10_end ⟨Nat.le_trans (by decide) hR1, Nat.le_trans (by decide) hR2⟩) (tf_preV hk hW ham (ci := 10) rfl rfl hs4) rfl rfl hl.1 rfl (lv_room (Nat.le_of_ble_eq_true rfl)) dL_law_568 ⟨Nat.le_trans (by omega) hR3, Nat.le_trans (by omega) hR4⟩) hW (by decide) (fun z11 H11 locs11 hW hF11 hp11 => ?_)
  have hs12 := tf_keepF hF11 hax rfl rfl (by decide) hs3
  have hs13 := tf_keepF hF11 ham rfl rfl (by decide) hs5
  have hs14 := tf_keepF hF11 hax rfl rfl (by decide) hs6
  have hs15 := tf_keepF hF11 ham rfl rfl (by decide) hs7
  have hs16 := tf_keepN hF11 him rfl (by decide) hs8
  have hs17 := tf_keepC hF11 hkp rfl (by decide) hs9
  have hs18 := tf_keepF hF11 hax rfl rfl (by decide) hX2_0
  obtain ⟨hp11_0, hp11_1, hp11_2⟩ := hp11
  obtain ⟨t1_11, hX11_0, hB11_0, hR11_0⟩ := hp11_2
  refine lv_pop hx hb dL_law_571 rfl ?_
  refine lv_goto (tgt := 1498) hx hb dL_law_572 (by decide) ?_
  refine W.widen (k := 130 + 30 * jj) (n := 31200 + 1200 * jj) (by omega) (by omega) ?_
  exact hnx _ _ _ hW hax ham (t1_2) (uu) ⟨by omega, by omega⟩ ⟨by omega, by omega⟩ hs18 hs12 (tf_eqv hX11_0 (by omega)) (tf_eqv hs13 (by omega)) him hkp rn rk (by omega) (by omega) hs14 hs15 hs16 hs17 _ (lv_sub hl [0, 1, 2, 3] rfl)

set_option maxHeartbeats 4000000 in
set_option maxRecDepth 100000 in
theorem lc_575 {p : Program} {l : Launch} {e : Env} {s : State} {m : MethodId} {below : List Frame} {meth : Method} {c : Code} {b L : Nat} {g : tf_G} {sx : Int → Int} {Q : State → Prop} (E : lw_E p s m c b L g sx) (ax am im kp jj : Nat) (ii : Int) (hii : ii = 6 * (jj : Int)) (hij : ii + 6 ≤ (L : Int)) (hnx : lw_nx p l e s m below meth c b g ax am im kp jj ii Q) (T : tf_T) (H : Heap) (locs : List Loc) (hW : tf_n tf_kt g M_law (fun _ => none) s.heap T H locs) (hax : T ax = some (26, 0)) (ham : T am = some (50, 0)) (tt uu : Int) (htt : 0 ≤ tt ∧ tt ≤ 400) (huu : tf_r uu) (hf0 : tf_s H ax (g.1.2 9 7) = some (.int (Int32.ofInt tt))) (hf1 : tf_s H ax (g.1.2 9 8) = some (.int (Int32.ofInt uu))) (hf2 : tf_s H am (g.1.2 10 8) = some (.int (Int32.ofInt tt))) (hf3 : tf_s H am (g.1.2 10 6) = some (.int (Int32.ofInt uu))) (him : T im = some (14, 2)) (hkp : T kp = some (30, 2)) (rn rk : Int → Int) (hr0 : rn 0 = rk 0) (hr1 : rn 1 = rk 1) (hf4 : tf_s H ax (g.1.2 9 1) = some (.ref im)) (hf5 : tf_s H am (g.1.2 10 5) = some (.ref kp)) (hf6 : tf_nl H im = rn) (hf7 : tf_rw H kp = rk) (ls : Array Slot) (hl : lv_has ls 4 [(3, .int (Int32.ofInt ii)), (2, .ref am), (1, .ref ax), (0, .ref b)]) : W p l e room_1 s m #[Value.ref b] below meth c H locs (100 + 30 * jj) (30000 + 1200 * jj) Q (F0 m 575 ls []) := by
  obtain ⟨hx, hb, hml, hown, hts, hbl, hk, hBs, hsx, hX, hL⟩ := id E
  have hR1 := lw_R1
  have hR2 := lw_R2
  have hR3 := lw_R3
  have hR4 := lw_R4
  have hK := hk.1
  have hE : tf_E g T := trivial
  refine lv_aload_n hx hb dL_law_575 rfl (lv_at hl 2 rfl) ?_
  refine tf_calli (va_runV (As := []) (rest := []) ⟨hx, hb, hml, hown, hts⟩ (f_X9_row l g T ax hax (tt) ⟨by omega, by omega⟩ (uu) ⟨by omega, by omega⟩) (cwV 0 hts gv_L_53 rfl rfl rfl hd_X9_row ⟨Nat.le_trans (by decide) hR1, Nat.le_trans (by decide) hR2⟩) (tf_preV hk hW hax (ci := 9) rfl rfl ⟨hf0, hf1⟩) rfl rfl hl.1 rfl (lv_room (Nat.le_of_ble_eq_true rfl)) dL_law_576 ⟨Nat.le_trans (by omega) hR3, Nat.le_trans (by omega) hR4⟩) hW (by decide) (fun z1 H1 locs1 hW hF1 hp1 => ?_)
  have hs2 := tf_keepF hF1 ham rfl rfl (by decide) hf2
  have hs3 := tf_keepF hF1 ham rfl rfl (by decide) hf3
  have hs4 := tf_keepF hF1 hax rfl rfl (by decide) hf4
  have hs5 := tf_keepF hF1 ham rfl rfl (by decide) hf5
  have hs6 := tf_keepN hF1 him rfl (by decide) hf6
  have hs7 := tf_keepC hF1 hkp rfl (by decide) hf7
  obtain ⟨hp1_0, hp1_1, hp1_2⟩ := hp1
  obtain ⟨t1_1, u1_1, hX1_0, hX1_1, hB1_0, hB1_1, hR1_0⟩ := hp1_2
  refine lv_pop hx hb dL_law_579 rfl ?_
  refine lv_aload_n hx hb dL_law_580 rfl (lv_at hl 1 rfl) ?_
  refine tf_calli (va_runV (As := []) (rest := []) ⟨hx, hb, hml, hown, hts⟩ (f_X10_row l g T am ham (tt) ⟨by omega, by omega⟩ (uu) ⟨by omega, by omega⟩) (cwV 0 hts gv_L_57 rfl rfl rfl hd_X10_row ⟨Nat.le_trans (by decide) hR1, Nat.le_trans (by decide) hR2⟩) (tf_preV hk hW ham (ci := 10) rfl rfl ⟨hs2, hs3⟩) rfl rfl hl.1 rfl (lv_room (Nat.le_of_ble_eq_true rfl)) dL_law_581 ⟨Nat.le_trans (by omega) hR3, Nat.le_trans (by omega) hR4⟩) hW (by decide) (fun z8 H8 locs8 hW hF8 hp8 => ?_)
  have hs9 := tf_keepF hF8 hax rfl rfl (by decide) hs4
  have hs10 := tf_keepF hF8 ham rfl rfl (by decide) hs5
  have hs11 := tf_keepN hF8 him rfl (by decide) hs6
  have hs12 := tf_keepC hF8 hkp rfl (by decide) hs7
  have hs13 := tf_keepF hF8 hax rfl rfl (by decide) hX1_0
  have hs14 := tf_keepF hF8 hax rfl rfl (by decide) hX1_1
  obtain ⟨hp8_0, hp8_1, hp8_2⟩ := hp8
  obtain ⟨t1_8, u1_8, hX8_0, hX8_1, hB8_0, hB8_1, hR8_0⟩ := hp8_2
  refine lv_pop hx hb dL_law_584 rfl ?_
  refine lv_goto (tgt := 1498) hx hb dL_law_585 (by decide) ?_
  refine W.widen (k := 130 + 30 * jj) (n := 31200 + 1200 * jj) (by omega) (by omega) ?_
  exact hnx _ _ _ hW hax ham (t1_1) (u1_1) ⟨by omega, by omega⟩ ⟨by omega, by omega⟩ hs13 hs14 (tf_eqv hX8_0 (by omega)) (tf_eqv hX8_1 (by omega)) him hkp rn rk (by omega) (by omega) hs9 hs10 hs11 hs12 _ (lv_sub hl [0, 1, 2, 3] rfl)
